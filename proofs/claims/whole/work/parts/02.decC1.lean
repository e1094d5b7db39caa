theorem d_S_init_0 : decode c_S_init 0 = .ok (.aload_n 0, 1) := by decide +kernel
theorem d_S_init_1 : decode c_S_init 1 = .ok (.invokespecial 3, 3) := by decide +kernel
theorem d_S_init_4 : decode c_S_init 4 = .ok (.aload_n 0, 1) := by decide +kernel
theorem d_S_init_5 : decode c_S_init 5 = .ok (.new 9, 3) := by decide +kernel
theorem d_S_init_8 : decode c_S_init 8 = .ok (.dup, 1) := by decide +kernel
theorem d_S_init_9 : decode c_S_init 9 = .ok (.invokespecial 11, 3) := by decide +kernel
theorem d_S_init_12 : decode c_S_init 12 = .ok (.putfield 12, 3) := by decide +kernel
theorem d_S_init_15 : decode c_S_init 15 = .ok (.aload_n 0, 1) := by decide +kernel
theorem d_S_init_16 : decode c_S_init 16 = .ok (.new 16, 3) := by decide +kernel
theorem d_S_init_19 : decode c_S_init 19 = .ok (.dup, 1) := by decide +kernel
theorem d_S_init_20 : decode c_S_init 20 = .ok (.invokespecial 18, 3) := by decide +kernel
theorem d_S_init_23 : decode c_S_init 23 = .ok (.putfield 19, 3) := by decide +kernel
theorem d_S_init_26 : decode c_S_init 26 = .ok (.aload_n 0, 1) := by decide +kernel
theorem d_S_init_27 : decode c_S_init 27 = .ok (.new 23, 3) := by decide +kernel
theorem d_S_init_30 : decode c_S_init 30 = .ok (.dup, 1) := by decide +kernel
theorem d_S_init_31 : decode c_S_init 31 = .ok (.invokespecial 25, 3) := by decide +kernel
theorem d_S_init_34 : decode c_S_init 34 = .ok (.putfield 26, 3) := by decide +kernel
theorem d_S_init_37 : decode c_S_init 37 = .ok (.aload_n 0, 1) := by decide +kernel
theorem d_S_init_38 : decode c_S_init 38 = .ok (.new 30, 3) := by decide +kernel
theorem d_S_init_41 : decode c_S_init 41 = .ok (.dup, 1) := by decide +kernel
theorem d_S_init_42 : decode c_S_init 42 = .ok (.invokespecial 32, 3) := by decide +kernel
theorem d_S_init_45 : decode c_S_init 45 = .ok (.putfield 33, 3) := by decide +kernel
theorem d_S_init_48 : decode c_S_init 48 = .ok (.aload_n 0, 1) := by decide +kernel
theorem d_S_init_49 : decode c_S_init 49 = .ok (.iconst 0, 1) := by decide +kernel
theorem d_S_init_50 : decode c_S_init 50 = .ok (.putfield 37, 3) := by decide +kernel
theorem d_S_init_53 : decode c_S_init 53 = .ok (.return_, 1) := by decide +kernel
theorem d_T_init_0 : decode c_T_init 0 = .ok (.aload_n 0, 1) := by decide +kernel
theorem d_T_init_1 : decode c_T_init 1 = .ok (.invokespecial 3, 3) := by decide +kernel
theorem d_T_init_4 : decode c_T_init 4 = .ok (.aload_n 0, 1) := by decide +kernel
theorem d_T_init_5 : decode c_T_init 5 = .ok (.iconst 0, 1) := by decide +kernel
theorem d_T_init_6 : decode c_T_init 6 = .ok (.putfield 9, 3) := by decide +kernel
theorem d_T_init_9 : decode c_T_init 9 = .ok (.aload_n 0, 1) := by decide +kernel
theorem d_T_init_10 : decode c_T_init 10 = .ok (.bipush 10, 2) := by decide +kernel
theorem d_T_init_12 : decode c_T_init 12 = .ok (.newarray .int, 2) := by decide +kernel
theorem d_T_init_14 : decode c_T_init 14 = .ok (.putfield 15, 3) := by decide +kernel
theorem d_T_init_17 : decode c_T_init 17 = .ok (.aload_n 0, 1) := by decide +kernel
theorem d_T_init_18 : decode c_T_init 18 = .ok (.bipush 10, 2) := by decide +kernel
theorem d_T_init_20 : decode c_T_init 20 = .ok (.newarray .int, 2) := by decide +kernel
theorem d_T_init_22 : decode c_T_init 22 = .ok (.putfield 19, 3) := by decide +kernel
theorem d_T_init_25 : decode c_T_init 25 = .ok (.aload_n 0, 1) := by decide +kernel
theorem d_T_init_26 : decode c_T_init 26 = .ok (.bipush 10, 2) := by decide +kernel
theorem d_T_init_28 : decode c_T_init 28 = .ok (.newarray .int, 2) := by decide +kernel
theorem d_T_init_30 : decode c_T_init 30 = .ok (.putfield 22, 3) := by decide +kernel
theorem d_T_init_33 : decode c_T_init 33 = .ok (.aload_n 0, 1) := by decide +kernel
theorem d_T_init_34 : decode c_T_init 34 = .ok (.bipush 10, 2) := by decide +kernel
theorem d_T_init_36 : decode c_T_init 36 = .ok (.newarray .int, 2) := by decide +kernel
theorem d_T_init_38 : decode c_T_init 38 = .ok (.putfield 25, 3) := by decide +kernel
theorem d_T_init_41 : decode c_T_init 41 = .ok (.aload_n 0, 1) := by decide +kernel
theorem d_T_init_42 : decode c_T_init 42 = .ok (.iconst 0, 1) := by decide +kernel
theorem d_T_init_43 : decode c_T_init 43 = .ok (.putfield 28, 3) := by decide +kernel
theorem d_T_init_46 : decode c_T_init 46 = .ok (.aload_n 0, 1) := by decide +kernel
theorem d_T_init_47 : decode c_T_init 47 = .ok (.bipush 10, 2) := by decide +kernel
theorem d_T_init_49 : decode c_T_init 49 = .ok (.newarray .boolean, 2) := by decide +kernel
theorem d_T_init_51 : decode c_T_init 51 = .ok (.putfield 31, 3) := by decide +kernel
theorem d_T_init_54 : decode c_T_init 54 = .ok (.aload_n 0, 1) := by decide +kernel
theorem d_T_init_55 : decode c_T_init 55 = .ok (.bipush 10, 2) := by decide +kernel
theorem d_T_init_57 : decode c_T_init 57 = .ok (.newarray .int, 2) := by decide +kernel
theorem d_T_init_59 : decode c_T_init 59 = .ok (.putfield 35, 3) := by decide +kernel
theorem d_T_init_62 : decode c_T_init 62 = .ok (.aload_n 0, 1) := by decide +kernel
theorem d_T_init_63 : decode c_T_init 63 = .ok (.bipush 10, 2) := by decide +kernel
theorem d_T_init_65 : decode c_T_init 65 = .ok (.newarray .int, 2) := by decide +kernel
theorem d_T_init_67 : decode c_T_init 67 = .ok (.putfield 38, 3) := by decide +kernel
theorem d_T_init_70 : decode c_T_init 70 = .ok (.aload_n 0, 1) := by decide +kernel
theorem d_T_init_71 : decode c_T_init 71 = .ok (.iconst 4, 1) := by decide +kernel
theorem d_T_init_72 : decode c_T_init 72 = .ok (.bipush 10, 2) := by decide +kernel
theorem d_T_init_74 : decode c_T_init 74 = .ok (.multianewarray 41 2, 4) := by decide +kernel
theorem d_T_init_78 : decode c_T_init 78 = .ok (.putfield 43, 3) := by decide +kernel
theorem d_T_init_81 : decode c_T_init 81 = .ok (.return_, 1) := by decide +kernel
theorem d_N_init_0 : decode c_N_init 0 = .ok (.aload_n 0, 1) := by decide +kernel
theorem d_N_init_1 : decode c_N_init 1 = .ok (.invokespecial 3, 3) := by decide +kernel
theorem d_N_init_4 : decode c_N_init 4 = .ok (.aload_n 0, 1) := by decide +kernel
theorem d_N_init_5 : decode c_N_init 5 = .ok (.iconst 5, 1) := by decide +kernel
theorem d_N_init_6 : decode c_N_init 6 = .ok (.newarray .int, 2) := by decide +kernel
theorem d_N_init_8 : decode c_N_init 8 = .ok (.putfield 9, 3) := by decide +kernel
theorem d_N_init_11 : decode c_N_init 11 = .ok (.aload_n 0, 1) := by decide +kernel
theorem d_N_init_12 : decode c_N_init 12 = .ok (.iconst 0, 1) := by decide +kernel
theorem d_N_init_13 : decode c_N_init 13 = .ok (.putfield 15, 3) := by decide +kernel
theorem d_N_init_16 : decode c_N_init 16 = .ok (.aload_n 0, 1) := by decide +kernel
theorem d_N_init_17 : decode c_N_init 17 = .ok (.iconst 0, 1) := by decide +kernel
theorem d_N_init_18 : decode c_N_init 18 = .ok (.putfield 19, 3) := by decide +kernel
theorem d_N_init_21 : decode c_N_init 21 = .ok (.aload_n 0, 1) := by decide +kernel
theorem d_N_init_22 : decode c_N_init 22 = .ok (.iconst 5, 1) := by decide +kernel
theorem d_N_init_23 : decode c_N_init 23 = .ok (.newarray .int, 2) := by decide +kernel
theorem d_N_init_25 : decode c_N_init 25 = .ok (.putfield 22, 3) := by decide +kernel
theorem d_N_init_28 : decode c_N_init 28 = .ok (.aload_n 0, 1) := by decide +kernel
theorem d_N_init_29 : decode c_N_init 29 = .ok (.bipush 10, 2) := by decide +kernel
theorem d_N_init_31 : decode c_N_init 31 = .ok (.newarray .int, 2) := by decide +kernel
theorem d_N_init_33 : decode c_N_init 33 = .ok (.putfield 25, 3) := by decide +kernel
theorem d_N_init_36 : decode c_N_init 36 = .ok (.aload_n 0, 1) := by decide +kernel
theorem d_N_init_37 : decode c_N_init 37 = .ok (.bipush 10, 2) := by decide +kernel
theorem d_N_init_39 : decode c_N_init 39 = .ok (.newarray .int, 2) := by decide +kernel
theorem d_N_init_41 : decode c_N_init 41 = .ok (.putfield 28, 3) := by decide +kernel
theorem d_N_init_44 : decode c_N_init 44 = .ok (.aload_n 0, 1) := by decide +kernel
theorem d_N_init_45 : decode c_N_init 45 = .ok (.iconst 0, 1) := by decide +kernel
theorem d_N_init_46 : decode c_N_init 46 = .ok (.putfield 31, 3) := by decide +kernel
theorem d_N_init_49 : decode c_N_init 49 = .ok (.return_, 1) := by decide +kernel
theorem d_E_init_0 : decode c_E_init 0 = .ok (.aload_n 0, 1) := by decide +kernel
theorem d_E_init_1 : decode c_E_init 1 = .ok (.invokespecial 3, 3) := by decide +kernel
theorem d_E_init_4 : decode c_E_init 4 = .ok (.aload_n 0, 1) := by decide +kernel
theorem d_E_init_5 : decode c_E_init 5 = .ok (.bipush 10, 2) := by decide +kernel
theorem d_E_init_7 : decode c_E_init 7 = .ok (.bipush 10, 2) := by decide +kernel
theorem d_E_init_9 : decode c_E_init 9 = .ok (.multianewarray 9 2, 4) := by decide +kernel
theorem d_E_init_13 : decode c_E_init 13 = .ok (.putfield 11, 3) := by decide +kernel
theorem d_E_init_16 : decode c_E_init 16 = .ok (.aload_n 0, 1) := by decide +kernel
theorem d_E_init_17 : decode c_E_init 17 = .ok (.bipush 10, 2) := by decide +kernel
theorem d_E_init_19 : decode c_E_init 19 = .ok (.bipush 10, 2) := by decide +kernel
theorem d_E_init_21 : decode c_E_init 21 = .ok (.multianewarray 9 2, 4) := by decide +kernel
theorem d_E_init_25 : decode c_E_init 25 = .ok (.putfield 16, 3) := by decide +kernel
theorem d_E_init_28 : decode c_E_init 28 = .ok (.aload_n 0, 1) := by decide +kernel
theorem d_E_init_29 : decode c_E_init 29 = .ok (.iconst 0, 1) := by decide +kernel
theorem d_E_init_30 : decode c_E_init 30 = .ok (.putfield 19, 3) := by decide +kernel
theorem d_E_init_33 : decode c_E_init 33 = .ok (.aload_n 0, 1) := by decide +kernel
theorem d_E_init_34 : decode c_E_init 34 = .ok (.bipush 11, 2) := by decide +kernel
theorem d_E_init_36 : decode c_E_init 36 = .ok (.newarray .long, 2) := by decide +kernel
theorem d_E_init_38 : decode c_E_init 38 = .ok (.putfield 23, 3) := by decide +kernel
theorem d_E_init_41 : decode c_E_init 41 = .ok (.aload_n 0, 1) := by decide +kernel
theorem d_E_init_42 : decode c_E_init 42 = .ok (.bipush 11, 2) := by decide +kernel
theorem d_E_init_44 : decode c_E_init 44 = .ok (.newarray .long, 2) := by decide +kernel
theorem d_E_init_46 : decode c_E_init 46 = .ok (.putfield 27, 3) := by decide +kernel
theorem d_E_init_49 : decode c_E_init 49 = .ok (.aload_n 0, 1) := by decide +kernel
theorem d_E_init_50 : decode c_E_init 50 = .ok (.bipush 10, 2) := by decide +kernel
theorem d_E_init_52 : decode c_E_init 52 = .ok (.newarray .long, 2) := by decide +kernel
theorem d_E_init_54 : decode c_E_init 54 = .ok (.putfield 30, 3) := by decide +kernel
theorem d_E_init_57 : decode c_E_init 57 = .ok (.aload_n 0, 1) := by decide +kernel
theorem d_E_init_58 : decode c_E_init 58 = .ok (.bipush 10, 2) := by decide +kernel
theorem d_E_init_60 : decode c_E_init 60 = .ok (.newarray .long, 2) := by decide +kernel
theorem d_E_init_62 : decode c_E_init 62 = .ok (.putfield 33, 3) := by decide +kernel
theorem d_E_init_65 : decode c_E_init 65 = .ok (.return_, 1) := by decide +kernel
theorem d_R_init_0 : decode c_R_init 0 = .ok (.aload_n 0, 1) := by decide +kernel
theorem d_R_init_1 : decode c_R_init 1 = .ok (.invokespecial 3, 3) := by decide +kernel
theorem d_R_init_4 : decode c_R_init 4 = .ok (.aload_n 0, 1) := by decide +kernel
theorem d_R_init_5 : decode c_R_init 5 = .ok (.iconst 4, 1) := by decide +kernel
theorem d_R_init_6 : decode c_R_init 6 = .ok (.newarray .int, 2) := by decide +kernel
theorem d_R_init_8 : decode c_R_init 8 = .ok (.putfield 9, 3) := by decide +kernel
theorem d_R_init_11 : decode c_R_init 11 = .ok (.aload_n 0, 1) := by decide +kernel
theorem d_R_init_12 : decode c_R_init 12 = .ok (.bipush 10, 2) := by decide +kernel
theorem d_R_init_14 : decode c_R_init 14 = .ok (.newarray .long, 2) := by decide +kernel
theorem d_R_init_16 : decode c_R_init 16 = .ok (.putfield 15, 3) := by decide +kernel
theorem d_R_init_19 : decode c_R_init 19 = .ok (.aload_n 0, 1) := by decide +kernel
theorem d_R_init_20 : decode c_R_init 20 = .ok (.bipush 10, 2) := by decide +kernel
theorem d_R_init_22 : decode c_R_init 22 = .ok (.newarray .long, 2) := by decide +kernel
theorem d_R_init_24 : decode c_R_init 24 = .ok (.putfield 19, 3) := by decide +kernel
theorem d_R_init_27 : decode c_R_init 27 = .ok (.aload_n 0, 1) := by decide +kernel
theorem d_R_init_28 : decode c_R_init 28 = .ok (.bipush 10, 2) := by decide +kernel
theorem d_R_init_30 : decode c_R_init 30 = .ok (.newarray .long, 2) := by decide +kernel
theorem d_R_init_32 : decode c_R_init 32 = .ok (.putfield 22, 3) := by decide +kernel
theorem d_R_init_35 : decode c_R_init 35 = .ok (.aload_n 0, 1) := by decide +kernel
theorem d_R_init_36 : decode c_R_init 36 = .ok (.bipush 10, 2) := by decide +kernel
theorem d_R_init_38 : decode c_R_init 38 = .ok (.newarray .long, 2) := by decide +kernel
theorem d_R_init_40 : decode c_R_init 40 = .ok (.putfield 25, 3) := by decide +kernel
theorem d_R_init_43 : decode c_R_init 43 = .ok (.aload_n 0, 1) := by decide +kernel
theorem d_R_init_44 : decode c_R_init 44 = .ok (.lconst 1, 1) := by decide +kernel
theorem d_R_init_45 : decode c_R_init 45 = .ok (.putfield 28, 3) := by decide +kernel
theorem d_R_init_48 : decode c_R_init 48 = .ok (.return_, 1) := by decide +kernel
theorem d_S_node_0 : decode c_S_node 0 = .ok (.iload_n 1, 1) := by decide +kernel
theorem d_S_node_1 : decode c_S_node 1 = .ok (.invokestatic 41, 3) := by decide +kernel
theorem d_S_node_4 : decode c_S_node 4 = .ok (.ifCond .eq 17, 3) := by decide +kernel
theorem d_S_node_7 : decode c_S_node 7 = .ok (.iload_n 2, 1) := by decide +kernel
theorem d_S_node_8 : decode c_S_node 8 = .ok (.invokestatic 45, 3) := by decide +kernel
theorem d_S_node_11 : decode c_S_node 11 = .ok (.ifCond .eq 10, 3) := by decide +kernel
theorem d_S_node_14 : decode c_S_node 14 = .ok (.iload_n 3, 1) := by decide +kernel
theorem d_S_node_15 : decode c_S_node 15 = .ok (.invokestatic 45, 3) := by decide +kernel
theorem d_S_node_18 : decode c_S_node 18 = .ok (.ifCond .ne 5, 3) := by decide +kernel
theorem d_S_node_21 : decode c_S_node 21 = .ok (.iconst (-1), 1) := by decide +kernel
theorem d_S_node_22 : decode c_S_node 22 = .ok (.ireturn, 1) := by decide +kernel
theorem d_S_node_23 : decode c_S_node 23 = .ok (.aload_n 0, 1) := by decide +kernel
theorem d_S_node_24 : decode c_S_node 24 = .ok (.getfield 37, 3) := by decide +kernel
theorem d_S_node_27 : decode c_S_node 27 = .ok (.ifCond .eq 6, 3) := by decide +kernel
theorem d_S_node_30 : decode c_S_node 30 = .ok (.bipush (-4), 2) := by decide +kernel
theorem d_S_node_32 : decode c_S_node 32 = .ok (.ireturn, 1) := by decide +kernel
theorem d_S_node_33 : decode c_S_node 33 = .ok (.aload_n 0, 1) := by decide +kernel
theorem d_S_node_34 : decode c_S_node 34 = .ok (.getfield 12, 3) := by decide +kernel
theorem d_S_node_37 : decode c_S_node 37 = .ok (.iload_n 1, 1) := by decide +kernel
theorem d_S_node_38 : decode c_S_node 38 = .ok (.iload_n 2, 1) := by decide +kernel
theorem d_S_node_39 : decode c_S_node 39 = .ok (.iload_n 3, 1) := by decide +kernel
theorem d_S_node_40 : decode c_S_node 40 = .ok (.invokevirtual 48, 3) := by decide +kernel
theorem d_S_node_43 : decode c_S_node 43 = .ok (.ifCond .eq 6, 3) := by decide +kernel
theorem d_S_node_46 : decode c_S_node 46 = .ok (.bipush (-2), 2) := by decide +kernel
theorem d_S_node_48 : decode c_S_node 48 = .ok (.ireturn, 1) := by decide +kernel
theorem d_S_node_49 : decode c_S_node 49 = .ok (.aload_n 0, 1) := by decide +kernel
theorem d_S_node_50 : decode c_S_node 50 = .ok (.getfield 12, 3) := by decide +kernel
theorem d_S_node_53 : decode c_S_node 53 = .ok (.iload_n 1, 1) := by decide +kernel
theorem d_S_node_54 : decode c_S_node 54 = .ok (.iload_n 2, 1) := by decide +kernel
theorem d_S_node_55 : decode c_S_node 55 = .ok (.iload_n 3, 1) := by decide +kernel
theorem d_S_node_56 : decode c_S_node 56 = .ok (.invokevirtual 52, 3) := by decide +kernel
theorem d_S_node_59 : decode c_S_node 59 = .ok (.iconst 0, 1) := by decide +kernel
theorem d_S_node_60 : decode c_S_node 60 = .ok (.ireturn, 1) := by decide +kernel
theorem d_S_isNode_0 : decode c_S_isNode 0 = .ok (.iload_n 0, 1) := by decide +kernel
theorem d_S_isNode_1 : decode c_S_isNode 1 = .ok (.ifCond .lt 12, 3) := by decide +kernel
theorem d_S_isNode_4 : decode c_S_isNode 4 = .ok (.iload_n 0, 1) := by decide +kernel
theorem d_S_isNode_5 : decode c_S_isNode 5 = .ok (.iconst 5, 1) := by decide +kernel
theorem d_S_isNode_6 : decode c_S_isNode 6 = .ok (.if_icmp .ge 7, 3) := by decide +kernel
theorem d_S_isNode_9 : decode c_S_isNode 9 = .ok (.iconst 1, 1) := by decide +kernel
theorem d_S_isNode_10 : decode c_S_isNode 10 = .ok (.goto 4, 3) := by decide +kernel
theorem d_S_isNode_13 : decode c_S_isNode 13 = .ok (.iconst 0, 1) := by decide +kernel
theorem d_S_isNode_14 : decode c_S_isNode 14 = .ok (.ireturn, 1) := by decide +kernel
theorem d_S_isOnGrid_0 : decode c_S_isOnGrid 0 = .ok (.iload_n 0, 1) := by decide +kernel
theorem d_S_isOnGrid_1 : decode c_S_isOnGrid 1 = .ok (.ifCond .lt 12, 3) := by decide +kernel
theorem d_S_isOnGrid_4 : decode c_S_isOnGrid 4 = .ok (.iload_n 0, 1) := by decide +kernel
theorem d_S_isOnGrid_5 : decode c_S_isOnGrid 5 = .ok (.iconst 5, 1) := by decide +kernel
theorem d_S_isOnGrid_6 : decode c_S_isOnGrid 6 = .ok (.if_icmp .ge 7, 3) := by decide +kernel
theorem d_S_isOnGrid_9 : decode c_S_isOnGrid 9 = .ok (.iconst 1, 1) := by decide +kernel
theorem d_S_isOnGrid_10 : decode c_S_isOnGrid 10 = .ok (.goto 4, 3) := by decide +kernel
theorem d_S_isOnGrid_13 : decode c_S_isOnGrid 13 = .ok (.iconst 0, 1) := by decide +kernel
theorem d_S_isOnGrid_14 : decode c_S_isOnGrid 14 = .ok (.ireturn, 1) := by decide +kernel
theorem d_T_hasOtherAt_0 : decode c_T_hasOtherAt 0 = .ok (.iconst 0, 1) := by decide +kernel
theorem d_T_hasOtherAt_1 : decode c_T_hasOtherAt 1 = .ok (.istore 4, 2) := by decide +kernel
theorem d_T_hasOtherAt_3 : decode c_T_hasOtherAt 3 = .ok (.iload 4, 2) := by decide +kernel
theorem d_T_hasOtherAt_5 : decode c_T_hasOtherAt 5 = .ok (.iconst 5, 1) := by decide +kernel
theorem d_T_hasOtherAt_6 : decode c_T_hasOtherAt 6 = .ok (.if_icmp .ge 56, 3) := by decide +kernel
theorem d_T_hasOtherAt_9 : decode c_T_hasOtherAt 9 = .ok (.iload 4, 2) := by decide +kernel
theorem d_T_hasOtherAt_11 : decode c_T_hasOtherAt 11 = .ok (.iload_n 1, 1) := by decide +kernel
theorem d_T_hasOtherAt_12 : decode c_T_hasOtherAt 12 = .ok (.if_icmp .eq 44, 3) := by decide +kernel
theorem d_T_hasOtherAt_15 : decode c_T_hasOtherAt 15 = .ok (.aload_n 0, 1) := by decide +kernel
theorem d_T_hasOtherAt_16 : decode c_T_hasOtherAt 16 = .ok (.iload 4, 2) := by decide +kernel
theorem d_T_hasOtherAt_18 : decode c_T_hasOtherAt 18 = .ok (.invokevirtual 52, 3) := by decide +kernel
theorem d_T_hasOtherAt_21 : decode c_T_hasOtherAt 21 = .ok (.ifCond .eq 35, 3) := by decide +kernel
theorem d_T_hasOtherAt_24 : decode c_T_hasOtherAt 24 = .ok (.aload_n 0, 1) := by decide +kernel
theorem d_T_hasOtherAt_25 : decode c_T_hasOtherAt 25 = .ok (.getfield 15, 3) := by decide +kernel
theorem d_T_hasOtherAt_28 : decode c_T_hasOtherAt 28 = .ok (.iload 4, 2) := by decide +kernel
theorem d_T_hasOtherAt_30 : decode c_T_hasOtherAt 30 = .ok (.iconst 0, 1) := by decide +kernel
theorem d_T_hasOtherAt_31 : decode c_T_hasOtherAt 31 = .ok (.invokestatic 56, 3) := by decide +kernel
theorem d_T_hasOtherAt_34 : decode c_T_hasOtherAt 34 = .ok (.iaload, 1) := by decide +kernel
theorem d_T_hasOtherAt_35 : decode c_T_hasOtherAt 35 = .ok (.iload_n 2, 1) := by decide +kernel
theorem d_T_hasOtherAt_36 : decode c_T_hasOtherAt 36 = .ok (.if_icmp .ne 20, 3) := by decide +kernel
theorem d_T_hasOtherAt_39 : decode c_T_hasOtherAt 39 = .ok (.aload_n 0, 1) := by decide +kernel
theorem d_T_hasOtherAt_40 : decode c_T_hasOtherAt 40 = .ok (.getfield 15, 3) := by decide +kernel
theorem d_T_hasOtherAt_43 : decode c_T_hasOtherAt 43 = .ok (.iload 4, 2) := by decide +kernel
theorem d_T_hasOtherAt_45 : decode c_T_hasOtherAt 45 = .ok (.iconst 1, 1) := by decide +kernel
theorem d_T_hasOtherAt_46 : decode c_T_hasOtherAt 46 = .ok (.invokestatic 56, 3) := by decide +kernel
theorem d_T_hasOtherAt_49 : decode c_T_hasOtherAt 49 = .ok (.iaload, 1) := by decide +kernel
theorem d_T_hasOtherAt_50 : decode c_T_hasOtherAt 50 = .ok (.iload_n 3, 1) := by decide +kernel
theorem d_T_hasOtherAt_51 : decode c_T_hasOtherAt 51 = .ok (.if_icmp .ne 5, 3) := by decide +kernel
theorem d_T_hasOtherAt_54 : decode c_T_hasOtherAt 54 = .ok (.iconst 1, 1) := by decide +kernel
theorem d_T_hasOtherAt_55 : decode c_T_hasOtherAt 55 = .ok (.ireturn, 1) := by decide +kernel
theorem d_T_hasOtherAt_56 : decode c_T_hasOtherAt 56 = .ok (.iinc 4 1, 3) := by decide +kernel
theorem d_T_hasOtherAt_59 : decode c_T_hasOtherAt 59 = .ok (.goto (-56), 3) := by decide +kernel
theorem d_T_hasOtherAt_62 : decode c_T_hasOtherAt 62 = .ok (.iconst 0, 1) := by decide +kernel
theorem d_T_hasOtherAt_63 : decode c_T_hasOtherAt 63 = .ok (.ireturn, 1) := by decide +kernel
theorem d_T_isThere_0 : decode c_T_isThere 0 = .ok (.aload_n 0, 1) := by decide +kernel
theorem d_T_isThere_1 : decode c_T_isThere 1 = .ok (.getfield 9, 3) := by decide +kernel
theorem d_T_isThere_4 : decode c_T_isThere 4 = .ok (.iload_n 1, 1) := by decide +kernel
theorem d_T_isThere_5 : decode c_T_isThere 5 = .ok (.ishr, 1) := by decide +kernel
theorem d_T_isThere_6 : decode c_T_isThere 6 = .ok (.iconst 1, 1) := by decide +kernel
theorem d_T_isThere_7 : decode c_T_isThere 7 = .ok (.iand, 1) := by decide +kernel
theorem d_T_isThere_8 : decode c_T_isThere 8 = .ok (.ifCond .eq 7, 3) := by decide +kernel
theorem d_T_isThere_11 : decode c_T_isThere 11 = .ok (.iconst 1, 1) := by decide +kernel
theorem d_T_isThere_12 : decode c_T_isThere 12 = .ok (.goto 4, 3) := by decide +kernel
theorem d_T_isThere_15 : decode c_T_isThere 15 = .ok (.iconst 0, 1) := by decide +kernel
theorem d_T_isThere_16 : decode c_T_isThere 16 = .ok (.ireturn, 1) := by decide +kernel
theorem d_S_slotOf_0 : decode c_S_slotOf 0 = .ok (.iload_n 0, 1) := by decide +kernel
theorem d_S_slotOf_1 : decode c_S_slotOf 1 = .ok (.iconst 2, 1) := by decide +kernel
theorem d_S_slotOf_2 : decode c_S_slotOf 2 = .ok (.imul, 1) := by decide +kernel
theorem d_S_slotOf_3 : decode c_S_slotOf 3 = .ok (.iload_n 1, 1) := by decide +kernel
theorem d_S_slotOf_4 : decode c_S_slotOf 4 = .ok (.iadd, 1) := by decide +kernel
theorem d_S_slotOf_5 : decode c_S_slotOf 5 = .ok (.ireturn, 1) := by decide +kernel
theorem d_T_putNode_0 : decode c_T_putNode 0 = .ok (.aload_n 0, 1) := by decide +kernel
theorem d_T_putNode_1 : decode c_T_putNode 1 = .ok (.dup, 1) := by decide +kernel
theorem d_T_putNode_2 : decode c_T_putNode 2 = .ok (.getfield 9, 3) := by decide +kernel
theorem d_T_putNode_5 : decode c_T_putNode 5 = .ok (.iconst 1, 1) := by decide +kernel
theorem d_T_putNode_6 : decode c_T_putNode 6 = .ok (.iload_n 1, 1) := by decide +kernel
theorem d_T_putNode_7 : decode c_T_putNode 7 = .ok (.ishl, 1) := by decide +kernel
theorem d_T_putNode_8 : decode c_T_putNode 8 = .ok (.ior, 1) := by decide +kernel
theorem d_T_putNode_9 : decode c_T_putNode 9 = .ok (.putfield 9, 3) := by decide +kernel
theorem d_T_putNode_12 : decode c_T_putNode 12 = .ok (.aload_n 0, 1) := by decide +kernel
theorem d_T_putNode_13 : decode c_T_putNode 13 = .ok (.getfield 15, 3) := by decide +kernel
theorem d_T_putNode_16 : decode c_T_putNode 16 = .ok (.iload_n 1, 1) := by decide +kernel
theorem d_T_putNode_17 : decode c_T_putNode 17 = .ok (.iconst 0, 1) := by decide +kernel
theorem d_T_putNode_18 : decode c_T_putNode 18 = .ok (.invokestatic 56, 3) := by decide +kernel
theorem d_T_putNode_21 : decode c_T_putNode 21 = .ok (.iload_n 2, 1) := by decide +kernel
theorem d_T_putNode_22 : decode c_T_putNode 22 = .ok (.iastore, 1) := by decide +kernel
theorem d_T_putNode_23 : decode c_T_putNode 23 = .ok (.aload_n 0, 1) := by decide +kernel
theorem d_T_putNode_24 : decode c_T_putNode 24 = .ok (.getfield 15, 3) := by decide +kernel
theorem d_T_putNode_27 : decode c_T_putNode 27 = .ok (.iload_n 1, 1) := by decide +kernel
theorem d_T_putNode_28 : decode c_T_putNode 28 = .ok (.iconst 1, 1) := by decide +kernel
theorem d_T_putNode_29 : decode c_T_putNode 29 = .ok (.invokestatic 56, 3) := by decide +kernel
theorem d_T_putNode_32 : decode c_T_putNode 32 = .ok (.iload_n 3, 1) := by decide +kernel
theorem d_T_putNode_33 : decode c_T_putNode 33 = .ok (.iastore, 1) := by decide +kernel
theorem d_T_putNode_34 : decode c_T_putNode 34 = .ok (.return_, 1) := by decide +kernel
theorem d_S_bar_0 : decode c_S_bar 0 = .ok (.iload_n 1, 1) := by decide +kernel
theorem d_S_bar_1 : decode c_S_bar 1 = .ok (.invokestatic 41, 3) := by decide +kernel
theorem d_S_bar_4 : decode c_S_bar 4 = .ok (.ifCond .eq 25, 3) := by decide +kernel
theorem d_S_bar_7 : decode c_S_bar 7 = .ok (.iload_n 2, 1) := by decide +kernel
theorem d_S_bar_8 : decode c_S_bar 8 = .ok (.invokestatic 41, 3) := by decide +kernel
theorem d_S_bar_11 : decode c_S_bar 11 = .ok (.ifCond .eq 18, 3) := by decide +kernel
theorem d_S_bar_14 : decode c_S_bar 14 = .ok (.iload_n 3, 1) := by decide +kernel
theorem d_S_bar_15 : decode c_S_bar 15 = .ok (.iconst 1, 1) := by decide +kernel
theorem d_S_bar_16 : decode c_S_bar 16 = .ok (.if_icmp .lt 13, 3) := by decide +kernel
theorem d_S_bar_19 : decode c_S_bar 19 = .ok (.iload_n 3, 1) := by decide +kernel
theorem d_S_bar_20 : decode c_S_bar 20 = .ok (.iconst 3, 1) := by decide +kernel
theorem d_S_bar_21 : decode c_S_bar 21 = .ok (.if_icmp .gt 8, 3) := by decide +kernel
theorem d_S_bar_24 : decode c_S_bar 24 = .ok (.iload_n 1, 1) := by decide +kernel
theorem d_S_bar_25 : decode c_S_bar 25 = .ok (.iload_n 2, 1) := by decide +kernel
theorem d_S_bar_26 : decode c_S_bar 26 = .ok (.if_icmp .ne 5, 3) := by decide +kernel
theorem d_S_bar_29 : decode c_S_bar 29 = .ok (.iconst (-1), 1) := by decide +kernel
theorem d_S_bar_30 : decode c_S_bar 30 = .ok (.ireturn, 1) := by decide +kernel
theorem d_S_bar_31 : decode c_S_bar 31 = .ok (.aload_n 0, 1) := by decide +kernel
theorem d_S_bar_32 : decode c_S_bar 32 = .ok (.getfield 37, 3) := by decide +kernel
theorem d_S_bar_35 : decode c_S_bar 35 = .ok (.ifCond .eq 6, 3) := by decide +kernel
theorem d_S_bar_38 : decode c_S_bar 38 = .ok (.bipush (-4), 2) := by decide +kernel
theorem d_S_bar_40 : decode c_S_bar 40 = .ok (.ireturn, 1) := by decide +kernel
theorem d_S_bar_41 : decode c_S_bar 41 = .ok (.aload_n 0, 1) := by decide +kernel
theorem d_S_bar_42 : decode c_S_bar 42 = .ok (.getfield 12, 3) := by decide +kernel
theorem d_S_bar_45 : decode c_S_bar 45 = .ok (.getfield 56, 3) := by decide +kernel
theorem d_S_bar_48 : decode c_S_bar 48 = .ok (.bipush 10, 2) := by decide +kernel
theorem d_S_bar_50 : decode c_S_bar 50 = .ok (.if_icmp .lt 6, 3) := by decide +kernel
theorem d_S_bar_53 : decode c_S_bar 53 = .ok (.bipush (-3), 2) := by decide +kernel
theorem d_S_bar_55 : decode c_S_bar 55 = .ok (.ireturn, 1) := by decide +kernel
theorem d_S_bar_56 : decode c_S_bar 56 = .ok (.aload_n 0, 1) := by decide +kernel
theorem d_S_bar_57 : decode c_S_bar 57 = .ok (.getfield 12, 3) := by decide +kernel
theorem d_S_bar_60 : decode c_S_bar 60 = .ok (.iload_n 1, 1) := by decide +kernel
theorem d_S_bar_61 : decode c_S_bar 61 = .ok (.iload_n 2, 1) := by decide +kernel
theorem d_S_bar_62 : decode c_S_bar 62 = .ok (.iload_n 3, 1) := by decide +kernel
theorem d_S_bar_63 : decode c_S_bar 63 = .ok (.invokevirtual 60, 3) := by decide +kernel
theorem d_S_bar_66 : decode c_S_bar 66 = .ok (.ireturn, 1) := by decide +kernel
theorem d_T_addBar_0 : decode c_T_addBar 0 = .ok (.aload_n 0, 1) := by decide +kernel
theorem d_T_addBar_1 : decode c_T_addBar 1 = .ok (.getfield 28, 3) := by decide +kernel
theorem d_T_addBar_4 : decode c_T_addBar 4 = .ok (.istore 4, 2) := by decide +kernel
theorem d_T_addBar_6 : decode c_T_addBar 6 = .ok (.aload_n 0, 1) := by decide +kernel
theorem d_T_addBar_7 : decode c_T_addBar 7 = .ok (.getfield 19, 3) := by decide +kernel
theorem d_T_addBar_10 : decode c_T_addBar 10 = .ok (.iload 4, 2) := by decide +kernel
theorem d_T_addBar_12 : decode c_T_addBar 12 = .ok (.iload_n 1, 1) := by decide +kernel
theorem d_T_addBar_13 : decode c_T_addBar 13 = .ok (.iastore, 1) := by decide +kernel
theorem d_T_addBar_14 : decode c_T_addBar 14 = .ok (.aload_n 0, 1) := by decide +kernel
theorem d_T_addBar_15 : decode c_T_addBar 15 = .ok (.getfield 22, 3) := by decide +kernel
theorem d_T_addBar_18 : decode c_T_addBar 18 = .ok (.iload 4, 2) := by decide +kernel
theorem d_T_addBar_20 : decode c_T_addBar 20 = .ok (.iload_n 2, 1) := by decide +kernel
theorem d_T_addBar_21 : decode c_T_addBar 21 = .ok (.iastore, 1) := by decide +kernel
theorem d_T_addBar_22 : decode c_T_addBar 22 = .ok (.aload_n 0, 1) := by decide +kernel
theorem d_T_addBar_23 : decode c_T_addBar 23 = .ok (.getfield 25, 3) := by decide +kernel
theorem d_T_addBar_26 : decode c_T_addBar 26 = .ok (.iload 4, 2) := by decide +kernel
theorem d_T_addBar_28 : decode c_T_addBar 28 = .ok (.iload_n 3, 1) := by decide +kernel
theorem d_T_addBar_29 : decode c_T_addBar 29 = .ok (.iastore, 1) := by decide +kernel
theorem d_T_addBar_30 : decode c_T_addBar 30 = .ok (.aload_n 0, 1) := by decide +kernel
theorem d_T_addBar_31 : decode c_T_addBar 31 = .ok (.dup, 1) := by decide +kernel
theorem d_T_addBar_32 : decode c_T_addBar 32 = .ok (.getfield 28, 3) := by decide +kernel
theorem d_T_addBar_35 : decode c_T_addBar 35 = .ok (.iconst 1, 1) := by decide +kernel
theorem d_T_addBar_36 : decode c_T_addBar 36 = .ok (.iadd, 1) := by decide +kernel
theorem d_T_addBar_37 : decode c_T_addBar 37 = .ok (.putfield 28, 3) := by decide +kernel
theorem d_T_addBar_40 : decode c_T_addBar 40 = .ok (.iload 4, 2) := by decide +kernel
theorem d_T_addBar_42 : decode c_T_addBar 42 = .ok (.ireturn, 1) := by decide +kernel
theorem d_S_unbar_0 : decode c_S_unbar 0 = .ok (.aload_n 0, 1) := by decide +kernel
theorem d_S_unbar_1 : decode c_S_unbar 1 = .ok (.iload_n 1, 1) := by decide +kernel
theorem d_S_unbar_2 : decode c_S_unbar 2 = .ok (.invokevirtual 64, 3) := by decide +kernel
theorem d_S_unbar_5 : decode c_S_unbar 5 = .ok (.ifCond .ne 5, 3) := by decide +kernel
theorem d_S_unbar_8 : decode c_S_unbar 8 = .ok (.iconst (-1), 1) := by decide +kernel
theorem d_S_unbar_9 : decode c_S_unbar 9 = .ok (.ireturn, 1) := by decide +kernel
theorem d_S_unbar_10 : decode c_S_unbar 10 = .ok (.aload_n 0, 1) := by decide +kernel
theorem d_S_unbar_11 : decode c_S_unbar 11 = .ok (.getfield 37, 3) := by decide +kernel
theorem d_S_unbar_14 : decode c_S_unbar 14 = .ok (.ifCond .eq 6, 3) := by decide +kernel
theorem d_S_unbar_17 : decode c_S_unbar 17 = .ok (.bipush (-4), 2) := by decide +kernel
theorem d_S_unbar_19 : decode c_S_unbar 19 = .ok (.ireturn, 1) := by decide +kernel
theorem d_S_unbar_20 : decode c_S_unbar 20 = .ok (.aload_n 0, 1) := by decide +kernel
theorem d_S_unbar_21 : decode c_S_unbar 21 = .ok (.getfield 12, 3) := by decide +kernel
theorem d_S_unbar_24 : decode c_S_unbar 24 = .ok (.iload_n 1, 1) := by decide +kernel
theorem d_S_unbar_25 : decode c_S_unbar 25 = .ok (.invokevirtual 67, 3) := by decide +kernel
theorem d_S_unbar_28 : decode c_S_unbar 28 = .ok (.aload_n 0, 1) := by decide +kernel
theorem d_S_unbar_29 : decode c_S_unbar 29 = .ok (.getfield 12, 3) := by decide +kernel
theorem d_S_unbar_32 : decode c_S_unbar 32 = .ok (.getfield 56, 3) := by decide +kernel
theorem d_S_unbar_35 : decode c_S_unbar 35 = .ok (.ireturn, 1) := by decide +kernel
theorem d_S_isBarThere_0 : decode c_S_isBarThere 0 = .ok (.iload_n 1, 1) := by decide +kernel
theorem d_S_isBarThere_1 : decode c_S_isBarThere 1 = .ok (.ifCond .lt 18, 3) := by decide +kernel
theorem d_S_isBarThere_4 : decode c_S_isBarThere 4 = .ok (.iload_n 1, 1) := by decide +kernel
theorem d_S_isBarThere_5 : decode c_S_isBarThere 5 = .ok (.aload_n 0, 1) := by decide +kernel
theorem d_S_isBarThere_6 : decode c_S_isBarThere 6 = .ok (.getfield 12, 3) := by decide +kernel
theorem d_S_isBarThere_9 : decode c_S_isBarThere 9 = .ok (.getfield 56, 3) := by decide +kernel
theorem d_S_isBarThere_12 : decode c_S_isBarThere 12 = .ok (.if_icmp .ge 7, 3) := by decide +kernel
theorem d_S_isBarThere_15 : decode c_S_isBarThere 15 = .ok (.iconst 1, 1) := by decide +kernel
theorem d_S_isBarThere_16 : decode c_S_isBarThere 16 = .ok (.goto 4, 3) := by decide +kernel
theorem d_S_isBarThere_19 : decode c_S_isBarThere 19 = .ok (.iconst 0, 1) := by decide +kernel
theorem d_S_isBarThere_20 : decode c_S_isBarThere 20 = .ok (.ireturn, 1) := by decide +kernel
theorem d_T_removeBar_0 : decode c_T_removeBar 0 = .ok (.iload_n 1, 1) := by decide +kernel
theorem d_T_removeBar_1 : decode c_T_removeBar 1 = .ok (.iconst 1, 1) := by decide +kernel
theorem d_T_removeBar_2 : decode c_T_removeBar 2 = .ok (.iadd, 1) := by decide +kernel
theorem d_T_removeBar_3 : decode c_T_removeBar 3 = .ok (.istore_n 2, 1) := by decide +kernel
theorem d_T_removeBar_4 : decode c_T_removeBar 4 = .ok (.iload_n 2, 1) := by decide +kernel
theorem d_T_removeBar_5 : decode c_T_removeBar 5 = .ok (.aload_n 0, 1) := by decide +kernel
theorem d_T_removeBar_6 : decode c_T_removeBar 6 = .ok (.getfield 28, 3) := by decide +kernel
theorem d_T_removeBar_9 : decode c_T_removeBar 9 = .ok (.if_icmp .ge 51, 3) := by decide +kernel
theorem d_T_removeBar_12 : decode c_T_removeBar 12 = .ok (.aload_n 0, 1) := by decide +kernel
theorem d_T_removeBar_13 : decode c_T_removeBar 13 = .ok (.getfield 19, 3) := by decide +kernel
theorem d_T_removeBar_16 : decode c_T_removeBar 16 = .ok (.iload_n 2, 1) := by decide +kernel
theorem d_T_removeBar_17 : decode c_T_removeBar 17 = .ok (.iconst 1, 1) := by decide +kernel
theorem d_T_removeBar_18 : decode c_T_removeBar 18 = .ok (.isub, 1) := by decide +kernel
theorem d_T_removeBar_19 : decode c_T_removeBar 19 = .ok (.aload_n 0, 1) := by decide +kernel
theorem d_T_removeBar_20 : decode c_T_removeBar 20 = .ok (.getfield 19, 3) := by decide +kernel
theorem d_T_removeBar_23 : decode c_T_removeBar 23 = .ok (.iload_n 2, 1) := by decide +kernel
theorem d_T_removeBar_24 : decode c_T_removeBar 24 = .ok (.iaload, 1) := by decide +kernel
theorem d_T_removeBar_25 : decode c_T_removeBar 25 = .ok (.iastore, 1) := by decide +kernel
theorem d_T_removeBar_26 : decode c_T_removeBar 26 = .ok (.aload_n 0, 1) := by decide +kernel
theorem d_T_removeBar_27 : decode c_T_removeBar 27 = .ok (.getfield 22, 3) := by decide +kernel
theorem d_T_removeBar_30 : decode c_T_removeBar 30 = .ok (.iload_n 2, 1) := by decide +kernel
theorem d_T_removeBar_31 : decode c_T_removeBar 31 = .ok (.iconst 1, 1) := by decide +kernel
theorem d_T_removeBar_32 : decode c_T_removeBar 32 = .ok (.isub, 1) := by decide +kernel
theorem d_T_removeBar_33 : decode c_T_removeBar 33 = .ok (.aload_n 0, 1) := by decide +kernel
theorem d_T_removeBar_34 : decode c_T_removeBar 34 = .ok (.getfield 22, 3) := by decide +kernel
theorem d_T_removeBar_37 : decode c_T_removeBar 37 = .ok (.iload_n 2, 1) := by decide +kernel
theorem d_T_removeBar_38 : decode c_T_removeBar 38 = .ok (.iaload, 1) := by decide +kernel
theorem d_T_removeBar_39 : decode c_T_removeBar 39 = .ok (.iastore, 1) := by decide +kernel
theorem d_T_removeBar_40 : decode c_T_removeBar 40 = .ok (.aload_n 0, 1) := by decide +kernel
theorem d_T_removeBar_41 : decode c_T_removeBar 41 = .ok (.getfield 25, 3) := by decide +kernel
theorem d_T_removeBar_44 : decode c_T_removeBar 44 = .ok (.iload_n 2, 1) := by decide +kernel
theorem d_T_removeBar_45 : decode c_T_removeBar 45 = .ok (.iconst 1, 1) := by decide +kernel
theorem d_T_removeBar_46 : decode c_T_removeBar 46 = .ok (.isub, 1) := by decide +kernel
theorem d_T_removeBar_47 : decode c_T_removeBar 47 = .ok (.aload_n 0, 1) := by decide +kernel
theorem d_T_removeBar_48 : decode c_T_removeBar 48 = .ok (.getfield 25, 3) := by decide +kernel
theorem d_T_removeBar_51 : decode c_T_removeBar 51 = .ok (.iload_n 2, 1) := by decide +kernel
theorem d_T_removeBar_52 : decode c_T_removeBar 52 = .ok (.iaload, 1) := by decide +kernel
theorem d_T_removeBar_53 : decode c_T_removeBar 53 = .ok (.iastore, 1) := by decide +kernel
theorem d_T_removeBar_54 : decode c_T_removeBar 54 = .ok (.iinc 2 1, 3) := by decide +kernel
theorem d_T_removeBar_57 : decode c_T_removeBar 57 = .ok (.goto (-53), 3) := by decide +kernel
theorem d_T_removeBar_60 : decode c_T_removeBar 60 = .ok (.aload_n 0, 1) := by decide +kernel
theorem d_T_removeBar_61 : decode c_T_removeBar 61 = .ok (.dup, 1) := by decide +kernel
theorem d_T_removeBar_62 : decode c_T_removeBar 62 = .ok (.getfield 28, 3) := by decide +kernel
theorem d_T_removeBar_65 : decode c_T_removeBar 65 = .ok (.iconst 1, 1) := by decide +kernel
theorem d_T_removeBar_66 : decode c_T_removeBar 66 = .ok (.isub, 1) := by decide +kernel
theorem d_T_removeBar_67 : decode c_T_removeBar 67 = .ok (.putfield 28, 3) := by decide +kernel
theorem d_T_removeBar_70 : decode c_T_removeBar 70 = .ok (.return_, 1) := by decide +kernel
theorem d_S_hold_0 : decode c_S_hold 0 = .ok (.iload_n 1, 1) := by decide +kernel
theorem d_S_hold_1 : decode c_S_hold 1 = .ok (.invokestatic 41, 3) := by decide +kernel
theorem d_S_hold_4 : decode c_S_hold 4 = .ok (.ifCond .eq 24, 3) := by decide +kernel
theorem d_S_hold_7 : decode c_S_hold 7 = .ok (.iload_n 2, 1) := by decide +kernel
theorem d_S_hold_8 : decode c_S_hold 8 = .ok (.invokestatic 71, 3) := by decide +kernel
theorem d_S_hold_11 : decode c_S_hold 11 = .ok (.ifCond .eq 17, 3) := by decide +kernel
theorem d_S_hold_14 : decode c_S_hold 14 = .ok (.iload 4, 2) := by decide +kernel
theorem d_S_hold_16 : decode c_S_hold 16 = .ok (.bipush (-9), 2) := by decide +kernel
theorem d_S_hold_18 : decode c_S_hold 18 = .ok (.if_icmp .lt 10, 3) := by decide +kernel
theorem d_S_hold_21 : decode c_S_hold 21 = .ok (.iload 4, 2) := by decide +kernel
theorem d_S_hold_23 : decode c_S_hold 23 = .ok (.bipush 9, 2) := by decide +kernel
theorem d_S_hold_25 : decode c_S_hold 25 = .ok (.if_icmp .le 5, 3) := by decide +kernel
theorem d_S_hold_28 : decode c_S_hold 28 = .ok (.iconst (-1), 1) := by decide +kernel
theorem d_S_hold_29 : decode c_S_hold 29 = .ok (.ireturn, 1) := by decide +kernel
theorem d_S_hold_30 : decode c_S_hold 30 = .ok (.aload_n 0, 1) := by decide +kernel
theorem d_S_hold_31 : decode c_S_hold 31 = .ok (.getfield 37, 3) := by decide +kernel
theorem d_S_hold_34 : decode c_S_hold 34 = .ok (.ifCond .eq 6, 3) := by decide +kernel
theorem d_S_hold_37 : decode c_S_hold 37 = .ok (.bipush (-4), 2) := by decide +kernel
theorem d_S_hold_39 : decode c_S_hold 39 = .ok (.ireturn, 1) := by decide +kernel
theorem d_S_hold_40 : decode c_S_hold 40 = .ok (.iload_n 1, 1) := by decide +kernel
theorem d_S_hold_41 : decode c_S_hold 41 = .ok (.iload_n 2, 1) := by decide +kernel
theorem d_S_hold_42 : decode c_S_hold 42 = .ok (.invokestatic 74, 3) := by decide +kernel
theorem d_S_hold_45 : decode c_S_hold 45 = .ok (.istore 5, 2) := by decide +kernel
theorem d_S_hold_47 : decode c_S_hold 47 = .ok (.aload_n 0, 1) := by decide +kernel
theorem d_S_hold_48 : decode c_S_hold 48 = .ok (.getfield 12, 3) := by decide +kernel
theorem d_S_hold_51 : decode c_S_hold 51 = .ok (.getfield 78, 3) := by decide +kernel
theorem d_S_hold_54 : decode c_S_hold 54 = .ok (.iload 5, 2) := by decide +kernel
theorem d_S_hold_56 : decode c_S_hold 56 = .ok (.iload_n 3, 1) := by decide +kernel
theorem d_S_hold_57 : decode c_S_hold 57 = .ok (.bastore, 1) := by decide +kernel
theorem d_S_hold_58 : decode c_S_hold 58 = .ok (.aload_n 0, 1) := by decide +kernel
theorem d_S_hold_59 : decode c_S_hold 59 = .ok (.getfield 12, 3) := by decide +kernel
theorem d_S_hold_62 : decode c_S_hold 62 = .ok (.getfield 82, 3) := by decide +kernel
theorem d_S_hold_65 : decode c_S_hold 65 = .ok (.iload 5, 2) := by decide +kernel
theorem d_S_hold_67 : decode c_S_hold 67 = .ok (.iload 4, 2) := by decide +kernel
theorem d_S_hold_69 : decode c_S_hold 69 = .ok (.iastore, 1) := by decide +kernel
theorem d_S_hold_70 : decode c_S_hold 70 = .ok (.iconst 0, 1) := by decide +kernel
theorem d_S_hold_71 : decode c_S_hold 71 = .ok (.ireturn, 1) := by decide +kernel
