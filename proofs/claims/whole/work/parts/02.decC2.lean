theorem d_S_isDirection_0 : decode c_S_isDirection 0 = .ok (.iload_n 0, 1) := by decide +kernel
theorem d_S_isDirection_1 : decode c_S_isDirection 1 = .ok (.ifCond .lt 12, 3) := by decide +kernel
theorem d_S_isDirection_4 : decode c_S_isDirection 4 = .ok (.iload_n 0, 1) := by decide +kernel
theorem d_S_isDirection_5 : decode c_S_isDirection 5 = .ok (.iconst 2, 1) := by decide +kernel
theorem d_S_isDirection_6 : decode c_S_isDirection 6 = .ok (.if_icmp .ge 7, 3) := by decide +kernel
theorem d_S_isDirection_9 : decode c_S_isDirection 9 = .ok (.iconst 1, 1) := by decide +kernel
theorem d_S_isDirection_10 : decode c_S_isDirection 10 = .ok (.goto 4, 3) := by decide +kernel
theorem d_S_isDirection_13 : decode c_S_isDirection 13 = .ok (.iconst 0, 1) := by decide +kernel
theorem d_S_isDirection_14 : decode c_S_isDirection 14 = .ok (.ireturn, 1) := by decide +kernel
theorem d_S_spring_0 : decode c_S_spring 0 = .ok (.iload_n 1, 1) := by decide +kernel
theorem d_S_spring_1 : decode c_S_spring 1 = .ok (.invokestatic 41, 3) := by decide +kernel
theorem d_S_spring_4 : decode c_S_spring 4 = .ok (.ifCond .eq 19, 3) := by decide +kernel
theorem d_S_spring_7 : decode c_S_spring 7 = .ok (.iload_n 2, 1) := by decide +kernel
theorem d_S_spring_8 : decode c_S_spring 8 = .ok (.invokestatic 71, 3) := by decide +kernel
theorem d_S_spring_11 : decode c_S_spring 11 = .ok (.ifCond .eq 12, 3) := by decide +kernel
theorem d_S_spring_14 : decode c_S_spring 14 = .ok (.iload_n 3, 1) := by decide +kernel
theorem d_S_spring_15 : decode c_S_spring 15 = .ok (.ifCond .lt 8, 3) := by decide +kernel
theorem d_S_spring_18 : decode c_S_spring 18 = .ok (.iload_n 3, 1) := by decide +kernel
theorem d_S_spring_19 : decode c_S_spring 19 = .ok (.iconst 3, 1) := by decide +kernel
theorem d_S_spring_20 : decode c_S_spring 20 = .ok (.if_icmp .le 5, 3) := by decide +kernel
theorem d_S_spring_23 : decode c_S_spring 23 = .ok (.iconst (-1), 1) := by decide +kernel
theorem d_S_spring_24 : decode c_S_spring 24 = .ok (.ireturn, 1) := by decide +kernel
theorem d_S_spring_25 : decode c_S_spring 25 = .ok (.aload_n 0, 1) := by decide +kernel
theorem d_S_spring_26 : decode c_S_spring 26 = .ok (.getfield 37, 3) := by decide +kernel
theorem d_S_spring_29 : decode c_S_spring 29 = .ok (.ifCond .eq 6, 3) := by decide +kernel
theorem d_S_spring_32 : decode c_S_spring 32 = .ok (.bipush (-4), 2) := by decide +kernel
theorem d_S_spring_34 : decode c_S_spring 34 = .ok (.ireturn, 1) := by decide +kernel
theorem d_S_spring_35 : decode c_S_spring 35 = .ok (.aload_n 0, 1) := by decide +kernel
theorem d_S_spring_36 : decode c_S_spring 36 = .ok (.getfield 12, 3) := by decide +kernel
theorem d_S_spring_39 : decode c_S_spring 39 = .ok (.getfield 86, 3) := by decide +kernel
theorem d_S_spring_42 : decode c_S_spring 42 = .ok (.iload_n 1, 1) := by decide +kernel
theorem d_S_spring_43 : decode c_S_spring 43 = .ok (.iload_n 2, 1) := by decide +kernel
theorem d_S_spring_44 : decode c_S_spring 44 = .ok (.invokestatic 74, 3) := by decide +kernel
theorem d_S_spring_47 : decode c_S_spring 47 = .ok (.iload_n 3, 1) := by decide +kernel
theorem d_S_spring_48 : decode c_S_spring 48 = .ok (.iastore, 1) := by decide +kernel
theorem d_S_spring_49 : decode c_S_spring 49 = .ok (.iconst 0, 1) := by decide +kernel
theorem d_S_spring_50 : decode c_S_spring 50 = .ok (.ireturn, 1) := by decide +kernel
theorem d_S_load_0 : decode c_S_load 0 = .ok (.iload_n 1, 1) := by decide +kernel
theorem d_S_load_1 : decode c_S_load 1 = .ok (.invokestatic 89, 3) := by decide +kernel
theorem d_S_load_4 : decode c_S_load 4 = .ok (.ifCond .eq 31, 3) := by decide +kernel
theorem d_S_load_7 : decode c_S_load 7 = .ok (.iload_n 2, 1) := by decide +kernel
theorem d_S_load_8 : decode c_S_load 8 = .ok (.invokestatic 41, 3) := by decide +kernel
theorem d_S_load_11 : decode c_S_load 11 = .ok (.ifCond .eq 24, 3) := by decide +kernel
theorem d_S_load_14 : decode c_S_load 14 = .ok (.iload_n 3, 1) := by decide +kernel
theorem d_S_load_15 : decode c_S_load 15 = .ok (.invokestatic 71, 3) := by decide +kernel
theorem d_S_load_18 : decode c_S_load 18 = .ok (.ifCond .eq 17, 3) := by decide +kernel
theorem d_S_load_21 : decode c_S_load 21 = .ok (.iload 4, 2) := by decide +kernel
theorem d_S_load_23 : decode c_S_load 23 = .ok (.bipush (-99), 2) := by decide +kernel
theorem d_S_load_25 : decode c_S_load 25 = .ok (.if_icmp .lt 10, 3) := by decide +kernel
theorem d_S_load_28 : decode c_S_load 28 = .ok (.iload 4, 2) := by decide +kernel
theorem d_S_load_30 : decode c_S_load 30 = .ok (.bipush 99, 2) := by decide +kernel
theorem d_S_load_32 : decode c_S_load 32 = .ok (.if_icmp .le 5, 3) := by decide +kernel
theorem d_S_load_35 : decode c_S_load 35 = .ok (.iconst (-1), 1) := by decide +kernel
theorem d_S_load_36 : decode c_S_load 36 = .ok (.ireturn, 1) := by decide +kernel
theorem d_S_load_37 : decode c_S_load 37 = .ok (.aload_n 0, 1) := by decide +kernel
theorem d_S_load_38 : decode c_S_load 38 = .ok (.getfield 12, 3) := by decide +kernel
theorem d_S_load_41 : decode c_S_load 41 = .ok (.getfield 92, 3) := by decide +kernel
theorem d_S_load_44 : decode c_S_load 44 = .ok (.iload_n 1, 1) := by decide +kernel
theorem d_S_load_45 : decode c_S_load 45 = .ok (.aaload, 1) := by decide +kernel
theorem d_S_load_46 : decode c_S_load 46 = .ok (.iload_n 2, 1) := by decide +kernel
theorem d_S_load_47 : decode c_S_load 47 = .ok (.iload_n 3, 1) := by decide +kernel
theorem d_S_load_48 : decode c_S_load 48 = .ok (.invokestatic 74, 3) := by decide +kernel
theorem d_S_load_51 : decode c_S_load 51 = .ok (.iload 4, 2) := by decide +kernel
theorem d_S_load_53 : decode c_S_load 53 = .ok (.iastore, 1) := by decide +kernel
theorem d_S_load_54 : decode c_S_load 54 = .ok (.iconst 0, 1) := by decide +kernel
theorem d_S_load_55 : decode c_S_load 55 = .ok (.ireturn, 1) := by decide +kernel
theorem d_S_isCase_0 : decode c_S_isCase 0 = .ok (.iload_n 0, 1) := by decide +kernel
theorem d_S_isCase_1 : decode c_S_isCase 1 = .ok (.ifCond .lt 12, 3) := by decide +kernel
theorem d_S_isCase_4 : decode c_S_isCase 4 = .ok (.iload_n 0, 1) := by decide +kernel
theorem d_S_isCase_5 : decode c_S_isCase 5 = .ok (.iconst 4, 1) := by decide +kernel
theorem d_S_isCase_6 : decode c_S_isCase 6 = .ok (.if_icmp .ge 7, 3) := by decide +kernel
theorem d_S_isCase_9 : decode c_S_isCase 9 = .ok (.iconst 1, 1) := by decide +kernel
theorem d_S_isCase_10 : decode c_S_isCase 10 = .ok (.goto 4, 3) := by decide +kernel
theorem d_S_isCase_13 : decode c_S_isCase 13 = .ok (.iconst 0, 1) := by decide +kernel
theorem d_S_isCase_14 : decode c_S_isCase 14 = .ok (.ireturn, 1) := by decide +kernel
theorem d_S_solve_0 : decode c_S_solve 0 = .ok (.aload_n 0, 1) := by decide +kernel
theorem d_S_solve_1 : decode c_S_solve 1 = .ok (.getfield 37, 3) := by decide +kernel
theorem d_S_solve_4 : decode c_S_solve 4 = .ok (.ifCond .eq 6, 3) := by decide +kernel
theorem d_S_solve_7 : decode c_S_solve 7 = .ok (.bipush (-4), 2) := by decide +kernel
theorem d_S_solve_9 : decode c_S_solve 9 = .ok (.ireturn, 1) := by decide +kernel
theorem d_S_solve_10 : decode c_S_solve 10 = .ok (.aload_n 0, 1) := by decide +kernel
theorem d_S_solve_11 : decode c_S_solve 11 = .ok (.getfield 12, 3) := by decide +kernel
theorem d_S_solve_14 : decode c_S_solve 14 = .ok (.invokevirtual 96, 3) := by decide +kernel
theorem d_S_solve_17 : decode c_S_solve 17 = .ok (.ifCond .ne 6, 3) := by decide +kernel
theorem d_S_solve_20 : decode c_S_solve 20 = .ok (.bipush (-100), 2) := by decide +kernel
theorem d_S_solve_22 : decode c_S_solve 22 = .ok (.ireturn, 1) := by decide +kernel
theorem d_S_solve_23 : decode c_S_solve 23 = .ok (.aload_n 0, 1) := by decide +kernel
theorem d_S_solve_24 : decode c_S_solve 24 = .ok (.getfield 12, 3) := by decide +kernel
theorem d_S_solve_27 : decode c_S_solve 27 = .ok (.invokevirtual 100, 3) := by decide +kernel
theorem d_S_solve_30 : decode c_S_solve 30 = .ok (.istore_n 1, 1) := by decide +kernel
theorem d_S_solve_31 : decode c_S_solve 31 = .ok (.iload_n 1, 1) := by decide +kernel
theorem d_S_solve_32 : decode c_S_solve 32 = .ok (.ifCond .lt 9, 3) := by decide +kernel
theorem d_S_solve_35 : decode c_S_solve 35 = .ok (.sipush (-200), 3) := by decide +kernel
theorem d_S_solve_38 : decode c_S_solve 38 = .ok (.iload_n 1, 1) := by decide +kernel
theorem d_S_solve_39 : decode c_S_solve 39 = .ok (.isub, 1) := by decide +kernel
theorem d_S_solve_40 : decode c_S_solve 40 = .ok (.ireturn, 1) := by decide +kernel
theorem d_S_solve_41 : decode c_S_solve 41 = .ok (.aload_n 0, 1) := by decide +kernel
theorem d_S_solve_42 : decode c_S_solve 42 = .ok (.getfield 19, 3) := by decide +kernel
theorem d_S_solve_45 : decode c_S_solve 45 = .ok (.aload_n 0, 1) := by decide +kernel
theorem d_S_solve_46 : decode c_S_solve 46 = .ok (.getfield 12, 3) := by decide +kernel
theorem d_S_solve_49 : decode c_S_solve 49 = .ok (.invokevirtual 103, 3) := by decide +kernel
theorem d_S_solve_52 : decode c_S_solve 52 = .ok (.aload_n 0, 1) := by decide +kernel
theorem d_S_solve_53 : decode c_S_solve 53 = .ok (.getfield 26, 3) := by decide +kernel
theorem d_S_solve_56 : decode c_S_solve 56 = .ok (.aload_n 0, 1) := by decide +kernel
theorem d_S_solve_57 : decode c_S_solve 57 = .ok (.getfield 12, 3) := by decide +kernel
theorem d_S_solve_60 : decode c_S_solve 60 = .ok (.aload_n 0, 1) := by decide +kernel
theorem d_S_solve_61 : decode c_S_solve 61 = .ok (.getfield 19, 3) := by decide +kernel
theorem d_S_solve_64 : decode c_S_solve 64 = .ok (.invokevirtual 107, 3) := by decide +kernel
theorem d_S_solve_67 : decode c_S_solve 67 = .ok (.aload_n 0, 1) := by decide +kernel
theorem d_S_solve_68 : decode c_S_solve 68 = .ok (.getfield 26, 3) := by decide +kernel
theorem d_S_solve_71 : decode c_S_solve 71 = .ok (.invokevirtual 110, 3) := by decide +kernel
theorem d_S_solve_74 : decode c_S_solve 74 = .ok (.istore_n 2, 1) := by decide +kernel
theorem d_S_solve_75 : decode c_S_solve 75 = .ok (.iload_n 2, 1) := by decide +kernel
theorem d_S_solve_76 : decode c_S_solve 76 = .ok (.ifCond .lt 9, 3) := by decide +kernel
theorem d_S_solve_79 : decode c_S_solve 79 = .ok (.sipush (-300), 3) := by decide +kernel
theorem d_S_solve_82 : decode c_S_solve 82 = .ok (.iload_n 2, 1) := by decide +kernel
theorem d_S_solve_83 : decode c_S_solve 83 = .ok (.isub, 1) := by decide +kernel
theorem d_S_solve_84 : decode c_S_solve 84 = .ok (.ireturn, 1) := by decide +kernel
theorem d_S_solve_85 : decode c_S_solve 85 = .ok (.aload_n 0, 1) := by decide +kernel
theorem d_S_solve_86 : decode c_S_solve 86 = .ok (.iconst 1, 1) := by decide +kernel
theorem d_S_solve_87 : decode c_S_solve 87 = .ok (.putfield 37, 3) := by decide +kernel
theorem d_S_solve_90 : decode c_S_solve 90 = .ok (.aload_n 0, 1) := by decide +kernel
theorem d_S_solve_91 : decode c_S_solve 91 = .ok (.getfield 19, 3) := by decide +kernel
theorem d_S_solve_94 : decode c_S_solve 94 = .ok (.getfield 113, 3) := by decide +kernel
theorem d_S_solve_97 : decode c_S_solve 97 = .ok (.ireturn, 1) := by decide +kernel
theorem d_T_nodeCount_0 : decode c_T_nodeCount 0 = .ok (.aload_n 0, 1) := by decide +kernel
theorem d_T_nodeCount_1 : decode c_T_nodeCount 1 = .ok (.getfield 9, 3) := by decide +kernel
theorem d_T_nodeCount_4 : decode c_T_nodeCount 4 = .ok (.invokestatic 46, 3) := by decide +kernel
theorem d_T_nodeCount_7 : decode c_T_nodeCount 7 = .ok (.ireturn, 1) := by decide +kernel
theorem d_J_bitCount_0 : decode c_J_bitCount 0 = .ok (.iload_n 0, 1) := by decide +kernel
theorem d_J_bitCount_1 : decode c_J_bitCount 1 = .ok (.iload_n 0, 1) := by decide +kernel
theorem d_J_bitCount_2 : decode c_J_bitCount 2 = .ok (.iconst 1, 1) := by decide +kernel
theorem d_J_bitCount_3 : decode c_J_bitCount 3 = .ok (.iushr, 1) := by decide +kernel
theorem d_J_bitCount_4 : decode c_J_bitCount 4 = .ok (.ldc_w 265, 3) := by decide +kernel
theorem d_J_bitCount_7 : decode c_J_bitCount 7 = .ok (.iand, 1) := by decide +kernel
theorem d_J_bitCount_8 : decode c_J_bitCount 8 = .ok (.isub, 1) := by decide +kernel
theorem d_J_bitCount_9 : decode c_J_bitCount 9 = .ok (.istore_n 0, 1) := by decide +kernel
theorem d_J_bitCount_10 : decode c_J_bitCount 10 = .ok (.iload_n 0, 1) := by decide +kernel
theorem d_J_bitCount_11 : decode c_J_bitCount 11 = .ok (.ldc_w 266, 3) := by decide +kernel
theorem d_J_bitCount_14 : decode c_J_bitCount 14 = .ok (.iand, 1) := by decide +kernel
theorem d_J_bitCount_15 : decode c_J_bitCount 15 = .ok (.iload_n 0, 1) := by decide +kernel
theorem d_J_bitCount_16 : decode c_J_bitCount 16 = .ok (.iconst 2, 1) := by decide +kernel
theorem d_J_bitCount_17 : decode c_J_bitCount 17 = .ok (.iushr, 1) := by decide +kernel
theorem d_J_bitCount_18 : decode c_J_bitCount 18 = .ok (.ldc_w 266, 3) := by decide +kernel
theorem d_J_bitCount_21 : decode c_J_bitCount 21 = .ok (.iand, 1) := by decide +kernel
theorem d_J_bitCount_22 : decode c_J_bitCount 22 = .ok (.iadd, 1) := by decide +kernel
theorem d_J_bitCount_23 : decode c_J_bitCount 23 = .ok (.istore_n 0, 1) := by decide +kernel
theorem d_J_bitCount_24 : decode c_J_bitCount 24 = .ok (.iload_n 0, 1) := by decide +kernel
theorem d_J_bitCount_25 : decode c_J_bitCount 25 = .ok (.iload_n 0, 1) := by decide +kernel
theorem d_J_bitCount_26 : decode c_J_bitCount 26 = .ok (.iconst 4, 1) := by decide +kernel
theorem d_J_bitCount_27 : decode c_J_bitCount 27 = .ok (.iushr, 1) := by decide +kernel
theorem d_J_bitCount_28 : decode c_J_bitCount 28 = .ok (.iadd, 1) := by decide +kernel
theorem d_J_bitCount_29 : decode c_J_bitCount 29 = .ok (.ldc_w 267, 3) := by decide +kernel
theorem d_J_bitCount_32 : decode c_J_bitCount 32 = .ok (.iand, 1) := by decide +kernel
theorem d_J_bitCount_33 : decode c_J_bitCount 33 = .ok (.istore_n 0, 1) := by decide +kernel
theorem d_J_bitCount_34 : decode c_J_bitCount 34 = .ok (.iload_n 0, 1) := by decide +kernel
theorem d_J_bitCount_35 : decode c_J_bitCount 35 = .ok (.iload_n 0, 1) := by decide +kernel
theorem d_J_bitCount_36 : decode c_J_bitCount 36 = .ok (.bipush 8, 2) := by decide +kernel
theorem d_J_bitCount_38 : decode c_J_bitCount 38 = .ok (.iushr, 1) := by decide +kernel
theorem d_J_bitCount_39 : decode c_J_bitCount 39 = .ok (.iadd, 1) := by decide +kernel
theorem d_J_bitCount_40 : decode c_J_bitCount 40 = .ok (.istore_n 0, 1) := by decide +kernel
theorem d_J_bitCount_41 : decode c_J_bitCount 41 = .ok (.iload_n 0, 1) := by decide +kernel
theorem d_J_bitCount_42 : decode c_J_bitCount 42 = .ok (.iload_n 0, 1) := by decide +kernel
theorem d_J_bitCount_43 : decode c_J_bitCount 43 = .ok (.bipush 16, 2) := by decide +kernel
theorem d_J_bitCount_45 : decode c_J_bitCount 45 = .ok (.iushr, 1) := by decide +kernel
theorem d_J_bitCount_46 : decode c_J_bitCount 46 = .ok (.iadd, 1) := by decide +kernel
theorem d_J_bitCount_47 : decode c_J_bitCount 47 = .ok (.istore_n 0, 1) := by decide +kernel
theorem d_J_bitCount_48 : decode c_J_bitCount 48 = .ok (.iload_n 0, 1) := by decide +kernel
theorem d_J_bitCount_49 : decode c_J_bitCount 49 = .ok (.bipush 63, 2) := by decide +kernel
theorem d_J_bitCount_51 : decode c_J_bitCount 51 = .ok (.iand, 1) := by decide +kernel
theorem d_J_bitCount_52 : decode c_J_bitCount 52 = .ok (.ireturn, 1) := by decide +kernel
theorem d_T_firstBadBar_0 : decode c_T_firstBadBar 0 = .ok (.iconst 0, 1) := by decide +kernel
theorem d_T_firstBadBar_1 : decode c_T_firstBadBar 1 = .ok (.istore_n 1, 1) := by decide +kernel
theorem d_T_firstBadBar_2 : decode c_T_firstBadBar 2 = .ok (.iload_n 1, 1) := by decide +kernel
theorem d_T_firstBadBar_3 : decode c_T_firstBadBar 3 = .ok (.aload_n 0, 1) := by decide +kernel
theorem d_T_firstBadBar_4 : decode c_T_firstBadBar 4 = .ok (.getfield 28, 3) := by decide +kernel
theorem d_T_firstBadBar_7 : decode c_T_firstBadBar 7 = .ok (.if_icmp .ge 45, 3) := by decide +kernel
theorem d_T_firstBadBar_10 : decode c_T_firstBadBar 10 = .ok (.aload_n 0, 1) := by decide +kernel
theorem d_T_firstBadBar_11 : decode c_T_firstBadBar 11 = .ok (.aload_n 0, 1) := by decide +kernel
theorem d_T_firstBadBar_12 : decode c_T_firstBadBar 12 = .ok (.getfield 19, 3) := by decide +kernel
theorem d_T_firstBadBar_15 : decode c_T_firstBadBar 15 = .ok (.iload_n 1, 1) := by decide +kernel
theorem d_T_firstBadBar_16 : decode c_T_firstBadBar 16 = .ok (.iaload, 1) := by decide +kernel
theorem d_T_firstBadBar_17 : decode c_T_firstBadBar 17 = .ok (.invokevirtual 52, 3) := by decide +kernel
theorem d_T_firstBadBar_20 : decode c_T_firstBadBar 20 = .ok (.ifCond .eq 24, 3) := by decide +kernel
theorem d_T_firstBadBar_23 : decode c_T_firstBadBar 23 = .ok (.aload_n 0, 1) := by decide +kernel
theorem d_T_firstBadBar_24 : decode c_T_firstBadBar 24 = .ok (.aload_n 0, 1) := by decide +kernel
theorem d_T_firstBadBar_25 : decode c_T_firstBadBar 25 = .ok (.getfield 22, 3) := by decide +kernel
theorem d_T_firstBadBar_28 : decode c_T_firstBadBar 28 = .ok (.iload_n 1, 1) := by decide +kernel
theorem d_T_firstBadBar_29 : decode c_T_firstBadBar 29 = .ok (.iaload, 1) := by decide +kernel
theorem d_T_firstBadBar_30 : decode c_T_firstBadBar 30 = .ok (.invokevirtual 52, 3) := by decide +kernel
theorem d_T_firstBadBar_33 : decode c_T_firstBadBar 33 = .ok (.ifCond .eq 11, 3) := by decide +kernel
theorem d_T_firstBadBar_36 : decode c_T_firstBadBar 36 = .ok (.aload_n 0, 1) := by decide +kernel
theorem d_T_firstBadBar_37 : decode c_T_firstBadBar 37 = .ok (.iload_n 1, 1) := by decide +kernel
theorem d_T_firstBadBar_38 : decode c_T_firstBadBar 38 = .ok (.invokevirtual 60, 3) := by decide +kernel
theorem d_T_firstBadBar_41 : decode c_T_firstBadBar 41 = .ok (.ifCond .ne 5, 3) := by decide +kernel
theorem d_T_firstBadBar_44 : decode c_T_firstBadBar 44 = .ok (.iload_n 1, 1) := by decide +kernel
theorem d_T_firstBadBar_45 : decode c_T_firstBadBar 45 = .ok (.ireturn, 1) := by decide +kernel
theorem d_T_firstBadBar_46 : decode c_T_firstBadBar 46 = .ok (.iinc 1 1, 3) := by decide +kernel
theorem d_T_firstBadBar_49 : decode c_T_firstBadBar 49 = .ok (.goto (-47), 3) := by decide +kernel
theorem d_T_firstBadBar_52 : decode c_T_firstBadBar 52 = .ok (.iconst (-1), 1) := by decide +kernel
theorem d_T_firstBadBar_53 : decode c_T_firstBadBar 53 = .ok (.ireturn, 1) := by decide +kernel
theorem d_T_isGood_0 : decode c_T_isGood 0 = .ok (.aload_n 0, 1) := by decide +kernel
theorem d_T_isGood_1 : decode c_T_isGood 1 = .ok (.iload_n 1, 1) := by decide +kernel
theorem d_T_isGood_2 : decode c_T_isGood 2 = .ok (.iconst 0, 1) := by decide +kernel
theorem d_T_isGood_3 : decode c_T_isGood 3 = .ok (.invokevirtual 63, 3) := by decide +kernel
theorem d_T_isGood_6 : decode c_T_isGood 6 = .ok (.istore_n 2, 1) := by decide +kernel
theorem d_T_isGood_7 : decode c_T_isGood 7 = .ok (.aload_n 0, 1) := by decide +kernel
theorem d_T_isGood_8 : decode c_T_isGood 8 = .ok (.iload_n 1, 1) := by decide +kernel
theorem d_T_isGood_9 : decode c_T_isGood 9 = .ok (.iconst 1, 1) := by decide +kernel
theorem d_T_isGood_10 : decode c_T_isGood 10 = .ok (.invokevirtual 63, 3) := by decide +kernel
theorem d_T_isGood_13 : decode c_T_isGood 13 = .ok (.istore_n 3, 1) := by decide +kernel
theorem d_T_isGood_14 : decode c_T_isGood 14 = .ok (.iload_n 2, 1) := by decide +kernel
theorem d_T_isGood_15 : decode c_T_isGood 15 = .ok (.ifCond .eq 18, 3) := by decide +kernel
theorem d_T_isGood_18 : decode c_T_isGood 18 = .ok (.iload_n 3, 1) := by decide +kernel
theorem d_T_isGood_19 : decode c_T_isGood 19 = .ok (.ifCond .eq 14, 3) := by decide +kernel
theorem d_T_isGood_22 : decode c_T_isGood 22 = .ok (.iload_n 2, 1) := by decide +kernel
theorem d_T_isGood_23 : decode c_T_isGood 23 = .ok (.invokestatic 66, 3) := by decide +kernel
theorem d_T_isGood_26 : decode c_T_isGood 26 = .ok (.iload_n 3, 1) := by decide +kernel
theorem d_T_isGood_27 : decode c_T_isGood 27 = .ok (.invokestatic 66, 3) := by decide +kernel
theorem d_T_isGood_30 : decode c_T_isGood 30 = .ok (.if_icmp .ne 7, 3) := by decide +kernel
theorem d_T_isGood_33 : decode c_T_isGood 33 = .ok (.iconst 1, 1) := by decide +kernel
theorem d_T_isGood_34 : decode c_T_isGood 34 = .ok (.goto 4, 3) := by decide +kernel
theorem d_T_isGood_37 : decode c_T_isGood 37 = .ok (.iconst 0, 1) := by decide +kernel
theorem d_T_isGood_38 : decode c_T_isGood 38 = .ok (.ireturn, 1) := by decide +kernel
theorem d_T_reach_0 : decode c_T_reach 0 = .ok (.aload_n 0, 1) := by decide +kernel
theorem d_T_reach_1 : decode c_T_reach 1 = .ok (.getfield 15, 3) := by decide +kernel
theorem d_T_reach_4 : decode c_T_reach 4 = .ok (.aload_n 0, 1) := by decide +kernel
theorem d_T_reach_5 : decode c_T_reach 5 = .ok (.getfield 22, 3) := by decide +kernel
theorem d_T_reach_8 : decode c_T_reach 8 = .ok (.iload_n 1, 1) := by decide +kernel
theorem d_T_reach_9 : decode c_T_reach 9 = .ok (.iaload, 1) := by decide +kernel
theorem d_T_reach_10 : decode c_T_reach 10 = .ok (.iload_n 2, 1) := by decide +kernel
theorem d_T_reach_11 : decode c_T_reach 11 = .ok (.invokestatic 56, 3) := by decide +kernel
theorem d_T_reach_14 : decode c_T_reach 14 = .ok (.iaload, 1) := by decide +kernel
theorem d_T_reach_15 : decode c_T_reach 15 = .ok (.aload_n 0, 1) := by decide +kernel
theorem d_T_reach_16 : decode c_T_reach 16 = .ok (.getfield 15, 3) := by decide +kernel
theorem d_T_reach_19 : decode c_T_reach 19 = .ok (.aload_n 0, 1) := by decide +kernel
theorem d_T_reach_20 : decode c_T_reach 20 = .ok (.getfield 19, 3) := by decide +kernel
theorem d_T_reach_23 : decode c_T_reach 23 = .ok (.iload_n 1, 1) := by decide +kernel
theorem d_T_reach_24 : decode c_T_reach 24 = .ok (.iaload, 1) := by decide +kernel
theorem d_T_reach_25 : decode c_T_reach 25 = .ok (.iload_n 2, 1) := by decide +kernel
theorem d_T_reach_26 : decode c_T_reach 26 = .ok (.invokestatic 56, 3) := by decide +kernel
theorem d_T_reach_29 : decode c_T_reach 29 = .ok (.iaload, 1) := by decide +kernel
theorem d_T_reach_30 : decode c_T_reach 30 = .ok (.isub, 1) := by decide +kernel
theorem d_T_reach_31 : decode c_T_reach 31 = .ok (.ireturn, 1) := by decide +kernel
theorem d_N_make_0 : decode c_N_make 0 = .ok (.aload_n 0, 1) := by decide +kernel
theorem d_N_make_1 : decode c_N_make 1 = .ok (.aload_n 1, 1) := by decide +kernel
theorem d_N_make_2 : decode c_N_make 2 = .ok (.invokevirtual 34, 3) := by decide +kernel
theorem d_N_make_5 : decode c_N_make 5 = .ok (.aload_n 0, 1) := by decide +kernel
theorem d_N_make_6 : decode c_N_make 6 = .ok (.aload_n 1, 1) := by decide +kernel
theorem d_N_make_7 : decode c_N_make 7 = .ok (.invokevirtual 38, 3) := by decide +kernel
theorem d_N_make_10 : decode c_N_make 10 = .ok (.aload_n 0, 1) := by decide +kernel
theorem d_N_make_11 : decode c_N_make 11 = .ok (.invokevirtual 41, 3) := by decide +kernel
theorem d_N_make_14 : decode c_N_make 14 = .ok (.aload_n 0, 1) := by decide +kernel
theorem d_N_make_15 : decode c_N_make 15 = .ok (.aload_n 1, 1) := by decide +kernel
theorem d_N_make_16 : decode c_N_make 16 = .ok (.invokevirtual 44, 3) := by decide +kernel
theorem d_N_make_19 : decode c_N_make 19 = .ok (.return_, 1) := by decide +kernel
theorem d_N_findNeighbours_0 : decode c_N_findNeighbours 0 = .ok (.aload_n 0, 1) := by decide +kernel
theorem d_N_findNeighbours_1 : decode c_N_findNeighbours 1 = .ok (.getfield 22, 3) := by decide +kernel
theorem d_N_findNeighbours_4 : decode c_N_findNeighbours 4 = .ok (.iconst 0, 1) := by decide +kernel
theorem d_N_findNeighbours_5 : decode c_N_findNeighbours 5 = .ok (.invokestatic 47, 3) := by decide +kernel
theorem d_N_findNeighbours_8 : decode c_N_findNeighbours 8 = .ok (.iconst 0, 1) := by decide +kernel
theorem d_N_findNeighbours_9 : decode c_N_findNeighbours 9 = .ok (.istore_n 2, 1) := by decide +kernel
theorem d_N_findNeighbours_10 : decode c_N_findNeighbours 10 = .ok (.iload_n 2, 1) := by decide +kernel
theorem d_N_findNeighbours_11 : decode c_N_findNeighbours 11 = .ok (.aload_n 1, 1) := by decide +kernel
theorem d_N_findNeighbours_12 : decode c_N_findNeighbours 12 = .ok (.getfield 53, 3) := by decide +kernel
theorem d_N_findNeighbours_15 : decode c_N_findNeighbours 15 = .ok (.if_icmp .ge 50, 3) := by decide +kernel
theorem d_N_findNeighbours_18 : decode c_N_findNeighbours 18 = .ok (.aload_n 1, 1) := by decide +kernel
theorem d_N_findNeighbours_19 : decode c_N_findNeighbours 19 = .ok (.getfield 58, 3) := by decide +kernel
theorem d_N_findNeighbours_22 : decode c_N_findNeighbours 22 = .ok (.iload_n 2, 1) := by decide +kernel
theorem d_N_findNeighbours_23 : decode c_N_findNeighbours 23 = .ok (.iaload, 1) := by decide +kernel
theorem d_N_findNeighbours_24 : decode c_N_findNeighbours 24 = .ok (.istore_n 3, 1) := by decide +kernel
theorem d_N_findNeighbours_25 : decode c_N_findNeighbours 25 = .ok (.aload_n 1, 1) := by decide +kernel
theorem d_N_findNeighbours_26 : decode c_N_findNeighbours 26 = .ok (.getfield 61, 3) := by decide +kernel
theorem d_N_findNeighbours_29 : decode c_N_findNeighbours 29 = .ok (.iload_n 2, 1) := by decide +kernel
theorem d_N_findNeighbours_30 : decode c_N_findNeighbours 30 = .ok (.iaload, 1) := by decide +kernel
theorem d_N_findNeighbours_31 : decode c_N_findNeighbours 31 = .ok (.istore 4, 2) := by decide +kernel
theorem d_N_findNeighbours_33 : decode c_N_findNeighbours 33 = .ok (.aload_n 0, 1) := by decide +kernel
theorem d_N_findNeighbours_34 : decode c_N_findNeighbours 34 = .ok (.getfield 22, 3) := by decide +kernel
theorem d_N_findNeighbours_37 : decode c_N_findNeighbours 37 = .ok (.iload_n 3, 1) := by decide +kernel
theorem d_N_findNeighbours_38 : decode c_N_findNeighbours 38 = .ok (.dup2, 1) := by decide +kernel
theorem d_N_findNeighbours_39 : decode c_N_findNeighbours 39 = .ok (.iaload, 1) := by decide +kernel
theorem d_N_findNeighbours_40 : decode c_N_findNeighbours 40 = .ok (.iconst 1, 1) := by decide +kernel
theorem d_N_findNeighbours_41 : decode c_N_findNeighbours 41 = .ok (.iload 4, 2) := by decide +kernel
theorem d_N_findNeighbours_43 : decode c_N_findNeighbours 43 = .ok (.ishl, 1) := by decide +kernel
theorem d_N_findNeighbours_44 : decode c_N_findNeighbours 44 = .ok (.ior, 1) := by decide +kernel
theorem d_N_findNeighbours_45 : decode c_N_findNeighbours 45 = .ok (.iastore, 1) := by decide +kernel
theorem d_N_findNeighbours_46 : decode c_N_findNeighbours 46 = .ok (.aload_n 0, 1) := by decide +kernel
theorem d_N_findNeighbours_47 : decode c_N_findNeighbours 47 = .ok (.getfield 22, 3) := by decide +kernel
theorem d_N_findNeighbours_50 : decode c_N_findNeighbours 50 = .ok (.iload 4, 2) := by decide +kernel
theorem d_N_findNeighbours_52 : decode c_N_findNeighbours 52 = .ok (.dup2, 1) := by decide +kernel
theorem d_N_findNeighbours_53 : decode c_N_findNeighbours 53 = .ok (.iaload, 1) := by decide +kernel
theorem d_N_findNeighbours_54 : decode c_N_findNeighbours 54 = .ok (.iconst 1, 1) := by decide +kernel
theorem d_N_findNeighbours_55 : decode c_N_findNeighbours 55 = .ok (.iload_n 3, 1) := by decide +kernel
theorem d_N_findNeighbours_56 : decode c_N_findNeighbours 56 = .ok (.ishl, 1) := by decide +kernel
theorem d_N_findNeighbours_57 : decode c_N_findNeighbours 57 = .ok (.ior, 1) := by decide +kernel
theorem d_N_findNeighbours_58 : decode c_N_findNeighbours 58 = .ok (.iastore, 1) := by decide +kernel
theorem d_N_findNeighbours_59 : decode c_N_findNeighbours 59 = .ok (.iinc 2 1, 3) := by decide +kernel
theorem d_N_findNeighbours_62 : decode c_N_findNeighbours 62 = .ok (.goto (-52), 3) := by decide +kernel
theorem d_N_findNeighbours_65 : decode c_N_findNeighbours 65 = .ok (.return_, 1) := by decide +kernel
theorem d_J_fillI_0 : decode c_J_fillI 0 = .ok (.iconst 0, 1) := by decide +kernel
theorem d_J_fillI_1 : decode c_J_fillI 1 = .ok (.istore_n 2, 1) := by decide +kernel
theorem d_J_fillI_2 : decode c_J_fillI 2 = .ok (.aload_n 0, 1) := by decide +kernel
theorem d_J_fillI_3 : decode c_J_fillI 3 = .ok (.arraylength, 1) := by decide +kernel
theorem d_J_fillI_4 : decode c_J_fillI 4 = .ok (.istore_n 3, 1) := by decide +kernel
theorem d_J_fillI_5 : decode c_J_fillI 5 = .ok (.iload_n 2, 1) := by decide +kernel
theorem d_J_fillI_6 : decode c_J_fillI 6 = .ok (.iload_n 3, 1) := by decide +kernel
theorem d_J_fillI_7 : decode c_J_fillI 7 = .ok (.if_icmp .ge 13, 3) := by decide +kernel
theorem d_J_fillI_10 : decode c_J_fillI 10 = .ok (.aload_n 0, 1) := by decide +kernel
theorem d_J_fillI_11 : decode c_J_fillI 11 = .ok (.iload_n 2, 1) := by decide +kernel
theorem d_J_fillI_12 : decode c_J_fillI 12 = .ok (.iload_n 1, 1) := by decide +kernel
theorem d_J_fillI_13 : decode c_J_fillI 13 = .ok (.iastore, 1) := by decide +kernel
theorem d_J_fillI_14 : decode c_J_fillI 14 = .ok (.iinc 2 1, 3) := by decide +kernel
theorem d_J_fillI_17 : decode c_J_fillI 17 = .ok (.goto (-12), 3) := by decide +kernel
theorem d_J_fillI_20 : decode c_J_fillI 20 = .ok (.return_, 1) := by decide +kernel
theorem d_N_placeNodes_0 : decode c_N_placeNodes 0 = .ok (.aload_n 0, 1) := by decide +kernel
theorem d_N_placeNodes_1 : decode c_N_placeNodes 1 = .ok (.iconst 0, 1) := by decide +kernel
theorem d_N_placeNodes_2 : decode c_N_placeNodes 2 = .ok (.putfield 15, 3) := by decide +kernel
theorem d_N_placeNodes_5 : decode c_N_placeNodes 5 = .ok (.aload_n 0, 1) := by decide +kernel
theorem d_N_placeNodes_6 : decode c_N_placeNodes 6 = .ok (.iconst 0, 1) := by decide +kernel
theorem d_N_placeNodes_7 : decode c_N_placeNodes 7 = .ok (.putfield 19, 3) := by decide +kernel
theorem d_N_placeNodes_10 : decode c_N_placeNodes 10 = .ok (.aload_n 1, 1) := by decide +kernel
theorem d_N_placeNodes_11 : decode c_N_placeNodes 11 = .ok (.invokevirtual 64, 3) := by decide +kernel
theorem d_N_placeNodes_14 : decode c_N_placeNodes 14 = .ok (.istore_n 2, 1) := by decide +kernel
theorem d_N_placeNodes_15 : decode c_N_placeNodes 15 = .ok (.iconst 0, 1) := by decide +kernel
theorem d_N_placeNodes_16 : decode c_N_placeNodes 16 = .ok (.istore_n 3, 1) := by decide +kernel
theorem d_N_placeNodes_17 : decode c_N_placeNodes 17 = .ok (.iload_n 3, 1) := by decide +kernel
theorem d_N_placeNodes_18 : decode c_N_placeNodes 18 = .ok (.iload_n 2, 1) := by decide +kernel
theorem d_N_placeNodes_19 : decode c_N_placeNodes 19 = .ok (.if_icmp .ge 46, 3) := by decide +kernel
theorem d_N_placeNodes_22 : decode c_N_placeNodes 22 = .ok (.iload_n 3, 1) := by decide +kernel
theorem d_N_placeNodes_23 : decode c_N_placeNodes 23 = .ok (.aload_n 0, 1) := by decide +kernel
theorem d_N_placeNodes_24 : decode c_N_placeNodes 24 = .ok (.getfield 15, 3) := by decide +kernel
theorem d_N_placeNodes_27 : decode c_N_placeNodes 27 = .ok (.if_icmp .ne 22, 3) := by decide +kernel
theorem d_N_placeNodes_30 : decode c_N_placeNodes 30 = .ok (.aload_n 0, 1) := by decide +kernel
theorem d_N_placeNodes_31 : decode c_N_placeNodes 31 = .ok (.aload_n 0, 1) := by decide +kernel
theorem d_N_placeNodes_32 : decode c_N_placeNodes 32 = .ok (.aload_n 1, 1) := by decide +kernel
theorem d_N_placeNodes_33 : decode c_N_placeNodes 33 = .ok (.getfield 68, 3) := by decide +kernel
theorem d_N_placeNodes_36 : decode c_N_placeNodes 36 = .ok (.aload_n 0, 1) := by decide +kernel
theorem d_N_placeNodes_37 : decode c_N_placeNodes 37 = .ok (.getfield 19, 3) := by decide +kernel
theorem d_N_placeNodes_40 : decode c_N_placeNodes 40 = .ok (.iconst (-1), 1) := by decide +kernel
theorem d_N_placeNodes_41 : decode c_N_placeNodes 41 = .ok (.ixor, 1) := by decide +kernel
theorem d_N_placeNodes_42 : decode c_N_placeNodes 42 = .ok (.iand, 1) := by decide +kernel
theorem d_N_placeNodes_43 : decode c_N_placeNodes 43 = .ok (.invokevirtual 71, 3) := by decide +kernel
theorem d_N_placeNodes_46 : decode c_N_placeNodes 46 = .ok (.invokevirtual 75, 3) := by decide +kernel
theorem d_N_placeNodes_49 : decode c_N_placeNodes 49 = .ok (.aload_n 0, 1) := by decide +kernel
theorem d_N_placeNodes_50 : decode c_N_placeNodes 50 = .ok (.aload_n 0, 1) := by decide +kernel
theorem d_N_placeNodes_51 : decode c_N_placeNodes 51 = .ok (.getfield 9, 3) := by decide +kernel
theorem d_N_placeNodes_54 : decode c_N_placeNodes 54 = .ok (.iload_n 3, 1) := by decide +kernel
theorem d_N_placeNodes_55 : decode c_N_placeNodes 55 = .ok (.iaload, 1) := by decide +kernel
theorem d_N_placeNodes_56 : decode c_N_placeNodes 56 = .ok (.invokevirtual 79, 3) := by decide +kernel
theorem d_N_placeNodes_59 : decode c_N_placeNodes 59 = .ok (.iinc 3 1, 3) := by decide +kernel
theorem d_N_placeNodes_62 : decode c_N_placeNodes 62 = .ok (.goto (-45), 3) := by decide +kernel
theorem d_N_placeNodes_65 : decode c_N_placeNodes 65 = .ok (.return_, 1) := by decide +kernel
theorem d_N_leastJoined_0 : decode c_N_leastJoined 0 = .ok (.iconst (-1), 1) := by decide +kernel
theorem d_N_leastJoined_1 : decode c_N_leastJoined 1 = .ok (.istore_n 2, 1) := by decide +kernel
theorem d_N_leastJoined_2 : decode c_N_leastJoined 2 = .ok (.iconst 5, 1) := by decide +kernel
theorem d_N_leastJoined_3 : decode c_N_leastJoined 3 = .ok (.istore_n 3, 1) := by decide +kernel
theorem d_N_leastJoined_4 : decode c_N_leastJoined 4 = .ok (.iconst 0, 1) := by decide +kernel
theorem d_N_leastJoined_5 : decode c_N_leastJoined 5 = .ok (.istore 4, 2) := by decide +kernel
theorem d_N_leastJoined_7 : decode c_N_leastJoined 7 = .ok (.iload 4, 2) := by decide +kernel
theorem d_N_leastJoined_9 : decode c_N_leastJoined 9 = .ok (.iconst 5, 1) := by decide +kernel
theorem d_N_leastJoined_10 : decode c_N_leastJoined 10 = .ok (.if_icmp .ge 42, 3) := by decide +kernel
theorem d_N_leastJoined_13 : decode c_N_leastJoined 13 = .ok (.aload_n 0, 1) := by decide +kernel
theorem d_N_leastJoined_14 : decode c_N_leastJoined 14 = .ok (.getfield 22, 3) := by decide +kernel
theorem d_N_leastJoined_17 : decode c_N_leastJoined 17 = .ok (.iload 4, 2) := by decide +kernel
theorem d_N_leastJoined_19 : decode c_N_leastJoined 19 = .ok (.iaload, 1) := by decide +kernel
theorem d_N_leastJoined_20 : decode c_N_leastJoined 20 = .ok (.invokestatic 82, 3) := by decide +kernel
theorem d_N_leastJoined_23 : decode c_N_leastJoined 23 = .ok (.istore 5, 2) := by decide +kernel
theorem d_N_leastJoined_25 : decode c_N_leastJoined 25 = .ok (.iload_n 1, 1) := by decide +kernel
theorem d_N_leastJoined_26 : decode c_N_leastJoined 26 = .ok (.iload 4, 2) := by decide +kernel
theorem d_N_leastJoined_28 : decode c_N_leastJoined 28 = .ok (.ishr, 1) := by decide +kernel
theorem d_N_leastJoined_29 : decode c_N_leastJoined 29 = .ok (.iconst 1, 1) := by decide +kernel
theorem d_N_leastJoined_30 : decode c_N_leastJoined 30 = .ok (.iand, 1) := by decide +kernel
theorem d_N_leastJoined_31 : decode c_N_leastJoined 31 = .ok (.ifCond .eq 15, 3) := by decide +kernel
theorem d_N_leastJoined_34 : decode c_N_leastJoined 34 = .ok (.iload 5, 2) := by decide +kernel
theorem d_N_leastJoined_36 : decode c_N_leastJoined 36 = .ok (.iload_n 3, 1) := by decide +kernel
theorem d_N_leastJoined_37 : decode c_N_leastJoined 37 = .ok (.if_icmp .ge 9, 3) := by decide +kernel
theorem d_N_leastJoined_40 : decode c_N_leastJoined 40 = .ok (.iload 4, 2) := by decide +kernel
theorem d_N_leastJoined_42 : decode c_N_leastJoined 42 = .ok (.istore_n 2, 1) := by decide +kernel
theorem d_N_leastJoined_43 : decode c_N_leastJoined 43 = .ok (.iload 5, 2) := by decide +kernel
theorem d_N_leastJoined_45 : decode c_N_leastJoined 45 = .ok (.istore_n 3, 1) := by decide +kernel
theorem d_N_leastJoined_46 : decode c_N_leastJoined 46 = .ok (.iinc 4 1, 3) := by decide +kernel
theorem d_N_leastJoined_49 : decode c_N_leastJoined 49 = .ok (.goto (-42), 3) := by decide +kernel
theorem d_N_leastJoined_52 : decode c_N_leastJoined 52 = .ok (.iload_n 2, 1) := by decide +kernel
theorem d_N_leastJoined_53 : decode c_N_leastJoined 53 = .ok (.ireturn, 1) := by decide +kernel
theorem d_N_append_0 : decode c_N_append 0 = .ok (.iload_n 1, 1) := by decide +kernel
theorem d_N_append_1 : decode c_N_append 1 = .ok (.ifCond .lt 11, 3) := by decide +kernel
theorem d_N_append_4 : decode c_N_append 4 = .ok (.aload_n 0, 1) := by decide +kernel
theorem d_N_append_5 : decode c_N_append 5 = .ok (.getfield 15, 3) := by decide +kernel
theorem d_N_append_8 : decode c_N_append 8 = .ok (.iconst 5, 1) := by decide +kernel
theorem d_N_append_9 : decode c_N_append 9 = .ok (.if_icmp .lt 4, 3) := by decide +kernel
theorem d_N_append_12 : decode c_N_append 12 = .ok (.return_, 1) := by decide +kernel
theorem d_N_append_13 : decode c_N_append 13 = .ok (.aload_n 0, 1) := by decide +kernel
theorem d_N_append_14 : decode c_N_append 14 = .ok (.getfield 9, 3) := by decide +kernel
theorem d_N_append_17 : decode c_N_append 17 = .ok (.aload_n 0, 1) := by decide +kernel
theorem d_N_append_18 : decode c_N_append 18 = .ok (.getfield 15, 3) := by decide +kernel
theorem d_N_append_21 : decode c_N_append 21 = .ok (.iload_n 1, 1) := by decide +kernel
theorem d_N_append_22 : decode c_N_append 22 = .ok (.iastore, 1) := by decide +kernel
theorem d_N_append_23 : decode c_N_append 23 = .ok (.aload_n 0, 1) := by decide +kernel
theorem d_N_append_24 : decode c_N_append 24 = .ok (.dup, 1) := by decide +kernel
theorem d_N_append_25 : decode c_N_append 25 = .ok (.getfield 15, 3) := by decide +kernel
theorem d_N_append_28 : decode c_N_append 28 = .ok (.iconst 1, 1) := by decide +kernel
theorem d_N_append_29 : decode c_N_append 29 = .ok (.iadd, 1) := by decide +kernel
theorem d_N_append_30 : decode c_N_append 30 = .ok (.putfield 15, 3) := by decide +kernel
theorem d_N_append_33 : decode c_N_append 33 = .ok (.aload_n 0, 1) := by decide +kernel
theorem d_N_append_34 : decode c_N_append 34 = .ok (.dup, 1) := by decide +kernel
theorem d_N_append_35 : decode c_N_append 35 = .ok (.getfield 19, 3) := by decide +kernel
theorem d_N_append_38 : decode c_N_append 38 = .ok (.iconst 1, 1) := by decide +kernel
theorem d_N_append_39 : decode c_N_append 39 = .ok (.iload_n 1, 1) := by decide +kernel
theorem d_N_append_40 : decode c_N_append 40 = .ok (.ishl, 1) := by decide +kernel
theorem d_N_append_41 : decode c_N_append 41 = .ok (.ior, 1) := by decide +kernel
theorem d_N_append_42 : decode c_N_append 42 = .ok (.putfield 19, 3) := by decide +kernel
theorem d_N_append_45 : decode c_N_append 45 = .ok (.return_, 1) := by decide +kernel
theorem d_N_appendNeighboursOf_0 : decode c_N_appendNeighboursOf 0 = .ok (.aload_n 0, 1) := by decide +kernel
theorem d_N_appendNeighboursOf_1 : decode c_N_appendNeighboursOf 1 = .ok (.getfield 22, 3) := by decide +kernel
theorem d_N_appendNeighboursOf_4 : decode c_N_appendNeighboursOf 4 = .ok (.iload_n 1, 1) := by decide +kernel
theorem d_N_appendNeighboursOf_5 : decode c_N_appendNeighboursOf 5 = .ok (.iaload, 1) := by decide +kernel
theorem d_N_appendNeighboursOf_6 : decode c_N_appendNeighboursOf 6 = .ok (.aload_n 0, 1) := by decide +kernel
theorem d_N_appendNeighboursOf_7 : decode c_N_appendNeighboursOf 7 = .ok (.getfield 19, 3) := by decide +kernel
theorem d_N_appendNeighboursOf_10 : decode c_N_appendNeighboursOf 10 = .ok (.iconst (-1), 1) := by decide +kernel
theorem d_N_appendNeighboursOf_11 : decode c_N_appendNeighboursOf 11 = .ok (.ixor, 1) := by decide +kernel
theorem d_N_appendNeighboursOf_12 : decode c_N_appendNeighboursOf 12 = .ok (.iand, 1) := by decide +kernel
theorem d_N_appendNeighboursOf_13 : decode c_N_appendNeighboursOf 13 = .ok (.invokestatic 82, 3) := by decide +kernel
theorem d_N_appendNeighboursOf_16 : decode c_N_appendNeighboursOf 16 = .ok (.istore_n 2, 1) := by decide +kernel
theorem d_N_appendNeighboursOf_17 : decode c_N_appendNeighboursOf 17 = .ok (.iconst 0, 1) := by decide +kernel
theorem d_N_appendNeighboursOf_18 : decode c_N_appendNeighboursOf 18 = .ok (.istore_n 3, 1) := by decide +kernel
theorem d_N_appendNeighboursOf_19 : decode c_N_appendNeighboursOf 19 = .ok (.iload_n 3, 1) := by decide +kernel
theorem d_N_appendNeighboursOf_20 : decode c_N_appendNeighboursOf 20 = .ok (.iload_n 2, 1) := by decide +kernel
theorem d_N_appendNeighboursOf_21 : decode c_N_appendNeighboursOf 21 = .ok (.if_icmp .ge 30, 3) := by decide +kernel
theorem d_N_appendNeighboursOf_24 : decode c_N_appendNeighboursOf 24 = .ok (.aload_n 0, 1) := by decide +kernel
theorem d_N_appendNeighboursOf_25 : decode c_N_appendNeighboursOf 25 = .ok (.aload_n 0, 1) := by decide +kernel
theorem d_N_appendNeighboursOf_26 : decode c_N_appendNeighboursOf 26 = .ok (.aload_n 0, 1) := by decide +kernel
theorem d_N_appendNeighboursOf_27 : decode c_N_appendNeighboursOf 27 = .ok (.getfield 22, 3) := by decide +kernel
theorem d_N_appendNeighboursOf_30 : decode c_N_appendNeighboursOf 30 = .ok (.iload_n 1, 1) := by decide +kernel
theorem d_N_appendNeighboursOf_31 : decode c_N_appendNeighboursOf 31 = .ok (.iaload, 1) := by decide +kernel
theorem d_N_appendNeighboursOf_32 : decode c_N_appendNeighboursOf 32 = .ok (.aload_n 0, 1) := by decide +kernel
theorem d_N_appendNeighboursOf_33 : decode c_N_appendNeighboursOf 33 = .ok (.getfield 19, 3) := by decide +kernel
theorem d_N_appendNeighboursOf_36 : decode c_N_appendNeighboursOf 36 = .ok (.iconst (-1), 1) := by decide +kernel
theorem d_N_appendNeighboursOf_37 : decode c_N_appendNeighboursOf 37 = .ok (.ixor, 1) := by decide +kernel
theorem d_N_appendNeighboursOf_38 : decode c_N_appendNeighboursOf 38 = .ok (.iand, 1) := by decide +kernel
theorem d_N_appendNeighboursOf_39 : decode c_N_appendNeighboursOf 39 = .ok (.invokevirtual 71, 3) := by decide +kernel
theorem d_N_appendNeighboursOf_42 : decode c_N_appendNeighboursOf 42 = .ok (.invokevirtual 75, 3) := by decide +kernel
theorem d_N_appendNeighboursOf_45 : decode c_N_appendNeighboursOf 45 = .ok (.iinc 3 1, 3) := by decide +kernel
theorem d_N_appendNeighboursOf_48 : decode c_N_appendNeighboursOf 48 = .ok (.goto (-29), 3) := by decide +kernel
theorem d_N_appendNeighboursOf_51 : decode c_N_appendNeighboursOf 51 = .ok (.return_, 1) := by decide +kernel
theorem d_N_turnRound_0 : decode c_N_turnRound 0 = .ok (.iconst 0, 1) := by decide +kernel
theorem d_N_turnRound_1 : decode c_N_turnRound 1 = .ok (.istore_n 1, 1) := by decide +kernel
theorem d_N_turnRound_2 : decode c_N_turnRound 2 = .ok (.aload_n 0, 1) := by decide +kernel
theorem d_N_turnRound_3 : decode c_N_turnRound 3 = .ok (.getfield 15, 3) := by decide +kernel
theorem d_N_turnRound_6 : decode c_N_turnRound 6 = .ok (.iconst 1, 1) := by decide +kernel
theorem d_N_turnRound_7 : decode c_N_turnRound 7 = .ok (.isub, 1) := by decide +kernel
theorem d_N_turnRound_8 : decode c_N_turnRound 8 = .ok (.istore_n 2, 1) := by decide +kernel
theorem d_N_turnRound_9 : decode c_N_turnRound 9 = .ok (.iload_n 1, 1) := by decide +kernel
theorem d_N_turnRound_10 : decode c_N_turnRound 10 = .ok (.iload_n 2, 1) := by decide +kernel
theorem d_N_turnRound_11 : decode c_N_turnRound 11 = .ok (.if_icmp .ge 38, 3) := by decide +kernel
theorem d_N_turnRound_14 : decode c_N_turnRound 14 = .ok (.aload_n 0, 1) := by decide +kernel
theorem d_N_turnRound_15 : decode c_N_turnRound 15 = .ok (.getfield 9, 3) := by decide +kernel
theorem d_N_turnRound_18 : decode c_N_turnRound 18 = .ok (.iload_n 1, 1) := by decide +kernel
theorem d_N_turnRound_19 : decode c_N_turnRound 19 = .ok (.iaload, 1) := by decide +kernel
theorem d_N_turnRound_20 : decode c_N_turnRound 20 = .ok (.istore_n 3, 1) := by decide +kernel
theorem d_N_turnRound_21 : decode c_N_turnRound 21 = .ok (.aload_n 0, 1) := by decide +kernel
theorem d_N_turnRound_22 : decode c_N_turnRound 22 = .ok (.getfield 9, 3) := by decide +kernel
theorem d_N_turnRound_25 : decode c_N_turnRound 25 = .ok (.iload_n 1, 1) := by decide +kernel
theorem d_N_turnRound_26 : decode c_N_turnRound 26 = .ok (.aload_n 0, 1) := by decide +kernel
theorem d_N_turnRound_27 : decode c_N_turnRound 27 = .ok (.getfield 9, 3) := by decide +kernel
theorem d_N_turnRound_30 : decode c_N_turnRound 30 = .ok (.iload_n 2, 1) := by decide +kernel
theorem d_N_turnRound_31 : decode c_N_turnRound 31 = .ok (.iaload, 1) := by decide +kernel
theorem d_N_turnRound_32 : decode c_N_turnRound 32 = .ok (.iastore, 1) := by decide +kernel
theorem d_N_turnRound_33 : decode c_N_turnRound 33 = .ok (.aload_n 0, 1) := by decide +kernel
theorem d_N_turnRound_34 : decode c_N_turnRound 34 = .ok (.getfield 9, 3) := by decide +kernel
theorem d_N_turnRound_37 : decode c_N_turnRound 37 = .ok (.iload_n 2, 1) := by decide +kernel
theorem d_N_turnRound_38 : decode c_N_turnRound 38 = .ok (.iload_n 3, 1) := by decide +kernel
theorem d_N_turnRound_39 : decode c_N_turnRound 39 = .ok (.iastore, 1) := by decide +kernel
theorem d_N_turnRound_40 : decode c_N_turnRound 40 = .ok (.iinc 1 1, 3) := by decide +kernel
theorem d_N_turnRound_43 : decode c_N_turnRound 43 = .ok (.iinc 2 (-1), 3) := by decide +kernel
theorem d_N_turnRound_46 : decode c_N_turnRound 46 = .ok (.goto (-37), 3) := by decide +kernel
theorem d_N_turnRound_49 : decode c_N_turnRound 49 = .ok (.return_, 1) := by decide +kernel
