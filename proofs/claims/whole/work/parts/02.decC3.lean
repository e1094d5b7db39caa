theorem d_N_numberSlots_0 : decode c_N_numberSlots 0 = .ok (.aload_n 0, 1) := by decide +kernel
theorem d_N_numberSlots_1 : decode c_N_numberSlots 1 = .ok (.iconst 0, 1) := by decide +kernel
theorem d_N_numberSlots_2 : decode c_N_numberSlots 2 = .ok (.putfield 31, 3) := by decide +kernel
theorem d_N_numberSlots_5 : decode c_N_numberSlots 5 = .ok (.iconst 0, 1) := by decide +kernel
theorem d_N_numberSlots_6 : decode c_N_numberSlots 6 = .ok (.istore_n 2, 1) := by decide +kernel
theorem d_N_numberSlots_7 : decode c_N_numberSlots 7 = .ok (.iload_n 2, 1) := by decide +kernel
theorem d_N_numberSlots_8 : decode c_N_numberSlots 8 = .ok (.aload_n 0, 1) := by decide +kernel
theorem d_N_numberSlots_9 : decode c_N_numberSlots 9 = .ok (.getfield 15, 3) := by decide +kernel
theorem d_N_numberSlots_12 : decode c_N_numberSlots 12 = .ok (.if_icmp .ge 37, 3) := by decide +kernel
theorem d_N_numberSlots_15 : decode c_N_numberSlots 15 = .ok (.iconst 0, 1) := by decide +kernel
theorem d_N_numberSlots_16 : decode c_N_numberSlots 16 = .ok (.istore_n 3, 1) := by decide +kernel
theorem d_N_numberSlots_17 : decode c_N_numberSlots 17 = .ok (.iload_n 3, 1) := by decide +kernel
theorem d_N_numberSlots_18 : decode c_N_numberSlots 18 = .ok (.iconst 2, 1) := by decide +kernel
theorem d_N_numberSlots_19 : decode c_N_numberSlots 19 = .ok (.if_icmp .ge 24, 3) := by decide +kernel
theorem d_N_numberSlots_22 : decode c_N_numberSlots 22 = .ok (.aload_n 0, 1) := by decide +kernel
theorem d_N_numberSlots_23 : decode c_N_numberSlots 23 = .ok (.aload_n 0, 1) := by decide +kernel
theorem d_N_numberSlots_24 : decode c_N_numberSlots 24 = .ok (.getfield 9, 3) := by decide +kernel
theorem d_N_numberSlots_27 : decode c_N_numberSlots 27 = .ok (.iload_n 2, 1) := by decide +kernel
theorem d_N_numberSlots_28 : decode c_N_numberSlots 28 = .ok (.iaload, 1) := by decide +kernel
theorem d_N_numberSlots_29 : decode c_N_numberSlots 29 = .ok (.iload_n 3, 1) := by decide +kernel
theorem d_N_numberSlots_30 : decode c_N_numberSlots 30 = .ok (.invokestatic 87, 3) := by decide +kernel
theorem d_N_numberSlots_33 : decode c_N_numberSlots 33 = .ok (.aload_n 1, 1) := by decide +kernel
theorem d_N_numberSlots_34 : decode c_N_numberSlots 34 = .ok (.invokevirtual 91, 3) := by decide +kernel
theorem d_N_numberSlots_37 : decode c_N_numberSlots 37 = .ok (.iinc 3 1, 3) := by decide +kernel
theorem d_N_numberSlots_40 : decode c_N_numberSlots 40 = .ok (.goto (-23), 3) := by decide +kernel
theorem d_N_numberSlots_43 : decode c_N_numberSlots 43 = .ok (.iinc 2 1, 3) := by decide +kernel
theorem d_N_numberSlots_46 : decode c_N_numberSlots 46 = .ok (.goto (-39), 3) := by decide +kernel
theorem d_N_numberSlots_49 : decode c_N_numberSlots 49 = .ok (.return_, 1) := by decide +kernel
theorem d_N_numberSlot_0 : decode c_N_numberSlot 0 = .ok (.aload_n 2, 1) := by decide +kernel
theorem d_N_numberSlot_1 : decode c_N_numberSlot 1 = .ok (.getfield 95, 3) := by decide +kernel
theorem d_N_numberSlot_4 : decode c_N_numberSlot 4 = .ok (.iload_n 1, 1) := by decide +kernel
theorem d_N_numberSlot_5 : decode c_N_numberSlot 5 = .ok (.baload, 1) := by decide +kernel
theorem d_N_numberSlot_6 : decode c_N_numberSlot 6 = .ok (.ifCond .eq 12, 3) := by decide +kernel
theorem d_N_numberSlot_9 : decode c_N_numberSlot 9 = .ok (.aload_n 0, 1) := by decide +kernel
theorem d_N_numberSlot_10 : decode c_N_numberSlot 10 = .ok (.getfield 25, 3) := by decide +kernel
theorem d_N_numberSlot_13 : decode c_N_numberSlot 13 = .ok (.iload_n 1, 1) := by decide +kernel
theorem d_N_numberSlot_14 : decode c_N_numberSlot 14 = .ok (.bipush (-2), 2) := by decide +kernel
theorem d_N_numberSlot_16 : decode c_N_numberSlot 16 = .ok (.iastore, 1) := by decide +kernel
theorem d_N_numberSlot_17 : decode c_N_numberSlot 17 = .ok (.return_, 1) := by decide +kernel
theorem d_N_numberSlot_18 : decode c_N_numberSlot 18 = .ok (.aload_n 0, 1) := by decide +kernel
theorem d_N_numberSlot_19 : decode c_N_numberSlot 19 = .ok (.getfield 25, 3) := by decide +kernel
theorem d_N_numberSlot_22 : decode c_N_numberSlot 22 = .ok (.iload_n 1, 1) := by decide +kernel
theorem d_N_numberSlot_23 : decode c_N_numberSlot 23 = .ok (.aload_n 0, 1) := by decide +kernel
theorem d_N_numberSlot_24 : decode c_N_numberSlot 24 = .ok (.getfield 31, 3) := by decide +kernel
theorem d_N_numberSlot_27 : decode c_N_numberSlot 27 = .ok (.iastore, 1) := by decide +kernel
theorem d_N_numberSlot_28 : decode c_N_numberSlot 28 = .ok (.aload_n 0, 1) := by decide +kernel
theorem d_N_numberSlot_29 : decode c_N_numberSlot 29 = .ok (.getfield 28, 3) := by decide +kernel
theorem d_N_numberSlot_32 : decode c_N_numberSlot 32 = .ok (.aload_n 0, 1) := by decide +kernel
theorem d_N_numberSlot_33 : decode c_N_numberSlot 33 = .ok (.getfield 31, 3) := by decide +kernel
theorem d_N_numberSlot_36 : decode c_N_numberSlot 36 = .ok (.iload_n 1, 1) := by decide +kernel
theorem d_N_numberSlot_37 : decode c_N_numberSlot 37 = .ok (.iastore, 1) := by decide +kernel
theorem d_N_numberSlot_38 : decode c_N_numberSlot 38 = .ok (.aload_n 0, 1) := by decide +kernel
theorem d_N_numberSlot_39 : decode c_N_numberSlot 39 = .ok (.dup, 1) := by decide +kernel
theorem d_N_numberSlot_40 : decode c_N_numberSlot 40 = .ok (.getfield 31, 3) := by decide +kernel
theorem d_N_numberSlot_43 : decode c_N_numberSlot 43 = .ok (.iconst 1, 1) := by decide +kernel
theorem d_N_numberSlot_44 : decode c_N_numberSlot 44 = .ok (.iadd, 1) := by decide +kernel
theorem d_N_numberSlot_45 : decode c_N_numberSlot 45 = .ok (.putfield 31, 3) := by decide +kernel
theorem d_N_numberSlot_48 : decode c_N_numberSlot 48 = .ok (.return_, 1) := by decide +kernel
theorem d_E_make_0 : decode c_E_make 0 = .ok (.aload_n 0, 1) := by decide +kernel
theorem d_E_make_1 : decode c_E_make 1 = .ok (.aload_n 1, 1) := by decide +kernel
theorem d_E_make_2 : decode c_E_make 2 = .ok (.invokevirtual 36, 3) := by decide +kernel
theorem d_E_make_5 : decode c_E_make 5 = .ok (.aload_n 0, 1) := by decide +kernel
theorem d_E_make_6 : decode c_E_make 6 = .ok (.aload_n 2, 1) := by decide +kernel
theorem d_E_make_7 : decode c_E_make 7 = .ok (.getfield 40, 3) := by decide +kernel
theorem d_E_make_10 : decode c_E_make 10 = .ok (.putfield 19, 3) := by decide +kernel
theorem d_E_make_13 : decode c_E_make 13 = .ok (.iconst 0, 1) := by decide +kernel
theorem d_E_make_14 : decode c_E_make 14 = .ok (.istore_n 3, 1) := by decide +kernel
theorem d_E_make_15 : decode c_E_make 15 = .ok (.iload_n 3, 1) := by decide +kernel
theorem d_E_make_16 : decode c_E_make 16 = .ok (.aload_n 0, 1) := by decide +kernel
theorem d_E_make_17 : decode c_E_make 17 = .ok (.getfield 19, 3) := by decide +kernel
theorem d_E_make_20 : decode c_E_make 20 = .ok (.if_icmp .ge 55, 3) := by decide +kernel
theorem d_E_make_23 : decode c_E_make 23 = .ok (.iconst 0, 1) := by decide +kernel
theorem d_E_make_24 : decode c_E_make 24 = .ok (.istore 4, 2) := by decide +kernel
theorem d_E_make_26 : decode c_E_make 26 = .ok (.iload 4, 2) := by decide +kernel
theorem d_E_make_28 : decode c_E_make 28 = .ok (.aload_n 0, 1) := by decide +kernel
theorem d_E_make_29 : decode c_E_make 29 = .ok (.getfield 19, 3) := by decide +kernel
theorem d_E_make_32 : decode c_E_make 32 = .ok (.if_icmp .ge 37, 3) := by decide +kernel
theorem d_E_make_35 : decode c_E_make 35 = .ok (.aload_n 0, 1) := by decide +kernel
theorem d_E_make_36 : decode c_E_make 36 = .ok (.getfield 16, 3) := by decide +kernel
theorem d_E_make_39 : decode c_E_make 39 = .ok (.iload_n 3, 1) := by decide +kernel
theorem d_E_make_40 : decode c_E_make 40 = .ok (.aaload, 1) := by decide +kernel
theorem d_E_make_41 : decode c_E_make 41 = .ok (.iload 4, 2) := by decide +kernel
theorem d_E_make_43 : decode c_E_make 43 = .ok (.aload_n 0, 1) := by decide +kernel
theorem d_E_make_44 : decode c_E_make 44 = .ok (.getfield 11, 3) := by decide +kernel
theorem d_E_make_47 : decode c_E_make 47 = .ok (.aload_n 2, 1) := by decide +kernel
theorem d_E_make_48 : decode c_E_make 48 = .ok (.getfield 45, 3) := by decide +kernel
theorem d_E_make_51 : decode c_E_make 51 = .ok (.iload_n 3, 1) := by decide +kernel
theorem d_E_make_52 : decode c_E_make 52 = .ok (.iaload, 1) := by decide +kernel
theorem d_E_make_53 : decode c_E_make 53 = .ok (.aaload, 1) := by decide +kernel
theorem d_E_make_54 : decode c_E_make 54 = .ok (.aload_n 2, 1) := by decide +kernel
theorem d_E_make_55 : decode c_E_make 55 = .ok (.getfield 45, 3) := by decide +kernel
theorem d_E_make_58 : decode c_E_make 58 = .ok (.iload 4, 2) := by decide +kernel
theorem d_E_make_60 : decode c_E_make 60 = .ok (.iaload, 1) := by decide +kernel
theorem d_E_make_61 : decode c_E_make 61 = .ok (.laload, 1) := by decide +kernel
theorem d_E_make_62 : decode c_E_make 62 = .ok (.lastore, 1) := by decide +kernel
theorem d_E_make_63 : decode c_E_make 63 = .ok (.iinc 4 1, 3) := by decide +kernel
theorem d_E_make_66 : decode c_E_make 66 = .ok (.goto (-40), 3) := by decide +kernel
theorem d_E_make_69 : decode c_E_make 69 = .ok (.iinc 3 1, 3) := by decide +kernel
theorem d_E_make_72 : decode c_E_make 72 = .ok (.goto (-57), 3) := by decide +kernel
theorem d_E_make_75 : decode c_E_make 75 = .ok (.return_, 1) := by decide +kernel
theorem d_E_sumUpStiffness_0 : decode c_E_sumUpStiffness 0 = .ok (.iconst 0, 1) := by decide +kernel
theorem d_E_sumUpStiffness_1 : decode c_E_sumUpStiffness 1 = .ok (.istore_n 2, 1) := by decide +kernel
theorem d_E_sumUpStiffness_2 : decode c_E_sumUpStiffness 2 = .ok (.iload_n 2, 1) := by decide +kernel
theorem d_E_sumUpStiffness_3 : decode c_E_sumUpStiffness 3 = .ok (.bipush 10, 2) := by decide +kernel
theorem d_E_sumUpStiffness_5 : decode c_E_sumUpStiffness 5 = .ok (.if_icmp .ge 34, 3) := by decide +kernel
theorem d_E_sumUpStiffness_8 : decode c_E_sumUpStiffness 8 = .ok (.aload_n 0, 1) := by decide +kernel
theorem d_E_sumUpStiffness_9 : decode c_E_sumUpStiffness 9 = .ok (.getfield 11, 3) := by decide +kernel
theorem d_E_sumUpStiffness_12 : decode c_E_sumUpStiffness 12 = .ok (.iload_n 2, 1) := by decide +kernel
theorem d_E_sumUpStiffness_13 : decode c_E_sumUpStiffness 13 = .ok (.aaload, 1) := by decide +kernel
theorem d_E_sumUpStiffness_14 : decode c_E_sumUpStiffness 14 = .ok (.lconst 0, 1) := by decide +kernel
theorem d_E_sumUpStiffness_15 : decode c_E_sumUpStiffness 15 = .ok (.invokestatic 49, 3) := by decide +kernel
theorem d_E_sumUpStiffness_18 : decode c_E_sumUpStiffness 18 = .ok (.aload_n 0, 1) := by decide +kernel
theorem d_E_sumUpStiffness_19 : decode c_E_sumUpStiffness 19 = .ok (.getfield 11, 3) := by decide +kernel
theorem d_E_sumUpStiffness_22 : decode c_E_sumUpStiffness 22 = .ok (.iload_n 2, 1) := by decide +kernel
theorem d_E_sumUpStiffness_23 : decode c_E_sumUpStiffness 23 = .ok (.aaload, 1) := by decide +kernel
theorem d_E_sumUpStiffness_24 : decode c_E_sumUpStiffness 24 = .ok (.iload_n 2, 1) := by decide +kernel
theorem d_E_sumUpStiffness_25 : decode c_E_sumUpStiffness 25 = .ok (.aload_n 1, 1) := by decide +kernel
theorem d_E_sumUpStiffness_26 : decode c_E_sumUpStiffness 26 = .ok (.getfield 55, 3) := by decide +kernel
theorem d_E_sumUpStiffness_29 : decode c_E_sumUpStiffness 29 = .ok (.iload_n 2, 1) := by decide +kernel
theorem d_E_sumUpStiffness_30 : decode c_E_sumUpStiffness 30 = .ok (.iaload, 1) := by decide +kernel
theorem d_E_sumUpStiffness_31 : decode c_E_sumUpStiffness 31 = .ok (.i2l, 1) := by decide +kernel
theorem d_E_sumUpStiffness_32 : decode c_E_sumUpStiffness 32 = .ok (.lastore, 1) := by decide +kernel
theorem d_E_sumUpStiffness_33 : decode c_E_sumUpStiffness 33 = .ok (.iinc 2 1, 3) := by decide +kernel
theorem d_E_sumUpStiffness_36 : decode c_E_sumUpStiffness 36 = .ok (.goto (-34), 3) := by decide +kernel
theorem d_E_sumUpStiffness_39 : decode c_E_sumUpStiffness 39 = .ok (.iconst 0, 1) := by decide +kernel
theorem d_E_sumUpStiffness_40 : decode c_E_sumUpStiffness 40 = .ok (.istore_n 2, 1) := by decide +kernel
theorem d_E_sumUpStiffness_41 : decode c_E_sumUpStiffness 41 = .ok (.iload_n 2, 1) := by decide +kernel
theorem d_E_sumUpStiffness_42 : decode c_E_sumUpStiffness 42 = .ok (.aload_n 1, 1) := by decide +kernel
theorem d_E_sumUpStiffness_43 : decode c_E_sumUpStiffness 43 = .ok (.getfield 60, 3) := by decide +kernel
theorem d_E_sumUpStiffness_46 : decode c_E_sumUpStiffness 46 = .ok (.if_icmp .ge 15, 3) := by decide +kernel
theorem d_E_sumUpStiffness_49 : decode c_E_sumUpStiffness 49 = .ok (.aload_n 0, 1) := by decide +kernel
theorem d_E_sumUpStiffness_50 : decode c_E_sumUpStiffness 50 = .ok (.aload_n 1, 1) := by decide +kernel
theorem d_E_sumUpStiffness_51 : decode c_E_sumUpStiffness 51 = .ok (.iload_n 2, 1) := by decide +kernel
theorem d_E_sumUpStiffness_52 : decode c_E_sumUpStiffness 52 = .ok (.invokevirtual 63, 3) := by decide +kernel
theorem d_E_sumUpStiffness_55 : decode c_E_sumUpStiffness 55 = .ok (.iinc 2 1, 3) := by decide +kernel
theorem d_E_sumUpStiffness_58 : decode c_E_sumUpStiffness 58 = .ok (.goto (-17), 3) := by decide +kernel
theorem d_E_sumUpStiffness_61 : decode c_E_sumUpStiffness 61 = .ok (.return_, 1) := by decide +kernel
theorem d_J_fillL_0 : decode c_J_fillL 0 = .ok (.iconst 0, 1) := by decide +kernel
theorem d_J_fillL_1 : decode c_J_fillL 1 = .ok (.istore_n 3, 1) := by decide +kernel
theorem d_J_fillL_2 : decode c_J_fillL 2 = .ok (.aload_n 0, 1) := by decide +kernel
theorem d_J_fillL_3 : decode c_J_fillL 3 = .ok (.arraylength, 1) := by decide +kernel
theorem d_J_fillL_4 : decode c_J_fillL 4 = .ok (.istore 4, 2) := by decide +kernel
theorem d_J_fillL_6 : decode c_J_fillL 6 = .ok (.iload_n 3, 1) := by decide +kernel
theorem d_J_fillL_7 : decode c_J_fillL 7 = .ok (.iload 4, 2) := by decide +kernel
theorem d_J_fillL_9 : decode c_J_fillL 9 = .ok (.if_icmp .ge 13, 3) := by decide +kernel
theorem d_J_fillL_12 : decode c_J_fillL 12 = .ok (.aload_n 0, 1) := by decide +kernel
theorem d_J_fillL_13 : decode c_J_fillL 13 = .ok (.iload_n 3, 1) := by decide +kernel
theorem d_J_fillL_14 : decode c_J_fillL 14 = .ok (.lload_n 1, 1) := by decide +kernel
theorem d_J_fillL_15 : decode c_J_fillL 15 = .ok (.lastore, 1) := by decide +kernel
theorem d_J_fillL_16 : decode c_J_fillL 16 = .ok (.iinc 3 1, 3) := by decide +kernel
theorem d_J_fillL_19 : decode c_J_fillL 19 = .ok (.goto (-13), 3) := by decide +kernel
theorem d_J_fillL_22 : decode c_J_fillL 22 = .ok (.return_, 1) := by decide +kernel
theorem d_E_addStiffnessOfBar_0 : decode c_E_addStiffnessOfBar 0 = .ok (.iconst 0, 1) := by decide +kernel
theorem d_E_addStiffnessOfBar_1 : decode c_E_addStiffnessOfBar 1 = .ok (.istore_n 3, 1) := by decide +kernel
theorem d_E_addStiffnessOfBar_2 : decode c_E_addStiffnessOfBar 2 = .ok (.iload_n 3, 1) := by decide +kernel
theorem d_E_addStiffnessOfBar_3 : decode c_E_addStiffnessOfBar 3 = .ok (.bipush 10, 2) := by decide +kernel
theorem d_E_addStiffnessOfBar_5 : decode c_E_addStiffnessOfBar 5 = .ok (.if_icmp .ge 68, 3) := by decide +kernel
theorem d_E_addStiffnessOfBar_8 : decode c_E_addStiffnessOfBar 8 = .ok (.aload_n 1, 1) := by decide +kernel
theorem d_E_addStiffnessOfBar_9 : decode c_E_addStiffnessOfBar 9 = .ok (.getfield 67, 3) := by decide +kernel
theorem d_E_addStiffnessOfBar_12 : decode c_E_addStiffnessOfBar 12 = .ok (.iload_n 2, 1) := by decide +kernel
theorem d_E_addStiffnessOfBar_13 : decode c_E_addStiffnessOfBar 13 = .ok (.iaload, 1) := by decide +kernel
theorem d_E_addStiffnessOfBar_14 : decode c_E_addStiffnessOfBar 14 = .ok (.aload_n 1, 1) := by decide +kernel
theorem d_E_addStiffnessOfBar_15 : decode c_E_addStiffnessOfBar 15 = .ok (.iload_n 2, 1) := by decide +kernel
theorem d_E_addStiffnessOfBar_16 : decode c_E_addStiffnessOfBar 16 = .ok (.iload_n 3, 1) := by decide +kernel
theorem d_E_addStiffnessOfBar_17 : decode c_E_addStiffnessOfBar 17 = .ok (.invokevirtual 70, 3) := by decide +kernel
theorem d_E_addStiffnessOfBar_20 : decode c_E_addStiffnessOfBar 20 = .ok (.imul, 1) := by decide +kernel
theorem d_E_addStiffnessOfBar_21 : decode c_E_addStiffnessOfBar 21 = .ok (.istore 4, 2) := by decide +kernel
theorem d_E_addStiffnessOfBar_23 : decode c_E_addStiffnessOfBar 23 = .ok (.iload 4, 2) := by decide +kernel
theorem d_E_addStiffnessOfBar_25 : decode c_E_addStiffnessOfBar 25 = .ok (.ifCond .eq 42, 3) := by decide +kernel
theorem d_E_addStiffnessOfBar_28 : decode c_E_addStiffnessOfBar 28 = .ok (.iconst 0, 1) := by decide +kernel
theorem d_E_addStiffnessOfBar_29 : decode c_E_addStiffnessOfBar 29 = .ok (.istore 5, 2) := by decide +kernel
theorem d_E_addStiffnessOfBar_31 : decode c_E_addStiffnessOfBar 31 = .ok (.iload 5, 2) := by decide +kernel
theorem d_E_addStiffnessOfBar_33 : decode c_E_addStiffnessOfBar 33 = .ok (.bipush 10, 2) := by decide +kernel
theorem d_E_addStiffnessOfBar_35 : decode c_E_addStiffnessOfBar 35 = .ok (.if_icmp .ge 32, 3) := by decide +kernel
theorem d_E_addStiffnessOfBar_38 : decode c_E_addStiffnessOfBar 38 = .ok (.aload_n 0, 1) := by decide +kernel
theorem d_E_addStiffnessOfBar_39 : decode c_E_addStiffnessOfBar 39 = .ok (.getfield 11, 3) := by decide +kernel
theorem d_E_addStiffnessOfBar_42 : decode c_E_addStiffnessOfBar 42 = .ok (.iload_n 3, 1) := by decide +kernel
theorem d_E_addStiffnessOfBar_43 : decode c_E_addStiffnessOfBar 43 = .ok (.aaload, 1) := by decide +kernel
theorem d_E_addStiffnessOfBar_44 : decode c_E_addStiffnessOfBar 44 = .ok (.iload 5, 2) := by decide +kernel
theorem d_E_addStiffnessOfBar_46 : decode c_E_addStiffnessOfBar 46 = .ok (.dup2, 1) := by decide +kernel
theorem d_E_addStiffnessOfBar_47 : decode c_E_addStiffnessOfBar 47 = .ok (.laload, 1) := by decide +kernel
theorem d_E_addStiffnessOfBar_48 : decode c_E_addStiffnessOfBar 48 = .ok (.iload 4, 2) := by decide +kernel
theorem d_E_addStiffnessOfBar_50 : decode c_E_addStiffnessOfBar 50 = .ok (.aload_n 1, 1) := by decide +kernel
theorem d_E_addStiffnessOfBar_51 : decode c_E_addStiffnessOfBar 51 = .ok (.iload_n 2, 1) := by decide +kernel
theorem d_E_addStiffnessOfBar_52 : decode c_E_addStiffnessOfBar 52 = .ok (.iload 5, 2) := by decide +kernel
theorem d_E_addStiffnessOfBar_54 : decode c_E_addStiffnessOfBar 54 = .ok (.invokevirtual 70, 3) := by decide +kernel
theorem d_E_addStiffnessOfBar_57 : decode c_E_addStiffnessOfBar 57 = .ok (.imul, 1) := by decide +kernel
theorem d_E_addStiffnessOfBar_58 : decode c_E_addStiffnessOfBar 58 = .ok (.i2l, 1) := by decide +kernel
theorem d_E_addStiffnessOfBar_59 : decode c_E_addStiffnessOfBar 59 = .ok (.ladd, 1) := by decide +kernel
theorem d_E_addStiffnessOfBar_60 : decode c_E_addStiffnessOfBar 60 = .ok (.lastore, 1) := by decide +kernel
theorem d_E_addStiffnessOfBar_61 : decode c_E_addStiffnessOfBar 61 = .ok (.iinc 5 1, 3) := by decide +kernel
theorem d_E_addStiffnessOfBar_64 : decode c_E_addStiffnessOfBar 64 = .ok (.goto (-33), 3) := by decide +kernel
theorem d_E_addStiffnessOfBar_67 : decode c_E_addStiffnessOfBar 67 = .ok (.iinc 3 1, 3) := by decide +kernel
theorem d_E_addStiffnessOfBar_70 : decode c_E_addStiffnessOfBar 70 = .ok (.goto (-68), 3) := by decide +kernel
theorem d_E_addStiffnessOfBar_73 : decode c_E_addStiffnessOfBar 73 = .ok (.return_, 1) := by decide +kernel
theorem d_T_stretchBy_0 : decode c_T_stretchBy 0 = .ok (.iload_n 2, 1) := by decide +kernel
theorem d_T_stretchBy_1 : decode c_T_stretchBy 1 = .ok (.iconst 2, 1) := by decide +kernel
theorem d_T_stretchBy_2 : decode c_T_stretchBy 2 = .ok (.idiv, 1) := by decide +kernel
theorem d_T_stretchBy_3 : decode c_T_stretchBy 3 = .ok (.istore_n 3, 1) := by decide +kernel
theorem d_T_stretchBy_4 : decode c_T_stretchBy 4 = .ok (.aload_n 0, 1) := by decide +kernel
theorem d_T_stretchBy_5 : decode c_T_stretchBy 5 = .ok (.iload_n 1, 1) := by decide +kernel
theorem d_T_stretchBy_6 : decode c_T_stretchBy 6 = .ok (.iload_n 2, 1) := by decide +kernel
theorem d_T_stretchBy_7 : decode c_T_stretchBy 7 = .ok (.iconst 2, 1) := by decide +kernel
theorem d_T_stretchBy_8 : decode c_T_stretchBy 8 = .ok (.irem, 1) := by decide +kernel
theorem d_T_stretchBy_9 : decode c_T_stretchBy 9 = .ok (.invokevirtual 63, 3) := by decide +kernel
theorem d_T_stretchBy_12 : decode c_T_stretchBy 12 = .ok (.invokestatic 71, 3) := by decide +kernel
theorem d_T_stretchBy_15 : decode c_T_stretchBy 15 = .ok (.istore 4, 2) := by decide +kernel
theorem d_T_stretchBy_17 : decode c_T_stretchBy 17 = .ok (.iload_n 3, 1) := by decide +kernel
theorem d_T_stretchBy_18 : decode c_T_stretchBy 18 = .ok (.aload_n 0, 1) := by decide +kernel
theorem d_T_stretchBy_19 : decode c_T_stretchBy 19 = .ok (.getfield 22, 3) := by decide +kernel
theorem d_T_stretchBy_22 : decode c_T_stretchBy 22 = .ok (.iload_n 1, 1) := by decide +kernel
theorem d_T_stretchBy_23 : decode c_T_stretchBy 23 = .ok (.iaload, 1) := by decide +kernel
theorem d_T_stretchBy_24 : decode c_T_stretchBy 24 = .ok (.if_icmp .ne 6, 3) := by decide +kernel
theorem d_T_stretchBy_27 : decode c_T_stretchBy 27 = .ok (.iload 4, 2) := by decide +kernel
theorem d_T_stretchBy_29 : decode c_T_stretchBy 29 = .ok (.ireturn, 1) := by decide +kernel
theorem d_T_stretchBy_30 : decode c_T_stretchBy 30 = .ok (.iload_n 3, 1) := by decide +kernel
theorem d_T_stretchBy_31 : decode c_T_stretchBy 31 = .ok (.aload_n 0, 1) := by decide +kernel
theorem d_T_stretchBy_32 : decode c_T_stretchBy 32 = .ok (.getfield 19, 3) := by decide +kernel
theorem d_T_stretchBy_35 : decode c_T_stretchBy 35 = .ok (.iload_n 1, 1) := by decide +kernel
theorem d_T_stretchBy_36 : decode c_T_stretchBy 36 = .ok (.iaload, 1) := by decide +kernel
theorem d_T_stretchBy_37 : decode c_T_stretchBy 37 = .ok (.if_icmp .ne 9, 3) := by decide +kernel
theorem d_T_stretchBy_40 : decode c_T_stretchBy 40 = .ok (.iload 4, 2) := by decide +kernel
theorem d_T_stretchBy_42 : decode c_T_stretchBy 42 = .ok (.ineg, 1) := by decide +kernel
theorem d_T_stretchBy_43 : decode c_T_stretchBy 43 = .ok (.goto 4, 3) := by decide +kernel
theorem d_T_stretchBy_46 : decode c_T_stretchBy 46 = .ok (.iconst 0, 1) := by decide +kernel
theorem d_T_stretchBy_47 : decode c_T_stretchBy 47 = .ok (.ireturn, 1) := by decide +kernel
theorem d_T_signOf_0 : decode c_T_signOf 0 = .ok (.iload_n 0, 1) := by decide +kernel
theorem d_T_signOf_1 : decode c_T_signOf 1 = .ok (.ifCond .ne 5, 3) := by decide +kernel
theorem d_T_signOf_4 : decode c_T_signOf 4 = .ok (.iconst 0, 1) := by decide +kernel
theorem d_T_signOf_5 : decode c_T_signOf 5 = .ok (.ireturn, 1) := by decide +kernel
theorem d_T_signOf_6 : decode c_T_signOf 6 = .ok (.iload_n 0, 1) := by decide +kernel
theorem d_T_signOf_7 : decode c_T_signOf 7 = .ok (.ifCond .le 7, 3) := by decide +kernel
theorem d_T_signOf_10 : decode c_T_signOf 10 = .ok (.iconst 1, 1) := by decide +kernel
theorem d_T_signOf_11 : decode c_T_signOf 11 = .ok (.goto 4, 3) := by decide +kernel
theorem d_T_signOf_14 : decode c_T_signOf 14 = .ok (.iconst (-1), 1) := by decide +kernel
theorem d_T_signOf_15 : decode c_T_signOf 15 = .ok (.ireturn, 1) := by decide +kernel
theorem d_E_findWeakUnknown_0 : decode c_E_findWeakUnknown 0 = .ok (.aload_n 0, 1) := by decide +kernel
theorem d_E_findWeakUnknown_1 : decode c_E_findWeakUnknown 1 = .ok (.getfield 23, 3) := by decide +kernel
theorem d_E_findWeakUnknown_4 : decode c_E_findWeakUnknown 4 = .ok (.iconst 0, 1) := by decide +kernel
theorem d_E_findWeakUnknown_5 : decode c_E_findWeakUnknown 5 = .ok (.lconst 1, 1) := by decide +kernel
theorem d_E_findWeakUnknown_6 : decode c_E_findWeakUnknown 6 = .ok (.lastore, 1) := by decide +kernel
theorem d_E_findWeakUnknown_7 : decode c_E_findWeakUnknown 7 = .ok (.iconst 0, 1) := by decide +kernel
theorem d_E_findWeakUnknown_8 : decode c_E_findWeakUnknown 8 = .ok (.istore_n 1, 1) := by decide +kernel
theorem d_E_findWeakUnknown_9 : decode c_E_findWeakUnknown 9 = .ok (.iload_n 1, 1) := by decide +kernel
theorem d_E_findWeakUnknown_10 : decode c_E_findWeakUnknown 10 = .ok (.aload_n 0, 1) := by decide +kernel
theorem d_E_findWeakUnknown_11 : decode c_E_findWeakUnknown 11 = .ok (.getfield 19, 3) := by decide +kernel
theorem d_E_findWeakUnknown_14 : decode c_E_findWeakUnknown 14 = .ok (.if_icmp .ge 29, 3) := by decide +kernel
theorem d_E_findWeakUnknown_17 : decode c_E_findWeakUnknown 17 = .ok (.aload_n 0, 1) := by decide +kernel
theorem d_E_findWeakUnknown_18 : decode c_E_findWeakUnknown 18 = .ok (.iload_n 1, 1) := by decide +kernel
theorem d_E_findWeakUnknown_19 : decode c_E_findWeakUnknown 19 = .ok (.invokevirtual 74, 3) := by decide +kernel
theorem d_E_findWeakUnknown_22 : decode c_E_findWeakUnknown 22 = .ok (.aload_n 0, 1) := by decide +kernel
theorem d_E_findWeakUnknown_23 : decode c_E_findWeakUnknown 23 = .ok (.getfield 23, 3) := by decide +kernel
theorem d_E_findWeakUnknown_26 : decode c_E_findWeakUnknown 26 = .ok (.iload_n 1, 1) := by decide +kernel
theorem d_E_findWeakUnknown_27 : decode c_E_findWeakUnknown 27 = .ok (.iconst 1, 1) := by decide +kernel
theorem d_E_findWeakUnknown_28 : decode c_E_findWeakUnknown 28 = .ok (.iadd, 1) := by decide +kernel
theorem d_E_findWeakUnknown_29 : decode c_E_findWeakUnknown 29 = .ok (.laload, 1) := by decide +kernel
theorem d_E_findWeakUnknown_30 : decode c_E_findWeakUnknown 30 = .ok (.lconst 0, 1) := by decide +kernel
theorem d_E_findWeakUnknown_31 : decode c_E_findWeakUnknown 31 = .ok (.lcmp, 1) := by decide +kernel
theorem d_E_findWeakUnknown_32 : decode c_E_findWeakUnknown 32 = .ok (.ifCond .ne 5, 3) := by decide +kernel
theorem d_E_findWeakUnknown_35 : decode c_E_findWeakUnknown 35 = .ok (.iload_n 1, 1) := by decide +kernel
theorem d_E_findWeakUnknown_36 : decode c_E_findWeakUnknown 36 = .ok (.ireturn, 1) := by decide +kernel
theorem d_E_findWeakUnknown_37 : decode c_E_findWeakUnknown 37 = .ok (.iinc 1 1, 3) := by decide +kernel
theorem d_E_findWeakUnknown_40 : decode c_E_findWeakUnknown 40 = .ok (.goto (-31), 3) := by decide +kernel
theorem d_E_findWeakUnknown_43 : decode c_E_findWeakUnknown 43 = .ok (.iconst (-1), 1) := by decide +kernel
theorem d_E_findWeakUnknown_44 : decode c_E_findWeakUnknown 44 = .ok (.ireturn, 1) := by decide +kernel
theorem d_E_growPolynomial_0 : decode c_E_growPolynomial 0 = .ok (.aload_n 0, 1) := by decide +kernel
theorem d_E_growPolynomial_1 : decode c_E_growPolynomial 1 = .ok (.iload_n 1, 1) := by decide +kernel
theorem d_E_growPolynomial_2 : decode c_E_growPolynomial 2 = .ok (.invokevirtual 78, 3) := by decide +kernel
theorem d_E_growPolynomial_5 : decode c_E_growPolynomial 5 = .ok (.aload_n 0, 1) := by decide +kernel
theorem d_E_growPolynomial_6 : decode c_E_growPolynomial 6 = .ok (.getfield 23, 3) := by decide +kernel
theorem d_E_growPolynomial_9 : decode c_E_growPolynomial 9 = .ok (.iload_n 1, 1) := by decide +kernel
theorem d_E_growPolynomial_10 : decode c_E_growPolynomial 10 = .ok (.iconst 1, 1) := by decide +kernel
theorem d_E_growPolynomial_11 : decode c_E_growPolynomial 11 = .ok (.iadd, 1) := by decide +kernel
theorem d_E_growPolynomial_12 : decode c_E_growPolynomial 12 = .ok (.lconst 0, 1) := by decide +kernel
theorem d_E_growPolynomial_13 : decode c_E_growPolynomial 13 = .ok (.lastore, 1) := by decide +kernel
theorem d_E_growPolynomial_14 : decode c_E_growPolynomial 14 = .ok (.iload_n 1, 1) := by decide +kernel
theorem d_E_growPolynomial_15 : decode c_E_growPolynomial 15 = .ok (.iconst 1, 1) := by decide +kernel
theorem d_E_growPolynomial_16 : decode c_E_growPolynomial 16 = .ok (.iadd, 1) := by decide +kernel
theorem d_E_growPolynomial_17 : decode c_E_growPolynomial 17 = .ok (.istore_n 2, 1) := by decide +kernel
theorem d_E_growPolynomial_18 : decode c_E_growPolynomial 18 = .ok (.iload_n 2, 1) := by decide +kernel
theorem d_E_growPolynomial_19 : decode c_E_growPolynomial 19 = .ok (.ifCond .lt 53, 3) := by decide +kernel
theorem d_E_growPolynomial_22 : decode c_E_growPolynomial 22 = .ok (.lconst 0, 1) := by decide +kernel
theorem d_E_growPolynomial_23 : decode c_E_growPolynomial 23 = .ok (.lstore_n 3, 1) := by decide +kernel
theorem d_E_growPolynomial_24 : decode c_E_growPolynomial 24 = .ok (.iconst 0, 1) := by decide +kernel
theorem d_E_growPolynomial_25 : decode c_E_growPolynomial 25 = .ok (.istore 5, 2) := by decide +kernel
theorem d_E_growPolynomial_27 : decode c_E_growPolynomial 27 = .ok (.iload 5, 2) := by decide +kernel
theorem d_E_growPolynomial_29 : decode c_E_growPolynomial 29 = .ok (.iload_n 2, 1) := by decide +kernel
theorem d_E_growPolynomial_30 : decode c_E_growPolynomial 30 = .ok (.if_icmp .gt 29, 3) := by decide +kernel
theorem d_E_growPolynomial_33 : decode c_E_growPolynomial 33 = .ok (.lload_n 3, 1) := by decide +kernel
theorem d_E_growPolynomial_34 : decode c_E_growPolynomial 34 = .ok (.aload_n 0, 1) := by decide +kernel
theorem d_E_growPolynomial_35 : decode c_E_growPolynomial 35 = .ok (.getfield 27, 3) := by decide +kernel
theorem d_E_growPolynomial_38 : decode c_E_growPolynomial 38 = .ok (.iload 5, 2) := by decide +kernel
theorem d_E_growPolynomial_40 : decode c_E_growPolynomial 40 = .ok (.laload, 1) := by decide +kernel
theorem d_E_growPolynomial_41 : decode c_E_growPolynomial 41 = .ok (.aload_n 0, 1) := by decide +kernel
theorem d_E_growPolynomial_42 : decode c_E_growPolynomial 42 = .ok (.getfield 23, 3) := by decide +kernel
theorem d_E_growPolynomial_45 : decode c_E_growPolynomial 45 = .ok (.iload_n 2, 1) := by decide +kernel
theorem d_E_growPolynomial_46 : decode c_E_growPolynomial 46 = .ok (.iload 5, 2) := by decide +kernel
theorem d_E_growPolynomial_48 : decode c_E_growPolynomial 48 = .ok (.isub, 1) := by decide +kernel
theorem d_E_growPolynomial_49 : decode c_E_growPolynomial 49 = .ok (.laload, 1) := by decide +kernel
theorem d_E_growPolynomial_50 : decode c_E_growPolynomial 50 = .ok (.lmul, 1) := by decide +kernel
theorem d_E_growPolynomial_51 : decode c_E_growPolynomial 51 = .ok (.ladd, 1) := by decide +kernel
theorem d_E_growPolynomial_52 : decode c_E_growPolynomial 52 = .ok (.lstore_n 3, 1) := by decide +kernel
theorem d_E_growPolynomial_53 : decode c_E_growPolynomial 53 = .ok (.iinc 5 1, 3) := by decide +kernel
theorem d_E_growPolynomial_56 : decode c_E_growPolynomial 56 = .ok (.goto (-29), 3) := by decide +kernel
theorem d_E_growPolynomial_59 : decode c_E_growPolynomial 59 = .ok (.aload_n 0, 1) := by decide +kernel
theorem d_E_growPolynomial_60 : decode c_E_growPolynomial 60 = .ok (.getfield 23, 3) := by decide +kernel
theorem d_E_growPolynomial_63 : decode c_E_growPolynomial 63 = .ok (.iload_n 2, 1) := by decide +kernel
theorem d_E_growPolynomial_64 : decode c_E_growPolynomial 64 = .ok (.lload_n 3, 1) := by decide +kernel
theorem d_E_growPolynomial_65 : decode c_E_growPolynomial 65 = .ok (.lastore, 1) := by decide +kernel
theorem d_E_growPolynomial_66 : decode c_E_growPolynomial 66 = .ok (.iinc 2 (-1), 3) := by decide +kernel
theorem d_E_growPolynomial_69 : decode c_E_growPolynomial 69 = .ok (.goto (-51), 3) := by decide +kernel
theorem d_E_growPolynomial_72 : decode c_E_growPolynomial 72 = .ok (.return_, 1) := by decide +kernel
theorem d_E_findGrowth_0 : decode c_E_findGrowth 0 = .ok (.aload_n 0, 1) := by decide +kernel
theorem d_E_findGrowth_1 : decode c_E_findGrowth 1 = .ok (.getfield 27, 3) := by decide +kernel
theorem d_E_findGrowth_4 : decode c_E_findGrowth 4 = .ok (.iconst 0, 1) := by decide +kernel
theorem d_E_findGrowth_5 : decode c_E_findGrowth 5 = .ok (.lconst 1, 1) := by decide +kernel
theorem d_E_findGrowth_6 : decode c_E_findGrowth 6 = .ok (.lastore, 1) := by decide +kernel
theorem d_E_findGrowth_7 : decode c_E_findGrowth 7 = .ok (.aload_n 0, 1) := by decide +kernel
theorem d_E_findGrowth_8 : decode c_E_findGrowth 8 = .ok (.getfield 27, 3) := by decide +kernel
theorem d_E_findGrowth_11 : decode c_E_findGrowth 11 = .ok (.iconst 1, 1) := by decide +kernel
theorem d_E_findGrowth_12 : decode c_E_findGrowth 12 = .ok (.aload_n 0, 1) := by decide +kernel
theorem d_E_findGrowth_13 : decode c_E_findGrowth 13 = .ok (.getfield 16, 3) := by decide +kernel
theorem d_E_findGrowth_16 : decode c_E_findGrowth 16 = .ok (.iload_n 1, 1) := by decide +kernel
theorem d_E_findGrowth_17 : decode c_E_findGrowth 17 = .ok (.aaload, 1) := by decide +kernel
theorem d_E_findGrowth_18 : decode c_E_findGrowth 18 = .ok (.iload_n 1, 1) := by decide +kernel
theorem d_E_findGrowth_19 : decode c_E_findGrowth 19 = .ok (.laload, 1) := by decide +kernel
theorem d_E_findGrowth_20 : decode c_E_findGrowth 20 = .ok (.lneg, 1) := by decide +kernel
theorem d_E_findGrowth_21 : decode c_E_findGrowth 21 = .ok (.lastore, 1) := by decide +kernel
theorem d_E_findGrowth_22 : decode c_E_findGrowth 22 = .ok (.iconst 0, 1) := by decide +kernel
theorem d_E_findGrowth_23 : decode c_E_findGrowth 23 = .ok (.istore_n 2, 1) := by decide +kernel
theorem d_E_findGrowth_24 : decode c_E_findGrowth 24 = .ok (.iload_n 2, 1) := by decide +kernel
theorem d_E_findGrowth_25 : decode c_E_findGrowth 25 = .ok (.iload_n 1, 1) := by decide +kernel
theorem d_E_findGrowth_26 : decode c_E_findGrowth 26 = .ok (.if_icmp .ge 23, 3) := by decide +kernel
theorem d_E_findGrowth_29 : decode c_E_findGrowth 29 = .ok (.aload_n 0, 1) := by decide +kernel
theorem d_E_findGrowth_30 : decode c_E_findGrowth 30 = .ok (.getfield 30, 3) := by decide +kernel
theorem d_E_findGrowth_33 : decode c_E_findGrowth 33 = .ok (.iload_n 2, 1) := by decide +kernel
theorem d_E_findGrowth_34 : decode c_E_findGrowth 34 = .ok (.aload_n 0, 1) := by decide +kernel
theorem d_E_findGrowth_35 : decode c_E_findGrowth 35 = .ok (.getfield 16, 3) := by decide +kernel
theorem d_E_findGrowth_38 : decode c_E_findGrowth 38 = .ok (.iload_n 2, 1) := by decide +kernel
theorem d_E_findGrowth_39 : decode c_E_findGrowth 39 = .ok (.aaload, 1) := by decide +kernel
theorem d_E_findGrowth_40 : decode c_E_findGrowth 40 = .ok (.iload_n 1, 1) := by decide +kernel
theorem d_E_findGrowth_41 : decode c_E_findGrowth 41 = .ok (.laload, 1) := by decide +kernel
theorem d_E_findGrowth_42 : decode c_E_findGrowth 42 = .ok (.lastore, 1) := by decide +kernel
theorem d_E_findGrowth_43 : decode c_E_findGrowth 43 = .ok (.iinc 2 1, 3) := by decide +kernel
theorem d_E_findGrowth_46 : decode c_E_findGrowth 46 = .ok (.goto (-22), 3) := by decide +kernel
theorem d_E_findGrowth_49 : decode c_E_findGrowth 49 = .ok (.iconst 2, 1) := by decide +kernel
theorem d_E_findGrowth_50 : decode c_E_findGrowth 50 = .ok (.istore_n 2, 1) := by decide +kernel
theorem d_E_findGrowth_51 : decode c_E_findGrowth 51 = .ok (.iload_n 2, 1) := by decide +kernel
theorem d_E_findGrowth_52 : decode c_E_findGrowth 52 = .ok (.iload_n 1, 1) := by decide +kernel
theorem d_E_findGrowth_53 : decode c_E_findGrowth 53 = .ok (.iconst 1, 1) := by decide +kernel
theorem d_E_findGrowth_54 : decode c_E_findGrowth 54 = .ok (.iadd, 1) := by decide +kernel
theorem d_E_findGrowth_55 : decode c_E_findGrowth 55 = .ok (.if_icmp .gt 35, 3) := by decide +kernel
theorem d_E_findGrowth_58 : decode c_E_findGrowth 58 = .ok (.aload_n 0, 1) := by decide +kernel
theorem d_E_findGrowth_59 : decode c_E_findGrowth 59 = .ok (.getfield 27, 3) := by decide +kernel
theorem d_E_findGrowth_62 : decode c_E_findGrowth 62 = .ok (.iload_n 2, 1) := by decide +kernel
theorem d_E_findGrowth_63 : decode c_E_findGrowth 63 = .ok (.aload_n 0, 1) := by decide +kernel
theorem d_E_findGrowth_64 : decode c_E_findGrowth 64 = .ok (.iload_n 1, 1) := by decide +kernel
theorem d_E_findGrowth_65 : decode c_E_findGrowth 65 = .ok (.aload_n 0, 1) := by decide +kernel
theorem d_E_findGrowth_66 : decode c_E_findGrowth 66 = .ok (.getfield 30, 3) := by decide +kernel
theorem d_E_findGrowth_69 : decode c_E_findGrowth 69 = .ok (.iload_n 1, 1) := by decide +kernel
theorem d_E_findGrowth_70 : decode c_E_findGrowth 70 = .ok (.invokevirtual 81, 3) := by decide +kernel
theorem d_E_findGrowth_73 : decode c_E_findGrowth 73 = .ok (.lneg, 1) := by decide +kernel
theorem d_E_findGrowth_74 : decode c_E_findGrowth 74 = .ok (.lastore, 1) := by decide +kernel
theorem d_E_findGrowth_75 : decode c_E_findGrowth 75 = .ok (.aload_n 0, 1) := by decide +kernel
theorem d_E_findGrowth_76 : decode c_E_findGrowth 76 = .ok (.aload_n 0, 1) := by decide +kernel
theorem d_E_findGrowth_77 : decode c_E_findGrowth 77 = .ok (.getfield 30, 3) := by decide +kernel
theorem d_E_findGrowth_80 : decode c_E_findGrowth 80 = .ok (.iload_n 1, 1) := by decide +kernel
theorem d_E_findGrowth_81 : decode c_E_findGrowth 81 = .ok (.invokevirtual 85, 3) := by decide +kernel
theorem d_E_findGrowth_84 : decode c_E_findGrowth 84 = .ok (.iinc 2 1, 3) := by decide +kernel
theorem d_E_findGrowth_87 : decode c_E_findGrowth 87 = .ok (.goto (-36), 3) := by decide +kernel
theorem d_E_findGrowth_90 : decode c_E_findGrowth 90 = .ok (.return_, 1) := by decide +kernel
theorem d_E_rowTimes_0 : decode c_E_rowTimes 0 = .ok (.lconst 0, 1) := by decide +kernel
theorem d_E_rowTimes_1 : decode c_E_rowTimes 1 = .ok (.lstore 4, 2) := by decide +kernel
theorem d_E_rowTimes_3 : decode c_E_rowTimes 3 = .ok (.iconst 0, 1) := by decide +kernel
theorem d_E_rowTimes_4 : decode c_E_rowTimes 4 = .ok (.istore 6, 2) := by decide +kernel
theorem d_E_rowTimes_6 : decode c_E_rowTimes 6 = .ok (.iload 6, 2) := by decide +kernel
theorem d_E_rowTimes_8 : decode c_E_rowTimes 8 = .ok (.iload_n 3, 1) := by decide +kernel
theorem d_E_rowTimes_9 : decode c_E_rowTimes 9 = .ok (.if_icmp .ge 28, 3) := by decide +kernel
theorem d_E_rowTimes_12 : decode c_E_rowTimes 12 = .ok (.lload 4, 2) := by decide +kernel
theorem d_E_rowTimes_14 : decode c_E_rowTimes 14 = .ok (.aload_n 0, 1) := by decide +kernel
theorem d_E_rowTimes_15 : decode c_E_rowTimes 15 = .ok (.getfield 16, 3) := by decide +kernel
theorem d_E_rowTimes_18 : decode c_E_rowTimes 18 = .ok (.iload_n 1, 1) := by decide +kernel
theorem d_E_rowTimes_19 : decode c_E_rowTimes 19 = .ok (.aaload, 1) := by decide +kernel
theorem d_E_rowTimes_20 : decode c_E_rowTimes 20 = .ok (.iload 6, 2) := by decide +kernel
theorem d_E_rowTimes_22 : decode c_E_rowTimes 22 = .ok (.laload, 1) := by decide +kernel
theorem d_E_rowTimes_23 : decode c_E_rowTimes 23 = .ok (.aload_n 2, 1) := by decide +kernel
theorem d_E_rowTimes_24 : decode c_E_rowTimes 24 = .ok (.iload 6, 2) := by decide +kernel
theorem d_E_rowTimes_26 : decode c_E_rowTimes 26 = .ok (.laload, 1) := by decide +kernel
theorem d_E_rowTimes_27 : decode c_E_rowTimes 27 = .ok (.lmul, 1) := by decide +kernel
theorem d_E_rowTimes_28 : decode c_E_rowTimes 28 = .ok (.ladd, 1) := by decide +kernel
theorem d_E_rowTimes_29 : decode c_E_rowTimes 29 = .ok (.lstore 4, 2) := by decide +kernel
theorem d_E_rowTimes_31 : decode c_E_rowTimes 31 = .ok (.iinc 6 1, 3) := by decide +kernel
theorem d_E_rowTimes_34 : decode c_E_rowTimes 34 = .ok (.goto (-28), 3) := by decide +kernel
theorem d_E_rowTimes_37 : decode c_E_rowTimes 37 = .ok (.lload 4, 2) := by decide +kernel
theorem d_E_rowTimes_39 : decode c_E_rowTimes 39 = .ok (.lreturn, 1) := by decide +kernel
theorem d_E_multiply_0 : decode c_E_multiply 0 = .ok (.iconst 0, 1) := by decide +kernel
theorem d_E_multiply_1 : decode c_E_multiply 1 = .ok (.istore_n 3, 1) := by decide +kernel
theorem d_E_multiply_2 : decode c_E_multiply 2 = .ok (.iload_n 3, 1) := by decide +kernel
theorem d_E_multiply_3 : decode c_E_multiply 3 = .ok (.iload_n 2, 1) := by decide +kernel
theorem d_E_multiply_4 : decode c_E_multiply 4 = .ok (.if_icmp .ge 22, 3) := by decide +kernel
theorem d_E_multiply_7 : decode c_E_multiply 7 = .ok (.aload_n 0, 1) := by decide +kernel
theorem d_E_multiply_8 : decode c_E_multiply 8 = .ok (.getfield 33, 3) := by decide +kernel
theorem d_E_multiply_11 : decode c_E_multiply 11 = .ok (.iload_n 3, 1) := by decide +kernel
theorem d_E_multiply_12 : decode c_E_multiply 12 = .ok (.aload_n 0, 1) := by decide +kernel
theorem d_E_multiply_13 : decode c_E_multiply 13 = .ok (.iload_n 3, 1) := by decide +kernel
theorem d_E_multiply_14 : decode c_E_multiply 14 = .ok (.aload_n 1, 1) := by decide +kernel
theorem d_E_multiply_15 : decode c_E_multiply 15 = .ok (.iload_n 2, 1) := by decide +kernel
theorem d_E_multiply_16 : decode c_E_multiply 16 = .ok (.invokevirtual 81, 3) := by decide +kernel
theorem d_E_multiply_19 : decode c_E_multiply 19 = .ok (.lastore, 1) := by decide +kernel
theorem d_E_multiply_20 : decode c_E_multiply 20 = .ok (.iinc 3 1, 3) := by decide +kernel
theorem d_E_multiply_23 : decode c_E_multiply 23 = .ok (.goto (-21), 3) := by decide +kernel
theorem d_E_multiply_26 : decode c_E_multiply 26 = .ok (.aload_n 0, 1) := by decide +kernel
theorem d_E_multiply_27 : decode c_E_multiply 27 = .ok (.getfield 33, 3) := by decide +kernel
theorem d_E_multiply_30 : decode c_E_multiply 30 = .ok (.iconst 0, 1) := by decide +kernel
theorem d_E_multiply_31 : decode c_E_multiply 31 = .ok (.aload_n 1, 1) := by decide +kernel
theorem d_E_multiply_32 : decode c_E_multiply 32 = .ok (.iconst 0, 1) := by decide +kernel
theorem d_E_multiply_33 : decode c_E_multiply 33 = .ok (.iload_n 2, 1) := by decide +kernel
theorem d_E_multiply_34 : decode c_E_multiply 34 = .ok (.invokestatic 89, 3) := by decide +kernel
theorem d_E_multiply_37 : decode c_E_multiply 37 = .ok (.return_, 1) := by decide +kernel
theorem d_S_open_0 : decode c_S_open 0 = .ok (.aload_n 0, 1) := by decide +kernel
theorem d_S_open_1 : decode c_S_open 1 = .ok (.getfield 37, 3) := by decide +kernel
theorem d_S_open_4 : decode c_S_open 4 = .ok (.ifCond .ne 5, 3) := by decide +kernel
theorem d_S_open_7 : decode c_S_open 7 = .ok (.iconst (-1), 1) := by decide +kernel
theorem d_S_open_8 : decode c_S_open 8 = .ok (.ireturn, 1) := by decide +kernel
theorem d_S_open_9 : decode c_S_open 9 = .ok (.aload_n 0, 1) := by decide +kernel
theorem d_S_open_10 : decode c_S_open 10 = .ok (.iconst 0, 1) := by decide +kernel
theorem d_S_open_11 : decode c_S_open 11 = .ok (.putfield 37, 3) := by decide +kernel
theorem d_S_open_14 : decode c_S_open 14 = .ok (.iconst 0, 1) := by decide +kernel
theorem d_S_open_15 : decode c_S_open 15 = .ok (.ireturn, 1) := by decide +kernel
theorem d_S_displacement_0 : decode c_S_displacement 0 = .ok (.iload_n 1, 1) := by decide +kernel
theorem d_S_displacement_1 : decode c_S_displacement 1 = .ok (.invokestatic 89, 3) := by decide +kernel
theorem d_S_displacement_4 : decode c_S_displacement 4 = .ok (.ifCond .eq 14, 3) := by decide +kernel
theorem d_S_displacement_7 : decode c_S_displacement 7 = .ok (.aload_n 0, 1) := by decide +kernel
theorem d_S_displacement_8 : decode c_S_displacement 8 = .ok (.iload_n 2, 1) := by decide +kernel
theorem d_S_displacement_9 : decode c_S_displacement 9 = .ok (.iload_n 3, 1) := by decide +kernel
theorem d_S_displacement_10 : decode c_S_displacement 10 = .ok (.iload 4, 2) := by decide +kernel
theorem d_S_displacement_12 : decode c_S_displacement 12 = .ok (.invokevirtual 116, 3) := by decide +kernel
theorem d_S_displacement_15 : decode c_S_displacement 15 = .ok (.ifCond .ne 7, 3) := by decide +kernel
theorem d_S_displacement_18 : decode c_S_displacement 18 = .ok (.ldc2_w 119, 3) := by decide +kernel
theorem d_S_displacement_21 : decode c_S_displacement 21 = .ok (.lreturn, 1) := by decide +kernel
theorem d_S_displacement_22 : decode c_S_displacement 22 = .ok (.aload_n 0, 1) := by decide +kernel
theorem d_S_displacement_23 : decode c_S_displacement 23 = .ok (.getfield 33, 3) := by decide +kernel
theorem d_S_displacement_26 : decode c_S_displacement 26 = .ok (.iload_n 1, 1) := by decide +kernel
theorem d_S_displacement_27 : decode c_S_displacement 27 = .ok (.invokevirtual 121, 3) := by decide +kernel
theorem d_S_displacement_30 : decode c_S_displacement 30 = .ok (.aload_n 0, 1) := by decide +kernel
theorem d_S_displacement_31 : decode c_S_displacement 31 = .ok (.getfield 33, 3) := by decide +kernel
theorem d_S_displacement_34 : decode c_S_displacement 34 = .ok (.aload_n 0, 1) := by decide +kernel
theorem d_S_displacement_35 : decode c_S_displacement 35 = .ok (.getfield 12, 3) := by decide +kernel
theorem d_S_displacement_38 : decode c_S_displacement 38 = .ok (.aload_n 0, 1) := by decide +kernel
theorem d_S_displacement_39 : decode c_S_displacement 39 = .ok (.getfield 19, 3) := by decide +kernel
theorem d_S_displacement_42 : decode c_S_displacement 42 = .ok (.aload_n 0, 1) := by decide +kernel
theorem d_S_displacement_43 : decode c_S_displacement 43 = .ok (.getfield 26, 3) := by decide +kernel
theorem d_S_displacement_46 : decode c_S_displacement 46 = .ok (.invokevirtual 124, 3) := by decide +kernel
theorem d_S_displacement_49 : decode c_S_displacement 49 = .ok (.aload_n 0, 1) := by decide +kernel
theorem d_S_displacement_50 : decode c_S_displacement 50 = .ok (.aload_n 0, 1) := by decide +kernel
theorem d_S_displacement_51 : decode c_S_displacement 51 = .ok (.getfield 33, 3) := by decide +kernel
theorem d_S_displacement_54 : decode c_S_displacement 54 = .ok (.getfield 128, 3) := by decide +kernel
theorem d_S_displacement_57 : decode c_S_displacement 57 = .ok (.iload_n 2, 1) := by decide +kernel
theorem d_S_displacement_58 : decode c_S_displacement 58 = .ok (.iload_n 3, 1) := by decide +kernel
theorem d_S_displacement_59 : decode c_S_displacement 59 = .ok (.invokestatic 74, 3) := by decide +kernel
theorem d_S_displacement_62 : decode c_S_displacement 62 = .ok (.laload, 1) := by decide +kernel
theorem d_S_displacement_63 : decode c_S_displacement 63 = .ok (.iload 4, 2) := by decide +kernel
theorem d_S_displacement_65 : decode c_S_displacement 65 = .ok (.invokevirtual 132, 3) := by decide +kernel
theorem d_S_displacement_68 : decode c_S_displacement 68 = .ok (.lreturn, 1) := by decide +kernel
