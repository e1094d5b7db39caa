theorem d_S_isAnswerable_0 : decode c_S_isAnswerable 0 = .ok (.aload_n 0, 1) := by decide +kernel
theorem d_S_isAnswerable_1 : decode c_S_isAnswerable 1 = .ok (.getfield 37, 3) := by decide +kernel
theorem d_S_isAnswerable_4 : decode c_S_isAnswerable 4 = .ok (.ifCond .eq 29, 3) := by decide +kernel
theorem d_S_isAnswerable_7 : decode c_S_isAnswerable 7 = .ok (.aload_n 0, 1) := by decide +kernel
theorem d_S_isAnswerable_8 : decode c_S_isAnswerable 8 = .ok (.iload_n 1, 1) := by decide +kernel
theorem d_S_isAnswerable_9 : decode c_S_isAnswerable 9 = .ok (.invokevirtual 160, 3) := by decide +kernel
theorem d_S_isAnswerable_12 : decode c_S_isAnswerable 12 = .ok (.ifCond .eq 21, 3) := by decide +kernel
theorem d_S_isAnswerable_15 : decode c_S_isAnswerable 15 = .ok (.iload_n 2, 1) := by decide +kernel
theorem d_S_isAnswerable_16 : decode c_S_isAnswerable 16 = .ok (.invokestatic 71, 3) := by decide +kernel
theorem d_S_isAnswerable_19 : decode c_S_isAnswerable 19 = .ok (.ifCond .eq 14, 3) := by decide +kernel
theorem d_S_isAnswerable_22 : decode c_S_isAnswerable 22 = .ok (.iload_n 3, 1) := by decide +kernel
theorem d_S_isAnswerable_23 : decode c_S_isAnswerable 23 = .ok (.invokestatic 136, 3) := by decide +kernel
theorem d_S_isAnswerable_26 : decode c_S_isAnswerable 26 = .ok (.ifCond .eq 7, 3) := by decide +kernel
theorem d_S_isAnswerable_29 : decode c_S_isAnswerable 29 = .ok (.iconst 1, 1) := by decide +kernel
theorem d_S_isAnswerable_30 : decode c_S_isAnswerable 30 = .ok (.goto 4, 3) := by decide +kernel
theorem d_S_isAnswerable_33 : decode c_S_isAnswerable 33 = .ok (.iconst 0, 1) := by decide +kernel
theorem d_S_isAnswerable_34 : decode c_S_isAnswerable 34 = .ok (.ireturn, 1) := by decide +kernel
theorem d_S_isNodeThere_0 : decode c_S_isNodeThere 0 = .ok (.iload_n 1, 1) := by decide +kernel
theorem d_S_isNodeThere_1 : decode c_S_isNodeThere 1 = .ok (.invokestatic 41, 3) := by decide +kernel
theorem d_S_isNodeThere_4 : decode c_S_isNodeThere 4 = .ok (.ifCond .eq 18, 3) := by decide +kernel
theorem d_S_isNodeThere_7 : decode c_S_isNodeThere 7 = .ok (.aload_n 0, 1) := by decide +kernel
theorem d_S_isNodeThere_8 : decode c_S_isNodeThere 8 = .ok (.getfield 12, 3) := by decide +kernel
theorem d_S_isNodeThere_11 : decode c_S_isNodeThere 11 = .ok (.iload_n 1, 1) := by decide +kernel
theorem d_S_isNodeThere_12 : decode c_S_isNodeThere 12 = .ok (.invokevirtual 169, 3) := by decide +kernel
theorem d_S_isNodeThere_15 : decode c_S_isNodeThere 15 = .ok (.ifCond .eq 7, 3) := by decide +kernel
theorem d_S_isNodeThere_18 : decode c_S_isNodeThere 18 = .ok (.iconst 1, 1) := by decide +kernel
theorem d_S_isNodeThere_19 : decode c_S_isNodeThere 19 = .ok (.goto 4, 3) := by decide +kernel
theorem d_S_isNodeThere_22 : decode c_S_isNodeThere 22 = .ok (.iconst 0, 1) := by decide +kernel
theorem d_S_isNodeThere_23 : decode c_S_isNodeThere 23 = .ok (.ireturn, 1) := by decide +kernel
theorem d_S_isPart_0 : decode c_S_isPart 0 = .ok (.iload_n 0, 1) := by decide +kernel
theorem d_S_isPart_1 : decode c_S_isPart 1 = .ok (.ifCond .eq 8, 3) := by decide +kernel
theorem d_S_isPart_4 : decode c_S_isPart 4 = .ok (.iload_n 0, 1) := by decide +kernel
theorem d_S_isPart_5 : decode c_S_isPart 5 = .ok (.iconst 1, 1) := by decide +kernel
theorem d_S_isPart_6 : decode c_S_isPart 6 = .ok (.if_icmp .ne 7, 3) := by decide +kernel
theorem d_S_isPart_9 : decode c_S_isPart 9 = .ok (.iconst 1, 1) := by decide +kernel
theorem d_S_isPart_10 : decode c_S_isPart 10 = .ok (.goto 4, 3) := by decide +kernel
theorem d_S_isPart_13 : decode c_S_isPart 13 = .ok (.iconst 0, 1) := by decide +kernel
theorem d_S_isPart_14 : decode c_S_isPart 14 = .ok (.ireturn, 1) := by decide +kernel
theorem d_R_chooseCase_0 : decode c_R_chooseCase 0 = .ok (.iconst 0, 1) := by decide +kernel
theorem d_R_chooseCase_1 : decode c_R_chooseCase 1 = .ok (.istore_n 2, 1) := by decide +kernel
theorem d_R_chooseCase_2 : decode c_R_chooseCase 2 = .ok (.iload_n 2, 1) := by decide +kernel
theorem d_R_chooseCase_3 : decode c_R_chooseCase 3 = .ok (.iconst 4, 1) := by decide +kernel
theorem d_R_chooseCase_4 : decode c_R_chooseCase 4 = .ok (.if_icmp .ge 25, 3) := by decide +kernel
theorem d_R_chooseCase_7 : decode c_R_chooseCase 7 = .ok (.aload_n 0, 1) := by decide +kernel
theorem d_R_chooseCase_8 : decode c_R_chooseCase 8 = .ok (.getfield 9, 3) := by decide +kernel
theorem d_R_chooseCase_11 : decode c_R_chooseCase 11 = .ok (.iload_n 2, 1) := by decide +kernel
theorem d_R_chooseCase_12 : decode c_R_chooseCase 12 = .ok (.iload_n 2, 1) := by decide +kernel
theorem d_R_chooseCase_13 : decode c_R_chooseCase 13 = .ok (.iload_n 1, 1) := by decide +kernel
theorem d_R_chooseCase_14 : decode c_R_chooseCase 14 = .ok (.if_icmp .ne 7, 3) := by decide +kernel
theorem d_R_chooseCase_17 : decode c_R_chooseCase 17 = .ok (.iconst 1, 1) := by decide +kernel
theorem d_R_chooseCase_18 : decode c_R_chooseCase 18 = .ok (.goto 4, 3) := by decide +kernel
theorem d_R_chooseCase_21 : decode c_R_chooseCase 21 = .ok (.iconst 0, 1) := by decide +kernel
theorem d_R_chooseCase_22 : decode c_R_chooseCase 22 = .ok (.iastore, 1) := by decide +kernel
theorem d_R_chooseCase_23 : decode c_R_chooseCase 23 = .ok (.iinc 2 1, 3) := by decide +kernel
theorem d_R_chooseCase_26 : decode c_R_chooseCase 26 = .ok (.goto (-24), 3) := by decide +kernel
theorem d_R_chooseCase_29 : decode c_R_chooseCase 29 = .ok (.return_, 1) := by decide +kernel
theorem d_R_respond_0 : decode c_R_respond 0 = .ok (.aload_n 0, 1) := by decide +kernel
theorem d_R_respond_1 : decode c_R_respond 1 = .ok (.aload_n 3, 1) := by decide +kernel
theorem d_R_respond_2 : decode c_R_respond 2 = .ok (.invokevirtual 32, 3) := by decide +kernel
theorem d_R_respond_5 : decode c_R_respond 5 = .ok (.putfield 28, 3) := by decide +kernel
theorem d_R_respond_8 : decode c_R_respond 8 = .ok (.aload_n 0, 1) := by decide +kernel
theorem d_R_respond_9 : decode c_R_respond 9 = .ok (.aload_n 1, 1) := by decide +kernel
theorem d_R_respond_10 : decode c_R_respond 10 = .ok (.invokevirtual 38, 3) := by decide +kernel
theorem d_R_respond_13 : decode c_R_respond 13 = .ok (.aload_n 0, 1) := by decide +kernel
theorem d_R_respond_14 : decode c_R_respond 14 = .ok (.aload_n 1, 1) := by decide +kernel
theorem d_R_respond_15 : decode c_R_respond 15 = .ok (.invokevirtual 42, 3) := by decide +kernel
theorem d_R_respond_18 : decode c_R_respond 18 = .ok (.aload_n 0, 1) := by decide +kernel
theorem d_R_respond_19 : decode c_R_respond 19 = .ok (.aload_n 1, 1) := by decide +kernel
theorem d_R_respond_20 : decode c_R_respond 20 = .ok (.aload_n 2, 1) := by decide +kernel
theorem d_R_respond_21 : decode c_R_respond 21 = .ok (.aload_n 3, 1) := by decide +kernel
theorem d_R_respond_22 : decode c_R_respond 22 = .ok (.invokevirtual 45, 3) := by decide +kernel
theorem d_R_respond_25 : decode c_R_respond 25 = .ok (.aload_n 3, 1) := by decide +kernel
theorem d_R_respond_26 : decode c_R_respond 26 = .ok (.aload_n 0, 1) := by decide +kernel
theorem d_R_respond_27 : decode c_R_respond 27 = .ok (.getfield 22, 3) := by decide +kernel
theorem d_R_respond_30 : decode c_R_respond 30 = .ok (.aload_n 0, 1) := by decide +kernel
theorem d_R_respond_31 : decode c_R_respond 31 = .ok (.getfield 25, 3) := by decide +kernel
theorem d_R_respond_34 : decode c_R_respond 34 = .ok (.invokevirtual 49, 3) := by decide +kernel
theorem d_R_respond_37 : decode c_R_respond 37 = .ok (.iconst 0, 1) := by decide +kernel
theorem d_R_respond_38 : decode c_R_respond 38 = .ok (.istore 4, 2) := by decide +kernel
theorem d_R_respond_40 : decode c_R_respond 40 = .ok (.iload 4, 2) := by decide +kernel
theorem d_R_respond_42 : decode c_R_respond 42 = .ok (.aload_n 2, 1) := by decide +kernel
theorem d_R_respond_43 : decode c_R_respond 43 = .ok (.getfield 53, 3) := by decide +kernel
theorem d_R_respond_46 : decode c_R_respond 46 = .ok (.if_icmp .ge 28, 3) := by decide +kernel
theorem d_R_respond_49 : decode c_R_respond 49 = .ok (.aload_n 0, 1) := by decide +kernel
theorem d_R_respond_50 : decode c_R_respond 50 = .ok (.getfield 19, 3) := by decide +kernel
theorem d_R_respond_53 : decode c_R_respond 53 = .ok (.aload_n 2, 1) := by decide +kernel
theorem d_R_respond_54 : decode c_R_respond 54 = .ok (.getfield 59, 3) := by decide +kernel
theorem d_R_respond_57 : decode c_R_respond 57 = .ok (.iload 4, 2) := by decide +kernel
theorem d_R_respond_59 : decode c_R_respond 59 = .ok (.iaload, 1) := by decide +kernel
theorem d_R_respond_60 : decode c_R_respond 60 = .ok (.aload_n 0, 1) := by decide +kernel
theorem d_R_respond_61 : decode c_R_respond 61 = .ok (.getfield 25, 3) := by decide +kernel
theorem d_R_respond_64 : decode c_R_respond 64 = .ok (.iload 4, 2) := by decide +kernel
theorem d_R_respond_66 : decode c_R_respond 66 = .ok (.laload, 1) := by decide +kernel
theorem d_R_respond_67 : decode c_R_respond 67 = .ok (.lastore, 1) := by decide +kernel
theorem d_R_respond_68 : decode c_R_respond 68 = .ok (.iinc 4 1, 3) := by decide +kernel
theorem d_R_respond_71 : decode c_R_respond 71 = .ok (.goto (-31), 3) := by decide +kernel
theorem d_R_respond_74 : decode c_R_respond 74 = .ok (.return_, 1) := by decide +kernel
theorem d_E_wholeMinor_0 : decode c_E_wholeMinor 0 = .ok (.aload_n 0, 1) := by decide +kernel
theorem d_E_wholeMinor_1 : decode c_E_wholeMinor 1 = .ok (.getfield 19, 3) := by decide +kernel
theorem d_E_wholeMinor_4 : decode c_E_wholeMinor 4 = .ok (.iconst 2, 1) := by decide +kernel
theorem d_E_wholeMinor_5 : decode c_E_wholeMinor 5 = .ok (.irem, 1) := by decide +kernel
theorem d_E_wholeMinor_6 : decode c_E_wholeMinor 6 = .ok (.ifCond .ne 15, 3) := by decide +kernel
theorem d_E_wholeMinor_9 : decode c_E_wholeMinor 9 = .ok (.aload_n 0, 1) := by decide +kernel
theorem d_E_wholeMinor_10 : decode c_E_wholeMinor 10 = .ok (.getfield 23, 3) := by decide +kernel
theorem d_E_wholeMinor_13 : decode c_E_wholeMinor 13 = .ok (.aload_n 0, 1) := by decide +kernel
theorem d_E_wholeMinor_14 : decode c_E_wholeMinor 14 = .ok (.getfield 19, 3) := by decide +kernel
theorem d_E_wholeMinor_17 : decode c_E_wholeMinor 17 = .ok (.laload, 1) := by decide +kernel
theorem d_E_wholeMinor_18 : decode c_E_wholeMinor 18 = .ok (.goto 13, 3) := by decide +kernel
theorem d_E_wholeMinor_21 : decode c_E_wholeMinor 21 = .ok (.aload_n 0, 1) := by decide +kernel
theorem d_E_wholeMinor_22 : decode c_E_wholeMinor 22 = .ok (.getfield 23, 3) := by decide +kernel
theorem d_E_wholeMinor_25 : decode c_E_wholeMinor 25 = .ok (.aload_n 0, 1) := by decide +kernel
theorem d_E_wholeMinor_26 : decode c_E_wholeMinor 26 = .ok (.getfield 19, 3) := by decide +kernel
theorem d_E_wholeMinor_29 : decode c_E_wholeMinor 29 = .ok (.laload, 1) := by decide +kernel
theorem d_E_wholeMinor_30 : decode c_E_wholeMinor 30 = .ok (.lneg, 1) := by decide +kernel
theorem d_E_wholeMinor_31 : decode c_E_wholeMinor 31 = .ok (.lreturn, 1) := by decide +kernel
theorem d_R_sumUpLoads_0 : decode c_R_sumUpLoads 0 = .ok (.iconst 0, 1) := by decide +kernel
theorem d_R_sumUpLoads_1 : decode c_R_sumUpLoads 1 = .ok (.istore_n 2, 1) := by decide +kernel
theorem d_R_sumUpLoads_2 : decode c_R_sumUpLoads 2 = .ok (.iload_n 2, 1) := by decide +kernel
theorem d_R_sumUpLoads_3 : decode c_R_sumUpLoads 3 = .ok (.bipush 10, 2) := by decide +kernel
theorem d_R_sumUpLoads_5 : decode c_R_sumUpLoads 5 = .ok (.if_icmp .ge 54, 3) := by decide +kernel
theorem d_R_sumUpLoads_8 : decode c_R_sumUpLoads 8 = .ok (.lconst 0, 1) := by decide +kernel
theorem d_R_sumUpLoads_9 : decode c_R_sumUpLoads 9 = .ok (.lstore_n 3, 1) := by decide +kernel
theorem d_R_sumUpLoads_10 : decode c_R_sumUpLoads 10 = .ok (.iconst 0, 1) := by decide +kernel
theorem d_R_sumUpLoads_11 : decode c_R_sumUpLoads 11 = .ok (.istore 5, 2) := by decide +kernel
theorem d_R_sumUpLoads_13 : decode c_R_sumUpLoads 13 = .ok (.iload 5, 2) := by decide +kernel
theorem d_R_sumUpLoads_15 : decode c_R_sumUpLoads 15 = .ok (.iconst 4, 1) := by decide +kernel
theorem d_R_sumUpLoads_16 : decode c_R_sumUpLoads 16 = .ok (.if_icmp .ge 30, 3) := by decide +kernel
theorem d_R_sumUpLoads_19 : decode c_R_sumUpLoads 19 = .ok (.lload_n 3, 1) := by decide +kernel
theorem d_R_sumUpLoads_20 : decode c_R_sumUpLoads 20 = .ok (.aload_n 0, 1) := by decide +kernel
theorem d_R_sumUpLoads_21 : decode c_R_sumUpLoads 21 = .ok (.getfield 9, 3) := by decide +kernel
theorem d_R_sumUpLoads_24 : decode c_R_sumUpLoads 24 = .ok (.iload 5, 2) := by decide +kernel
theorem d_R_sumUpLoads_26 : decode c_R_sumUpLoads 26 = .ok (.iaload, 1) := by decide +kernel
theorem d_R_sumUpLoads_27 : decode c_R_sumUpLoads 27 = .ok (.aload_n 1, 1) := by decide +kernel
theorem d_R_sumUpLoads_28 : decode c_R_sumUpLoads 28 = .ok (.getfield 62, 3) := by decide +kernel
theorem d_R_sumUpLoads_31 : decode c_R_sumUpLoads 31 = .ok (.iload 5, 2) := by decide +kernel
theorem d_R_sumUpLoads_33 : decode c_R_sumUpLoads 33 = .ok (.aaload, 1) := by decide +kernel
theorem d_R_sumUpLoads_34 : decode c_R_sumUpLoads 34 = .ok (.iload_n 2, 1) := by decide +kernel
theorem d_R_sumUpLoads_35 : decode c_R_sumUpLoads 35 = .ok (.iaload, 1) := by decide +kernel
theorem d_R_sumUpLoads_36 : decode c_R_sumUpLoads 36 = .ok (.imul, 1) := by decide +kernel
theorem d_R_sumUpLoads_37 : decode c_R_sumUpLoads 37 = .ok (.i2l, 1) := by decide +kernel
theorem d_R_sumUpLoads_38 : decode c_R_sumUpLoads 38 = .ok (.ladd, 1) := by decide +kernel
theorem d_R_sumUpLoads_39 : decode c_R_sumUpLoads 39 = .ok (.lstore_n 3, 1) := by decide +kernel
theorem d_R_sumUpLoads_40 : decode c_R_sumUpLoads 40 = .ok (.iinc 5 1, 3) := by decide +kernel
theorem d_R_sumUpLoads_43 : decode c_R_sumUpLoads 43 = .ok (.goto (-30), 3) := by decide +kernel
theorem d_R_sumUpLoads_46 : decode c_R_sumUpLoads 46 = .ok (.aload_n 0, 1) := by decide +kernel
theorem d_R_sumUpLoads_47 : decode c_R_sumUpLoads 47 = .ok (.getfield 15, 3) := by decide +kernel
theorem d_R_sumUpLoads_50 : decode c_R_sumUpLoads 50 = .ok (.iload_n 2, 1) := by decide +kernel
theorem d_R_sumUpLoads_51 : decode c_R_sumUpLoads 51 = .ok (.lload_n 3, 1) := by decide +kernel
theorem d_R_sumUpLoads_52 : decode c_R_sumUpLoads 52 = .ok (.lastore, 1) := by decide +kernel
theorem d_R_sumUpLoads_53 : decode c_R_sumUpLoads 53 = .ok (.iinc 2 1, 3) := by decide +kernel
theorem d_R_sumUpLoads_56 : decode c_R_sumUpLoads 56 = .ok (.goto (-54), 3) := by decide +kernel
theorem d_R_sumUpLoads_59 : decode c_R_sumUpLoads 59 = .ok (.return_, 1) := by decide +kernel
theorem d_R_moveHeldSlots_0 : decode c_R_moveHeldSlots 0 = .ok (.iconst 0, 1) := by decide +kernel
theorem d_R_moveHeldSlots_1 : decode c_R_moveHeldSlots 1 = .ok (.istore_n 2, 1) := by decide +kernel
theorem d_R_moveHeldSlots_2 : decode c_R_moveHeldSlots 2 = .ok (.iload_n 2, 1) := by decide +kernel
theorem d_R_moveHeldSlots_3 : decode c_R_moveHeldSlots 3 = .ok (.bipush 10, 2) := by decide +kernel
theorem d_R_moveHeldSlots_5 : decode c_R_moveHeldSlots 5 = .ok (.if_icmp .ge 39, 3) := by decide +kernel
theorem d_R_moveHeldSlots_8 : decode c_R_moveHeldSlots 8 = .ok (.aload_n 0, 1) := by decide +kernel
theorem d_R_moveHeldSlots_9 : decode c_R_moveHeldSlots 9 = .ok (.getfield 19, 3) := by decide +kernel
theorem d_R_moveHeldSlots_12 : decode c_R_moveHeldSlots 12 = .ok (.iload_n 2, 1) := by decide +kernel
theorem d_R_moveHeldSlots_13 : decode c_R_moveHeldSlots 13 = .ok (.aload_n 1, 1) := by decide +kernel
theorem d_R_moveHeldSlots_14 : decode c_R_moveHeldSlots 14 = .ok (.getfield 67, 3) := by decide +kernel
theorem d_R_moveHeldSlots_17 : decode c_R_moveHeldSlots 17 = .ok (.iload_n 2, 1) := by decide +kernel
theorem d_R_moveHeldSlots_18 : decode c_R_moveHeldSlots 18 = .ok (.baload, 1) := by decide +kernel
theorem d_R_moveHeldSlots_19 : decode c_R_moveHeldSlots 19 = .ok (.ifCond .eq 17, 3) := by decide +kernel
theorem d_R_moveHeldSlots_22 : decode c_R_moveHeldSlots 22 = .ok (.aload_n 0, 1) := by decide +kernel
theorem d_R_moveHeldSlots_23 : decode c_R_moveHeldSlots 23 = .ok (.aload_n 1, 1) := by decide +kernel
theorem d_R_moveHeldSlots_24 : decode c_R_moveHeldSlots 24 = .ok (.iload_n 2, 1) := by decide +kernel
theorem d_R_moveHeldSlots_25 : decode c_R_moveHeldSlots 25 = .ok (.invokevirtual 71, 3) := by decide +kernel
theorem d_R_moveHeldSlots_28 : decode c_R_moveHeldSlots 28 = .ok (.aload_n 0, 1) := by decide +kernel
theorem d_R_moveHeldSlots_29 : decode c_R_moveHeldSlots 29 = .ok (.getfield 28, 3) := by decide +kernel
theorem d_R_moveHeldSlots_32 : decode c_R_moveHeldSlots 32 = .ok (.lmul, 1) := by decide +kernel
theorem d_R_moveHeldSlots_33 : decode c_R_moveHeldSlots 33 = .ok (.goto 4, 3) := by decide +kernel
theorem d_R_moveHeldSlots_36 : decode c_R_moveHeldSlots 36 = .ok (.lconst 0, 1) := by decide +kernel
theorem d_R_moveHeldSlots_37 : decode c_R_moveHeldSlots 37 = .ok (.lastore, 1) := by decide +kernel
theorem d_R_moveHeldSlots_38 : decode c_R_moveHeldSlots 38 = .ok (.iinc 2 1, 3) := by decide +kernel
theorem d_R_moveHeldSlots_41 : decode c_R_moveHeldSlots 41 = .ok (.goto (-39), 3) := by decide +kernel
theorem d_R_moveHeldSlots_44 : decode c_R_moveHeldSlots 44 = .ok (.return_, 1) := by decide +kernel
theorem d_R_heldDisplacement_0 : decode c_R_heldDisplacement 0 = .ok (.lconst 0, 1) := by decide +kernel
theorem d_R_heldDisplacement_1 : decode c_R_heldDisplacement 1 = .ok (.lstore_n 3, 1) := by decide +kernel
theorem d_R_heldDisplacement_2 : decode c_R_heldDisplacement 2 = .ok (.iconst 0, 1) := by decide +kernel
theorem d_R_heldDisplacement_3 : decode c_R_heldDisplacement 3 = .ok (.istore 5, 2) := by decide +kernel
theorem d_R_heldDisplacement_5 : decode c_R_heldDisplacement 5 = .ok (.iload 5, 2) := by decide +kernel
theorem d_R_heldDisplacement_7 : decode c_R_heldDisplacement 7 = .ok (.iconst 4, 1) := by decide +kernel
theorem d_R_heldDisplacement_8 : decode c_R_heldDisplacement 8 = .ok (.if_icmp .ge 27, 3) := by decide +kernel
theorem d_R_heldDisplacement_11 : decode c_R_heldDisplacement 11 = .ok (.lload_n 3, 1) := by decide +kernel
theorem d_R_heldDisplacement_12 : decode c_R_heldDisplacement 12 = .ok (.aload_n 0, 1) := by decide +kernel
theorem d_R_heldDisplacement_13 : decode c_R_heldDisplacement 13 = .ok (.getfield 9, 3) := by decide +kernel
theorem d_R_heldDisplacement_16 : decode c_R_heldDisplacement 16 = .ok (.iload 5, 2) := by decide +kernel
theorem d_R_heldDisplacement_18 : decode c_R_heldDisplacement 18 = .ok (.iaload, 1) := by decide +kernel
theorem d_R_heldDisplacement_19 : decode c_R_heldDisplacement 19 = .ok (.aload_n 1, 1) := by decide +kernel
theorem d_R_heldDisplacement_20 : decode c_R_heldDisplacement 20 = .ok (.getfield 75, 3) := by decide +kernel
theorem d_R_heldDisplacement_23 : decode c_R_heldDisplacement 23 = .ok (.iload_n 2, 1) := by decide +kernel
theorem d_R_heldDisplacement_24 : decode c_R_heldDisplacement 24 = .ok (.iaload, 1) := by decide +kernel
theorem d_R_heldDisplacement_25 : decode c_R_heldDisplacement 25 = .ok (.imul, 1) := by decide +kernel
theorem d_R_heldDisplacement_26 : decode c_R_heldDisplacement 26 = .ok (.i2l, 1) := by decide +kernel
theorem d_R_heldDisplacement_27 : decode c_R_heldDisplacement 27 = .ok (.ladd, 1) := by decide +kernel
theorem d_R_heldDisplacement_28 : decode c_R_heldDisplacement 28 = .ok (.lstore_n 3, 1) := by decide +kernel
theorem d_R_heldDisplacement_29 : decode c_R_heldDisplacement 29 = .ok (.iinc 5 1, 3) := by decide +kernel
theorem d_R_heldDisplacement_32 : decode c_R_heldDisplacement 32 = .ok (.goto (-27), 3) := by decide +kernel
theorem d_R_heldDisplacement_35 : decode c_R_heldDisplacement 35 = .ok (.lload_n 3, 1) := by decide +kernel
theorem d_R_heldDisplacement_36 : decode c_R_heldDisplacement 36 = .ok (.lreturn, 1) := by decide +kernel
theorem d_R_findRightSide_0 : decode c_R_findRightSide 0 = .ok (.iconst 0, 1) := by decide +kernel
theorem d_R_findRightSide_1 : decode c_R_findRightSide 1 = .ok (.istore 4, 2) := by decide +kernel
theorem d_R_findRightSide_3 : decode c_R_findRightSide 3 = .ok (.iload 4, 2) := by decide +kernel
theorem d_R_findRightSide_5 : decode c_R_findRightSide 5 = .ok (.aload_n 2, 1) := by decide +kernel
theorem d_R_findRightSide_6 : decode c_R_findRightSide 6 = .ok (.getfield 53, 3) := by decide +kernel
theorem d_R_findRightSide_9 : decode c_R_findRightSide 9 = .ok (.if_icmp .ge 85, 3) := by decide +kernel
theorem d_R_findRightSide_12 : decode c_R_findRightSide 12 = .ok (.aload_n 2, 1) := by decide +kernel
theorem d_R_findRightSide_13 : decode c_R_findRightSide 13 = .ok (.getfield 59, 3) := by decide +kernel
theorem d_R_findRightSide_16 : decode c_R_findRightSide 16 = .ok (.iload 4, 2) := by decide +kernel
theorem d_R_findRightSide_18 : decode c_R_findRightSide 18 = .ok (.iaload, 1) := by decide +kernel
theorem d_R_findRightSide_19 : decode c_R_findRightSide 19 = .ok (.istore 5, 2) := by decide +kernel
theorem d_R_findRightSide_21 : decode c_R_findRightSide 21 = .ok (.aload_n 0, 1) := by decide +kernel
theorem d_R_findRightSide_22 : decode c_R_findRightSide 22 = .ok (.getfield 15, 3) := by decide +kernel
theorem d_R_findRightSide_25 : decode c_R_findRightSide 25 = .ok (.iload 5, 2) := by decide +kernel
theorem d_R_findRightSide_27 : decode c_R_findRightSide 27 = .ok (.laload, 1) := by decide +kernel
theorem d_R_findRightSide_28 : decode c_R_findRightSide 28 = .ok (.lstore 6, 2) := by decide +kernel
theorem d_R_findRightSide_30 : decode c_R_findRightSide 30 = .ok (.iconst 0, 1) := by decide +kernel
theorem d_R_findRightSide_31 : decode c_R_findRightSide 31 = .ok (.istore 8, 2) := by decide +kernel
theorem d_R_findRightSide_33 : decode c_R_findRightSide 33 = .ok (.iload 8, 2) := by decide +kernel
theorem d_R_findRightSide_35 : decode c_R_findRightSide 35 = .ok (.bipush 10, 2) := by decide +kernel
theorem d_R_findRightSide_37 : decode c_R_findRightSide 37 = .ok (.if_icmp .ge 42, 3) := by decide +kernel
theorem d_R_findRightSide_40 : decode c_R_findRightSide 40 = .ok (.aload_n 1, 1) := by decide +kernel
theorem d_R_findRightSide_41 : decode c_R_findRightSide 41 = .ok (.getfield 67, 3) := by decide +kernel
theorem d_R_findRightSide_44 : decode c_R_findRightSide 44 = .ok (.iload 8, 2) := by decide +kernel
theorem d_R_findRightSide_46 : decode c_R_findRightSide 46 = .ok (.baload, 1) := by decide +kernel
theorem d_R_findRightSide_47 : decode c_R_findRightSide 47 = .ok (.ifCond .eq 26, 3) := by decide +kernel
theorem d_R_findRightSide_50 : decode c_R_findRightSide 50 = .ok (.lload 6, 2) := by decide +kernel
theorem d_R_findRightSide_52 : decode c_R_findRightSide 52 = .ok (.aload_n 3, 1) := by decide +kernel
theorem d_R_findRightSide_53 : decode c_R_findRightSide 53 = .ok (.getfield 78, 3) := by decide +kernel
theorem d_R_findRightSide_56 : decode c_R_findRightSide 56 = .ok (.iload 5, 2) := by decide +kernel
theorem d_R_findRightSide_58 : decode c_R_findRightSide 58 = .ok (.aaload, 1) := by decide +kernel
theorem d_R_findRightSide_59 : decode c_R_findRightSide 59 = .ok (.iload 8, 2) := by decide +kernel
theorem d_R_findRightSide_61 : decode c_R_findRightSide 61 = .ok (.laload, 1) := by decide +kernel
theorem d_R_findRightSide_62 : decode c_R_findRightSide 62 = .ok (.aload_n 0, 1) := by decide +kernel
theorem d_R_findRightSide_63 : decode c_R_findRightSide 63 = .ok (.aload_n 1, 1) := by decide +kernel
theorem d_R_findRightSide_64 : decode c_R_findRightSide 64 = .ok (.iload 8, 2) := by decide +kernel
theorem d_R_findRightSide_66 : decode c_R_findRightSide 66 = .ok (.invokevirtual 71, 3) := by decide +kernel
theorem d_R_findRightSide_69 : decode c_R_findRightSide 69 = .ok (.lmul, 1) := by decide +kernel
theorem d_R_findRightSide_70 : decode c_R_findRightSide 70 = .ok (.lsub, 1) := by decide +kernel
theorem d_R_findRightSide_71 : decode c_R_findRightSide 71 = .ok (.lstore 6, 2) := by decide +kernel
theorem d_R_findRightSide_73 : decode c_R_findRightSide 73 = .ok (.iinc 8 1, 3) := by decide +kernel
theorem d_R_findRightSide_76 : decode c_R_findRightSide 76 = .ok (.goto (-43), 3) := by decide +kernel
theorem d_R_findRightSide_79 : decode c_R_findRightSide 79 = .ok (.aload_n 0, 1) := by decide +kernel
theorem d_R_findRightSide_80 : decode c_R_findRightSide 80 = .ok (.getfield 22, 3) := by decide +kernel
theorem d_R_findRightSide_83 : decode c_R_findRightSide 83 = .ok (.iload 4, 2) := by decide +kernel
theorem d_R_findRightSide_85 : decode c_R_findRightSide 85 = .ok (.lload 6, 2) := by decide +kernel
theorem d_R_findRightSide_87 : decode c_R_findRightSide 87 = .ok (.lastore, 1) := by decide +kernel
theorem d_R_findRightSide_88 : decode c_R_findRightSide 88 = .ok (.iinc 4 1, 3) := by decide +kernel
theorem d_R_findRightSide_91 : decode c_R_findRightSide 91 = .ok (.goto (-88), 3) := by decide +kernel
theorem d_R_findRightSide_94 : decode c_R_findRightSide 94 = .ok (.return_, 1) := by decide +kernel
theorem d_E_solveScaled_0 : decode c_E_solveScaled 0 = .ok (.aload_n 1, 1) := by decide +kernel
theorem d_E_solveScaled_1 : decode c_E_solveScaled 1 = .ok (.iconst 0, 1) := by decide +kernel
theorem d_E_solveScaled_2 : decode c_E_solveScaled 2 = .ok (.aload_n 2, 1) := by decide +kernel
theorem d_E_solveScaled_3 : decode c_E_solveScaled 3 = .ok (.iconst 0, 1) := by decide +kernel
theorem d_E_solveScaled_4 : decode c_E_solveScaled 4 = .ok (.aload_n 0, 1) := by decide +kernel
theorem d_E_solveScaled_5 : decode c_E_solveScaled 5 = .ok (.getfield 19, 3) := by decide +kernel
theorem d_E_solveScaled_8 : decode c_E_solveScaled 8 = .ok (.invokestatic 89, 3) := by decide +kernel
theorem d_E_solveScaled_11 : decode c_E_solveScaled 11 = .ok (.iconst 1, 1) := by decide +kernel
theorem d_E_solveScaled_12 : decode c_E_solveScaled 12 = .ok (.istore_n 3, 1) := by decide +kernel
theorem d_E_solveScaled_13 : decode c_E_solveScaled 13 = .ok (.iload_n 3, 1) := by decide +kernel
theorem d_E_solveScaled_14 : decode c_E_solveScaled 14 = .ok (.aload_n 0, 1) := by decide +kernel
theorem d_E_solveScaled_15 : decode c_E_solveScaled 15 = .ok (.getfield 19, 3) := by decide +kernel
theorem d_E_solveScaled_18 : decode c_E_solveScaled 18 = .ok (.if_icmp .ge 54, 3) := by decide +kernel
theorem d_E_solveScaled_21 : decode c_E_solveScaled 21 = .ok (.aload_n 0, 1) := by decide +kernel
theorem d_E_solveScaled_22 : decode c_E_solveScaled 22 = .ok (.aload_n 2, 1) := by decide +kernel
theorem d_E_solveScaled_23 : decode c_E_solveScaled 23 = .ok (.aload_n 0, 1) := by decide +kernel
theorem d_E_solveScaled_24 : decode c_E_solveScaled 24 = .ok (.getfield 19, 3) := by decide +kernel
theorem d_E_solveScaled_27 : decode c_E_solveScaled 27 = .ok (.invokevirtual 85, 3) := by decide +kernel
theorem d_E_solveScaled_30 : decode c_E_solveScaled 30 = .ok (.iconst 0, 1) := by decide +kernel
theorem d_E_solveScaled_31 : decode c_E_solveScaled 31 = .ok (.istore 4, 2) := by decide +kernel
theorem d_E_solveScaled_33 : decode c_E_solveScaled 33 = .ok (.iload 4, 2) := by decide +kernel
theorem d_E_solveScaled_35 : decode c_E_solveScaled 35 = .ok (.aload_n 0, 1) := by decide +kernel
theorem d_E_solveScaled_36 : decode c_E_solveScaled 36 = .ok (.getfield 19, 3) := by decide +kernel
theorem d_E_solveScaled_39 : decode c_E_solveScaled 39 = .ok (.if_icmp .ge 27, 3) := by decide +kernel
theorem d_E_solveScaled_42 : decode c_E_solveScaled 42 = .ok (.aload_n 2, 1) := by decide +kernel
theorem d_E_solveScaled_43 : decode c_E_solveScaled 43 = .ok (.iload 4, 2) := by decide +kernel
theorem d_E_solveScaled_45 : decode c_E_solveScaled 45 = .ok (.dup2, 1) := by decide +kernel
theorem d_E_solveScaled_46 : decode c_E_solveScaled 46 = .ok (.laload, 1) := by decide +kernel
theorem d_E_solveScaled_47 : decode c_E_solveScaled 47 = .ok (.aload_n 0, 1) := by decide +kernel
theorem d_E_solveScaled_48 : decode c_E_solveScaled 48 = .ok (.getfield 23, 3) := by decide +kernel
theorem d_E_solveScaled_51 : decode c_E_solveScaled 51 = .ok (.iload_n 3, 1) := by decide +kernel
theorem d_E_solveScaled_52 : decode c_E_solveScaled 52 = .ok (.laload, 1) := by decide +kernel
theorem d_E_solveScaled_53 : decode c_E_solveScaled 53 = .ok (.aload_n 1, 1) := by decide +kernel
theorem d_E_solveScaled_54 : decode c_E_solveScaled 54 = .ok (.iload 4, 2) := by decide +kernel
theorem d_E_solveScaled_56 : decode c_E_solveScaled 56 = .ok (.laload, 1) := by decide +kernel
theorem d_E_solveScaled_57 : decode c_E_solveScaled 57 = .ok (.lmul, 1) := by decide +kernel
theorem d_E_solveScaled_58 : decode c_E_solveScaled 58 = .ok (.ladd, 1) := by decide +kernel
theorem d_E_solveScaled_59 : decode c_E_solveScaled 59 = .ok (.lastore, 1) := by decide +kernel
theorem d_E_solveScaled_60 : decode c_E_solveScaled 60 = .ok (.iinc 4 1, 3) := by decide +kernel
theorem d_E_solveScaled_63 : decode c_E_solveScaled 63 = .ok (.goto (-30), 3) := by decide +kernel
theorem d_E_solveScaled_66 : decode c_E_solveScaled 66 = .ok (.iinc 3 1, 3) := by decide +kernel
theorem d_E_solveScaled_69 : decode c_E_solveScaled 69 = .ok (.goto (-56), 3) := by decide +kernel
theorem d_E_solveScaled_72 : decode c_E_solveScaled 72 = .ok (.aload_n 0, 1) := by decide +kernel
theorem d_E_solveScaled_73 : decode c_E_solveScaled 73 = .ok (.getfield 19, 3) := by decide +kernel
theorem d_E_solveScaled_76 : decode c_E_solveScaled 76 = .ok (.iconst 2, 1) := by decide +kernel
theorem d_E_solveScaled_77 : decode c_E_solveScaled 77 = .ok (.irem, 1) := by decide +kernel
theorem d_E_solveScaled_78 : decode c_E_solveScaled 78 = .ok (.ifCond .ne 26, 3) := by decide +kernel
theorem d_E_solveScaled_81 : decode c_E_solveScaled 81 = .ok (.iconst 0, 1) := by decide +kernel
theorem d_E_solveScaled_82 : decode c_E_solveScaled 82 = .ok (.istore_n 3, 1) := by decide +kernel
theorem d_E_solveScaled_83 : decode c_E_solveScaled 83 = .ok (.iload_n 3, 1) := by decide +kernel
theorem d_E_solveScaled_84 : decode c_E_solveScaled 84 = .ok (.aload_n 0, 1) := by decide +kernel
theorem d_E_solveScaled_85 : decode c_E_solveScaled 85 = .ok (.getfield 19, 3) := by decide +kernel
theorem d_E_solveScaled_88 : decode c_E_solveScaled 88 = .ok (.if_icmp .ge 16, 3) := by decide +kernel
theorem d_E_solveScaled_91 : decode c_E_solveScaled 91 = .ok (.aload_n 2, 1) := by decide +kernel
theorem d_E_solveScaled_92 : decode c_E_solveScaled 92 = .ok (.iload_n 3, 1) := by decide +kernel
theorem d_E_solveScaled_93 : decode c_E_solveScaled 93 = .ok (.aload_n 2, 1) := by decide +kernel
theorem d_E_solveScaled_94 : decode c_E_solveScaled 94 = .ok (.iload_n 3, 1) := by decide +kernel
theorem d_E_solveScaled_95 : decode c_E_solveScaled 95 = .ok (.laload, 1) := by decide +kernel
theorem d_E_solveScaled_96 : decode c_E_solveScaled 96 = .ok (.lneg, 1) := by decide +kernel
theorem d_E_solveScaled_97 : decode c_E_solveScaled 97 = .ok (.lastore, 1) := by decide +kernel
theorem d_E_solveScaled_98 : decode c_E_solveScaled 98 = .ok (.iinc 3 1, 3) := by decide +kernel
theorem d_E_solveScaled_101 : decode c_E_solveScaled 101 = .ok (.goto (-18), 3) := by decide +kernel
theorem d_E_solveScaled_104 : decode c_E_solveScaled 104 = .ok (.return_, 1) := by decide +kernel
theorem d_S_partOfFraction_0 : decode c_S_partOfFraction 0 = .ok (.aload_n 0, 1) := by decide +kernel
theorem d_S_partOfFraction_1 : decode c_S_partOfFraction 1 = .ok (.getfield 26, 3) := by decide +kernel
theorem d_S_partOfFraction_4 : decode c_S_partOfFraction 4 = .ok (.invokevirtual 150, 3) := by decide +kernel
theorem d_S_partOfFraction_7 : decode c_S_partOfFraction 7 = .ok (.lstore 4, 2) := by decide +kernel
theorem d_S_partOfFraction_9 : decode c_S_partOfFraction 9 = .ok (.lload_n 1, 1) := by decide +kernel
theorem d_S_partOfFraction_10 : decode c_S_partOfFraction 10 = .ok (.invokestatic 172, 3) := by decide +kernel
theorem d_S_partOfFraction_13 : decode c_S_partOfFraction 13 = .ok (.lload 4, 2) := by decide +kernel
theorem d_S_partOfFraction_15 : decode c_S_partOfFraction 15 = .ok (.invokestatic 178, 3) := by decide +kernel
theorem d_S_partOfFraction_18 : decode c_S_partOfFraction 18 = .ok (.lstore 6, 2) := by decide +kernel
theorem d_S_partOfFraction_20 : decode c_S_partOfFraction 20 = .ok (.lload 6, 2) := by decide +kernel
theorem d_S_partOfFraction_22 : decode c_S_partOfFraction 22 = .ok (.lconst 0, 1) := by decide +kernel
theorem d_S_partOfFraction_23 : decode c_S_partOfFraction 23 = .ok (.lcmp, 1) := by decide +kernel
theorem d_S_partOfFraction_24 : decode c_S_partOfFraction 24 = .ok (.ifCond .ne 7, 3) := by decide +kernel
theorem d_S_partOfFraction_27 : decode c_S_partOfFraction 27 = .ok (.ldc2_w 119, 3) := by decide +kernel
theorem d_S_partOfFraction_30 : decode c_S_partOfFraction 30 = .ok (.lreturn, 1) := by decide +kernel
theorem d_S_partOfFraction_31 : decode c_S_partOfFraction 31 = .ok (.iload_n 3, 1) := by decide +kernel
theorem d_S_partOfFraction_32 : decode c_S_partOfFraction 32 = .ok (.ifCond .ne 10, 3) := by decide +kernel
theorem d_S_partOfFraction_35 : decode c_S_partOfFraction 35 = .ok (.lload_n 1, 1) := by decide +kernel
theorem d_S_partOfFraction_36 : decode c_S_partOfFraction 36 = .ok (.lload 6, 2) := by decide +kernel
theorem d_S_partOfFraction_38 : decode c_S_partOfFraction 38 = .ok (.ldiv, 1) := by decide +kernel
theorem d_S_partOfFraction_39 : decode c_S_partOfFraction 39 = .ok (.goto 8, 3) := by decide +kernel
theorem d_S_partOfFraction_42 : decode c_S_partOfFraction 42 = .ok (.lload 4, 2) := by decide +kernel
theorem d_S_partOfFraction_44 : decode c_S_partOfFraction 44 = .ok (.lload 6, 2) := by decide +kernel
theorem d_S_partOfFraction_46 : decode c_S_partOfFraction 46 = .ok (.ldiv, 1) := by decide +kernel
theorem d_S_partOfFraction_47 : decode c_S_partOfFraction 47 = .ok (.lreturn, 1) := by decide +kernel
theorem d_S_greatestDivisor_0 : decode c_S_greatestDivisor 0 = .ok (.lload_n 0, 1) := by decide +kernel
theorem d_S_greatestDivisor_1 : decode c_S_greatestDivisor 1 = .ok (.lstore 4, 2) := by decide +kernel
theorem d_S_greatestDivisor_3 : decode c_S_greatestDivisor 3 = .ok (.lload_n 2, 1) := by decide +kernel
theorem d_S_greatestDivisor_4 : decode c_S_greatestDivisor 4 = .ok (.lstore 6, 2) := by decide +kernel
theorem d_S_greatestDivisor_6 : decode c_S_greatestDivisor 6 = .ok (.iconst 0, 1) := by decide +kernel
theorem d_S_greatestDivisor_7 : decode c_S_greatestDivisor 7 = .ok (.istore 8, 2) := by decide +kernel
theorem d_S_greatestDivisor_9 : decode c_S_greatestDivisor 9 = .ok (.iload 8, 2) := by decide +kernel
theorem d_S_greatestDivisor_11 : decode c_S_greatestDivisor 11 = .ok (.bipush 100, 2) := by decide +kernel
theorem d_S_greatestDivisor_13 : decode c_S_greatestDivisor 13 = .ok (.if_icmp .ge 31, 3) := by decide +kernel
theorem d_S_greatestDivisor_16 : decode c_S_greatestDivisor 16 = .ok (.lload 6, 2) := by decide +kernel
theorem d_S_greatestDivisor_18 : decode c_S_greatestDivisor 18 = .ok (.lconst 0, 1) := by decide +kernel
theorem d_S_greatestDivisor_19 : decode c_S_greatestDivisor 19 = .ok (.lcmp, 1) := by decide +kernel
theorem d_S_greatestDivisor_20 : decode c_S_greatestDivisor 20 = .ok (.ifCond .eq 24, 3) := by decide +kernel
theorem d_S_greatestDivisor_23 : decode c_S_greatestDivisor 23 = .ok (.lload 4, 2) := by decide +kernel
theorem d_S_greatestDivisor_25 : decode c_S_greatestDivisor 25 = .ok (.lload 6, 2) := by decide +kernel
theorem d_S_greatestDivisor_27 : decode c_S_greatestDivisor 27 = .ok (.lrem, 1) := by decide +kernel
theorem d_S_greatestDivisor_28 : decode c_S_greatestDivisor 28 = .ok (.lstore 9, 2) := by decide +kernel
theorem d_S_greatestDivisor_30 : decode c_S_greatestDivisor 30 = .ok (.lload 6, 2) := by decide +kernel
theorem d_S_greatestDivisor_32 : decode c_S_greatestDivisor 32 = .ok (.lstore 4, 2) := by decide +kernel
theorem d_S_greatestDivisor_34 : decode c_S_greatestDivisor 34 = .ok (.lload 9, 2) := by decide +kernel
theorem d_S_greatestDivisor_36 : decode c_S_greatestDivisor 36 = .ok (.lstore 6, 2) := by decide +kernel
theorem d_S_greatestDivisor_38 : decode c_S_greatestDivisor 38 = .ok (.iinc 8 1, 3) := by decide +kernel
theorem d_S_greatestDivisor_41 : decode c_S_greatestDivisor 41 = .ok (.goto (-32), 3) := by decide +kernel
theorem d_S_greatestDivisor_44 : decode c_S_greatestDivisor 44 = .ok (.lload 4, 2) := by decide +kernel
theorem d_S_greatestDivisor_46 : decode c_S_greatestDivisor 46 = .ok (.lreturn, 1) := by decide +kernel
theorem d_S_force_0 : decode c_S_force 0 = .ok (.aload_n 0, 1) := by decide +kernel
theorem d_S_force_1 : decode c_S_force 1 = .ok (.getfield 37, 3) := by decide +kernel
theorem d_S_force_4 : decode c_S_force 4 = .ok (.ifCond .eq 25, 3) := by decide +kernel
theorem d_S_force_7 : decode c_S_force 7 = .ok (.iload_n 1, 1) := by decide +kernel
theorem d_S_force_8 : decode c_S_force 8 = .ok (.invokestatic 89, 3) := by decide +kernel
theorem d_S_force_11 : decode c_S_force 11 = .ok (.ifCond .eq 18, 3) := by decide +kernel
theorem d_S_force_14 : decode c_S_force 14 = .ok (.aload_n 0, 1) := by decide +kernel
theorem d_S_force_15 : decode c_S_force 15 = .ok (.iload_n 2, 1) := by decide +kernel
theorem d_S_force_16 : decode c_S_force 16 = .ok (.invokevirtual 64, 3) := by decide +kernel
theorem d_S_force_19 : decode c_S_force 19 = .ok (.ifCond .eq 10, 3) := by decide +kernel
theorem d_S_force_22 : decode c_S_force 22 = .ok (.iload_n 3, 1) := by decide +kernel
theorem d_S_force_23 : decode c_S_force 23 = .ok (.invokestatic 136, 3) := by decide +kernel
theorem d_S_force_26 : decode c_S_force 26 = .ok (.ifCond .ne 7, 3) := by decide +kernel
theorem d_S_force_29 : decode c_S_force 29 = .ok (.ldc2_w 119, 3) := by decide +kernel
theorem d_S_force_32 : decode c_S_force 32 = .ok (.lreturn, 1) := by decide +kernel
theorem d_S_force_33 : decode c_S_force 33 = .ok (.aload_n 0, 1) := by decide +kernel
theorem d_S_force_34 : decode c_S_force 34 = .ok (.getfield 33, 3) := by decide +kernel
theorem d_S_force_37 : decode c_S_force 37 = .ok (.iload_n 1, 1) := by decide +kernel
theorem d_S_force_38 : decode c_S_force 38 = .ok (.invokevirtual 121, 3) := by decide +kernel
theorem d_S_force_41 : decode c_S_force 41 = .ok (.aload_n 0, 1) := by decide +kernel
theorem d_S_force_42 : decode c_S_force 42 = .ok (.getfield 33, 3) := by decide +kernel
theorem d_S_force_45 : decode c_S_force 45 = .ok (.aload_n 0, 1) := by decide +kernel
theorem d_S_force_46 : decode c_S_force 46 = .ok (.getfield 12, 3) := by decide +kernel
theorem d_S_force_49 : decode c_S_force 49 = .ok (.aload_n 0, 1) := by decide +kernel
theorem d_S_force_50 : decode c_S_force 50 = .ok (.getfield 19, 3) := by decide +kernel
theorem d_S_force_53 : decode c_S_force 53 = .ok (.aload_n 0, 1) := by decide +kernel
theorem d_S_force_54 : decode c_S_force 54 = .ok (.getfield 26, 3) := by decide +kernel
theorem d_S_force_57 : decode c_S_force 57 = .ok (.invokevirtual 124, 3) := by decide +kernel
theorem d_S_force_60 : decode c_S_force 60 = .ok (.aload_n 0, 1) := by decide +kernel
theorem d_S_force_61 : decode c_S_force 61 = .ok (.aload_n 0, 1) := by decide +kernel
theorem d_S_force_62 : decode c_S_force 62 = .ok (.getfield 33, 3) := by decide +kernel
theorem d_S_force_65 : decode c_S_force 65 = .ok (.aload_n 0, 1) := by decide +kernel
theorem d_S_force_66 : decode c_S_force 66 = .ok (.getfield 12, 3) := by decide +kernel
theorem d_S_force_69 : decode c_S_force 69 = .ok (.iload_n 2, 1) := by decide +kernel
theorem d_S_force_70 : decode c_S_force 70 = .ok (.invokevirtual 139, 3) := by decide +kernel
theorem d_S_force_73 : decode c_S_force 73 = .ok (.iload_n 3, 1) := by decide +kernel
theorem d_S_force_74 : decode c_S_force 74 = .ok (.invokevirtual 132, 3) := by decide +kernel
theorem d_S_force_77 : decode c_S_force 77 = .ok (.lreturn, 1) := by decide +kernel
theorem d_R_forceNumerator_0 : decode c_R_forceNumerator 0 = .ok (.lconst 0, 1) := by decide +kernel
theorem d_R_forceNumerator_1 : decode c_R_forceNumerator 1 = .ok (.lstore_n 3, 1) := by decide +kernel
theorem d_R_forceNumerator_2 : decode c_R_forceNumerator 2 = .ok (.iconst 0, 1) := by decide +kernel
theorem d_R_forceNumerator_3 : decode c_R_forceNumerator 3 = .ok (.istore 5, 2) := by decide +kernel
theorem d_R_forceNumerator_5 : decode c_R_forceNumerator 5 = .ok (.iload 5, 2) := by decide +kernel
theorem d_R_forceNumerator_7 : decode c_R_forceNumerator 7 = .ok (.bipush 10, 2) := by decide +kernel
theorem d_R_forceNumerator_9 : decode c_R_forceNumerator 9 = .ok (.if_icmp .ge 28, 3) := by decide +kernel
theorem d_R_forceNumerator_12 : decode c_R_forceNumerator 12 = .ok (.lload_n 3, 1) := by decide +kernel
theorem d_R_forceNumerator_13 : decode c_R_forceNumerator 13 = .ok (.aload_n 1, 1) := by decide +kernel
theorem d_R_forceNumerator_14 : decode c_R_forceNumerator 14 = .ok (.iload_n 2, 1) := by decide +kernel
theorem d_R_forceNumerator_15 : decode c_R_forceNumerator 15 = .ok (.iload 5, 2) := by decide +kernel
theorem d_R_forceNumerator_17 : decode c_R_forceNumerator 17 = .ok (.invokevirtual 82, 3) := by decide +kernel
theorem d_R_forceNumerator_20 : decode c_R_forceNumerator 20 = .ok (.i2l, 1) := by decide +kernel
theorem d_R_forceNumerator_21 : decode c_R_forceNumerator 21 = .ok (.aload_n 0, 1) := by decide +kernel
theorem d_R_forceNumerator_22 : decode c_R_forceNumerator 22 = .ok (.getfield 19, 3) := by decide +kernel
theorem d_R_forceNumerator_25 : decode c_R_forceNumerator 25 = .ok (.iload 5, 2) := by decide +kernel
theorem d_R_forceNumerator_27 : decode c_R_forceNumerator 27 = .ok (.laload, 1) := by decide +kernel
theorem d_R_forceNumerator_28 : decode c_R_forceNumerator 28 = .ok (.lmul, 1) := by decide +kernel
theorem d_R_forceNumerator_29 : decode c_R_forceNumerator 29 = .ok (.ladd, 1) := by decide +kernel
theorem d_R_forceNumerator_30 : decode c_R_forceNumerator 30 = .ok (.lstore_n 3, 1) := by decide +kernel
theorem d_R_forceNumerator_31 : decode c_R_forceNumerator 31 = .ok (.iinc 5 1, 3) := by decide +kernel
theorem d_R_forceNumerator_34 : decode c_R_forceNumerator 34 = .ok (.goto (-29), 3) := by decide +kernel
theorem d_R_forceNumerator_37 : decode c_R_forceNumerator 37 = .ok (.aload_n 1, 1) := by decide +kernel
theorem d_R_forceNumerator_38 : decode c_R_forceNumerator 38 = .ok (.getfield 86, 3) := by decide +kernel
theorem d_R_forceNumerator_41 : decode c_R_forceNumerator 41 = .ok (.iload_n 2, 1) := by decide +kernel
theorem d_R_forceNumerator_42 : decode c_R_forceNumerator 42 = .ok (.iaload, 1) := by decide +kernel
theorem d_R_forceNumerator_43 : decode c_R_forceNumerator 43 = .ok (.i2l, 1) := by decide +kernel
theorem d_R_forceNumerator_44 : decode c_R_forceNumerator 44 = .ok (.lload_n 3, 1) := by decide +kernel
theorem d_R_forceNumerator_45 : decode c_R_forceNumerator 45 = .ok (.lmul, 1) := by decide +kernel
theorem d_R_forceNumerator_46 : decode c_R_forceNumerator 46 = .ok (.lreturn, 1) := by decide +kernel
theorem d_S_reaction_0 : decode c_S_reaction 0 = .ok (.iload_n 1, 1) := by decide +kernel
theorem d_S_reaction_1 : decode c_S_reaction 1 = .ok (.invokestatic 89, 3) := by decide +kernel
theorem d_S_reaction_4 : decode c_S_reaction 4 = .ok (.ifCond .eq 14, 3) := by decide +kernel
theorem d_S_reaction_7 : decode c_S_reaction 7 = .ok (.aload_n 0, 1) := by decide +kernel
theorem d_S_reaction_8 : decode c_S_reaction 8 = .ok (.iload_n 2, 1) := by decide +kernel
theorem d_S_reaction_9 : decode c_S_reaction 9 = .ok (.iload_n 3, 1) := by decide +kernel
theorem d_S_reaction_10 : decode c_S_reaction 10 = .ok (.iload 4, 2) := by decide +kernel
theorem d_S_reaction_12 : decode c_S_reaction 12 = .ok (.invokevirtual 116, 3) := by decide +kernel
theorem d_S_reaction_15 : decode c_S_reaction 15 = .ok (.ifCond .ne 7, 3) := by decide +kernel
theorem d_S_reaction_18 : decode c_S_reaction 18 = .ok (.ldc2_w 119, 3) := by decide +kernel
theorem d_S_reaction_21 : decode c_S_reaction 21 = .ok (.lreturn, 1) := by decide +kernel
theorem d_S_reaction_22 : decode c_S_reaction 22 = .ok (.iload_n 2, 1) := by decide +kernel
theorem d_S_reaction_23 : decode c_S_reaction 23 = .ok (.iload_n 3, 1) := by decide +kernel
theorem d_S_reaction_24 : decode c_S_reaction 24 = .ok (.invokestatic 74, 3) := by decide +kernel
theorem d_S_reaction_27 : decode c_S_reaction 27 = .ok (.istore 5, 2) := by decide +kernel
theorem d_S_reaction_29 : decode c_S_reaction 29 = .ok (.aload_n 0, 1) := by decide +kernel
theorem d_S_reaction_30 : decode c_S_reaction 30 = .ok (.getfield 12, 3) := by decide +kernel
theorem d_S_reaction_33 : decode c_S_reaction 33 = .ok (.getfield 78, 3) := by decide +kernel
theorem d_S_reaction_36 : decode c_S_reaction 36 = .ok (.iload 5, 2) := by decide +kernel
theorem d_S_reaction_38 : decode c_S_reaction 38 = .ok (.baload, 1) := by decide +kernel
theorem d_S_reaction_39 : decode c_S_reaction 39 = .ok (.ifCond .ne 7, 3) := by decide +kernel
theorem d_S_reaction_42 : decode c_S_reaction 42 = .ok (.ldc2_w 119, 3) := by decide +kernel
theorem d_S_reaction_45 : decode c_S_reaction 45 = .ok (.lreturn, 1) := by decide +kernel
theorem d_S_reaction_46 : decode c_S_reaction 46 = .ok (.aload_n 0, 1) := by decide +kernel
theorem d_S_reaction_47 : decode c_S_reaction 47 = .ok (.getfield 33, 3) := by decide +kernel
theorem d_S_reaction_50 : decode c_S_reaction 50 = .ok (.iload_n 1, 1) := by decide +kernel
theorem d_S_reaction_51 : decode c_S_reaction 51 = .ok (.invokevirtual 121, 3) := by decide +kernel
theorem d_S_reaction_54 : decode c_S_reaction 54 = .ok (.aload_n 0, 1) := by decide +kernel
theorem d_S_reaction_55 : decode c_S_reaction 55 = .ok (.getfield 33, 3) := by decide +kernel
theorem d_S_reaction_58 : decode c_S_reaction 58 = .ok (.aload_n 0, 1) := by decide +kernel
theorem d_S_reaction_59 : decode c_S_reaction 59 = .ok (.getfield 12, 3) := by decide +kernel
theorem d_S_reaction_62 : decode c_S_reaction 62 = .ok (.aload_n 0, 1) := by decide +kernel
theorem d_S_reaction_63 : decode c_S_reaction 63 = .ok (.getfield 19, 3) := by decide +kernel
theorem d_S_reaction_66 : decode c_S_reaction 66 = .ok (.aload_n 0, 1) := by decide +kernel
theorem d_S_reaction_67 : decode c_S_reaction 67 = .ok (.getfield 26, 3) := by decide +kernel
theorem d_S_reaction_70 : decode c_S_reaction 70 = .ok (.invokevirtual 124, 3) := by decide +kernel
theorem d_S_reaction_73 : decode c_S_reaction 73 = .ok (.aload_n 0, 1) := by decide +kernel
theorem d_S_reaction_74 : decode c_S_reaction 74 = .ok (.aload_n 0, 1) := by decide +kernel
theorem d_S_reaction_75 : decode c_S_reaction 75 = .ok (.getfield 33, 3) := by decide +kernel
theorem d_S_reaction_78 : decode c_S_reaction 78 = .ok (.aload_n 0, 1) := by decide +kernel
theorem d_S_reaction_79 : decode c_S_reaction 79 = .ok (.getfield 26, 3) := by decide +kernel
theorem d_S_reaction_82 : decode c_S_reaction 82 = .ok (.iload 5, 2) := by decide +kernel
theorem d_S_reaction_84 : decode c_S_reaction 84 = .ok (.invokevirtual 143, 3) := by decide +kernel
theorem d_S_reaction_87 : decode c_S_reaction 87 = .ok (.iload 4, 2) := by decide +kernel
theorem d_S_reaction_89 : decode c_S_reaction 89 = .ok (.invokevirtual 132, 3) := by decide +kernel
theorem d_S_reaction_92 : decode c_S_reaction 92 = .ok (.lreturn, 1) := by decide +kernel
