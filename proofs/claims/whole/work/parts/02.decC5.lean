theorem d_R_reactionNumerator_0 : decode c_R_reactionNumerator 0 = .ok (.aload_n 0, 1) := by decide +kernel
theorem d_R_reactionNumerator_1 : decode c_R_reactionNumerator 1 = .ok (.getfield 15, 3) := by decide +kernel
theorem d_R_reactionNumerator_4 : decode c_R_reactionNumerator 4 = .ok (.iload_n 2, 1) := by decide +kernel
theorem d_R_reactionNumerator_5 : decode c_R_reactionNumerator 5 = .ok (.laload, 1) := by decide +kernel
theorem d_R_reactionNumerator_6 : decode c_R_reactionNumerator 6 = .ok (.lneg, 1) := by decide +kernel
theorem d_R_reactionNumerator_7 : decode c_R_reactionNumerator 7 = .ok (.aload_n 0, 1) := by decide +kernel
theorem d_R_reactionNumerator_8 : decode c_R_reactionNumerator 8 = .ok (.getfield 28, 3) := by decide +kernel
theorem d_R_reactionNumerator_11 : decode c_R_reactionNumerator 11 = .ok (.lmul, 1) := by decide +kernel
theorem d_R_reactionNumerator_12 : decode c_R_reactionNumerator 12 = .ok (.lstore_n 3, 1) := by decide +kernel
theorem d_R_reactionNumerator_13 : decode c_R_reactionNumerator 13 = .ok (.iconst 0, 1) := by decide +kernel
theorem d_R_reactionNumerator_14 : decode c_R_reactionNumerator 14 = .ok (.istore 5, 2) := by decide +kernel
theorem d_R_reactionNumerator_16 : decode c_R_reactionNumerator 16 = .ok (.iload 5, 2) := by decide +kernel
theorem d_R_reactionNumerator_18 : decode c_R_reactionNumerator 18 = .ok (.bipush 10, 2) := by decide +kernel
theorem d_R_reactionNumerator_20 : decode c_R_reactionNumerator 20 = .ok (.if_icmp .ge 29, 3) := by decide +kernel
theorem d_R_reactionNumerator_23 : decode c_R_reactionNumerator 23 = .ok (.lload_n 3, 1) := by decide +kernel
theorem d_R_reactionNumerator_24 : decode c_R_reactionNumerator 24 = .ok (.aload_n 1, 1) := by decide +kernel
theorem d_R_reactionNumerator_25 : decode c_R_reactionNumerator 25 = .ok (.getfield 78, 3) := by decide +kernel
theorem d_R_reactionNumerator_28 : decode c_R_reactionNumerator 28 = .ok (.iload_n 2, 1) := by decide +kernel
theorem d_R_reactionNumerator_29 : decode c_R_reactionNumerator 29 = .ok (.aaload, 1) := by decide +kernel
theorem d_R_reactionNumerator_30 : decode c_R_reactionNumerator 30 = .ok (.iload 5, 2) := by decide +kernel
theorem d_R_reactionNumerator_32 : decode c_R_reactionNumerator 32 = .ok (.laload, 1) := by decide +kernel
theorem d_R_reactionNumerator_33 : decode c_R_reactionNumerator 33 = .ok (.aload_n 0, 1) := by decide +kernel
theorem d_R_reactionNumerator_34 : decode c_R_reactionNumerator 34 = .ok (.getfield 19, 3) := by decide +kernel
theorem d_R_reactionNumerator_37 : decode c_R_reactionNumerator 37 = .ok (.iload 5, 2) := by decide +kernel
theorem d_R_reactionNumerator_39 : decode c_R_reactionNumerator 39 = .ok (.laload, 1) := by decide +kernel
theorem d_R_reactionNumerator_40 : decode c_R_reactionNumerator 40 = .ok (.lmul, 1) := by decide +kernel
theorem d_R_reactionNumerator_41 : decode c_R_reactionNumerator 41 = .ok (.ladd, 1) := by decide +kernel
theorem d_R_reactionNumerator_42 : decode c_R_reactionNumerator 42 = .ok (.lstore_n 3, 1) := by decide +kernel
theorem d_R_reactionNumerator_43 : decode c_R_reactionNumerator 43 = .ok (.iinc 5 1, 3) := by decide +kernel
theorem d_R_reactionNumerator_46 : decode c_R_reactionNumerator 46 = .ok (.goto (-30), 3) := by decide +kernel
theorem d_R_reactionNumerator_49 : decode c_R_reactionNumerator 49 = .ok (.lload_n 3, 1) := by decide +kernel
theorem d_R_reactionNumerator_50 : decode c_R_reactionNumerator 50 = .ok (.lreturn, 1) := by decide +kernel
theorem d_S_combined_0 : decode c_S_combined 0 = .ok (.aload_n 0, 1) := by decide +kernel
theorem d_S_combined_1 : decode c_S_combined 1 = .ok (.iload_n 2, 1) := by decide +kernel
theorem d_S_combined_2 : decode c_S_combined 2 = .ok (.iload_n 3, 1) := by decide +kernel
theorem d_S_combined_3 : decode c_S_combined 3 = .ok (.iload 4, 2) := by decide +kernel
theorem d_S_combined_5 : decode c_S_combined 5 = .ok (.invokevirtual 116, 3) := by decide +kernel
theorem d_S_combined_8 : decode c_S_combined 8 = .ok (.ifCond .ne 7, 3) := by decide +kernel
theorem d_S_combined_11 : decode c_S_combined 11 = .ok (.ldc2_w 119, 3) := by decide +kernel
theorem d_S_combined_14 : decode c_S_combined 14 = .ok (.lreturn, 1) := by decide +kernel
theorem d_S_combined_15 : decode c_S_combined 15 = .ok (.aload_n 0, 1) := by decide +kernel
theorem d_S_combined_16 : decode c_S_combined 16 = .ok (.getfield 33, 3) := by decide +kernel
theorem d_S_combined_19 : decode c_S_combined 19 = .ok (.iload_n 1, 1) := by decide +kernel
theorem d_S_combined_20 : decode c_S_combined 20 = .ok (.invokevirtual 147, 3) := by decide +kernel
theorem d_S_combined_23 : decode c_S_combined 23 = .ok (.aload_n 0, 1) := by decide +kernel
theorem d_S_combined_24 : decode c_S_combined 24 = .ok (.getfield 33, 3) := by decide +kernel
theorem d_S_combined_27 : decode c_S_combined 27 = .ok (.aload_n 0, 1) := by decide +kernel
theorem d_S_combined_28 : decode c_S_combined 28 = .ok (.getfield 12, 3) := by decide +kernel
theorem d_S_combined_31 : decode c_S_combined 31 = .ok (.aload_n 0, 1) := by decide +kernel
theorem d_S_combined_32 : decode c_S_combined 32 = .ok (.getfield 19, 3) := by decide +kernel
theorem d_S_combined_35 : decode c_S_combined 35 = .ok (.aload_n 0, 1) := by decide +kernel
theorem d_S_combined_36 : decode c_S_combined 36 = .ok (.getfield 26, 3) := by decide +kernel
theorem d_S_combined_39 : decode c_S_combined 39 = .ok (.invokevirtual 124, 3) := by decide +kernel
theorem d_S_combined_42 : decode c_S_combined 42 = .ok (.aload_n 0, 1) := by decide +kernel
theorem d_S_combined_43 : decode c_S_combined 43 = .ok (.aload_n 0, 1) := by decide +kernel
theorem d_S_combined_44 : decode c_S_combined 44 = .ok (.getfield 33, 3) := by decide +kernel
theorem d_S_combined_47 : decode c_S_combined 47 = .ok (.getfield 128, 3) := by decide +kernel
theorem d_S_combined_50 : decode c_S_combined 50 = .ok (.iload_n 2, 1) := by decide +kernel
theorem d_S_combined_51 : decode c_S_combined 51 = .ok (.iload_n 3, 1) := by decide +kernel
theorem d_S_combined_52 : decode c_S_combined 52 = .ok (.invokestatic 74, 3) := by decide +kernel
theorem d_S_combined_55 : decode c_S_combined 55 = .ok (.laload, 1) := by decide +kernel
theorem d_S_combined_56 : decode c_S_combined 56 = .ok (.iload 4, 2) := by decide +kernel
theorem d_S_combined_58 : decode c_S_combined 58 = .ok (.invokevirtual 132, 3) := by decide +kernel
theorem d_S_combined_61 : decode c_S_combined 61 = .ok (.lreturn, 1) := by decide +kernel
theorem d_R_chooseFactors_0 : decode c_R_chooseFactors 0 = .ok (.iconst 0, 1) := by decide +kernel
theorem d_R_chooseFactors_1 : decode c_R_chooseFactors 1 = .ok (.istore_n 2, 1) := by decide +kernel
theorem d_R_chooseFactors_2 : decode c_R_chooseFactors 2 = .ok (.iload_n 2, 1) := by decide +kernel
theorem d_R_chooseFactors_3 : decode c_R_chooseFactors 3 = .ok (.iconst 4, 1) := by decide +kernel
theorem d_R_chooseFactors_4 : decode c_R_chooseFactors 4 = .ok (.if_icmp .ge 22, 3) := by decide +kernel
theorem d_R_chooseFactors_7 : decode c_R_chooseFactors 7 = .ok (.aload_n 0, 1) := by decide +kernel
theorem d_R_chooseFactors_8 : decode c_R_chooseFactors 8 = .ok (.getfield 9, 3) := by decide +kernel
theorem d_R_chooseFactors_11 : decode c_R_chooseFactors 11 = .ok (.iload_n 2, 1) := by decide +kernel
theorem d_R_chooseFactors_12 : decode c_R_chooseFactors 12 = .ok (.iload_n 1, 1) := by decide +kernel
theorem d_R_chooseFactors_13 : decode c_R_chooseFactors 13 = .ok (.bipush 8, 2) := by decide +kernel
theorem d_R_chooseFactors_15 : decode c_R_chooseFactors 15 = .ok (.iload_n 2, 1) := by decide +kernel
theorem d_R_chooseFactors_16 : decode c_R_chooseFactors 16 = .ok (.imul, 1) := by decide +kernel
theorem d_R_chooseFactors_17 : decode c_R_chooseFactors 17 = .ok (.ishr, 1) := by decide +kernel
theorem d_R_chooseFactors_18 : decode c_R_chooseFactors 18 = .ok (.i2b, 1) := by decide +kernel
theorem d_R_chooseFactors_19 : decode c_R_chooseFactors 19 = .ok (.iastore, 1) := by decide +kernel
theorem d_R_chooseFactors_20 : decode c_R_chooseFactors 20 = .ok (.iinc 2 1, 3) := by decide +kernel
theorem d_R_chooseFactors_23 : decode c_R_chooseFactors 23 = .ok (.goto (-21), 3) := by decide +kernel
theorem d_R_chooseFactors_26 : decode c_R_chooseFactors 26 = .ok (.return_, 1) := by decide +kernel
theorem d_S_determinant_0 : decode c_S_determinant 0 = .ok (.aload_n 0, 1) := by decide +kernel
theorem d_S_determinant_1 : decode c_S_determinant 1 = .ok (.getfield 37, 3) := by decide +kernel
theorem d_S_determinant_4 : decode c_S_determinant 4 = .ok (.ifCond .eq 13, 3) := by decide +kernel
theorem d_S_determinant_7 : decode c_S_determinant 7 = .ok (.aload_n 0, 1) := by decide +kernel
theorem d_S_determinant_8 : decode c_S_determinant 8 = .ok (.getfield 26, 3) := by decide +kernel
theorem d_S_determinant_11 : decode c_S_determinant 11 = .ok (.invokevirtual 150, 3) := by decide +kernel
theorem d_S_determinant_14 : decode c_S_determinant 14 = .ok (.goto 6, 3) := by decide +kernel
theorem d_S_determinant_17 : decode c_S_determinant 17 = .ok (.ldc2_w 119, 3) := by decide +kernel
theorem d_S_determinant_20 : decode c_S_determinant 20 = .ok (.lreturn, 1) := by decide +kernel
theorem d_S_order_0 : decode c_S_order 0 = .ok (.aload_n 0, 1) := by decide +kernel
theorem d_S_order_1 : decode c_S_order 1 = .ok (.getfield 37, 3) := by decide +kernel
theorem d_S_order_4 : decode c_S_order 4 = .ok (.ifCond .eq 18, 3) := by decide +kernel
theorem d_S_order_7 : decode c_S_order 7 = .ok (.iload_n 1, 1) := by decide +kernel
theorem d_S_order_8 : decode c_S_order 8 = .ok (.ifCond .lt 14, 3) := by decide +kernel
theorem d_S_order_11 : decode c_S_order 11 = .ok (.iload_n 1, 1) := by decide +kernel
theorem d_S_order_12 : decode c_S_order 12 = .ok (.aload_n 0, 1) := by decide +kernel
theorem d_S_order_13 : decode c_S_order 13 = .ok (.getfield 19, 3) := by decide +kernel
theorem d_S_order_16 : decode c_S_order 16 = .ok (.getfield 154, 3) := by decide +kernel
theorem d_S_order_19 : decode c_S_order 19 = .ok (.if_icmp .lt 5, 3) := by decide +kernel
theorem d_S_order_22 : decode c_S_order 22 = .ok (.iconst (-1), 1) := by decide +kernel
theorem d_S_order_23 : decode c_S_order 23 = .ok (.ireturn, 1) := by decide +kernel
theorem d_S_order_24 : decode c_S_order 24 = .ok (.aload_n 0, 1) := by decide +kernel
theorem d_S_order_25 : decode c_S_order 25 = .ok (.getfield 19, 3) := by decide +kernel
theorem d_S_order_28 : decode c_S_order 28 = .ok (.getfield 157, 3) := by decide +kernel
theorem d_S_order_31 : decode c_S_order 31 = .ok (.iload_n 1, 1) := by decide +kernel
theorem d_S_order_32 : decode c_S_order 32 = .ok (.iaload, 1) := by decide +kernel
theorem d_S_order_33 : decode c_S_order 33 = .ok (.ireturn, 1) := by decide +kernel
theorem d_S_unknown_0 : decode c_S_unknown 0 = .ok (.aload_n 0, 1) := by decide +kernel
theorem d_S_unknown_1 : decode c_S_unknown 1 = .ok (.getfield 37, 3) := by decide +kernel
theorem d_S_unknown_4 : decode c_S_unknown 4 = .ok (.ifCond .eq 18, 3) := by decide +kernel
theorem d_S_unknown_7 : decode c_S_unknown 7 = .ok (.aload_n 0, 1) := by decide +kernel
theorem d_S_unknown_8 : decode c_S_unknown 8 = .ok (.iload_n 1, 1) := by decide +kernel
theorem d_S_unknown_9 : decode c_S_unknown 9 = .ok (.invokevirtual 160, 3) := by decide +kernel
theorem d_S_unknown_12 : decode c_S_unknown 12 = .ok (.ifCond .eq 10, 3) := by decide +kernel
theorem d_S_unknown_15 : decode c_S_unknown 15 = .ok (.iload_n 2, 1) := by decide +kernel
theorem d_S_unknown_16 : decode c_S_unknown 16 = .ok (.invokestatic 71, 3) := by decide +kernel
theorem d_S_unknown_19 : decode c_S_unknown 19 = .ok (.ifCond .ne 5, 3) := by decide +kernel
theorem d_S_unknown_22 : decode c_S_unknown 22 = .ok (.iconst (-1), 1) := by decide +kernel
theorem d_S_unknown_23 : decode c_S_unknown 23 = .ok (.ireturn, 1) := by decide +kernel
theorem d_S_unknown_24 : decode c_S_unknown 24 = .ok (.aload_n 0, 1) := by decide +kernel
theorem d_S_unknown_25 : decode c_S_unknown 25 = .ok (.getfield 19, 3) := by decide +kernel
theorem d_S_unknown_28 : decode c_S_unknown 28 = .ok (.getfield 163, 3) := by decide +kernel
theorem d_S_unknown_31 : decode c_S_unknown 31 = .ok (.iload_n 1, 1) := by decide +kernel
theorem d_S_unknown_32 : decode c_S_unknown 32 = .ok (.iload_n 2, 1) := by decide +kernel
theorem d_S_unknown_33 : decode c_S_unknown 33 = .ok (.invokestatic 74, 3) := by decide +kernel
theorem d_S_unknown_36 : decode c_S_unknown 36 = .ok (.iaload, 1) := by decide +kernel
theorem d_S_unknown_37 : decode c_S_unknown 37 = .ok (.ireturn, 1) := by decide +kernel
theorem d_S_count_0 : decode c_S_count 0 = .ok (.iload_n 1, 1) := by decide +kernel
theorem d_S_count_1 : decode c_S_count 1 = .ok (.tableswitch 102 0 4 #[35, 43, 51, 64, 83], 35) := by decide +kernel
theorem d_S_count_36 : decode c_S_count 36 = .ok (.aload_n 0, 1) := by decide +kernel
theorem d_S_count_37 : decode c_S_count 37 = .ok (.getfield 12, 3) := by decide +kernel
theorem d_S_count_40 : decode c_S_count 40 = .ok (.invokevirtual 96, 3) := by decide +kernel
theorem d_S_count_43 : decode c_S_count 43 = .ok (.ireturn, 1) := by decide +kernel
theorem d_S_count_44 : decode c_S_count 44 = .ok (.aload_n 0, 1) := by decide +kernel
theorem d_S_count_45 : decode c_S_count 45 = .ok (.getfield 12, 3) := by decide +kernel
theorem d_S_count_48 : decode c_S_count 48 = .ok (.getfield 56, 3) := by decide +kernel
theorem d_S_count_51 : decode c_S_count 51 = .ok (.ireturn, 1) := by decide +kernel
theorem d_S_count_52 : decode c_S_count 52 = .ok (.aload_n 0, 1) := by decide +kernel
theorem d_S_count_53 : decode c_S_count 53 = .ok (.getfield 37, 3) := by decide +kernel
theorem d_S_count_56 : decode c_S_count 56 = .ok (.ifCond .eq 7, 3) := by decide +kernel
theorem d_S_count_59 : decode c_S_count 59 = .ok (.iconst 1, 1) := by decide +kernel
theorem d_S_count_60 : decode c_S_count 60 = .ok (.goto 4, 3) := by decide +kernel
theorem d_S_count_63 : decode c_S_count 63 = .ok (.iconst 0, 1) := by decide +kernel
theorem d_S_count_64 : decode c_S_count 64 = .ok (.ireturn, 1) := by decide +kernel
theorem d_S_count_65 : decode c_S_count 65 = .ok (.aload_n 0, 1) := by decide +kernel
theorem d_S_count_66 : decode c_S_count 66 = .ok (.getfield 37, 3) := by decide +kernel
theorem d_S_count_69 : decode c_S_count 69 = .ok (.ifCond .eq 13, 3) := by decide +kernel
theorem d_S_count_72 : decode c_S_count 72 = .ok (.aload_n 0, 1) := by decide +kernel
theorem d_S_count_73 : decode c_S_count 73 = .ok (.getfield 19, 3) := by decide +kernel
theorem d_S_count_76 : decode c_S_count 76 = .ok (.getfield 113, 3) := by decide +kernel
theorem d_S_count_79 : decode c_S_count 79 = .ok (.goto 4, 3) := by decide +kernel
theorem d_S_count_82 : decode c_S_count 82 = .ok (.iconst 0, 1) := by decide +kernel
theorem d_S_count_83 : decode c_S_count 83 = .ok (.ireturn, 1) := by decide +kernel
theorem d_S_count_84 : decode c_S_count 84 = .ok (.aload_n 0, 1) := by decide +kernel
theorem d_S_count_85 : decode c_S_count 85 = .ok (.getfield 37, 3) := by decide +kernel
theorem d_S_count_88 : decode c_S_count 88 = .ok (.ifCond .eq 13, 3) := by decide +kernel
theorem d_S_count_91 : decode c_S_count 91 = .ok (.aload_n 0, 1) := by decide +kernel
theorem d_S_count_92 : decode c_S_count 92 = .ok (.getfield 26, 3) := by decide +kernel
theorem d_S_count_95 : decode c_S_count 95 = .ok (.invokevirtual 166, 3) := by decide +kernel
theorem d_S_count_98 : decode c_S_count 98 = .ok (.goto 4, 3) := by decide +kernel
theorem d_S_count_101 : decode c_S_count 101 = .ok (.iconst 0, 1) := by decide +kernel
theorem d_S_count_102 : decode c_S_count 102 = .ok (.ireturn, 1) := by decide +kernel
theorem d_S_count_103 : decode c_S_count 103 = .ok (.iconst (-1), 1) := by decide +kernel
theorem d_S_count_104 : decode c_S_count 104 = .ok (.ireturn, 1) := by decide +kernel
theorem d_E_profile_0 : decode c_E_profile 0 = .ok (.iconst 0, 1) := by decide +kernel
theorem d_E_profile_1 : decode c_E_profile 1 = .ok (.istore_n 1, 1) := by decide +kernel
theorem d_E_profile_2 : decode c_E_profile 2 = .ok (.iconst 0, 1) := by decide +kernel
theorem d_E_profile_3 : decode c_E_profile 3 = .ok (.istore_n 2, 1) := by decide +kernel
theorem d_E_profile_4 : decode c_E_profile 4 = .ok (.iload_n 2, 1) := by decide +kernel
theorem d_E_profile_5 : decode c_E_profile 5 = .ok (.aload_n 0, 1) := by decide +kernel
theorem d_E_profile_6 : decode c_E_profile 6 = .ok (.getfield 19, 3) := by decide +kernel
theorem d_E_profile_9 : decode c_E_profile 9 = .ok (.if_icmp .ge 41, 3) := by decide +kernel
theorem d_E_profile_12 : decode c_E_profile 12 = .ok (.iconst 0, 1) := by decide +kernel
theorem d_E_profile_13 : decode c_E_profile 13 = .ok (.istore_n 3, 1) := by decide +kernel
theorem d_E_profile_14 : decode c_E_profile 14 = .ok (.iload_n 3, 1) := by decide +kernel
theorem d_E_profile_15 : decode c_E_profile 15 = .ok (.iload_n 2, 1) := by decide +kernel
theorem d_E_profile_16 : decode c_E_profile 16 = .ok (.if_icmp .ge 22, 3) := by decide +kernel
theorem d_E_profile_19 : decode c_E_profile 19 = .ok (.aload_n 0, 1) := by decide +kernel
theorem d_E_profile_20 : decode c_E_profile 20 = .ok (.getfield 16, 3) := by decide +kernel
theorem d_E_profile_23 : decode c_E_profile 23 = .ok (.iload_n 2, 1) := by decide +kernel
theorem d_E_profile_24 : decode c_E_profile 24 = .ok (.aaload, 1) := by decide +kernel
theorem d_E_profile_25 : decode c_E_profile 25 = .ok (.iload_n 3, 1) := by decide +kernel
theorem d_E_profile_26 : decode c_E_profile 26 = .ok (.laload, 1) := by decide +kernel
theorem d_E_profile_27 : decode c_E_profile 27 = .ok (.lconst 0, 1) := by decide +kernel
theorem d_E_profile_28 : decode c_E_profile 28 = .ok (.lcmp, 1) := by decide +kernel
theorem d_E_profile_29 : decode c_E_profile 29 = .ok (.ifCond .ne 9, 3) := by decide +kernel
theorem d_E_profile_32 : decode c_E_profile 32 = .ok (.iinc 3 1, 3) := by decide +kernel
theorem d_E_profile_35 : decode c_E_profile 35 = .ok (.goto (-21), 3) := by decide +kernel
theorem d_E_profile_38 : decode c_E_profile 38 = .ok (.iload_n 1, 1) := by decide +kernel
theorem d_E_profile_39 : decode c_E_profile 39 = .ok (.iload_n 2, 1) := by decide +kernel
theorem d_E_profile_40 : decode c_E_profile 40 = .ok (.iload_n 3, 1) := by decide +kernel
theorem d_E_profile_41 : decode c_E_profile 41 = .ok (.isub, 1) := by decide +kernel
theorem d_E_profile_42 : decode c_E_profile 42 = .ok (.iadd, 1) := by decide +kernel
theorem d_E_profile_43 : decode c_E_profile 43 = .ok (.istore_n 1, 1) := by decide +kernel
theorem d_E_profile_44 : decode c_E_profile 44 = .ok (.iinc 2 1, 3) := by decide +kernel
theorem d_E_profile_47 : decode c_E_profile 47 = .ok (.goto (-43), 3) := by decide +kernel
theorem d_E_profile_50 : decode c_E_profile 50 = .ok (.iload_n 1, 1) := by decide +kernel
theorem d_E_profile_51 : decode c_E_profile 51 = .ok (.ireturn, 1) := by decide +kernel
