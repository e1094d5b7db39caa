theorem d_M_candidate_0 : decode c_M_candidate 0 = .ok (.iconst (-1), 1) := by decide +kernel
theorem d_M_candidate_1 : decode c_M_candidate 1 = .ok (.istore_n 2, 1) := by decide +kernel
theorem d_M_candidate_2 : decode c_M_candidate 2 = .ok (.iconst 0, 1) := by decide +kernel
theorem d_M_candidate_3 : decode c_M_candidate 3 = .ok (.istore_n 3, 1) := by decide +kernel
theorem d_M_candidate_4 : decode c_M_candidate 4 = .ok (.iload_n 3, 1) := by decide +kernel
theorem d_M_candidate_5 : decode c_M_candidate 5 = .ok (.iconst 5, 1) := by decide +kernel
theorem d_M_candidate_6 : decode c_M_candidate 6 = .ok (.if_icmp .ge 70, 3) := by decide +kernel
theorem d_M_candidate_9 : decode c_M_candidate 9 = .ok (.aload_n 0, 1) := by decide +kernel
theorem d_M_candidate_10 : decode c_M_candidate 10 = .ok (.getfield 7, 3) := by decide +kernel
theorem d_M_candidate_13 : decode c_M_candidate 13 = .ok (.iload_n 3, 1) := by decide +kernel
theorem d_M_candidate_14 : decode c_M_candidate 14 = .ok (.baload, 1) := by decide +kernel
theorem d_M_candidate_15 : decode c_M_candidate 15 = .ok (.ifCond .eq 28, 3) := by decide +kernel
theorem d_M_candidate_18 : decode c_M_candidate 18 = .ok (.aload_n 0, 1) := by decide +kernel
theorem d_M_candidate_19 : decode c_M_candidate 19 = .ok (.iload_n 3, 1) := by decide +kernel
theorem d_M_candidate_20 : decode c_M_candidate 20 = .ok (.invokevirtual 79, 3) := by decide +kernel
theorem d_M_candidate_23 : decode c_M_candidate 23 = .ok (.ifCond .ne 20, 3) := by decide +kernel
theorem d_M_candidate_26 : decode c_M_candidate 26 = .ok (.iload_n 1, 1) := by decide +kernel
theorem d_M_candidate_27 : decode c_M_candidate 27 = .ok (.ifCond .lt 12, 3) := by decide +kernel
theorem d_M_candidate_30 : decode c_M_candidate 30 = .ok (.aload_n 0, 1) := by decide +kernel
theorem d_M_candidate_31 : decode c_M_candidate 31 = .ok (.iload_n 1, 1) := by decide +kernel
theorem d_M_candidate_32 : decode c_M_candidate 32 = .ok (.iload_n 3, 1) := by decide +kernel
theorem d_M_candidate_33 : decode c_M_candidate 33 = .ok (.invokevirtual 73, 3) := by decide +kernel
theorem d_M_candidate_36 : decode c_M_candidate 36 = .ok (.ifCond .eq 7, 3) := by decide +kernel
theorem d_M_candidate_39 : decode c_M_candidate 39 = .ok (.iconst 1, 1) := by decide +kernel
theorem d_M_candidate_40 : decode c_M_candidate 40 = .ok (.goto 4, 3) := by decide +kernel
theorem d_M_candidate_43 : decode c_M_candidate 43 = .ok (.iconst 0, 1) := by decide +kernel
theorem d_M_candidate_44 : decode c_M_candidate 44 = .ok (.istore 4, 2) := by decide +kernel
theorem d_M_candidate_46 : decode c_M_candidate 46 = .ok (.iload 4, 2) := by decide +kernel
theorem d_M_candidate_48 : decode c_M_candidate 48 = .ok (.ifCond .eq 22, 3) := by decide +kernel
theorem d_M_candidate_51 : decode c_M_candidate 51 = .ok (.iload_n 2, 1) := by decide +kernel
theorem d_M_candidate_52 : decode c_M_candidate 52 = .ok (.ifCond .lt 16, 3) := by decide +kernel
theorem d_M_candidate_55 : decode c_M_candidate 55 = .ok (.aload_n 0, 1) := by decide +kernel
theorem d_M_candidate_56 : decode c_M_candidate 56 = .ok (.iload_n 3, 1) := by decide +kernel
theorem d_M_candidate_57 : decode c_M_candidate 57 = .ok (.invokevirtual 83, 3) := by decide +kernel
theorem d_M_candidate_60 : decode c_M_candidate 60 = .ok (.aload_n 0, 1) := by decide +kernel
theorem d_M_candidate_61 : decode c_M_candidate 61 = .ok (.iload_n 2, 1) := by decide +kernel
theorem d_M_candidate_62 : decode c_M_candidate 62 = .ok (.invokevirtual 83, 3) := by decide +kernel
theorem d_M_candidate_65 : decode c_M_candidate 65 = .ok (.if_icmp .ge 5, 3) := by decide +kernel
theorem d_M_candidate_68 : decode c_M_candidate 68 = .ok (.iload_n 3, 1) := by decide +kernel
theorem d_M_candidate_69 : decode c_M_candidate 69 = .ok (.istore_n 2, 1) := by decide +kernel
theorem d_M_candidate_70 : decode c_M_candidate 70 = .ok (.iinc 3 1, 3) := by decide +kernel
theorem d_M_candidate_73 : decode c_M_candidate 73 = .ok (.goto (-69), 3) := by decide +kernel
theorem d_M_candidate_76 : decode c_M_candidate 76 = .ok (.iload_n 2, 1) := by decide +kernel
theorem d_M_candidate_77 : decode c_M_candidate 77 = .ok (.ireturn, 1) := by decide +kernel
theorem d_M_inOrder_0 : decode c_M_inOrder 0 = .ok (.iconst 0, 1) := by decide +kernel
theorem d_M_inOrder_1 : decode c_M_inOrder 1 = .ok (.istore_n 2, 1) := by decide +kernel
theorem d_M_inOrder_2 : decode c_M_inOrder 2 = .ok (.iload_n 2, 1) := by decide +kernel
theorem d_M_inOrder_3 : decode c_M_inOrder 3 = .ok (.aload_n 0, 1) := by decide +kernel
theorem d_M_inOrder_4 : decode c_M_inOrder 4 = .ok (.getfield 76, 3) := by decide +kernel
theorem d_M_inOrder_7 : decode c_M_inOrder 7 = .ok (.if_icmp .ge 21, 3) := by decide +kernel
theorem d_M_inOrder_10 : decode c_M_inOrder 10 = .ok (.aload_n 0, 1) := by decide +kernel
theorem d_M_inOrder_11 : decode c_M_inOrder 11 = .ok (.getfield 41, 3) := by decide +kernel
theorem d_M_inOrder_14 : decode c_M_inOrder 14 = .ok (.iload_n 2, 1) := by decide +kernel
theorem d_M_inOrder_15 : decode c_M_inOrder 15 = .ok (.iaload, 1) := by decide +kernel
theorem d_M_inOrder_16 : decode c_M_inOrder 16 = .ok (.iload_n 1, 1) := by decide +kernel
theorem d_M_inOrder_17 : decode c_M_inOrder 17 = .ok (.if_icmp .ne 5, 3) := by decide +kernel
theorem d_M_inOrder_20 : decode c_M_inOrder 20 = .ok (.iconst 1, 1) := by decide +kernel
theorem d_M_inOrder_21 : decode c_M_inOrder 21 = .ok (.ireturn, 1) := by decide +kernel
theorem d_M_inOrder_22 : decode c_M_inOrder 22 = .ok (.iinc 2 1, 3) := by decide +kernel
theorem d_M_inOrder_25 : decode c_M_inOrder 25 = .ok (.goto (-23), 3) := by decide +kernel
theorem d_M_inOrder_28 : decode c_M_inOrder 28 = .ok (.iconst 0, 1) := by decide +kernel
theorem d_M_inOrder_29 : decode c_M_inOrder 29 = .ok (.ireturn, 1) := by decide +kernel
theorem d_M_joined_0 : decode c_M_joined 0 = .ok (.iconst 0, 1) := by decide +kernel
theorem d_M_joined_1 : decode c_M_joined 1 = .ok (.istore_n 3, 1) := by decide +kernel
theorem d_M_joined_2 : decode c_M_joined 2 = .ok (.iload_n 3, 1) := by decide +kernel
theorem d_M_joined_3 : decode c_M_joined 3 = .ok (.aload_n 0, 1) := by decide +kernel
theorem d_M_joined_4 : decode c_M_joined 4 = .ok (.getfield 65, 3) := by decide +kernel
theorem d_M_joined_7 : decode c_M_joined 7 = .ok (.if_icmp .ge 51, 3) := by decide +kernel
theorem d_M_joined_10 : decode c_M_joined 10 = .ok (.aload_n 0, 1) := by decide +kernel
theorem d_M_joined_11 : decode c_M_joined 11 = .ok (.getfield 20, 3) := by decide +kernel
theorem d_M_joined_14 : decode c_M_joined 14 = .ok (.iload_n 3, 1) := by decide +kernel
theorem d_M_joined_15 : decode c_M_joined 15 = .ok (.iaload, 1) := by decide +kernel
theorem d_M_joined_16 : decode c_M_joined 16 = .ok (.iload_n 1, 1) := by decide +kernel
theorem d_M_joined_17 : decode c_M_joined 17 = .ok (.if_icmp .ne 13, 3) := by decide +kernel
theorem d_M_joined_20 : decode c_M_joined 20 = .ok (.aload_n 0, 1) := by decide +kernel
theorem d_M_joined_21 : decode c_M_joined 21 = .ok (.getfield 23, 3) := by decide +kernel
theorem d_M_joined_24 : decode c_M_joined 24 = .ok (.iload_n 3, 1) := by decide +kernel
theorem d_M_joined_25 : decode c_M_joined 25 = .ok (.iaload, 1) := by decide +kernel
theorem d_M_joined_26 : decode c_M_joined 26 = .ok (.iload_n 2, 1) := by decide +kernel
theorem d_M_joined_27 : decode c_M_joined 27 = .ok (.if_icmp .eq 23, 3) := by decide +kernel
theorem d_M_joined_30 : decode c_M_joined 30 = .ok (.aload_n 0, 1) := by decide +kernel
theorem d_M_joined_31 : decode c_M_joined 31 = .ok (.getfield 20, 3) := by decide +kernel
theorem d_M_joined_34 : decode c_M_joined 34 = .ok (.iload_n 3, 1) := by decide +kernel
theorem d_M_joined_35 : decode c_M_joined 35 = .ok (.iaload, 1) := by decide +kernel
theorem d_M_joined_36 : decode c_M_joined 36 = .ok (.iload_n 2, 1) := by decide +kernel
theorem d_M_joined_37 : decode c_M_joined 37 = .ok (.if_icmp .ne 15, 3) := by decide +kernel
theorem d_M_joined_40 : decode c_M_joined 40 = .ok (.aload_n 0, 1) := by decide +kernel
theorem d_M_joined_41 : decode c_M_joined 41 = .ok (.getfield 23, 3) := by decide +kernel
theorem d_M_joined_44 : decode c_M_joined 44 = .ok (.iload_n 3, 1) := by decide +kernel
theorem d_M_joined_45 : decode c_M_joined 45 = .ok (.iaload, 1) := by decide +kernel
theorem d_M_joined_46 : decode c_M_joined 46 = .ok (.iload_n 1, 1) := by decide +kernel
theorem d_M_joined_47 : decode c_M_joined 47 = .ok (.if_icmp .ne 5, 3) := by decide +kernel
theorem d_M_joined_50 : decode c_M_joined 50 = .ok (.iconst 1, 1) := by decide +kernel
theorem d_M_joined_51 : decode c_M_joined 51 = .ok (.ireturn, 1) := by decide +kernel
theorem d_M_joined_52 : decode c_M_joined 52 = .ok (.iinc 3 1, 3) := by decide +kernel
theorem d_M_joined_55 : decode c_M_joined 55 = .ok (.goto (-53), 3) := by decide +kernel
theorem d_M_joined_58 : decode c_M_joined 58 = .ok (.iconst 0, 1) := by decide +kernel
theorem d_M_joined_59 : decode c_M_joined 59 = .ok (.ireturn, 1) := by decide +kernel
theorem d_M_neighbours_0 : decode c_M_neighbours 0 = .ok (.iconst 0, 1) := by decide +kernel
theorem d_M_neighbours_1 : decode c_M_neighbours 1 = .ok (.istore_n 2, 1) := by decide +kernel
theorem d_M_neighbours_2 : decode c_M_neighbours 2 = .ok (.iconst 0, 1) := by decide +kernel
theorem d_M_neighbours_3 : decode c_M_neighbours 3 = .ok (.istore_n 3, 1) := by decide +kernel
theorem d_M_neighbours_4 : decode c_M_neighbours 4 = .ok (.iload_n 3, 1) := by decide +kernel
theorem d_M_neighbours_5 : decode c_M_neighbours 5 = .ok (.iconst 5, 1) := by decide +kernel
theorem d_M_neighbours_6 : decode c_M_neighbours 6 = .ok (.if_icmp .ge 21, 3) := by decide +kernel
theorem d_M_neighbours_9 : decode c_M_neighbours 9 = .ok (.aload_n 0, 1) := by decide +kernel
theorem d_M_neighbours_10 : decode c_M_neighbours 10 = .ok (.iload_n 1, 1) := by decide +kernel
theorem d_M_neighbours_11 : decode c_M_neighbours 11 = .ok (.iload_n 3, 1) := by decide +kernel
theorem d_M_neighbours_12 : decode c_M_neighbours 12 = .ok (.invokevirtual 73, 3) := by decide +kernel
theorem d_M_neighbours_15 : decode c_M_neighbours 15 = .ok (.ifCond .eq 6, 3) := by decide +kernel
theorem d_M_neighbours_18 : decode c_M_neighbours 18 = .ok (.iinc 2 1, 3) := by decide +kernel
theorem d_M_neighbours_21 : decode c_M_neighbours 21 = .ok (.iinc 3 1, 3) := by decide +kernel
theorem d_M_neighbours_24 : decode c_M_neighbours 24 = .ok (.goto (-20), 3) := by decide +kernel
theorem d_M_neighbours_27 : decode c_M_neighbours 27 = .ok (.iload_n 2, 1) := by decide +kernel
theorem d_M_neighbours_28 : decode c_M_neighbours 28 = .ok (.ireturn, 1) := by decide +kernel
theorem d_M_append_0 : decode c_M_append 0 = .ok (.aload_n 0, 1) := by decide +kernel
theorem d_M_append_1 : decode c_M_append 1 = .ok (.getfield 41, 3) := by decide +kernel
theorem d_M_append_4 : decode c_M_append 4 = .ok (.aload_n 0, 1) := by decide +kernel
theorem d_M_append_5 : decode c_M_append 5 = .ok (.getfield 76, 3) := by decide +kernel
theorem d_M_append_8 : decode c_M_append 8 = .ok (.iload_n 1, 1) := by decide +kernel
theorem d_M_append_9 : decode c_M_append 9 = .ok (.iastore, 1) := by decide +kernel
theorem d_M_append_10 : decode c_M_append 10 = .ok (.aload_n 0, 1) := by decide +kernel
theorem d_M_append_11 : decode c_M_append 11 = .ok (.dup, 1) := by decide +kernel
theorem d_M_append_12 : decode c_M_append 12 = .ok (.getfield 76, 3) := by decide +kernel
theorem d_M_append_15 : decode c_M_append 15 = .ok (.iconst 1, 1) := by decide +kernel
theorem d_M_append_16 : decode c_M_append 16 = .ok (.iadd, 1) := by decide +kernel
theorem d_M_append_17 : decode c_M_append 17 = .ok (.putfield 76, 3) := by decide +kernel
theorem d_M_append_20 : decode c_M_append 20 = .ok (.return_, 1) := by decide +kernel
theorem d_M_good_0 : decode c_M_good 0 = .ok (.aload_n 0, 1) := by decide +kernel
theorem d_M_good_1 : decode c_M_good 1 = .ok (.getfield 7, 3) := by decide +kernel
theorem d_M_good_4 : decode c_M_good 4 = .ok (.aload_n 0, 1) := by decide +kernel
theorem d_M_good_5 : decode c_M_good 5 = .ok (.getfield 20, 3) := by decide +kernel
theorem d_M_good_8 : decode c_M_good 8 = .ok (.iload_n 1, 1) := by decide +kernel
theorem d_M_good_9 : decode c_M_good 9 = .ok (.iaload, 1) := by decide +kernel
theorem d_M_good_10 : decode c_M_good 10 = .ok (.baload, 1) := by decide +kernel
theorem d_M_good_11 : decode c_M_good 11 = .ok (.ifCond .eq 17, 3) := by decide +kernel
theorem d_M_good_14 : decode c_M_good 14 = .ok (.aload_n 0, 1) := by decide +kernel
theorem d_M_good_15 : decode c_M_good 15 = .ok (.getfield 7, 3) := by decide +kernel
theorem d_M_good_18 : decode c_M_good 18 = .ok (.aload_n 0, 1) := by decide +kernel
theorem d_M_good_19 : decode c_M_good 19 = .ok (.getfield 23, 3) := by decide +kernel
theorem d_M_good_22 : decode c_M_good 22 = .ok (.iload_n 1, 1) := by decide +kernel
theorem d_M_good_23 : decode c_M_good 23 = .ok (.iaload, 1) := by decide +kernel
theorem d_M_good_24 : decode c_M_good 24 = .ok (.baload, 1) := by decide +kernel
theorem d_M_good_25 : decode c_M_good 25 = .ok (.ifCond .ne 5, 3) := by decide +kernel
theorem d_M_good_28 : decode c_M_good 28 = .ok (.iconst 0, 1) := by decide +kernel
theorem d_M_good_29 : decode c_M_good 29 = .ok (.ireturn, 1) := by decide +kernel
theorem d_M_good_30 : decode c_M_good 30 = .ok (.aload_n 0, 1) := by decide +kernel
theorem d_M_good_31 : decode c_M_good 31 = .ok (.getfield 13, 3) := by decide +kernel
theorem d_M_good_34 : decode c_M_good 34 = .ok (.aload_n 0, 1) := by decide +kernel
theorem d_M_good_35 : decode c_M_good 35 = .ok (.getfield 23, 3) := by decide +kernel
theorem d_M_good_38 : decode c_M_good 38 = .ok (.iload_n 1, 1) := by decide +kernel
theorem d_M_good_39 : decode c_M_good 39 = .ok (.iaload, 1) := by decide +kernel
theorem d_M_good_40 : decode c_M_good 40 = .ok (.iaload, 1) := by decide +kernel
theorem d_M_good_41 : decode c_M_good 41 = .ok (.aload_n 0, 1) := by decide +kernel
theorem d_M_good_42 : decode c_M_good 42 = .ok (.getfield 13, 3) := by decide +kernel
theorem d_M_good_45 : decode c_M_good 45 = .ok (.aload_n 0, 1) := by decide +kernel
theorem d_M_good_46 : decode c_M_good 46 = .ok (.getfield 20, 3) := by decide +kernel
theorem d_M_good_49 : decode c_M_good 49 = .ok (.iload_n 1, 1) := by decide +kernel
theorem d_M_good_50 : decode c_M_good 50 = .ok (.iaload, 1) := by decide +kernel
theorem d_M_good_51 : decode c_M_good 51 = .ok (.iaload, 1) := by decide +kernel
theorem d_M_good_52 : decode c_M_good 52 = .ok (.isub, 1) := by decide +kernel
theorem d_M_good_53 : decode c_M_good 53 = .ok (.istore_n 2, 1) := by decide +kernel
theorem d_M_good_54 : decode c_M_good 54 = .ok (.aload_n 0, 1) := by decide +kernel
theorem d_M_good_55 : decode c_M_good 55 = .ok (.getfield 17, 3) := by decide +kernel
theorem d_M_good_58 : decode c_M_good 58 = .ok (.aload_n 0, 1) := by decide +kernel
theorem d_M_good_59 : decode c_M_good 59 = .ok (.getfield 23, 3) := by decide +kernel
theorem d_M_good_62 : decode c_M_good 62 = .ok (.iload_n 1, 1) := by decide +kernel
theorem d_M_good_63 : decode c_M_good 63 = .ok (.iaload, 1) := by decide +kernel
theorem d_M_good_64 : decode c_M_good 64 = .ok (.iaload, 1) := by decide +kernel
theorem d_M_good_65 : decode c_M_good 65 = .ok (.aload_n 0, 1) := by decide +kernel
theorem d_M_good_66 : decode c_M_good 66 = .ok (.getfield 17, 3) := by decide +kernel
theorem d_M_good_69 : decode c_M_good 69 = .ok (.aload_n 0, 1) := by decide +kernel
theorem d_M_good_70 : decode c_M_good 70 = .ok (.getfield 20, 3) := by decide +kernel
theorem d_M_good_73 : decode c_M_good 73 = .ok (.iload_n 1, 1) := by decide +kernel
theorem d_M_good_74 : decode c_M_good 74 = .ok (.iaload, 1) := by decide +kernel
theorem d_M_good_75 : decode c_M_good 75 = .ok (.iaload, 1) := by decide +kernel
theorem d_M_good_76 : decode c_M_good 76 = .ok (.isub, 1) := by decide +kernel
theorem d_M_good_77 : decode c_M_good 77 = .ok (.istore_n 3, 1) := by decide +kernel
theorem d_M_good_78 : decode c_M_good 78 = .ok (.iload_n 2, 1) := by decide +kernel
theorem d_M_good_79 : decode c_M_good 79 = .ok (.ifCond .eq 18, 3) := by decide +kernel
theorem d_M_good_82 : decode c_M_good 82 = .ok (.iload_n 3, 1) := by decide +kernel
theorem d_M_good_83 : decode c_M_good 83 = .ok (.ifCond .eq 14, 3) := by decide +kernel
theorem d_M_good_86 : decode c_M_good 86 = .ok (.iload_n 2, 1) := by decide +kernel
theorem d_M_good_87 : decode c_M_good 87 = .ok (.iload_n 3, 1) := by decide +kernel
theorem d_M_good_88 : decode c_M_good 88 = .ok (.if_icmp .eq 9, 3) := by decide +kernel
theorem d_M_good_91 : decode c_M_good 91 = .ok (.iload_n 2, 1) := by decide +kernel
theorem d_M_good_92 : decode c_M_good 92 = .ok (.iload_n 3, 1) := by decide +kernel
theorem d_M_good_93 : decode c_M_good 93 = .ok (.ineg, 1) := by decide +kernel
theorem d_M_good_94 : decode c_M_good 94 = .ok (.if_icmp .ne 7, 3) := by decide +kernel
theorem d_M_good_97 : decode c_M_good 97 = .ok (.iconst 1, 1) := by decide +kernel
theorem d_M_good_98 : decode c_M_good 98 = .ok (.goto 4, 3) := by decide +kernel
theorem d_M_good_101 : decode c_M_good 101 = .ok (.iconst 0, 1) := by decide +kernel
theorem d_M_good_102 : decode c_M_good 102 = .ok (.ireturn, 1) := by decide +kernel
theorem d_M_makeMatrix_0 : decode c_M_makeMatrix 0 = .ok (.iconst 0, 1) := by decide +kernel
theorem d_M_makeMatrix_1 : decode c_M_makeMatrix 1 = .ok (.istore_n 1, 1) := by decide +kernel
theorem d_M_makeMatrix_2 : decode c_M_makeMatrix 2 = .ok (.iload_n 1, 1) := by decide +kernel
theorem d_M_makeMatrix_3 : decode c_M_makeMatrix 3 = .ok (.bipush 100, 2) := by decide +kernel
theorem d_M_makeMatrix_5 : decode c_M_makeMatrix 5 = .ok (.if_icmp .ge 39, 3) := by decide +kernel
theorem d_M_makeMatrix_8 : decode c_M_makeMatrix 8 = .ok (.aload_n 0, 1) := by decide +kernel
theorem d_M_makeMatrix_9 : decode c_M_makeMatrix 9 = .ok (.getfield 47, 3) := by decide +kernel
theorem d_M_makeMatrix_12 : decode c_M_makeMatrix 12 = .ok (.iload_n 1, 1) := by decide +kernel
theorem d_M_makeMatrix_13 : decode c_M_makeMatrix 13 = .ok (.iload_n 1, 1) := by decide +kernel
theorem d_M_makeMatrix_14 : decode c_M_makeMatrix 14 = .ok (.bipush 10, 2) := by decide +kernel
theorem d_M_makeMatrix_16 : decode c_M_makeMatrix 16 = .ok (.idiv, 1) := by decide +kernel
theorem d_M_makeMatrix_17 : decode c_M_makeMatrix 17 = .ok (.iload_n 1, 1) := by decide +kernel
theorem d_M_makeMatrix_18 : decode c_M_makeMatrix 18 = .ok (.bipush 10, 2) := by decide +kernel
theorem d_M_makeMatrix_20 : decode c_M_makeMatrix 20 = .ok (.irem, 1) := by decide +kernel
theorem d_M_makeMatrix_21 : decode c_M_makeMatrix 21 = .ok (.if_icmp .ne 15, 3) := by decide +kernel
theorem d_M_makeMatrix_24 : decode c_M_makeMatrix 24 = .ok (.aload_n 0, 1) := by decide +kernel
theorem d_M_makeMatrix_25 : decode c_M_makeMatrix 25 = .ok (.getfield 35, 3) := by decide +kernel
theorem d_M_makeMatrix_28 : decode c_M_makeMatrix 28 = .ok (.iload_n 1, 1) := by decide +kernel
theorem d_M_makeMatrix_29 : decode c_M_makeMatrix 29 = .ok (.bipush 10, 2) := by decide +kernel
theorem d_M_makeMatrix_31 : decode c_M_makeMatrix 31 = .ok (.idiv, 1) := by decide +kernel
theorem d_M_makeMatrix_32 : decode c_M_makeMatrix 32 = .ok (.iaload, 1) := by decide +kernel
theorem d_M_makeMatrix_33 : decode c_M_makeMatrix 33 = .ok (.goto 4, 3) := by decide +kernel
theorem d_M_makeMatrix_36 : decode c_M_makeMatrix 36 = .ok (.iconst 0, 1) := by decide +kernel
theorem d_M_makeMatrix_37 : decode c_M_makeMatrix 37 = .ok (.iastore, 1) := by decide +kernel
theorem d_M_makeMatrix_38 : decode c_M_makeMatrix 38 = .ok (.iinc 1 1, 3) := by decide +kernel
theorem d_M_makeMatrix_41 : decode c_M_makeMatrix 41 = .ok (.goto (-39), 3) := by decide +kernel
theorem d_M_makeMatrix_44 : decode c_M_makeMatrix 44 = .ok (.iconst 0, 1) := by decide +kernel
theorem d_M_makeMatrix_45 : decode c_M_makeMatrix 45 = .ok (.istore_n 1, 1) := by decide +kernel
theorem d_M_makeMatrix_46 : decode c_M_makeMatrix 46 = .ok (.iload_n 1, 1) := by decide +kernel
theorem d_M_makeMatrix_47 : decode c_M_makeMatrix 47 = .ok (.aload_n 0, 1) := by decide +kernel
theorem d_M_makeMatrix_48 : decode c_M_makeMatrix 48 = .ok (.getfield 65, 3) := by decide +kernel
theorem d_M_makeMatrix_51 : decode c_M_makeMatrix 51 = .ok (.if_icmp .ge 147, 3) := by decide +kernel
theorem d_M_makeMatrix_54 : decode c_M_makeMatrix 54 = .ok (.iconst 0, 1) := by decide +kernel
theorem d_M_makeMatrix_55 : decode c_M_makeMatrix 55 = .ok (.istore_n 2, 1) := by decide +kernel
theorem d_M_makeMatrix_56 : decode c_M_makeMatrix 56 = .ok (.iload_n 2, 1) := by decide +kernel
theorem d_M_makeMatrix_57 : decode c_M_makeMatrix 57 = .ok (.bipush 16, 2) := by decide +kernel
theorem d_M_makeMatrix_59 : decode c_M_makeMatrix 59 = .ok (.if_icmp .ge 133, 3) := by decide +kernel
theorem d_M_makeMatrix_62 : decode c_M_makeMatrix 62 = .ok (.iload_n 2, 1) := by decide +kernel
theorem d_M_makeMatrix_63 : decode c_M_makeMatrix 63 = .ok (.bipush 8, 2) := by decide +kernel
theorem d_M_makeMatrix_65 : decode c_M_makeMatrix 65 = .ok (.if_icmp .ge 12, 3) := by decide +kernel
theorem d_M_makeMatrix_68 : decode c_M_makeMatrix 68 = .ok (.aload_n 0, 1) := by decide +kernel
theorem d_M_makeMatrix_69 : decode c_M_makeMatrix 69 = .ok (.getfield 20, 3) := by decide +kernel
theorem d_M_makeMatrix_72 : decode c_M_makeMatrix 72 = .ok (.iload_n 1, 1) := by decide +kernel
theorem d_M_makeMatrix_73 : decode c_M_makeMatrix 73 = .ok (.iaload, 1) := by decide +kernel
theorem d_M_makeMatrix_74 : decode c_M_makeMatrix 74 = .ok (.goto 9, 3) := by decide +kernel
theorem d_M_makeMatrix_77 : decode c_M_makeMatrix 77 = .ok (.aload_n 0, 1) := by decide +kernel
theorem d_M_makeMatrix_78 : decode c_M_makeMatrix 78 = .ok (.getfield 23, 3) := by decide +kernel
theorem d_M_makeMatrix_81 : decode c_M_makeMatrix 81 = .ok (.iload_n 1, 1) := by decide +kernel
theorem d_M_makeMatrix_82 : decode c_M_makeMatrix 82 = .ok (.iaload, 1) := by decide +kernel
theorem d_M_makeMatrix_83 : decode c_M_makeMatrix 83 = .ok (.iconst 2, 1) := by decide +kernel
theorem d_M_makeMatrix_84 : decode c_M_makeMatrix 84 = .ok (.imul, 1) := by decide +kernel
theorem d_M_makeMatrix_85 : decode c_M_makeMatrix 85 = .ok (.iload_n 2, 1) := by decide +kernel
theorem d_M_makeMatrix_86 : decode c_M_makeMatrix 86 = .ok (.iconst 2, 1) := by decide +kernel
theorem d_M_makeMatrix_87 : decode c_M_makeMatrix 87 = .ok (.irem, 1) := by decide +kernel
theorem d_M_makeMatrix_88 : decode c_M_makeMatrix 88 = .ok (.iadd, 1) := by decide +kernel
theorem d_M_makeMatrix_89 : decode c_M_makeMatrix 89 = .ok (.istore_n 3, 1) := by decide +kernel
theorem d_M_makeMatrix_90 : decode c_M_makeMatrix 90 = .ok (.iload_n 2, 1) := by decide +kernel
theorem d_M_makeMatrix_91 : decode c_M_makeMatrix 91 = .ok (.iconst 4, 1) := by decide +kernel
theorem d_M_makeMatrix_92 : decode c_M_makeMatrix 92 = .ok (.idiv, 1) := by decide +kernel
theorem d_M_makeMatrix_93 : decode c_M_makeMatrix 93 = .ok (.iconst 2, 1) := by decide +kernel
theorem d_M_makeMatrix_94 : decode c_M_makeMatrix 94 = .ok (.irem, 1) := by decide +kernel
theorem d_M_makeMatrix_95 : decode c_M_makeMatrix 95 = .ok (.ifCond .ne 12, 3) := by decide +kernel
theorem d_M_makeMatrix_98 : decode c_M_makeMatrix 98 = .ok (.aload_n 0, 1) := by decide +kernel
theorem d_M_makeMatrix_99 : decode c_M_makeMatrix 99 = .ok (.getfield 20, 3) := by decide +kernel
theorem d_M_makeMatrix_102 : decode c_M_makeMatrix 102 = .ok (.iload_n 1, 1) := by decide +kernel
theorem d_M_makeMatrix_103 : decode c_M_makeMatrix 103 = .ok (.iaload, 1) := by decide +kernel
theorem d_M_makeMatrix_104 : decode c_M_makeMatrix 104 = .ok (.goto 9, 3) := by decide +kernel
theorem d_M_makeMatrix_107 : decode c_M_makeMatrix 107 = .ok (.aload_n 0, 1) := by decide +kernel
theorem d_M_makeMatrix_108 : decode c_M_makeMatrix 108 = .ok (.getfield 23, 3) := by decide +kernel
theorem d_M_makeMatrix_111 : decode c_M_makeMatrix 111 = .ok (.iload_n 1, 1) := by decide +kernel
theorem d_M_makeMatrix_112 : decode c_M_makeMatrix 112 = .ok (.iaload, 1) := by decide +kernel
theorem d_M_makeMatrix_113 : decode c_M_makeMatrix 113 = .ok (.iconst 2, 1) := by decide +kernel
theorem d_M_makeMatrix_114 : decode c_M_makeMatrix 114 = .ok (.imul, 1) := by decide +kernel
theorem d_M_makeMatrix_115 : decode c_M_makeMatrix 115 = .ok (.iload_n 2, 1) := by decide +kernel
theorem d_M_makeMatrix_116 : decode c_M_makeMatrix 116 = .ok (.iconst 2, 1) := by decide +kernel
theorem d_M_makeMatrix_117 : decode c_M_makeMatrix 117 = .ok (.idiv, 1) := by decide +kernel
theorem d_M_makeMatrix_118 : decode c_M_makeMatrix 118 = .ok (.iconst 2, 1) := by decide +kernel
theorem d_M_makeMatrix_119 : decode c_M_makeMatrix 119 = .ok (.irem, 1) := by decide +kernel
theorem d_M_makeMatrix_120 : decode c_M_makeMatrix 120 = .ok (.iadd, 1) := by decide +kernel
theorem d_M_makeMatrix_121 : decode c_M_makeMatrix 121 = .ok (.istore 4, 2) := by decide +kernel
theorem d_M_makeMatrix_123 : decode c_M_makeMatrix 123 = .ok (.aload_n 0, 1) := by decide +kernel
theorem d_M_makeMatrix_124 : decode c_M_makeMatrix 124 = .ok (.getfield 26, 3) := by decide +kernel
theorem d_M_makeMatrix_127 : decode c_M_makeMatrix 127 = .ok (.iload_n 1, 1) := by decide +kernel
theorem d_M_makeMatrix_128 : decode c_M_makeMatrix 128 = .ok (.iaload, 1) := by decide +kernel
theorem d_M_makeMatrix_129 : decode c_M_makeMatrix 129 = .ok (.aload_n 0, 1) := by decide +kernel
theorem d_M_makeMatrix_130 : decode c_M_makeMatrix 130 = .ok (.iload_n 1, 1) := by decide +kernel
theorem d_M_makeMatrix_131 : decode c_M_makeMatrix 131 = .ok (.iload_n 2, 1) := by decide +kernel
theorem d_M_makeMatrix_132 : decode c_M_makeMatrix 132 = .ok (.iconst 2, 1) := by decide +kernel
theorem d_M_makeMatrix_133 : decode c_M_makeMatrix 133 = .ok (.irem, 1) := by decide +kernel
theorem d_M_makeMatrix_134 : decode c_M_makeMatrix 134 = .ok (.invokevirtual 96, 3) := by decide +kernel
theorem d_M_makeMatrix_137 : decode c_M_makeMatrix 137 = .ok (.imul, 1) := by decide +kernel
theorem d_M_makeMatrix_138 : decode c_M_makeMatrix 138 = .ok (.aload_n 0, 1) := by decide +kernel
theorem d_M_makeMatrix_139 : decode c_M_makeMatrix 139 = .ok (.iload_n 1, 1) := by decide +kernel
theorem d_M_makeMatrix_140 : decode c_M_makeMatrix 140 = .ok (.iload_n 2, 1) := by decide +kernel
theorem d_M_makeMatrix_141 : decode c_M_makeMatrix 141 = .ok (.iconst 2, 1) := by decide +kernel
theorem d_M_makeMatrix_142 : decode c_M_makeMatrix 142 = .ok (.idiv, 1) := by decide +kernel
theorem d_M_makeMatrix_143 : decode c_M_makeMatrix 143 = .ok (.iconst 2, 1) := by decide +kernel
theorem d_M_makeMatrix_144 : decode c_M_makeMatrix 144 = .ok (.irem, 1) := by decide +kernel
theorem d_M_makeMatrix_145 : decode c_M_makeMatrix 145 = .ok (.invokevirtual 96, 3) := by decide +kernel
theorem d_M_makeMatrix_148 : decode c_M_makeMatrix 148 = .ok (.imul, 1) := by decide +kernel
theorem d_M_makeMatrix_149 : decode c_M_makeMatrix 149 = .ok (.istore 5, 2) := by decide +kernel
theorem d_M_makeMatrix_151 : decode c_M_makeMatrix 151 = .ok (.aload_n 0, 1) := by decide +kernel
theorem d_M_makeMatrix_152 : decode c_M_makeMatrix 152 = .ok (.getfield 47, 3) := by decide +kernel
theorem d_M_makeMatrix_155 : decode c_M_makeMatrix 155 = .ok (.iload_n 3, 1) := by decide +kernel
theorem d_M_makeMatrix_156 : decode c_M_makeMatrix 156 = .ok (.bipush 10, 2) := by decide +kernel
theorem d_M_makeMatrix_158 : decode c_M_makeMatrix 158 = .ok (.imul, 1) := by decide +kernel
theorem d_M_makeMatrix_159 : decode c_M_makeMatrix 159 = .ok (.iload 4, 2) := by decide +kernel
theorem d_M_makeMatrix_161 : decode c_M_makeMatrix 161 = .ok (.iadd, 1) := by decide +kernel
theorem d_M_makeMatrix_162 : decode c_M_makeMatrix 162 = .ok (.dup2, 1) := by decide +kernel
theorem d_M_makeMatrix_163 : decode c_M_makeMatrix 163 = .ok (.iaload, 1) := by decide +kernel
theorem d_M_makeMatrix_164 : decode c_M_makeMatrix 164 = .ok (.iload_n 2, 1) := by decide +kernel
theorem d_M_makeMatrix_165 : decode c_M_makeMatrix 165 = .ok (.bipush 8, 2) := by decide +kernel
theorem d_M_makeMatrix_167 : decode c_M_makeMatrix 167 = .ok (.idiv, 1) := by decide +kernel
theorem d_M_makeMatrix_168 : decode c_M_makeMatrix 168 = .ok (.iload_n 2, 1) := by decide +kernel
theorem d_M_makeMatrix_169 : decode c_M_makeMatrix 169 = .ok (.iconst 4, 1) := by decide +kernel
theorem d_M_makeMatrix_170 : decode c_M_makeMatrix 170 = .ok (.idiv, 1) := by decide +kernel
theorem d_M_makeMatrix_171 : decode c_M_makeMatrix 171 = .ok (.iconst 2, 1) := by decide +kernel
theorem d_M_makeMatrix_172 : decode c_M_makeMatrix 172 = .ok (.irem, 1) := by decide +kernel
theorem d_M_makeMatrix_173 : decode c_M_makeMatrix 173 = .ok (.if_icmp .ne 8, 3) := by decide +kernel
theorem d_M_makeMatrix_176 : decode c_M_makeMatrix 176 = .ok (.iload 5, 2) := by decide +kernel
theorem d_M_makeMatrix_178 : decode c_M_makeMatrix 178 = .ok (.goto 6, 3) := by decide +kernel
theorem d_M_makeMatrix_181 : decode c_M_makeMatrix 181 = .ok (.iload 5, 2) := by decide +kernel
theorem d_M_makeMatrix_183 : decode c_M_makeMatrix 183 = .ok (.ineg, 1) := by decide +kernel
theorem d_M_makeMatrix_184 : decode c_M_makeMatrix 184 = .ok (.iadd, 1) := by decide +kernel
theorem d_M_makeMatrix_185 : decode c_M_makeMatrix 185 = .ok (.iastore, 1) := by decide +kernel
theorem d_M_makeMatrix_186 : decode c_M_makeMatrix 186 = .ok (.iinc 2 1, 3) := by decide +kernel
theorem d_M_makeMatrix_189 : decode c_M_makeMatrix 189 = .ok (.goto (-133), 3) := by decide +kernel
theorem d_M_makeMatrix_192 : decode c_M_makeMatrix 192 = .ok (.iinc 1 1, 3) := by decide +kernel
theorem d_M_makeMatrix_195 : decode c_M_makeMatrix 195 = .ok (.goto (-149), 3) := by decide +kernel
theorem d_M_makeMatrix_198 : decode c_M_makeMatrix 198 = .ok (.return_, 1) := by decide +kernel
theorem d_M_way_0 : decode c_M_way 0 = .ok (.aload_n 0, 1) := by decide +kernel
theorem d_M_way_1 : decode c_M_way 1 = .ok (.getfield 13, 3) := by decide +kernel
theorem d_M_way_4 : decode c_M_way 4 = .ok (.aload_n 0, 1) := by decide +kernel
theorem d_M_way_5 : decode c_M_way 5 = .ok (.getfield 23, 3) := by decide +kernel
theorem d_M_way_8 : decode c_M_way 8 = .ok (.iload_n 1, 1) := by decide +kernel
theorem d_M_way_9 : decode c_M_way 9 = .ok (.iaload, 1) := by decide +kernel
theorem d_M_way_10 : decode c_M_way 10 = .ok (.iaload, 1) := by decide +kernel
theorem d_M_way_11 : decode c_M_way 11 = .ok (.aload_n 0, 1) := by decide +kernel
theorem d_M_way_12 : decode c_M_way 12 = .ok (.getfield 13, 3) := by decide +kernel
theorem d_M_way_15 : decode c_M_way 15 = .ok (.aload_n 0, 1) := by decide +kernel
theorem d_M_way_16 : decode c_M_way 16 = .ok (.getfield 20, 3) := by decide +kernel
theorem d_M_way_19 : decode c_M_way 19 = .ok (.iload_n 1, 1) := by decide +kernel
theorem d_M_way_20 : decode c_M_way 20 = .ok (.iaload, 1) := by decide +kernel
theorem d_M_way_21 : decode c_M_way 21 = .ok (.iaload, 1) := by decide +kernel
theorem d_M_way_22 : decode c_M_way 22 = .ok (.isub, 1) := by decide +kernel
theorem d_M_way_23 : decode c_M_way 23 = .ok (.istore_n 3, 1) := by decide +kernel
theorem d_M_way_24 : decode c_M_way 24 = .ok (.aload_n 0, 1) := by decide +kernel
theorem d_M_way_25 : decode c_M_way 25 = .ok (.getfield 17, 3) := by decide +kernel
theorem d_M_way_28 : decode c_M_way 28 = .ok (.aload_n 0, 1) := by decide +kernel
theorem d_M_way_29 : decode c_M_way 29 = .ok (.getfield 23, 3) := by decide +kernel
theorem d_M_way_32 : decode c_M_way 32 = .ok (.iload_n 1, 1) := by decide +kernel
theorem d_M_way_33 : decode c_M_way 33 = .ok (.iaload, 1) := by decide +kernel
theorem d_M_way_34 : decode c_M_way 34 = .ok (.iaload, 1) := by decide +kernel
theorem d_M_way_35 : decode c_M_way 35 = .ok (.aload_n 0, 1) := by decide +kernel
theorem d_M_way_36 : decode c_M_way 36 = .ok (.getfield 17, 3) := by decide +kernel
theorem d_M_way_39 : decode c_M_way 39 = .ok (.aload_n 0, 1) := by decide +kernel
theorem d_M_way_40 : decode c_M_way 40 = .ok (.getfield 20, 3) := by decide +kernel
theorem d_M_way_43 : decode c_M_way 43 = .ok (.iload_n 1, 1) := by decide +kernel
theorem d_M_way_44 : decode c_M_way 44 = .ok (.iaload, 1) := by decide +kernel
theorem d_M_way_45 : decode c_M_way 45 = .ok (.iaload, 1) := by decide +kernel
theorem d_M_way_46 : decode c_M_way 46 = .ok (.isub, 1) := by decide +kernel
theorem d_M_way_47 : decode c_M_way 47 = .ok (.istore 4, 2) := by decide +kernel
theorem d_M_way_49 : decode c_M_way 49 = .ok (.iload_n 2, 1) := by decide +kernel
theorem d_M_way_50 : decode c_M_way 50 = .ok (.ifCond .ne 11, 3) := by decide +kernel
theorem d_M_way_53 : decode c_M_way 53 = .ok (.aload_n 0, 1) := by decide +kernel
theorem d_M_way_54 : decode c_M_way 54 = .ok (.iload_n 3, 1) := by decide +kernel
theorem d_M_way_55 : decode c_M_way 55 = .ok (.invokevirtual 69, 3) := by decide +kernel
theorem d_M_way_58 : decode c_M_way 58 = .ok (.goto 9, 3) := by decide +kernel
theorem d_M_way_61 : decode c_M_way 61 = .ok (.aload_n 0, 1) := by decide +kernel
theorem d_M_way_62 : decode c_M_way 62 = .ok (.iload 4, 2) := by decide +kernel
theorem d_M_way_64 : decode c_M_way 64 = .ok (.invokevirtual 69, 3) := by decide +kernel
theorem d_M_way_67 : decode c_M_way 67 = .ok (.ireturn, 1) := by decide +kernel
theorem d_M_sign_0 : decode c_M_sign 0 = .ok (.iload_n 1, 1) := by decide +kernel
theorem d_M_sign_1 : decode c_M_sign 1 = .ok (.ifCond .ge 7, 3) := by decide +kernel
theorem d_M_sign_4 : decode c_M_sign 4 = .ok (.iconst (-1), 1) := by decide +kernel
theorem d_M_sign_5 : decode c_M_sign 5 = .ok (.goto 12, 3) := by decide +kernel
theorem d_M_sign_8 : decode c_M_sign 8 = .ok (.iload_n 1, 1) := by decide +kernel
theorem d_M_sign_9 : decode c_M_sign 9 = .ok (.ifCond .le 7, 3) := by decide +kernel
theorem d_M_sign_12 : decode c_M_sign 12 = .ok (.iconst 1, 1) := by decide +kernel
theorem d_M_sign_13 : decode c_M_sign 13 = .ok (.goto 4, 3) := by decide +kernel
theorem d_M_sign_16 : decode c_M_sign 16 = .ok (.iconst 0, 1) := by decide +kernel
theorem d_M_sign_17 : decode c_M_sign 17 = .ok (.ireturn, 1) := by decide +kernel
theorem d_M_det_0 : decode c_M_det 0 = .ok (.ldc2_w 114, 3) := by decide +kernel
theorem d_M_det_3 : decode c_M_det 3 = .ok (.lstore_n 3, 1) := by decide +kernel
theorem d_M_det_4 : decode c_M_det 4 = .ok (.ldc2_w 116, 3) := by decide +kernel
theorem d_M_det_7 : decode c_M_det 7 = .ok (.lstore 5, 2) := by decide +kernel
theorem d_M_det_9 : decode c_M_det 9 = .ok (.aload_n 0, 1) := by decide +kernel
theorem d_M_det_10 : decode c_M_det 10 = .ok (.iload_n 1, 1) := by decide +kernel
theorem d_M_det_11 : decode c_M_det 11 = .ok (.iload_n 2, 1) := by decide +kernel
theorem d_M_det_12 : decode c_M_det 12 = .ok (.lload_n 3, 1) := by decide +kernel
theorem d_M_det_13 : decode c_M_det 13 = .ok (.invokevirtual 118, 3) := by decide +kernel
theorem d_M_det_16 : decode c_M_det 16 = .ok (.lstore 7, 2) := by decide +kernel
theorem d_M_det_18 : decode c_M_det 18 = .ok (.aload_n 0, 1) := by decide +kernel
theorem d_M_det_19 : decode c_M_det 19 = .ok (.iload_n 1, 1) := by decide +kernel
theorem d_M_det_20 : decode c_M_det 20 = .ok (.iload_n 2, 1) := by decide +kernel
theorem d_M_det_21 : decode c_M_det 21 = .ok (.lload 5, 2) := by decide +kernel
theorem d_M_det_23 : decode c_M_det 23 = .ok (.invokevirtual 118, 3) := by decide +kernel
theorem d_M_det_26 : decode c_M_det 26 = .ok (.lstore 9, 2) := by decide +kernel
theorem d_M_det_28 : decode c_M_det 28 = .ok (.lload 9, 2) := by decide +kernel
theorem d_M_det_30 : decode c_M_det 30 = .ok (.lload 7, 2) := by decide +kernel
theorem d_M_det_32 : decode c_M_det 32 = .ok (.lsub, 1) := by decide +kernel
theorem d_M_det_33 : decode c_M_det 33 = .ok (.lload 5, 2) := by decide +kernel
theorem d_M_det_35 : decode c_M_det 35 = .ok (.lrem, 1) := by decide +kernel
theorem d_M_det_36 : decode c_M_det 36 = .ok (.lload 5, 2) := by decide +kernel
theorem d_M_det_38 : decode c_M_det 38 = .ok (.ladd, 1) := by decide +kernel
theorem d_M_det_39 : decode c_M_det 39 = .ok (.lload 5, 2) := by decide +kernel
theorem d_M_det_41 : decode c_M_det 41 = .ok (.lrem, 1) := by decide +kernel
theorem d_M_det_42 : decode c_M_det 42 = .ok (.aload_n 0, 1) := by decide +kernel
theorem d_M_det_43 : decode c_M_det 43 = .ok (.lload_n 3, 1) := by decide +kernel
theorem d_M_det_44 : decode c_M_det 44 = .ok (.lload 5, 2) := by decide +kernel
theorem d_M_det_46 : decode c_M_det 46 = .ok (.lrem, 1) := by decide +kernel
theorem d_M_det_47 : decode c_M_det 47 = .ok (.lload 5, 2) := by decide +kernel
theorem d_M_det_49 : decode c_M_det 49 = .ok (.ldc2_w 108, 3) := by decide +kernel
theorem d_M_det_52 : decode c_M_det 52 = .ok (.lsub, 1) := by decide +kernel
theorem d_M_det_53 : decode c_M_det 53 = .ok (.lload 5, 2) := by decide +kernel
theorem d_M_det_55 : decode c_M_det 55 = .ok (.invokevirtual 110, 3) := by decide +kernel
theorem d_M_det_58 : decode c_M_det 58 = .ok (.lmul, 1) := by decide +kernel
theorem d_M_det_59 : decode c_M_det 59 = .ok (.lload 5, 2) := by decide +kernel
theorem d_M_det_61 : decode c_M_det 61 = .ok (.lrem, 1) := by decide +kernel
theorem d_M_det_62 : decode c_M_det 62 = .ok (.lstore 11, 2) := by decide +kernel
theorem d_M_det_64 : decode c_M_det 64 = .ok (.lload 7, 2) := by decide +kernel
theorem d_M_det_66 : decode c_M_det 66 = .ok (.lload_n 3, 1) := by decide +kernel
theorem d_M_det_67 : decode c_M_det 67 = .ok (.lload 11, 2) := by decide +kernel
theorem d_M_det_69 : decode c_M_det 69 = .ok (.lmul, 1) := by decide +kernel
theorem d_M_det_70 : decode c_M_det 70 = .ok (.ladd, 1) := by decide +kernel
theorem d_M_det_71 : decode c_M_det 71 = .ok (.lstore 13, 2) := by decide +kernel
theorem d_M_det_73 : decode c_M_det 73 = .ok (.lload 13, 2) := by decide +kernel
theorem d_M_det_75 : decode c_M_det 75 = .ok (.lload_n 3, 1) := by decide +kernel
theorem d_M_det_76 : decode c_M_det 76 = .ok (.lload 5, 2) := by decide +kernel
theorem d_M_det_78 : decode c_M_det 78 = .ok (.lmul, 1) := by decide +kernel
theorem d_M_det_79 : decode c_M_det 79 = .ok (.ldc2_w 108, 3) := by decide +kernel
theorem d_M_det_82 : decode c_M_det 82 = .ok (.ldiv, 1) := by decide +kernel
theorem d_M_det_83 : decode c_M_det 83 = .ok (.lcmp, 1) := by decide +kernel
theorem d_M_det_84 : decode c_M_det 84 = .ok (.ifCond .le 13, 3) := by decide +kernel
theorem d_M_det_87 : decode c_M_det 87 = .ok (.lload 13, 2) := by decide +kernel
theorem d_M_det_89 : decode c_M_det 89 = .ok (.lload_n 3, 1) := by decide +kernel
theorem d_M_det_90 : decode c_M_det 90 = .ok (.lload 5, 2) := by decide +kernel
theorem d_M_det_92 : decode c_M_det 92 = .ok (.lmul, 1) := by decide +kernel
theorem d_M_det_93 : decode c_M_det 93 = .ok (.lsub, 1) := by decide +kernel
theorem d_M_det_94 : decode c_M_det 94 = .ok (.goto 5, 3) := by decide +kernel
theorem d_M_det_97 : decode c_M_det 97 = .ok (.lload 13, 2) := by decide +kernel
theorem d_M_det_99 : decode c_M_det 99 = .ok (.lreturn, 1) := by decide +kernel
theorem d_M_modulo_0 : decode c_M_modulo 0 = .ok (.iconst 0, 1) := by decide +kernel
theorem d_M_modulo_1 : decode c_M_modulo 1 = .ok (.istore 5, 2) := by decide +kernel
theorem d_M_modulo_3 : decode c_M_modulo 3 = .ok (.iload 5, 2) := by decide +kernel
theorem d_M_modulo_5 : decode c_M_modulo 5 = .ok (.iload_n 1, 1) := by decide +kernel
theorem d_M_modulo_6 : decode c_M_modulo 6 = .ok (.iload_n 1, 1) := by decide +kernel
theorem d_M_modulo_7 : decode c_M_modulo 7 = .ok (.imul, 1) := by decide +kernel
theorem d_M_modulo_8 : decode c_M_modulo 8 = .ok (.if_icmp .ge 84, 3) := by decide +kernel
theorem d_M_modulo_11 : decode c_M_modulo 11 = .ok (.iload 5, 2) := by decide +kernel
theorem d_M_modulo_13 : decode c_M_modulo 13 = .ok (.iload_n 1, 1) := by decide +kernel
theorem d_M_modulo_14 : decode c_M_modulo 14 = .ok (.idiv, 1) := by decide +kernel
theorem d_M_modulo_15 : decode c_M_modulo 15 = .ok (.istore 6, 2) := by decide +kernel
theorem d_M_modulo_17 : decode c_M_modulo 17 = .ok (.iload 5, 2) := by decide +kernel
theorem d_M_modulo_19 : decode c_M_modulo 19 = .ok (.iload_n 1, 1) := by decide +kernel
theorem d_M_modulo_20 : decode c_M_modulo 20 = .ok (.irem, 1) := by decide +kernel
theorem d_M_modulo_21 : decode c_M_modulo 21 = .ok (.istore 7, 2) := by decide +kernel
theorem d_M_modulo_23 : decode c_M_modulo 23 = .ok (.iload 7, 2) := by decide +kernel
theorem d_M_modulo_25 : decode c_M_modulo 25 = .ok (.iload_n 2, 1) := by decide +kernel
theorem d_M_modulo_26 : decode c_M_modulo 26 = .ok (.if_icmp .ne 13, 3) := by decide +kernel
theorem d_M_modulo_29 : decode c_M_modulo 29 = .ok (.aload_n 0, 1) := by decide +kernel
theorem d_M_modulo_30 : decode c_M_modulo 30 = .ok (.getfield 50, 3) := by decide +kernel
theorem d_M_modulo_33 : decode c_M_modulo 33 = .ok (.iload 6, 2) := by decide +kernel
theorem d_M_modulo_35 : decode c_M_modulo 35 = .ok (.laload, 1) := by decide +kernel
theorem d_M_modulo_36 : decode c_M_modulo 36 = .ok (.goto 27, 3) := by decide +kernel
theorem d_M_modulo_39 : decode c_M_modulo 39 = .ok (.aload_n 0, 1) := by decide +kernel
theorem d_M_modulo_40 : decode c_M_modulo 40 = .ok (.getfield 47, 3) := by decide +kernel
theorem d_M_modulo_43 : decode c_M_modulo 43 = .ok (.aload_n 0, 1) := by decide +kernel
theorem d_M_modulo_44 : decode c_M_modulo 44 = .ok (.getfield 44, 3) := by decide +kernel
theorem d_M_modulo_47 : decode c_M_modulo 47 = .ok (.iload 6, 2) := by decide +kernel
theorem d_M_modulo_49 : decode c_M_modulo 49 = .ok (.iaload, 1) := by decide +kernel
theorem d_M_modulo_50 : decode c_M_modulo 50 = .ok (.bipush 10, 2) := by decide +kernel
theorem d_M_modulo_52 : decode c_M_modulo 52 = .ok (.imul, 1) := by decide +kernel
theorem d_M_modulo_53 : decode c_M_modulo 53 = .ok (.aload_n 0, 1) := by decide +kernel
theorem d_M_modulo_54 : decode c_M_modulo 54 = .ok (.getfield 44, 3) := by decide +kernel
theorem d_M_modulo_57 : decode c_M_modulo 57 = .ok (.iload 7, 2) := by decide +kernel
theorem d_M_modulo_59 : decode c_M_modulo 59 = .ok (.iaload, 1) := by decide +kernel
theorem d_M_modulo_60 : decode c_M_modulo 60 = .ok (.iadd, 1) := by decide +kernel
theorem d_M_modulo_61 : decode c_M_modulo 61 = .ok (.iaload, 1) := by decide +kernel
theorem d_M_modulo_62 : decode c_M_modulo 62 = .ok (.i2l, 1) := by decide +kernel
theorem d_M_modulo_63 : decode c_M_modulo 63 = .ok (.lstore 8, 2) := by decide +kernel
theorem d_M_modulo_65 : decode c_M_modulo 65 = .ok (.aload_n 0, 1) := by decide +kernel
theorem d_M_modulo_66 : decode c_M_modulo 66 = .ok (.getfield 54, 3) := by decide +kernel
theorem d_M_modulo_69 : decode c_M_modulo 69 = .ok (.iload 6, 2) := by decide +kernel
theorem d_M_modulo_71 : decode c_M_modulo 71 = .ok (.bipush 10, 2) := by decide +kernel
theorem d_M_modulo_73 : decode c_M_modulo 73 = .ok (.imul, 1) := by decide +kernel
theorem d_M_modulo_74 : decode c_M_modulo 74 = .ok (.iload 7, 2) := by decide +kernel
theorem d_M_modulo_76 : decode c_M_modulo 76 = .ok (.iadd, 1) := by decide +kernel
theorem d_M_modulo_77 : decode c_M_modulo 77 = .ok (.lload 8, 2) := by decide +kernel
theorem d_M_modulo_79 : decode c_M_modulo 79 = .ok (.lload_n 3, 1) := by decide +kernel
theorem d_M_modulo_80 : decode c_M_modulo 80 = .ok (.lrem, 1) := by decide +kernel
theorem d_M_modulo_81 : decode c_M_modulo 81 = .ok (.lload_n 3, 1) := by decide +kernel
theorem d_M_modulo_82 : decode c_M_modulo 82 = .ok (.ladd, 1) := by decide +kernel
theorem d_M_modulo_83 : decode c_M_modulo 83 = .ok (.lload_n 3, 1) := by decide +kernel
theorem d_M_modulo_84 : decode c_M_modulo 84 = .ok (.lrem, 1) := by decide +kernel
theorem d_M_modulo_85 : decode c_M_modulo 85 = .ok (.lastore, 1) := by decide +kernel
theorem d_M_modulo_86 : decode c_M_modulo 86 = .ok (.iinc 5 1, 3) := by decide +kernel
theorem d_M_modulo_89 : decode c_M_modulo 89 = .ok (.goto (-86), 3) := by decide +kernel
theorem d_M_modulo_92 : decode c_M_modulo 92 = .ok (.lconst 1, 1) := by decide +kernel
theorem d_M_modulo_93 : decode c_M_modulo 93 = .ok (.lstore 5, 2) := by decide +kernel
theorem d_M_modulo_95 : decode c_M_modulo 95 = .ok (.iconst 0, 1) := by decide +kernel
theorem d_M_modulo_96 : decode c_M_modulo 96 = .ok (.istore 7, 2) := by decide +kernel
theorem d_M_modulo_98 : decode c_M_modulo 98 = .ok (.iload 7, 2) := by decide +kernel
theorem d_M_modulo_100 : decode c_M_modulo 100 = .ok (.iload_n 1, 1) := by decide +kernel
theorem d_M_modulo_101 : decode c_M_modulo 101 = .ok (.if_icmp .ge 100, 3) := by decide +kernel
theorem d_M_modulo_104 : decode c_M_modulo 104 = .ok (.iload 7, 2) := by decide +kernel
theorem d_M_modulo_106 : decode c_M_modulo 106 = .ok (.istore 8, 2) := by decide +kernel
theorem d_M_modulo_108 : decode c_M_modulo 108 = .ok (.iload 8, 2) := by decide +kernel
theorem d_M_modulo_110 : decode c_M_modulo 110 = .ok (.iload_n 1, 1) := by decide +kernel
theorem d_M_modulo_111 : decode c_M_modulo 111 = .ok (.if_icmp .ge 27, 3) := by decide +kernel
theorem d_M_modulo_114 : decode c_M_modulo 114 = .ok (.aload_n 0, 1) := by decide +kernel
theorem d_M_modulo_115 : decode c_M_modulo 115 = .ok (.getfield 54, 3) := by decide +kernel
theorem d_M_modulo_118 : decode c_M_modulo 118 = .ok (.iload 8, 2) := by decide +kernel
theorem d_M_modulo_120 : decode c_M_modulo 120 = .ok (.bipush 10, 2) := by decide +kernel
theorem d_M_modulo_122 : decode c_M_modulo 122 = .ok (.imul, 1) := by decide +kernel
theorem d_M_modulo_123 : decode c_M_modulo 123 = .ok (.iload 7, 2) := by decide +kernel
theorem d_M_modulo_125 : decode c_M_modulo 125 = .ok (.iadd, 1) := by decide +kernel
theorem d_M_modulo_126 : decode c_M_modulo 126 = .ok (.laload, 1) := by decide +kernel
theorem d_M_modulo_127 : decode c_M_modulo 127 = .ok (.lconst 0, 1) := by decide +kernel
theorem d_M_modulo_128 : decode c_M_modulo 128 = .ok (.lcmp, 1) := by decide +kernel
theorem d_M_modulo_129 : decode c_M_modulo 129 = .ok (.ifCond .ne 9, 3) := by decide +kernel
theorem d_M_modulo_132 : decode c_M_modulo 132 = .ok (.iinc 8 1, 3) := by decide +kernel
theorem d_M_modulo_135 : decode c_M_modulo 135 = .ok (.goto (-27), 3) := by decide +kernel
theorem d_M_modulo_138 : decode c_M_modulo 138 = .ok (.iload 8, 2) := by decide +kernel
theorem d_M_modulo_140 : decode c_M_modulo 140 = .ok (.iload_n 1, 1) := by decide +kernel
theorem d_M_modulo_141 : decode c_M_modulo 141 = .ok (.if_icmp .ne 5, 3) := by decide +kernel
theorem d_M_modulo_144 : decode c_M_modulo 144 = .ok (.lconst 0, 1) := by decide +kernel
theorem d_M_modulo_145 : decode c_M_modulo 145 = .ok (.lreturn, 1) := by decide +kernel
theorem d_M_modulo_146 : decode c_M_modulo 146 = .ok (.iload 8, 2) := by decide +kernel
theorem d_M_modulo_148 : decode c_M_modulo 148 = .ok (.iload 7, 2) := by decide +kernel
theorem d_M_modulo_150 : decode c_M_modulo 150 = .ok (.if_icmp .eq 9, 3) := by decide +kernel
theorem d_M_modulo_153 : decode c_M_modulo 153 = .ok (.lload_n 3, 1) := by decide +kernel
theorem d_M_modulo_154 : decode c_M_modulo 154 = .ok (.lload 5, 2) := by decide +kernel
theorem d_M_modulo_156 : decode c_M_modulo 156 = .ok (.lsub, 1) := by decide +kernel
theorem d_M_modulo_157 : decode c_M_modulo 157 = .ok (.lstore 5, 2) := by decide +kernel
theorem d_M_modulo_159 : decode c_M_modulo 159 = .ok (.aload_n 0, 1) := by decide +kernel
theorem d_M_modulo_160 : decode c_M_modulo 160 = .ok (.iload 8, 2) := by decide +kernel
theorem d_M_modulo_162 : decode c_M_modulo 162 = .ok (.iload 7, 2) := by decide +kernel
theorem d_M_modulo_164 : decode c_M_modulo 164 = .ok (.invokevirtual 100, 3) := by decide +kernel
theorem d_M_modulo_167 : decode c_M_modulo 167 = .ok (.lload 5, 2) := by decide +kernel
theorem d_M_modulo_169 : decode c_M_modulo 169 = .ok (.aload_n 0, 1) := by decide +kernel
theorem d_M_modulo_170 : decode c_M_modulo 170 = .ok (.getfield 54, 3) := by decide +kernel
theorem d_M_modulo_173 : decode c_M_modulo 173 = .ok (.iload 7, 2) := by decide +kernel
theorem d_M_modulo_175 : decode c_M_modulo 175 = .ok (.bipush 10, 2) := by decide +kernel
theorem d_M_modulo_177 : decode c_M_modulo 177 = .ok (.imul, 1) := by decide +kernel
theorem d_M_modulo_178 : decode c_M_modulo 178 = .ok (.iload 7, 2) := by decide +kernel
theorem d_M_modulo_180 : decode c_M_modulo 180 = .ok (.iadd, 1) := by decide +kernel
theorem d_M_modulo_181 : decode c_M_modulo 181 = .ok (.laload, 1) := by decide +kernel
theorem d_M_modulo_182 : decode c_M_modulo 182 = .ok (.lmul, 1) := by decide +kernel
theorem d_M_modulo_183 : decode c_M_modulo 183 = .ok (.lload_n 3, 1) := by decide +kernel
theorem d_M_modulo_184 : decode c_M_modulo 184 = .ok (.lrem, 1) := by decide +kernel
theorem d_M_modulo_185 : decode c_M_modulo 185 = .ok (.lstore 5, 2) := by decide +kernel
theorem d_M_modulo_187 : decode c_M_modulo 187 = .ok (.aload_n 0, 1) := by decide +kernel
theorem d_M_modulo_188 : decode c_M_modulo 188 = .ok (.iload 7, 2) := by decide +kernel
theorem d_M_modulo_190 : decode c_M_modulo 190 = .ok (.iload_n 1, 1) := by decide +kernel
theorem d_M_modulo_191 : decode c_M_modulo 191 = .ok (.lload_n 3, 1) := by decide +kernel
theorem d_M_modulo_192 : decode c_M_modulo 192 = .ok (.invokevirtual 104, 3) := by decide +kernel
theorem d_M_modulo_195 : decode c_M_modulo 195 = .ok (.iinc 7 1, 3) := by decide +kernel
theorem d_M_modulo_198 : decode c_M_modulo 198 = .ok (.goto (-100), 3) := by decide +kernel
theorem d_M_modulo_201 : decode c_M_modulo 201 = .ok (.lload 5, 2) := by decide +kernel
theorem d_M_modulo_203 : decode c_M_modulo 203 = .ok (.lload_n 3, 1) := by decide +kernel
theorem d_M_modulo_204 : decode c_M_modulo 204 = .ok (.lrem, 1) := by decide +kernel
theorem d_M_modulo_205 : decode c_M_modulo 205 = .ok (.lreturn, 1) := by decide +kernel
