theorem d_M_init_0 : decode c_M_init 0 = .ok (.aload_n 0, 1) := by decide +kernel
theorem d_M_init_1 : decode c_M_init 1 = .ok (.invokespecial 1, 3) := by decide +kernel
theorem d_M_init_4 : decode c_M_init 4 = .ok (.aload_n 0, 1) := by decide +kernel
theorem d_M_init_5 : decode c_M_init 5 = .ok (.iconst 5, 1) := by decide +kernel
theorem d_M_init_6 : decode c_M_init 6 = .ok (.newarray .boolean, 2) := by decide +kernel
theorem d_M_init_8 : decode c_M_init 8 = .ok (.putfield 7, 3) := by decide +kernel
theorem d_M_init_11 : decode c_M_init 11 = .ok (.aload_n 0, 1) := by decide +kernel
theorem d_M_init_12 : decode c_M_init 12 = .ok (.iconst 5, 1) := by decide +kernel
theorem d_M_init_13 : decode c_M_init 13 = .ok (.newarray .int, 2) := by decide +kernel
theorem d_M_init_15 : decode c_M_init 15 = .ok (.putfield 13, 3) := by decide +kernel
theorem d_M_init_18 : decode c_M_init 18 = .ok (.aload_n 0, 1) := by decide +kernel
theorem d_M_init_19 : decode c_M_init 19 = .ok (.iconst 5, 1) := by decide +kernel
theorem d_M_init_20 : decode c_M_init 20 = .ok (.newarray .int, 2) := by decide +kernel
theorem d_M_init_22 : decode c_M_init 22 = .ok (.putfield 17, 3) := by decide +kernel
theorem d_M_init_25 : decode c_M_init 25 = .ok (.aload_n 0, 1) := by decide +kernel
theorem d_M_init_26 : decode c_M_init 26 = .ok (.bipush 10, 2) := by decide +kernel
theorem d_M_init_28 : decode c_M_init 28 = .ok (.newarray .int, 2) := by decide +kernel
theorem d_M_init_30 : decode c_M_init 30 = .ok (.putfield 20, 3) := by decide +kernel
theorem d_M_init_33 : decode c_M_init 33 = .ok (.aload_n 0, 1) := by decide +kernel
theorem d_M_init_34 : decode c_M_init 34 = .ok (.bipush 10, 2) := by decide +kernel
theorem d_M_init_36 : decode c_M_init 36 = .ok (.newarray .int, 2) := by decide +kernel
theorem d_M_init_38 : decode c_M_init 38 = .ok (.putfield 23, 3) := by decide +kernel
theorem d_M_init_41 : decode c_M_init 41 = .ok (.aload_n 0, 1) := by decide +kernel
theorem d_M_init_42 : decode c_M_init 42 = .ok (.bipush 10, 2) := by decide +kernel
theorem d_M_init_44 : decode c_M_init 44 = .ok (.newarray .int, 2) := by decide +kernel
theorem d_M_init_46 : decode c_M_init 46 = .ok (.putfield 26, 3) := by decide +kernel
theorem d_M_init_49 : decode c_M_init 49 = .ok (.aload_n 0, 1) := by decide +kernel
theorem d_M_init_50 : decode c_M_init 50 = .ok (.bipush 10, 2) := by decide +kernel
theorem d_M_init_52 : decode c_M_init 52 = .ok (.newarray .boolean, 2) := by decide +kernel
theorem d_M_init_54 : decode c_M_init 54 = .ok (.putfield 29, 3) := by decide +kernel
theorem d_M_init_57 : decode c_M_init 57 = .ok (.aload_n 0, 1) := by decide +kernel
theorem d_M_init_58 : decode c_M_init 58 = .ok (.bipush 10, 2) := by decide +kernel
theorem d_M_init_60 : decode c_M_init 60 = .ok (.newarray .int, 2) := by decide +kernel
theorem d_M_init_62 : decode c_M_init 62 = .ok (.putfield 32, 3) := by decide +kernel
theorem d_M_init_65 : decode c_M_init 65 = .ok (.aload_n 0, 1) := by decide +kernel
theorem d_M_init_66 : decode c_M_init 66 = .ok (.bipush 10, 2) := by decide +kernel
theorem d_M_init_68 : decode c_M_init 68 = .ok (.newarray .int, 2) := by decide +kernel
theorem d_M_init_70 : decode c_M_init 70 = .ok (.putfield 35, 3) := by decide +kernel
theorem d_M_init_73 : decode c_M_init 73 = .ok (.aload_n 0, 1) := by decide +kernel
theorem d_M_init_74 : decode c_M_init 74 = .ok (.bipush 40, 2) := by decide +kernel
theorem d_M_init_76 : decode c_M_init 76 = .ok (.newarray .int, 2) := by decide +kernel
theorem d_M_init_78 : decode c_M_init 78 = .ok (.putfield 38, 3) := by decide +kernel
theorem d_M_init_81 : decode c_M_init 81 = .ok (.aload_n 0, 1) := by decide +kernel
theorem d_M_init_82 : decode c_M_init 82 = .ok (.iconst 5, 1) := by decide +kernel
theorem d_M_init_83 : decode c_M_init 83 = .ok (.newarray .int, 2) := by decide +kernel
theorem d_M_init_85 : decode c_M_init 85 = .ok (.putfield 41, 3) := by decide +kernel
theorem d_M_init_88 : decode c_M_init 88 = .ok (.aload_n 0, 1) := by decide +kernel
theorem d_M_init_89 : decode c_M_init 89 = .ok (.bipush 10, 2) := by decide +kernel
theorem d_M_init_91 : decode c_M_init 91 = .ok (.newarray .int, 2) := by decide +kernel
theorem d_M_init_93 : decode c_M_init 93 = .ok (.putfield 44, 3) := by decide +kernel
theorem d_M_init_96 : decode c_M_init 96 = .ok (.aload_n 0, 1) := by decide +kernel
theorem d_M_init_97 : decode c_M_init 97 = .ok (.bipush 100, 2) := by decide +kernel
theorem d_M_init_99 : decode c_M_init 99 = .ok (.newarray .int, 2) := by decide +kernel
theorem d_M_init_101 : decode c_M_init 101 = .ok (.putfield 47, 3) := by decide +kernel
theorem d_M_init_104 : decode c_M_init 104 = .ok (.aload_n 0, 1) := by decide +kernel
theorem d_M_init_105 : decode c_M_init 105 = .ok (.bipush 10, 2) := by decide +kernel
theorem d_M_init_107 : decode c_M_init 107 = .ok (.newarray .long, 2) := by decide +kernel
theorem d_M_init_109 : decode c_M_init 109 = .ok (.putfield 50, 3) := by decide +kernel
theorem d_M_init_112 : decode c_M_init 112 = .ok (.aload_n 0, 1) := by decide +kernel
theorem d_M_init_113 : decode c_M_init 113 = .ok (.bipush 100, 2) := by decide +kernel
theorem d_M_init_115 : decode c_M_init 115 = .ok (.newarray .long, 2) := by decide +kernel
theorem d_M_init_117 : decode c_M_init 117 = .ok (.putfield 54, 3) := by decide +kernel
theorem d_M_init_120 : decode c_M_init 120 = .ok (.return_, 1) := by decide +kernel
theorem d_M_node_0 : decode c_M_node 0 = .ok (.aload_n 0, 1) := by decide +kernel
theorem d_M_node_1 : decode c_M_node 1 = .ok (.iload_n 1, 1) := by decide +kernel
theorem d_M_node_2 : decode c_M_node 2 = .ok (.iconst 4, 1) := by decide +kernel
theorem d_M_node_3 : decode c_M_node 3 = .ok (.invokevirtual 57, 3) := by decide +kernel
theorem d_M_node_6 : decode c_M_node 6 = .ok (.ifCond .ne 21, 3) := by decide +kernel
theorem d_M_node_9 : decode c_M_node 9 = .ok (.aload_n 0, 1) := by decide +kernel
theorem d_M_node_10 : decode c_M_node 10 = .ok (.iload_n 2, 1) := by decide +kernel
theorem d_M_node_11 : decode c_M_node 11 = .ok (.iconst 4, 1) := by decide +kernel
theorem d_M_node_12 : decode c_M_node 12 = .ok (.invokevirtual 57, 3) := by decide +kernel
theorem d_M_node_15 : decode c_M_node 15 = .ok (.ifCond .ne 12, 3) := by decide +kernel
theorem d_M_node_18 : decode c_M_node 18 = .ok (.aload_n 0, 1) := by decide +kernel
theorem d_M_node_19 : decode c_M_node 19 = .ok (.iload_n 3, 1) := by decide +kernel
theorem d_M_node_20 : decode c_M_node 20 = .ok (.iconst 4, 1) := by decide +kernel
theorem d_M_node_21 : decode c_M_node 21 = .ok (.invokevirtual 57, 3) := by decide +kernel
theorem d_M_node_24 : decode c_M_node 24 = .ok (.ifCond .eq 5, 3) := by decide +kernel
theorem d_M_node_27 : decode c_M_node 27 = .ok (.iconst (-1), 1) := by decide +kernel
theorem d_M_node_28 : decode c_M_node 28 = .ok (.ireturn, 1) := by decide +kernel
theorem d_M_node_29 : decode c_M_node 29 = .ok (.aload_n 0, 1) := by decide +kernel
theorem d_M_node_30 : decode c_M_node 30 = .ok (.getfield 61, 3) := by decide +kernel
theorem d_M_node_33 : decode c_M_node 33 = .ok (.ifCond .eq 6, 3) := by decide +kernel
theorem d_M_node_36 : decode c_M_node 36 = .ok (.bipush (-4), 2) := by decide +kernel
theorem d_M_node_38 : decode c_M_node 38 = .ok (.ireturn, 1) := by decide +kernel
theorem d_M_node_39 : decode c_M_node 39 = .ok (.iconst 0, 1) := by decide +kernel
theorem d_M_node_40 : decode c_M_node 40 = .ok (.istore 4, 2) := by decide +kernel
theorem d_M_node_42 : decode c_M_node 42 = .ok (.iload 4, 2) := by decide +kernel
theorem d_M_node_44 : decode c_M_node 44 = .ok (.iconst 5, 1) := by decide +kernel
theorem d_M_node_45 : decode c_M_node 45 = .ok (.if_icmp .ge 50, 3) := by decide +kernel
theorem d_M_node_48 : decode c_M_node 48 = .ok (.iload 4, 2) := by decide +kernel
theorem d_M_node_50 : decode c_M_node 50 = .ok (.iload_n 1, 1) := by decide +kernel
theorem d_M_node_51 : decode c_M_node 51 = .ok (.if_icmp .eq 38, 3) := by decide +kernel
theorem d_M_node_54 : decode c_M_node 54 = .ok (.aload_n 0, 1) := by decide +kernel
theorem d_M_node_55 : decode c_M_node 55 = .ok (.getfield 7, 3) := by decide +kernel
theorem d_M_node_58 : decode c_M_node 58 = .ok (.iload 4, 2) := by decide +kernel
theorem d_M_node_60 : decode c_M_node 60 = .ok (.baload, 1) := by decide +kernel
theorem d_M_node_61 : decode c_M_node 61 = .ok (.ifCond .eq 28, 3) := by decide +kernel
theorem d_M_node_64 : decode c_M_node 64 = .ok (.aload_n 0, 1) := by decide +kernel
theorem d_M_node_65 : decode c_M_node 65 = .ok (.getfield 13, 3) := by decide +kernel
theorem d_M_node_68 : decode c_M_node 68 = .ok (.iload 4, 2) := by decide +kernel
theorem d_M_node_70 : decode c_M_node 70 = .ok (.iaload, 1) := by decide +kernel
theorem d_M_node_71 : decode c_M_node 71 = .ok (.iload_n 2, 1) := by decide +kernel
theorem d_M_node_72 : decode c_M_node 72 = .ok (.if_icmp .ne 17, 3) := by decide +kernel
theorem d_M_node_75 : decode c_M_node 75 = .ok (.aload_n 0, 1) := by decide +kernel
theorem d_M_node_76 : decode c_M_node 76 = .ok (.getfield 17, 3) := by decide +kernel
theorem d_M_node_79 : decode c_M_node 79 = .ok (.iload 4, 2) := by decide +kernel
theorem d_M_node_81 : decode c_M_node 81 = .ok (.iaload, 1) := by decide +kernel
theorem d_M_node_82 : decode c_M_node 82 = .ok (.iload_n 3, 1) := by decide +kernel
theorem d_M_node_83 : decode c_M_node 83 = .ok (.if_icmp .ne 6, 3) := by decide +kernel
theorem d_M_node_86 : decode c_M_node 86 = .ok (.bipush (-2), 2) := by decide +kernel
theorem d_M_node_88 : decode c_M_node 88 = .ok (.ireturn, 1) := by decide +kernel
theorem d_M_node_89 : decode c_M_node 89 = .ok (.iinc 4 1, 3) := by decide +kernel
theorem d_M_node_92 : decode c_M_node 92 = .ok (.goto (-50), 3) := by decide +kernel
theorem d_M_node_95 : decode c_M_node 95 = .ok (.aload_n 0, 1) := by decide +kernel
theorem d_M_node_96 : decode c_M_node 96 = .ok (.getfield 7, 3) := by decide +kernel
theorem d_M_node_99 : decode c_M_node 99 = .ok (.iload_n 1, 1) := by decide +kernel
theorem d_M_node_100 : decode c_M_node 100 = .ok (.iconst 1, 1) := by decide +kernel
theorem d_M_node_101 : decode c_M_node 101 = .ok (.bastore, 1) := by decide +kernel
theorem d_M_node_102 : decode c_M_node 102 = .ok (.aload_n 0, 1) := by decide +kernel
theorem d_M_node_103 : decode c_M_node 103 = .ok (.getfield 13, 3) := by decide +kernel
theorem d_M_node_106 : decode c_M_node 106 = .ok (.iload_n 1, 1) := by decide +kernel
theorem d_M_node_107 : decode c_M_node 107 = .ok (.iload_n 2, 1) := by decide +kernel
theorem d_M_node_108 : decode c_M_node 108 = .ok (.iastore, 1) := by decide +kernel
theorem d_M_node_109 : decode c_M_node 109 = .ok (.aload_n 0, 1) := by decide +kernel
theorem d_M_node_110 : decode c_M_node 110 = .ok (.getfield 17, 3) := by decide +kernel
theorem d_M_node_113 : decode c_M_node 113 = .ok (.iload_n 1, 1) := by decide +kernel
theorem d_M_node_114 : decode c_M_node 114 = .ok (.iload_n 3, 1) := by decide +kernel
theorem d_M_node_115 : decode c_M_node 115 = .ok (.iastore, 1) := by decide +kernel
theorem d_M_node_116 : decode c_M_node 116 = .ok (.iconst 0, 1) := by decide +kernel
theorem d_M_node_117 : decode c_M_node 117 = .ok (.ireturn, 1) := by decide +kernel
theorem d_M_off_0 : decode c_M_off 0 = .ok (.iload_n 1, 1) := by decide +kernel
theorem d_M_off_1 : decode c_M_off 1 = .ok (.ifCond .lt 8, 3) := by decide +kernel
theorem d_M_off_4 : decode c_M_off 4 = .ok (.iload_n 1, 1) := by decide +kernel
theorem d_M_off_5 : decode c_M_off 5 = .ok (.iload_n 2, 1) := by decide +kernel
theorem d_M_off_6 : decode c_M_off 6 = .ok (.if_icmp .le 7, 3) := by decide +kernel
theorem d_M_off_9 : decode c_M_off 9 = .ok (.iconst 1, 1) := by decide +kernel
theorem d_M_off_10 : decode c_M_off 10 = .ok (.goto 4, 3) := by decide +kernel
theorem d_M_off_13 : decode c_M_off 13 = .ok (.iconst 0, 1) := by decide +kernel
theorem d_M_off_14 : decode c_M_off 14 = .ok (.ireturn, 1) := by decide +kernel
theorem d_M_bar_0 : decode c_M_bar 0 = .ok (.aload_n 0, 1) := by decide +kernel
theorem d_M_bar_1 : decode c_M_bar 1 = .ok (.iload_n 1, 1) := by decide +kernel
theorem d_M_bar_2 : decode c_M_bar 2 = .ok (.iconst 4, 1) := by decide +kernel
theorem d_M_bar_3 : decode c_M_bar 3 = .ok (.invokevirtual 57, 3) := by decide +kernel
theorem d_M_bar_6 : decode c_M_bar 6 = .ok (.ifCond .ne 27, 3) := by decide +kernel
theorem d_M_bar_9 : decode c_M_bar 9 = .ok (.aload_n 0, 1) := by decide +kernel
theorem d_M_bar_10 : decode c_M_bar 10 = .ok (.iload_n 2, 1) := by decide +kernel
theorem d_M_bar_11 : decode c_M_bar 11 = .ok (.iconst 4, 1) := by decide +kernel
theorem d_M_bar_12 : decode c_M_bar 12 = .ok (.invokevirtual 57, 3) := by decide +kernel
theorem d_M_bar_15 : decode c_M_bar 15 = .ok (.ifCond .ne 18, 3) := by decide +kernel
theorem d_M_bar_18 : decode c_M_bar 18 = .ok (.iload_n 3, 1) := by decide +kernel
theorem d_M_bar_19 : decode c_M_bar 19 = .ok (.iconst 1, 1) := by decide +kernel
theorem d_M_bar_20 : decode c_M_bar 20 = .ok (.if_icmp .lt 13, 3) := by decide +kernel
theorem d_M_bar_23 : decode c_M_bar 23 = .ok (.iload_n 3, 1) := by decide +kernel
theorem d_M_bar_24 : decode c_M_bar 24 = .ok (.iconst 3, 1) := by decide +kernel
theorem d_M_bar_25 : decode c_M_bar 25 = .ok (.if_icmp .gt 8, 3) := by decide +kernel
theorem d_M_bar_28 : decode c_M_bar 28 = .ok (.iload_n 1, 1) := by decide +kernel
theorem d_M_bar_29 : decode c_M_bar 29 = .ok (.iload_n 2, 1) := by decide +kernel
theorem d_M_bar_30 : decode c_M_bar 30 = .ok (.if_icmp .ne 5, 3) := by decide +kernel
theorem d_M_bar_33 : decode c_M_bar 33 = .ok (.iconst (-1), 1) := by decide +kernel
theorem d_M_bar_34 : decode c_M_bar 34 = .ok (.ireturn, 1) := by decide +kernel
theorem d_M_bar_35 : decode c_M_bar 35 = .ok (.aload_n 0, 1) := by decide +kernel
theorem d_M_bar_36 : decode c_M_bar 36 = .ok (.getfield 61, 3) := by decide +kernel
theorem d_M_bar_39 : decode c_M_bar 39 = .ok (.ifCond .eq 6, 3) := by decide +kernel
theorem d_M_bar_42 : decode c_M_bar 42 = .ok (.bipush (-4), 2) := by decide +kernel
theorem d_M_bar_44 : decode c_M_bar 44 = .ok (.ireturn, 1) := by decide +kernel
theorem d_M_bar_45 : decode c_M_bar 45 = .ok (.aload_n 0, 1) := by decide +kernel
theorem d_M_bar_46 : decode c_M_bar 46 = .ok (.getfield 65, 3) := by decide +kernel
theorem d_M_bar_49 : decode c_M_bar 49 = .ok (.bipush 10, 2) := by decide +kernel
theorem d_M_bar_51 : decode c_M_bar 51 = .ok (.if_icmp .ne 6, 3) := by decide +kernel
theorem d_M_bar_54 : decode c_M_bar 54 = .ok (.bipush (-3), 2) := by decide +kernel
theorem d_M_bar_56 : decode c_M_bar 56 = .ok (.ireturn, 1) := by decide +kernel
theorem d_M_bar_57 : decode c_M_bar 57 = .ok (.aload_n 0, 1) := by decide +kernel
theorem d_M_bar_58 : decode c_M_bar 58 = .ok (.getfield 20, 3) := by decide +kernel
theorem d_M_bar_61 : decode c_M_bar 61 = .ok (.aload_n 0, 1) := by decide +kernel
theorem d_M_bar_62 : decode c_M_bar 62 = .ok (.getfield 65, 3) := by decide +kernel
theorem d_M_bar_65 : decode c_M_bar 65 = .ok (.iload_n 1, 1) := by decide +kernel
theorem d_M_bar_66 : decode c_M_bar 66 = .ok (.iastore, 1) := by decide +kernel
theorem d_M_bar_67 : decode c_M_bar 67 = .ok (.aload_n 0, 1) := by decide +kernel
theorem d_M_bar_68 : decode c_M_bar 68 = .ok (.getfield 23, 3) := by decide +kernel
theorem d_M_bar_71 : decode c_M_bar 71 = .ok (.aload_n 0, 1) := by decide +kernel
theorem d_M_bar_72 : decode c_M_bar 72 = .ok (.getfield 65, 3) := by decide +kernel
theorem d_M_bar_75 : decode c_M_bar 75 = .ok (.iload_n 2, 1) := by decide +kernel
theorem d_M_bar_76 : decode c_M_bar 76 = .ok (.iastore, 1) := by decide +kernel
theorem d_M_bar_77 : decode c_M_bar 77 = .ok (.aload_n 0, 1) := by decide +kernel
theorem d_M_bar_78 : decode c_M_bar 78 = .ok (.getfield 26, 3) := by decide +kernel
theorem d_M_bar_81 : decode c_M_bar 81 = .ok (.aload_n 0, 1) := by decide +kernel
theorem d_M_bar_82 : decode c_M_bar 82 = .ok (.getfield 65, 3) := by decide +kernel
theorem d_M_bar_85 : decode c_M_bar 85 = .ok (.iload_n 3, 1) := by decide +kernel
theorem d_M_bar_86 : decode c_M_bar 86 = .ok (.iastore, 1) := by decide +kernel
theorem d_M_bar_87 : decode c_M_bar 87 = .ok (.aload_n 0, 1) := by decide +kernel
theorem d_M_bar_88 : decode c_M_bar 88 = .ok (.dup, 1) := by decide +kernel
theorem d_M_bar_89 : decode c_M_bar 89 = .ok (.getfield 65, 3) := by decide +kernel
theorem d_M_bar_92 : decode c_M_bar 92 = .ok (.iconst 1, 1) := by decide +kernel
theorem d_M_bar_93 : decode c_M_bar 93 = .ok (.iadd, 1) := by decide +kernel
theorem d_M_bar_94 : decode c_M_bar 94 = .ok (.putfield 65, 3) := by decide +kernel
theorem d_M_bar_97 : decode c_M_bar 97 = .ok (.aload_n 0, 1) := by decide +kernel
theorem d_M_bar_98 : decode c_M_bar 98 = .ok (.getfield 65, 3) := by decide +kernel
theorem d_M_bar_101 : decode c_M_bar 101 = .ok (.iconst 1, 1) := by decide +kernel
theorem d_M_bar_102 : decode c_M_bar 102 = .ok (.isub, 1) := by decide +kernel
theorem d_M_bar_103 : decode c_M_bar 103 = .ok (.ireturn, 1) := by decide +kernel
theorem d_M_unbar_0 : decode c_M_unbar 0 = .ok (.iload_n 1, 1) := by decide +kernel
theorem d_M_unbar_1 : decode c_M_unbar 1 = .ok (.ifCond .lt 11, 3) := by decide +kernel
theorem d_M_unbar_4 : decode c_M_unbar 4 = .ok (.iload_n 1, 1) := by decide +kernel
theorem d_M_unbar_5 : decode c_M_unbar 5 = .ok (.aload_n 0, 1) := by decide +kernel
theorem d_M_unbar_6 : decode c_M_unbar 6 = .ok (.getfield 65, 3) := by decide +kernel
theorem d_M_unbar_9 : decode c_M_unbar 9 = .ok (.if_icmp .lt 5, 3) := by decide +kernel
theorem d_M_unbar_12 : decode c_M_unbar 12 = .ok (.iconst (-1), 1) := by decide +kernel
theorem d_M_unbar_13 : decode c_M_unbar 13 = .ok (.ireturn, 1) := by decide +kernel
theorem d_M_unbar_14 : decode c_M_unbar 14 = .ok (.aload_n 0, 1) := by decide +kernel
theorem d_M_unbar_15 : decode c_M_unbar 15 = .ok (.getfield 61, 3) := by decide +kernel
theorem d_M_unbar_18 : decode c_M_unbar 18 = .ok (.ifCond .eq 6, 3) := by decide +kernel
theorem d_M_unbar_21 : decode c_M_unbar 21 = .ok (.bipush (-4), 2) := by decide +kernel
theorem d_M_unbar_23 : decode c_M_unbar 23 = .ok (.ireturn, 1) := by decide +kernel
theorem d_M_unbar_24 : decode c_M_unbar 24 = .ok (.aload_n 0, 1) := by decide +kernel
theorem d_M_unbar_25 : decode c_M_unbar 25 = .ok (.dup, 1) := by decide +kernel
theorem d_M_unbar_26 : decode c_M_unbar 26 = .ok (.getfield 65, 3) := by decide +kernel
theorem d_M_unbar_29 : decode c_M_unbar 29 = .ok (.iconst 1, 1) := by decide +kernel
theorem d_M_unbar_30 : decode c_M_unbar 30 = .ok (.isub, 1) := by decide +kernel
theorem d_M_unbar_31 : decode c_M_unbar 31 = .ok (.putfield 65, 3) := by decide +kernel
theorem d_M_unbar_34 : decode c_M_unbar 34 = .ok (.iload_n 1, 1) := by decide +kernel
theorem d_M_unbar_35 : decode c_M_unbar 35 = .ok (.istore_n 2, 1) := by decide +kernel
theorem d_M_unbar_36 : decode c_M_unbar 36 = .ok (.iload_n 2, 1) := by decide +kernel
theorem d_M_unbar_37 : decode c_M_unbar 37 = .ok (.aload_n 0, 1) := by decide +kernel
theorem d_M_unbar_38 : decode c_M_unbar 38 = .ok (.getfield 65, 3) := by decide +kernel
theorem d_M_unbar_41 : decode c_M_unbar 41 = .ok (.if_icmp .ge 51, 3) := by decide +kernel
theorem d_M_unbar_44 : decode c_M_unbar 44 = .ok (.aload_n 0, 1) := by decide +kernel
theorem d_M_unbar_45 : decode c_M_unbar 45 = .ok (.getfield 20, 3) := by decide +kernel
theorem d_M_unbar_48 : decode c_M_unbar 48 = .ok (.iload_n 2, 1) := by decide +kernel
theorem d_M_unbar_49 : decode c_M_unbar 49 = .ok (.aload_n 0, 1) := by decide +kernel
theorem d_M_unbar_50 : decode c_M_unbar 50 = .ok (.getfield 20, 3) := by decide +kernel
theorem d_M_unbar_53 : decode c_M_unbar 53 = .ok (.iload_n 2, 1) := by decide +kernel
theorem d_M_unbar_54 : decode c_M_unbar 54 = .ok (.iconst 1, 1) := by decide +kernel
theorem d_M_unbar_55 : decode c_M_unbar 55 = .ok (.iadd, 1) := by decide +kernel
theorem d_M_unbar_56 : decode c_M_unbar 56 = .ok (.iaload, 1) := by decide +kernel
theorem d_M_unbar_57 : decode c_M_unbar 57 = .ok (.iastore, 1) := by decide +kernel
theorem d_M_unbar_58 : decode c_M_unbar 58 = .ok (.aload_n 0, 1) := by decide +kernel
theorem d_M_unbar_59 : decode c_M_unbar 59 = .ok (.getfield 23, 3) := by decide +kernel
theorem d_M_unbar_62 : decode c_M_unbar 62 = .ok (.iload_n 2, 1) := by decide +kernel
theorem d_M_unbar_63 : decode c_M_unbar 63 = .ok (.aload_n 0, 1) := by decide +kernel
theorem d_M_unbar_64 : decode c_M_unbar 64 = .ok (.getfield 23, 3) := by decide +kernel
theorem d_M_unbar_67 : decode c_M_unbar 67 = .ok (.iload_n 2, 1) := by decide +kernel
theorem d_M_unbar_68 : decode c_M_unbar 68 = .ok (.iconst 1, 1) := by decide +kernel
theorem d_M_unbar_69 : decode c_M_unbar 69 = .ok (.iadd, 1) := by decide +kernel
theorem d_M_unbar_70 : decode c_M_unbar 70 = .ok (.iaload, 1) := by decide +kernel
theorem d_M_unbar_71 : decode c_M_unbar 71 = .ok (.iastore, 1) := by decide +kernel
theorem d_M_unbar_72 : decode c_M_unbar 72 = .ok (.aload_n 0, 1) := by decide +kernel
theorem d_M_unbar_73 : decode c_M_unbar 73 = .ok (.getfield 26, 3) := by decide +kernel
theorem d_M_unbar_76 : decode c_M_unbar 76 = .ok (.iload_n 2, 1) := by decide +kernel
theorem d_M_unbar_77 : decode c_M_unbar 77 = .ok (.aload_n 0, 1) := by decide +kernel
theorem d_M_unbar_78 : decode c_M_unbar 78 = .ok (.getfield 26, 3) := by decide +kernel
theorem d_M_unbar_81 : decode c_M_unbar 81 = .ok (.iload_n 2, 1) := by decide +kernel
theorem d_M_unbar_82 : decode c_M_unbar 82 = .ok (.iconst 1, 1) := by decide +kernel
theorem d_M_unbar_83 : decode c_M_unbar 83 = .ok (.iadd, 1) := by decide +kernel
theorem d_M_unbar_84 : decode c_M_unbar 84 = .ok (.iaload, 1) := by decide +kernel
theorem d_M_unbar_85 : decode c_M_unbar 85 = .ok (.iastore, 1) := by decide +kernel
theorem d_M_unbar_86 : decode c_M_unbar 86 = .ok (.iinc 2 1, 3) := by decide +kernel
theorem d_M_unbar_89 : decode c_M_unbar 89 = .ok (.goto (-53), 3) := by decide +kernel
theorem d_M_unbar_92 : decode c_M_unbar 92 = .ok (.aload_n 0, 1) := by decide +kernel
theorem d_M_unbar_93 : decode c_M_unbar 93 = .ok (.getfield 65, 3) := by decide +kernel
theorem d_M_unbar_96 : decode c_M_unbar 96 = .ok (.ireturn, 1) := by decide +kernel
theorem d_M_hold_0 : decode c_M_hold 0 = .ok (.aload_n 0, 1) := by decide +kernel
theorem d_M_hold_1 : decode c_M_hold 1 = .ok (.iload_n 1, 1) := by decide +kernel
theorem d_M_hold_2 : decode c_M_hold 2 = .ok (.iconst 4, 1) := by decide +kernel
theorem d_M_hold_3 : decode c_M_hold 3 = .ok (.invokevirtual 57, 3) := by decide +kernel
theorem d_M_hold_6 : decode c_M_hold 6 = .ok (.ifCond .ne 26, 3) := by decide +kernel
theorem d_M_hold_9 : decode c_M_hold 9 = .ok (.aload_n 0, 1) := by decide +kernel
theorem d_M_hold_10 : decode c_M_hold 10 = .ok (.iload_n 2, 1) := by decide +kernel
theorem d_M_hold_11 : decode c_M_hold 11 = .ok (.iconst 1, 1) := by decide +kernel
theorem d_M_hold_12 : decode c_M_hold 12 = .ok (.invokevirtual 57, 3) := by decide +kernel
theorem d_M_hold_15 : decode c_M_hold 15 = .ok (.ifCond .ne 17, 3) := by decide +kernel
theorem d_M_hold_18 : decode c_M_hold 18 = .ok (.iload 4, 2) := by decide +kernel
theorem d_M_hold_20 : decode c_M_hold 20 = .ok (.bipush (-9), 2) := by decide +kernel
theorem d_M_hold_22 : decode c_M_hold 22 = .ok (.if_icmp .lt 10, 3) := by decide +kernel
theorem d_M_hold_25 : decode c_M_hold 25 = .ok (.iload 4, 2) := by decide +kernel
theorem d_M_hold_27 : decode c_M_hold 27 = .ok (.bipush 9, 2) := by decide +kernel
theorem d_M_hold_29 : decode c_M_hold 29 = .ok (.if_icmp .le 5, 3) := by decide +kernel
theorem d_M_hold_32 : decode c_M_hold 32 = .ok (.iconst (-1), 1) := by decide +kernel
theorem d_M_hold_33 : decode c_M_hold 33 = .ok (.ireturn, 1) := by decide +kernel
theorem d_M_hold_34 : decode c_M_hold 34 = .ok (.aload_n 0, 1) := by decide +kernel
theorem d_M_hold_35 : decode c_M_hold 35 = .ok (.getfield 61, 3) := by decide +kernel
theorem d_M_hold_38 : decode c_M_hold 38 = .ok (.ifCond .eq 6, 3) := by decide +kernel
theorem d_M_hold_41 : decode c_M_hold 41 = .ok (.bipush (-4), 2) := by decide +kernel
theorem d_M_hold_43 : decode c_M_hold 43 = .ok (.ireturn, 1) := by decide +kernel
theorem d_M_hold_44 : decode c_M_hold 44 = .ok (.aload_n 0, 1) := by decide +kernel
theorem d_M_hold_45 : decode c_M_hold 45 = .ok (.getfield 29, 3) := by decide +kernel
theorem d_M_hold_48 : decode c_M_hold 48 = .ok (.iload_n 1, 1) := by decide +kernel
theorem d_M_hold_49 : decode c_M_hold 49 = .ok (.iconst 2, 1) := by decide +kernel
theorem d_M_hold_50 : decode c_M_hold 50 = .ok (.imul, 1) := by decide +kernel
theorem d_M_hold_51 : decode c_M_hold 51 = .ok (.iload_n 2, 1) := by decide +kernel
theorem d_M_hold_52 : decode c_M_hold 52 = .ok (.iadd, 1) := by decide +kernel
theorem d_M_hold_53 : decode c_M_hold 53 = .ok (.iload_n 3, 1) := by decide +kernel
theorem d_M_hold_54 : decode c_M_hold 54 = .ok (.bastore, 1) := by decide +kernel
theorem d_M_hold_55 : decode c_M_hold 55 = .ok (.aload_n 0, 1) := by decide +kernel
theorem d_M_hold_56 : decode c_M_hold 56 = .ok (.getfield 32, 3) := by decide +kernel
theorem d_M_hold_59 : decode c_M_hold 59 = .ok (.iload_n 1, 1) := by decide +kernel
theorem d_M_hold_60 : decode c_M_hold 60 = .ok (.iconst 2, 1) := by decide +kernel
theorem d_M_hold_61 : decode c_M_hold 61 = .ok (.imul, 1) := by decide +kernel
theorem d_M_hold_62 : decode c_M_hold 62 = .ok (.iload_n 2, 1) := by decide +kernel
theorem d_M_hold_63 : decode c_M_hold 63 = .ok (.iadd, 1) := by decide +kernel
theorem d_M_hold_64 : decode c_M_hold 64 = .ok (.iload 4, 2) := by decide +kernel
theorem d_M_hold_66 : decode c_M_hold 66 = .ok (.iastore, 1) := by decide +kernel
theorem d_M_hold_67 : decode c_M_hold 67 = .ok (.iconst 0, 1) := by decide +kernel
theorem d_M_hold_68 : decode c_M_hold 68 = .ok (.ireturn, 1) := by decide +kernel
theorem d_M_spring_0 : decode c_M_spring 0 = .ok (.aload_n 0, 1) := by decide +kernel
theorem d_M_spring_1 : decode c_M_spring 1 = .ok (.iload_n 1, 1) := by decide +kernel
theorem d_M_spring_2 : decode c_M_spring 2 = .ok (.iconst 4, 1) := by decide +kernel
theorem d_M_spring_3 : decode c_M_spring 3 = .ok (.invokevirtual 57, 3) := by decide +kernel
theorem d_M_spring_6 : decode c_M_spring 6 = .ok (.ifCond .ne 21, 3) := by decide +kernel
theorem d_M_spring_9 : decode c_M_spring 9 = .ok (.aload_n 0, 1) := by decide +kernel
theorem d_M_spring_10 : decode c_M_spring 10 = .ok (.iload_n 2, 1) := by decide +kernel
theorem d_M_spring_11 : decode c_M_spring 11 = .ok (.iconst 1, 1) := by decide +kernel
theorem d_M_spring_12 : decode c_M_spring 12 = .ok (.invokevirtual 57, 3) := by decide +kernel
theorem d_M_spring_15 : decode c_M_spring 15 = .ok (.ifCond .ne 12, 3) := by decide +kernel
theorem d_M_spring_18 : decode c_M_spring 18 = .ok (.aload_n 0, 1) := by decide +kernel
theorem d_M_spring_19 : decode c_M_spring 19 = .ok (.iload_n 3, 1) := by decide +kernel
theorem d_M_spring_20 : decode c_M_spring 20 = .ok (.iconst 3, 1) := by decide +kernel
theorem d_M_spring_21 : decode c_M_spring 21 = .ok (.invokevirtual 57, 3) := by decide +kernel
theorem d_M_spring_24 : decode c_M_spring 24 = .ok (.ifCond .eq 5, 3) := by decide +kernel
theorem d_M_spring_27 : decode c_M_spring 27 = .ok (.iconst (-1), 1) := by decide +kernel
theorem d_M_spring_28 : decode c_M_spring 28 = .ok (.ireturn, 1) := by decide +kernel
theorem d_M_spring_29 : decode c_M_spring 29 = .ok (.aload_n 0, 1) := by decide +kernel
theorem d_M_spring_30 : decode c_M_spring 30 = .ok (.getfield 61, 3) := by decide +kernel
theorem d_M_spring_33 : decode c_M_spring 33 = .ok (.ifCond .eq 6, 3) := by decide +kernel
theorem d_M_spring_36 : decode c_M_spring 36 = .ok (.bipush (-4), 2) := by decide +kernel
theorem d_M_spring_38 : decode c_M_spring 38 = .ok (.ireturn, 1) := by decide +kernel
theorem d_M_spring_39 : decode c_M_spring 39 = .ok (.aload_n 0, 1) := by decide +kernel
theorem d_M_spring_40 : decode c_M_spring 40 = .ok (.getfield 35, 3) := by decide +kernel
theorem d_M_spring_43 : decode c_M_spring 43 = .ok (.iload_n 1, 1) := by decide +kernel
theorem d_M_spring_44 : decode c_M_spring 44 = .ok (.iconst 2, 1) := by decide +kernel
theorem d_M_spring_45 : decode c_M_spring 45 = .ok (.imul, 1) := by decide +kernel
theorem d_M_spring_46 : decode c_M_spring 46 = .ok (.iload_n 2, 1) := by decide +kernel
theorem d_M_spring_47 : decode c_M_spring 47 = .ok (.iadd, 1) := by decide +kernel
theorem d_M_spring_48 : decode c_M_spring 48 = .ok (.iload_n 3, 1) := by decide +kernel
theorem d_M_spring_49 : decode c_M_spring 49 = .ok (.iastore, 1) := by decide +kernel
theorem d_M_spring_50 : decode c_M_spring 50 = .ok (.iconst 0, 1) := by decide +kernel
theorem d_M_spring_51 : decode c_M_spring 51 = .ok (.ireturn, 1) := by decide +kernel
theorem d_M_load_0 : decode c_M_load 0 = .ok (.aload_n 0, 1) := by decide +kernel
theorem d_M_load_1 : decode c_M_load 1 = .ok (.iload_n 1, 1) := by decide +kernel
theorem d_M_load_2 : decode c_M_load 2 = .ok (.iconst 3, 1) := by decide +kernel
theorem d_M_load_3 : decode c_M_load 3 = .ok (.invokevirtual 57, 3) := by decide +kernel
theorem d_M_load_6 : decode c_M_load 6 = .ok (.ifCond .ne 35, 3) := by decide +kernel
theorem d_M_load_9 : decode c_M_load 9 = .ok (.aload_n 0, 1) := by decide +kernel
theorem d_M_load_10 : decode c_M_load 10 = .ok (.iload_n 2, 1) := by decide +kernel
theorem d_M_load_11 : decode c_M_load 11 = .ok (.iconst 4, 1) := by decide +kernel
theorem d_M_load_12 : decode c_M_load 12 = .ok (.invokevirtual 57, 3) := by decide +kernel
theorem d_M_load_15 : decode c_M_load 15 = .ok (.ifCond .ne 26, 3) := by decide +kernel
theorem d_M_load_18 : decode c_M_load 18 = .ok (.aload_n 0, 1) := by decide +kernel
theorem d_M_load_19 : decode c_M_load 19 = .ok (.iload_n 3, 1) := by decide +kernel
theorem d_M_load_20 : decode c_M_load 20 = .ok (.iconst 1, 1) := by decide +kernel
theorem d_M_load_21 : decode c_M_load 21 = .ok (.invokevirtual 57, 3) := by decide +kernel
theorem d_M_load_24 : decode c_M_load 24 = .ok (.ifCond .ne 17, 3) := by decide +kernel
theorem d_M_load_27 : decode c_M_load 27 = .ok (.iload 4, 2) := by decide +kernel
theorem d_M_load_29 : decode c_M_load 29 = .ok (.bipush (-99), 2) := by decide +kernel
theorem d_M_load_31 : decode c_M_load 31 = .ok (.if_icmp .lt 10, 3) := by decide +kernel
theorem d_M_load_34 : decode c_M_load 34 = .ok (.iload 4, 2) := by decide +kernel
theorem d_M_load_36 : decode c_M_load 36 = .ok (.bipush 99, 2) := by decide +kernel
theorem d_M_load_38 : decode c_M_load 38 = .ok (.if_icmp .le 5, 3) := by decide +kernel
theorem d_M_load_41 : decode c_M_load 41 = .ok (.iconst (-1), 1) := by decide +kernel
theorem d_M_load_42 : decode c_M_load 42 = .ok (.ireturn, 1) := by decide +kernel
theorem d_M_load_43 : decode c_M_load 43 = .ok (.aload_n 0, 1) := by decide +kernel
theorem d_M_load_44 : decode c_M_load 44 = .ok (.getfield 38, 3) := by decide +kernel
theorem d_M_load_47 : decode c_M_load 47 = .ok (.iload_n 1, 1) := by decide +kernel
theorem d_M_load_48 : decode c_M_load 48 = .ok (.bipush 10, 2) := by decide +kernel
theorem d_M_load_50 : decode c_M_load 50 = .ok (.imul, 1) := by decide +kernel
theorem d_M_load_51 : decode c_M_load 51 = .ok (.iload_n 2, 1) := by decide +kernel
theorem d_M_load_52 : decode c_M_load 52 = .ok (.iconst 2, 1) := by decide +kernel
theorem d_M_load_53 : decode c_M_load 53 = .ok (.imul, 1) := by decide +kernel
theorem d_M_load_54 : decode c_M_load 54 = .ok (.iadd, 1) := by decide +kernel
theorem d_M_load_55 : decode c_M_load 55 = .ok (.iload_n 3, 1) := by decide +kernel
theorem d_M_load_56 : decode c_M_load 56 = .ok (.iadd, 1) := by decide +kernel
theorem d_M_load_57 : decode c_M_load 57 = .ok (.iload 4, 2) := by decide +kernel
theorem d_M_load_59 : decode c_M_load 59 = .ok (.iastore, 1) := by decide +kernel
theorem d_M_load_60 : decode c_M_load 60 = .ok (.iconst 0, 1) := by decide +kernel
theorem d_M_load_61 : decode c_M_load 61 = .ok (.ireturn, 1) := by decide +kernel
theorem d_M_solve_0 : decode c_M_solve 0 = .ok (.aload_n 0, 1) := by decide +kernel
theorem d_M_solve_1 : decode c_M_solve 1 = .ok (.getfield 61, 3) := by decide +kernel
theorem d_M_solve_4 : decode c_M_solve 4 = .ok (.ifCond .eq 6, 3) := by decide +kernel
theorem d_M_solve_7 : decode c_M_solve 7 = .ok (.bipush (-4), 2) := by decide +kernel
theorem d_M_solve_9 : decode c_M_solve 9 = .ok (.ireturn, 1) := by decide +kernel
theorem d_M_solve_10 : decode c_M_solve 10 = .ok (.aload_n 0, 1) := by decide +kernel
theorem d_M_solve_11 : decode c_M_solve 11 = .ok (.invokevirtual 122, 3) := by decide +kernel
theorem d_M_solve_14 : decode c_M_solve 14 = .ok (.aload_n 0, 1) := by decide +kernel
theorem d_M_solve_15 : decode c_M_solve 15 = .ok (.getfield 76, 3) := by decide +kernel
theorem d_M_solve_18 : decode c_M_solve 18 = .ok (.ifCond .ne 6, 3) := by decide +kernel
theorem d_M_solve_21 : decode c_M_solve 21 = .ok (.bipush (-100), 2) := by decide +kernel
theorem d_M_solve_23 : decode c_M_solve 23 = .ok (.ireturn, 1) := by decide +kernel
theorem d_M_solve_24 : decode c_M_solve 24 = .ok (.iconst 0, 1) := by decide +kernel
theorem d_M_solve_25 : decode c_M_solve 25 = .ok (.istore_n 1, 1) := by decide +kernel
theorem d_M_solve_26 : decode c_M_solve 26 = .ok (.iload_n 1, 1) := by decide +kernel
theorem d_M_solve_27 : decode c_M_solve 27 = .ok (.aload_n 0, 1) := by decide +kernel
theorem d_M_solve_28 : decode c_M_solve 28 = .ok (.getfield 65, 3) := by decide +kernel
theorem d_M_solve_31 : decode c_M_solve 31 = .ok (.if_icmp .ge 23, 3) := by decide +kernel
theorem d_M_solve_34 : decode c_M_solve 34 = .ok (.aload_n 0, 1) := by decide +kernel
theorem d_M_solve_35 : decode c_M_solve 35 = .ok (.iload_n 1, 1) := by decide +kernel
theorem d_M_solve_36 : decode c_M_solve 36 = .ok (.invokevirtual 125, 3) := by decide +kernel
theorem d_M_solve_39 : decode c_M_solve 39 = .ok (.ifCond .ne 9, 3) := by decide +kernel
theorem d_M_solve_42 : decode c_M_solve 42 = .ok (.sipush (-200), 3) := by decide +kernel
theorem d_M_solve_45 : decode c_M_solve 45 = .ok (.iload_n 1, 1) := by decide +kernel
theorem d_M_solve_46 : decode c_M_solve 46 = .ok (.isub, 1) := by decide +kernel
theorem d_M_solve_47 : decode c_M_solve 47 = .ok (.ireturn, 1) := by decide +kernel
theorem d_M_solve_48 : decode c_M_solve 48 = .ok (.iinc 1 1, 3) := by decide +kernel
theorem d_M_solve_51 : decode c_M_solve 51 = .ok (.goto (-25), 3) := by decide +kernel
theorem d_M_solve_54 : decode c_M_solve 54 = .ok (.aload_n 0, 1) := by decide +kernel
theorem d_M_solve_55 : decode c_M_solve 55 = .ok (.invokevirtual 128, 3) := by decide +kernel
theorem d_M_solve_58 : decode c_M_solve 58 = .ok (.aload_n 0, 1) := by decide +kernel
theorem d_M_solve_59 : decode c_M_solve 59 = .ok (.aload_n 0, 1) := by decide +kernel
theorem d_M_solve_60 : decode c_M_solve 60 = .ok (.getfield 93, 3) := by decide +kernel
theorem d_M_solve_63 : decode c_M_solve 63 = .ok (.iconst (-1), 1) := by decide +kernel
theorem d_M_solve_64 : decode c_M_solve 64 = .ok (.invokevirtual 131, 3) := by decide +kernel
theorem d_M_solve_67 : decode c_M_solve 67 = .ok (.lconst 0, 1) := by decide +kernel
theorem d_M_solve_68 : decode c_M_solve 68 = .ok (.lcmp, 1) := by decide +kernel
theorem d_M_solve_69 : decode c_M_solve 69 = .ok (.ifCond .ne 36, 3) := by decide +kernel
theorem d_M_solve_72 : decode c_M_solve 72 = .ok (.iconst 1, 1) := by decide +kernel
theorem d_M_solve_73 : decode c_M_solve 73 = .ok (.istore_n 1, 1) := by decide +kernel
theorem d_M_solve_74 : decode c_M_solve 74 = .ok (.iload_n 1, 1) := by decide +kernel
theorem d_M_solve_75 : decode c_M_solve 75 = .ok (.aload_n 0, 1) := by decide +kernel
theorem d_M_solve_76 : decode c_M_solve 76 = .ok (.getfield 93, 3) := by decide +kernel
theorem d_M_solve_79 : decode c_M_solve 79 = .ok (.if_icmp .gt 26, 3) := by decide +kernel
theorem d_M_solve_82 : decode c_M_solve 82 = .ok (.aload_n 0, 1) := by decide +kernel
theorem d_M_solve_83 : decode c_M_solve 83 = .ok (.iload_n 1, 1) := by decide +kernel
theorem d_M_solve_84 : decode c_M_solve 84 = .ok (.iconst (-1), 1) := by decide +kernel
theorem d_M_solve_85 : decode c_M_solve 85 = .ok (.invokevirtual 131, 3) := by decide +kernel
theorem d_M_solve_88 : decode c_M_solve 88 = .ok (.lconst 0, 1) := by decide +kernel
theorem d_M_solve_89 : decode c_M_solve 89 = .ok (.lcmp, 1) := by decide +kernel
theorem d_M_solve_90 : decode c_M_solve 90 = .ok (.ifCond .ne 9, 3) := by decide +kernel
theorem d_M_solve_93 : decode c_M_solve 93 = .ok (.sipush (-299), 3) := by decide +kernel
theorem d_M_solve_96 : decode c_M_solve 96 = .ok (.iload_n 1, 1) := by decide +kernel
theorem d_M_solve_97 : decode c_M_solve 97 = .ok (.isub, 1) := by decide +kernel
theorem d_M_solve_98 : decode c_M_solve 98 = .ok (.ireturn, 1) := by decide +kernel
theorem d_M_solve_99 : decode c_M_solve 99 = .ok (.iinc 1 1, 3) := by decide +kernel
theorem d_M_solve_102 : decode c_M_solve 102 = .ok (.goto (-28), 3) := by decide +kernel
theorem d_M_solve_105 : decode c_M_solve 105 = .ok (.aload_n 0, 1) := by decide +kernel
theorem d_M_solve_106 : decode c_M_solve 106 = .ok (.iconst 1, 1) := by decide +kernel
theorem d_M_solve_107 : decode c_M_solve 107 = .ok (.putfield 61, 3) := by decide +kernel
theorem d_M_solve_110 : decode c_M_solve 110 = .ok (.aload_n 0, 1) := by decide +kernel
theorem d_M_solve_111 : decode c_M_solve 111 = .ok (.getfield 93, 3) := by decide +kernel
theorem d_M_solve_114 : decode c_M_solve 114 = .ok (.ireturn, 1) := by decide +kernel
theorem d_M_makeOrder_0 : decode c_M_makeOrder 0 = .ok (.aload_n 0, 1) := by decide +kernel
theorem d_M_makeOrder_1 : decode c_M_makeOrder 1 = .ok (.iconst 0, 1) := by decide +kernel
theorem d_M_makeOrder_2 : decode c_M_makeOrder 2 = .ok (.putfield 76, 3) := by decide +kernel
theorem d_M_makeOrder_5 : decode c_M_makeOrder 5 = .ok (.iconst 0, 1) := by decide +kernel
theorem d_M_makeOrder_6 : decode c_M_makeOrder 6 = .ok (.istore_n 1, 1) := by decide +kernel
theorem d_M_makeOrder_7 : decode c_M_makeOrder 7 = .ok (.iconst 0, 1) := by decide +kernel
theorem d_M_makeOrder_8 : decode c_M_makeOrder 8 = .ok (.istore_n 2, 1) := by decide +kernel
theorem d_M_makeOrder_9 : decode c_M_makeOrder 9 = .ok (.iload_n 2, 1) := by decide +kernel
theorem d_M_makeOrder_10 : decode c_M_makeOrder 10 = .ok (.bipush 20, 2) := by decide +kernel
theorem d_M_makeOrder_12 : decode c_M_makeOrder 12 = .ok (.if_icmp .ge 47, 3) := by decide +kernel
theorem d_M_makeOrder_15 : decode c_M_makeOrder 15 = .ok (.aload_n 0, 1) := by decide +kernel
theorem d_M_makeOrder_16 : decode c_M_makeOrder 16 = .ok (.iload_n 1, 1) := by decide +kernel
theorem d_M_makeOrder_17 : decode c_M_makeOrder 17 = .ok (.aload_n 0, 1) := by decide +kernel
theorem d_M_makeOrder_18 : decode c_M_makeOrder 18 = .ok (.getfield 76, 3) := by decide +kernel
theorem d_M_makeOrder_21 : decode c_M_makeOrder 21 = .ok (.if_icmp .ge 12, 3) := by decide +kernel
theorem d_M_makeOrder_24 : decode c_M_makeOrder 24 = .ok (.aload_n 0, 1) := by decide +kernel
theorem d_M_makeOrder_25 : decode c_M_makeOrder 25 = .ok (.getfield 41, 3) := by decide +kernel
theorem d_M_makeOrder_28 : decode c_M_makeOrder 28 = .ok (.iload_n 1, 1) := by decide +kernel
theorem d_M_makeOrder_29 : decode c_M_makeOrder 29 = .ok (.iaload, 1) := by decide +kernel
theorem d_M_makeOrder_30 : decode c_M_makeOrder 30 = .ok (.goto 4, 3) := by decide +kernel
theorem d_M_makeOrder_33 : decode c_M_makeOrder 33 = .ok (.iconst (-1), 1) := by decide +kernel
theorem d_M_makeOrder_34 : decode c_M_makeOrder 34 = .ok (.invokevirtual 86, 3) := by decide +kernel
theorem d_M_makeOrder_37 : decode c_M_makeOrder 37 = .ok (.istore_n 3, 1) := by decide +kernel
theorem d_M_makeOrder_38 : decode c_M_makeOrder 38 = .ok (.iload_n 3, 1) := by decide +kernel
theorem d_M_makeOrder_39 : decode c_M_makeOrder 39 = .ok (.ifCond .lt 11, 3) := by decide +kernel
theorem d_M_makeOrder_42 : decode c_M_makeOrder 42 = .ok (.aload_n 0, 1) := by decide +kernel
theorem d_M_makeOrder_43 : decode c_M_makeOrder 43 = .ok (.iload_n 3, 1) := by decide +kernel
theorem d_M_makeOrder_44 : decode c_M_makeOrder 44 = .ok (.invokevirtual 89, 3) := by decide +kernel
theorem d_M_makeOrder_47 : decode c_M_makeOrder 47 = .ok (.goto 6, 3) := by decide +kernel
theorem d_M_makeOrder_50 : decode c_M_makeOrder 50 = .ok (.iinc 1 1, 3) := by decide +kernel
theorem d_M_makeOrder_53 : decode c_M_makeOrder 53 = .ok (.iinc 2 1, 3) := by decide +kernel
theorem d_M_makeOrder_56 : decode c_M_makeOrder 56 = .ok (.goto (-47), 3) := by decide +kernel
theorem d_M_makeOrder_59 : decode c_M_makeOrder 59 = .ok (.iconst 0, 1) := by decide +kernel
theorem d_M_makeOrder_60 : decode c_M_makeOrder 60 = .ok (.istore_n 2, 1) := by decide +kernel
theorem d_M_makeOrder_61 : decode c_M_makeOrder 61 = .ok (.iload_n 2, 1) := by decide +kernel
theorem d_M_makeOrder_62 : decode c_M_makeOrder 62 = .ok (.aload_n 0, 1) := by decide +kernel
theorem d_M_makeOrder_63 : decode c_M_makeOrder 63 = .ok (.getfield 76, 3) := by decide +kernel
theorem d_M_makeOrder_66 : decode c_M_makeOrder 66 = .ok (.iconst 2, 1) := by decide +kernel
theorem d_M_makeOrder_67 : decode c_M_makeOrder 67 = .ok (.idiv, 1) := by decide +kernel
theorem d_M_makeOrder_68 : decode c_M_makeOrder 68 = .ok (.if_icmp .ge 49, 3) := by decide +kernel
theorem d_M_makeOrder_71 : decode c_M_makeOrder 71 = .ok (.aload_n 0, 1) := by decide +kernel
theorem d_M_makeOrder_72 : decode c_M_makeOrder 72 = .ok (.getfield 41, 3) := by decide +kernel
theorem d_M_makeOrder_75 : decode c_M_makeOrder 75 = .ok (.iload_n 2, 1) := by decide +kernel
theorem d_M_makeOrder_76 : decode c_M_makeOrder 76 = .ok (.iaload, 1) := by decide +kernel
theorem d_M_makeOrder_77 : decode c_M_makeOrder 77 = .ok (.istore_n 3, 1) := by decide +kernel
theorem d_M_makeOrder_78 : decode c_M_makeOrder 78 = .ok (.aload_n 0, 1) := by decide +kernel
theorem d_M_makeOrder_79 : decode c_M_makeOrder 79 = .ok (.getfield 41, 3) := by decide +kernel
theorem d_M_makeOrder_82 : decode c_M_makeOrder 82 = .ok (.iload_n 2, 1) := by decide +kernel
theorem d_M_makeOrder_83 : decode c_M_makeOrder 83 = .ok (.aload_n 0, 1) := by decide +kernel
theorem d_M_makeOrder_84 : decode c_M_makeOrder 84 = .ok (.getfield 41, 3) := by decide +kernel
theorem d_M_makeOrder_87 : decode c_M_makeOrder 87 = .ok (.aload_n 0, 1) := by decide +kernel
theorem d_M_makeOrder_88 : decode c_M_makeOrder 88 = .ok (.getfield 76, 3) := by decide +kernel
theorem d_M_makeOrder_91 : decode c_M_makeOrder 91 = .ok (.iconst 1, 1) := by decide +kernel
theorem d_M_makeOrder_92 : decode c_M_makeOrder 92 = .ok (.isub, 1) := by decide +kernel
theorem d_M_makeOrder_93 : decode c_M_makeOrder 93 = .ok (.iload_n 2, 1) := by decide +kernel
theorem d_M_makeOrder_94 : decode c_M_makeOrder 94 = .ok (.isub, 1) := by decide +kernel
theorem d_M_makeOrder_95 : decode c_M_makeOrder 95 = .ok (.iaload, 1) := by decide +kernel
theorem d_M_makeOrder_96 : decode c_M_makeOrder 96 = .ok (.iastore, 1) := by decide +kernel
theorem d_M_makeOrder_97 : decode c_M_makeOrder 97 = .ok (.aload_n 0, 1) := by decide +kernel
theorem d_M_makeOrder_98 : decode c_M_makeOrder 98 = .ok (.getfield 41, 3) := by decide +kernel
theorem d_M_makeOrder_101 : decode c_M_makeOrder 101 = .ok (.aload_n 0, 1) := by decide +kernel
theorem d_M_makeOrder_102 : decode c_M_makeOrder 102 = .ok (.getfield 76, 3) := by decide +kernel
theorem d_M_makeOrder_105 : decode c_M_makeOrder 105 = .ok (.iconst 1, 1) := by decide +kernel
theorem d_M_makeOrder_106 : decode c_M_makeOrder 106 = .ok (.isub, 1) := by decide +kernel
theorem d_M_makeOrder_107 : decode c_M_makeOrder 107 = .ok (.iload_n 2, 1) := by decide +kernel
theorem d_M_makeOrder_108 : decode c_M_makeOrder 108 = .ok (.isub, 1) := by decide +kernel
theorem d_M_makeOrder_109 : decode c_M_makeOrder 109 = .ok (.iload_n 3, 1) := by decide +kernel
theorem d_M_makeOrder_110 : decode c_M_makeOrder 110 = .ok (.iastore, 1) := by decide +kernel
theorem d_M_makeOrder_111 : decode c_M_makeOrder 111 = .ok (.iinc 2 1, 3) := by decide +kernel
theorem d_M_makeOrder_114 : decode c_M_makeOrder 114 = .ok (.goto (-53), 3) := by decide +kernel
theorem d_M_makeOrder_117 : decode c_M_makeOrder 117 = .ok (.aload_n 0, 1) := by decide +kernel
theorem d_M_makeOrder_118 : decode c_M_makeOrder 118 = .ok (.iconst 0, 1) := by decide +kernel
theorem d_M_makeOrder_119 : decode c_M_makeOrder 119 = .ok (.putfield 93, 3) := by decide +kernel
theorem d_M_makeOrder_122 : decode c_M_makeOrder 122 = .ok (.iconst 0, 1) := by decide +kernel
theorem d_M_makeOrder_123 : decode c_M_makeOrder 123 = .ok (.istore_n 2, 1) := by decide +kernel
theorem d_M_makeOrder_124 : decode c_M_makeOrder 124 = .ok (.iload_n 2, 1) := by decide +kernel
theorem d_M_makeOrder_125 : decode c_M_makeOrder 125 = .ok (.aload_n 0, 1) := by decide +kernel
theorem d_M_makeOrder_126 : decode c_M_makeOrder 126 = .ok (.getfield 76, 3) := by decide +kernel
theorem d_M_makeOrder_129 : decode c_M_makeOrder 129 = .ok (.iconst 2, 1) := by decide +kernel
theorem d_M_makeOrder_130 : decode c_M_makeOrder 130 = .ok (.imul, 1) := by decide +kernel
theorem d_M_makeOrder_131 : decode c_M_makeOrder 131 = .ok (.if_icmp .ge 53, 3) := by decide +kernel
theorem d_M_makeOrder_134 : decode c_M_makeOrder 134 = .ok (.aload_n 0, 1) := by decide +kernel
theorem d_M_makeOrder_135 : decode c_M_makeOrder 135 = .ok (.getfield 41, 3) := by decide +kernel
theorem d_M_makeOrder_138 : decode c_M_makeOrder 138 = .ok (.iload_n 2, 1) := by decide +kernel
theorem d_M_makeOrder_139 : decode c_M_makeOrder 139 = .ok (.iconst 2, 1) := by decide +kernel
theorem d_M_makeOrder_140 : decode c_M_makeOrder 140 = .ok (.idiv, 1) := by decide +kernel
theorem d_M_makeOrder_141 : decode c_M_makeOrder 141 = .ok (.iaload, 1) := by decide +kernel
theorem d_M_makeOrder_142 : decode c_M_makeOrder 142 = .ok (.iconst 2, 1) := by decide +kernel
theorem d_M_makeOrder_143 : decode c_M_makeOrder 143 = .ok (.imul, 1) := by decide +kernel
theorem d_M_makeOrder_144 : decode c_M_makeOrder 144 = .ok (.iload_n 2, 1) := by decide +kernel
theorem d_M_makeOrder_145 : decode c_M_makeOrder 145 = .ok (.iconst 2, 1) := by decide +kernel
theorem d_M_makeOrder_146 : decode c_M_makeOrder 146 = .ok (.irem, 1) := by decide +kernel
theorem d_M_makeOrder_147 : decode c_M_makeOrder 147 = .ok (.iadd, 1) := by decide +kernel
theorem d_M_makeOrder_148 : decode c_M_makeOrder 148 = .ok (.istore_n 3, 1) := by decide +kernel
theorem d_M_makeOrder_149 : decode c_M_makeOrder 149 = .ok (.aload_n 0, 1) := by decide +kernel
theorem d_M_makeOrder_150 : decode c_M_makeOrder 150 = .ok (.getfield 29, 3) := by decide +kernel
theorem d_M_makeOrder_153 : decode c_M_makeOrder 153 = .ok (.iload_n 3, 1) := by decide +kernel
theorem d_M_makeOrder_154 : decode c_M_makeOrder 154 = .ok (.baload, 1) := by decide +kernel
theorem d_M_makeOrder_155 : decode c_M_makeOrder 155 = .ok (.ifCond .ne 23, 3) := by decide +kernel
theorem d_M_makeOrder_158 : decode c_M_makeOrder 158 = .ok (.aload_n 0, 1) := by decide +kernel
theorem d_M_makeOrder_159 : decode c_M_makeOrder 159 = .ok (.getfield 44, 3) := by decide +kernel
theorem d_M_makeOrder_162 : decode c_M_makeOrder 162 = .ok (.aload_n 0, 1) := by decide +kernel
theorem d_M_makeOrder_163 : decode c_M_makeOrder 163 = .ok (.getfield 93, 3) := by decide +kernel
theorem d_M_makeOrder_166 : decode c_M_makeOrder 166 = .ok (.iload_n 3, 1) := by decide +kernel
theorem d_M_makeOrder_167 : decode c_M_makeOrder 167 = .ok (.iastore, 1) := by decide +kernel
theorem d_M_makeOrder_168 : decode c_M_makeOrder 168 = .ok (.aload_n 0, 1) := by decide +kernel
theorem d_M_makeOrder_169 : decode c_M_makeOrder 169 = .ok (.dup, 1) := by decide +kernel
theorem d_M_makeOrder_170 : decode c_M_makeOrder 170 = .ok (.getfield 93, 3) := by decide +kernel
theorem d_M_makeOrder_173 : decode c_M_makeOrder 173 = .ok (.iconst 1, 1) := by decide +kernel
theorem d_M_makeOrder_174 : decode c_M_makeOrder 174 = .ok (.iadd, 1) := by decide +kernel
theorem d_M_makeOrder_175 : decode c_M_makeOrder 175 = .ok (.putfield 93, 3) := by decide +kernel
theorem d_M_makeOrder_178 : decode c_M_makeOrder 178 = .ok (.iinc 2 1, 3) := by decide +kernel
theorem d_M_makeOrder_181 : decode c_M_makeOrder 181 = .ok (.goto (-57), 3) := by decide +kernel
theorem d_M_makeOrder_184 : decode c_M_makeOrder 184 = .ok (.return_, 1) := by decide +kernel
