theorem d_M_exchange_0 : decode c_M_exchange 0 = .ok (.iconst 0, 1) := by decide +kernel
theorem d_M_exchange_1 : decode c_M_exchange 1 = .ok (.istore_n 3, 1) := by decide +kernel
theorem d_M_exchange_2 : decode c_M_exchange 2 = .ok (.iload_n 3, 1) := by decide +kernel
theorem d_M_exchange_3 : decode c_M_exchange 3 = .ok (.bipush 10, 2) := by decide +kernel
theorem d_M_exchange_5 : decode c_M_exchange 5 = .ok (.if_icmp .ge 57, 3) := by decide +kernel
theorem d_M_exchange_8 : decode c_M_exchange 8 = .ok (.aload_n 0, 1) := by decide +kernel
theorem d_M_exchange_9 : decode c_M_exchange 9 = .ok (.getfield 54, 3) := by decide +kernel
theorem d_M_exchange_12 : decode c_M_exchange 12 = .ok (.iload_n 1, 1) := by decide +kernel
theorem d_M_exchange_13 : decode c_M_exchange 13 = .ok (.bipush 10, 2) := by decide +kernel
theorem d_M_exchange_15 : decode c_M_exchange 15 = .ok (.imul, 1) := by decide +kernel
theorem d_M_exchange_16 : decode c_M_exchange 16 = .ok (.iload_n 3, 1) := by decide +kernel
theorem d_M_exchange_17 : decode c_M_exchange 17 = .ok (.iadd, 1) := by decide +kernel
theorem d_M_exchange_18 : decode c_M_exchange 18 = .ok (.laload, 1) := by decide +kernel
theorem d_M_exchange_19 : decode c_M_exchange 19 = .ok (.lstore 4, 2) := by decide +kernel
theorem d_M_exchange_21 : decode c_M_exchange 21 = .ok (.aload_n 0, 1) := by decide +kernel
theorem d_M_exchange_22 : decode c_M_exchange 22 = .ok (.getfield 54, 3) := by decide +kernel
theorem d_M_exchange_25 : decode c_M_exchange 25 = .ok (.iload_n 1, 1) := by decide +kernel
theorem d_M_exchange_26 : decode c_M_exchange 26 = .ok (.bipush 10, 2) := by decide +kernel
theorem d_M_exchange_28 : decode c_M_exchange 28 = .ok (.imul, 1) := by decide +kernel
theorem d_M_exchange_29 : decode c_M_exchange 29 = .ok (.iload_n 3, 1) := by decide +kernel
theorem d_M_exchange_30 : decode c_M_exchange 30 = .ok (.iadd, 1) := by decide +kernel
theorem d_M_exchange_31 : decode c_M_exchange 31 = .ok (.aload_n 0, 1) := by decide +kernel
theorem d_M_exchange_32 : decode c_M_exchange 32 = .ok (.getfield 54, 3) := by decide +kernel
theorem d_M_exchange_35 : decode c_M_exchange 35 = .ok (.iload_n 2, 1) := by decide +kernel
theorem d_M_exchange_36 : decode c_M_exchange 36 = .ok (.bipush 10, 2) := by decide +kernel
theorem d_M_exchange_38 : decode c_M_exchange 38 = .ok (.imul, 1) := by decide +kernel
theorem d_M_exchange_39 : decode c_M_exchange 39 = .ok (.iload_n 3, 1) := by decide +kernel
theorem d_M_exchange_40 : decode c_M_exchange 40 = .ok (.iadd, 1) := by decide +kernel
theorem d_M_exchange_41 : decode c_M_exchange 41 = .ok (.laload, 1) := by decide +kernel
theorem d_M_exchange_42 : decode c_M_exchange 42 = .ok (.lastore, 1) := by decide +kernel
theorem d_M_exchange_43 : decode c_M_exchange 43 = .ok (.aload_n 0, 1) := by decide +kernel
theorem d_M_exchange_44 : decode c_M_exchange 44 = .ok (.getfield 54, 3) := by decide +kernel
theorem d_M_exchange_47 : decode c_M_exchange 47 = .ok (.iload_n 2, 1) := by decide +kernel
theorem d_M_exchange_48 : decode c_M_exchange 48 = .ok (.bipush 10, 2) := by decide +kernel
theorem d_M_exchange_50 : decode c_M_exchange 50 = .ok (.imul, 1) := by decide +kernel
theorem d_M_exchange_51 : decode c_M_exchange 51 = .ok (.iload_n 3, 1) := by decide +kernel
theorem d_M_exchange_52 : decode c_M_exchange 52 = .ok (.iadd, 1) := by decide +kernel
theorem d_M_exchange_53 : decode c_M_exchange 53 = .ok (.lload 4, 2) := by decide +kernel
theorem d_M_exchange_55 : decode c_M_exchange 55 = .ok (.lastore, 1) := by decide +kernel
theorem d_M_exchange_56 : decode c_M_exchange 56 = .ok (.iinc 3 1, 3) := by decide +kernel
theorem d_M_exchange_59 : decode c_M_exchange 59 = .ok (.goto (-57), 3) := by decide +kernel
theorem d_M_exchange_62 : decode c_M_exchange 62 = .ok (.return_, 1) := by decide +kernel
theorem d_M_clear_0 : decode c_M_clear 0 = .ok (.aload_n 0, 1) := by decide +kernel
theorem d_M_clear_1 : decode c_M_clear 1 = .ok (.aload_n 0, 1) := by decide +kernel
theorem d_M_clear_2 : decode c_M_clear 2 = .ok (.getfield 54, 3) := by decide +kernel
theorem d_M_clear_5 : decode c_M_clear 5 = .ok (.iload_n 1, 1) := by decide +kernel
theorem d_M_clear_6 : decode c_M_clear 6 = .ok (.bipush 10, 2) := by decide +kernel
theorem d_M_clear_8 : decode c_M_clear 8 = .ok (.imul, 1) := by decide +kernel
theorem d_M_clear_9 : decode c_M_clear 9 = .ok (.iload_n 1, 1) := by decide +kernel
theorem d_M_clear_10 : decode c_M_clear 10 = .ok (.iadd, 1) := by decide +kernel
theorem d_M_clear_11 : decode c_M_clear 11 = .ok (.laload, 1) := by decide +kernel
theorem d_M_clear_12 : decode c_M_clear 12 = .ok (.lload_n 3, 1) := by decide +kernel
theorem d_M_clear_13 : decode c_M_clear 13 = .ok (.ldc2_w 108, 3) := by decide +kernel
theorem d_M_clear_16 : decode c_M_clear 16 = .ok (.lsub, 1) := by decide +kernel
theorem d_M_clear_17 : decode c_M_clear 17 = .ok (.lload_n 3, 1) := by decide +kernel
theorem d_M_clear_18 : decode c_M_clear 18 = .ok (.invokevirtual 110, 3) := by decide +kernel
theorem d_M_clear_21 : decode c_M_clear 21 = .ok (.lstore 5, 2) := by decide +kernel
theorem d_M_clear_23 : decode c_M_clear 23 = .ok (.iload_n 1, 1) := by decide +kernel
theorem d_M_clear_24 : decode c_M_clear 24 = .ok (.iconst 1, 1) := by decide +kernel
theorem d_M_clear_25 : decode c_M_clear 25 = .ok (.iadd, 1) := by decide +kernel
theorem d_M_clear_26 : decode c_M_clear 26 = .ok (.istore 7, 2) := by decide +kernel
theorem d_M_clear_28 : decode c_M_clear 28 = .ok (.iload 7, 2) := by decide +kernel
theorem d_M_clear_30 : decode c_M_clear 30 = .ok (.iload_n 2, 1) := by decide +kernel
theorem d_M_clear_31 : decode c_M_clear 31 = .ok (.if_icmp .ge 89, 3) := by decide +kernel
theorem d_M_clear_34 : decode c_M_clear 34 = .ok (.aload_n 0, 1) := by decide +kernel
theorem d_M_clear_35 : decode c_M_clear 35 = .ok (.getfield 54, 3) := by decide +kernel
theorem d_M_clear_38 : decode c_M_clear 38 = .ok (.iload 7, 2) := by decide +kernel
theorem d_M_clear_40 : decode c_M_clear 40 = .ok (.bipush 10, 2) := by decide +kernel
theorem d_M_clear_42 : decode c_M_clear 42 = .ok (.imul, 1) := by decide +kernel
theorem d_M_clear_43 : decode c_M_clear 43 = .ok (.iload_n 1, 1) := by decide +kernel
theorem d_M_clear_44 : decode c_M_clear 44 = .ok (.iadd, 1) := by decide +kernel
theorem d_M_clear_45 : decode c_M_clear 45 = .ok (.laload, 1) := by decide +kernel
theorem d_M_clear_46 : decode c_M_clear 46 = .ok (.lload 5, 2) := by decide +kernel
theorem d_M_clear_48 : decode c_M_clear 48 = .ok (.lmul, 1) := by decide +kernel
theorem d_M_clear_49 : decode c_M_clear 49 = .ok (.lload_n 3, 1) := by decide +kernel
theorem d_M_clear_50 : decode c_M_clear 50 = .ok (.lrem, 1) := by decide +kernel
theorem d_M_clear_51 : decode c_M_clear 51 = .ok (.lstore 8, 2) := by decide +kernel
theorem d_M_clear_53 : decode c_M_clear 53 = .ok (.iload_n 1, 1) := by decide +kernel
theorem d_M_clear_54 : decode c_M_clear 54 = .ok (.istore 10, 2) := by decide +kernel
theorem d_M_clear_56 : decode c_M_clear 56 = .ok (.iload 10, 2) := by decide +kernel
theorem d_M_clear_58 : decode c_M_clear 58 = .ok (.iload_n 2, 1) := by decide +kernel
theorem d_M_clear_59 : decode c_M_clear 59 = .ok (.if_icmp .ge 55, 3) := by decide +kernel
theorem d_M_clear_62 : decode c_M_clear 62 = .ok (.aload_n 0, 1) := by decide +kernel
theorem d_M_clear_63 : decode c_M_clear 63 = .ok (.getfield 54, 3) := by decide +kernel
theorem d_M_clear_66 : decode c_M_clear 66 = .ok (.iload 7, 2) := by decide +kernel
theorem d_M_clear_68 : decode c_M_clear 68 = .ok (.bipush 10, 2) := by decide +kernel
theorem d_M_clear_70 : decode c_M_clear 70 = .ok (.imul, 1) := by decide +kernel
theorem d_M_clear_71 : decode c_M_clear 71 = .ok (.iload 10, 2) := by decide +kernel
theorem d_M_clear_73 : decode c_M_clear 73 = .ok (.iadd, 1) := by decide +kernel
theorem d_M_clear_74 : decode c_M_clear 74 = .ok (.aload_n 0, 1) := by decide +kernel
theorem d_M_clear_75 : decode c_M_clear 75 = .ok (.getfield 54, 3) := by decide +kernel
theorem d_M_clear_78 : decode c_M_clear 78 = .ok (.iload 7, 2) := by decide +kernel
theorem d_M_clear_80 : decode c_M_clear 80 = .ok (.bipush 10, 2) := by decide +kernel
theorem d_M_clear_82 : decode c_M_clear 82 = .ok (.imul, 1) := by decide +kernel
theorem d_M_clear_83 : decode c_M_clear 83 = .ok (.iload 10, 2) := by decide +kernel
theorem d_M_clear_85 : decode c_M_clear 85 = .ok (.iadd, 1) := by decide +kernel
theorem d_M_clear_86 : decode c_M_clear 86 = .ok (.laload, 1) := by decide +kernel
theorem d_M_clear_87 : decode c_M_clear 87 = .ok (.lload_n 3, 1) := by decide +kernel
theorem d_M_clear_88 : decode c_M_clear 88 = .ok (.lload 8, 2) := by decide +kernel
theorem d_M_clear_90 : decode c_M_clear 90 = .ok (.lsub, 1) := by decide +kernel
theorem d_M_clear_91 : decode c_M_clear 91 = .ok (.aload_n 0, 1) := by decide +kernel
theorem d_M_clear_92 : decode c_M_clear 92 = .ok (.getfield 54, 3) := by decide +kernel
theorem d_M_clear_95 : decode c_M_clear 95 = .ok (.iload_n 1, 1) := by decide +kernel
theorem d_M_clear_96 : decode c_M_clear 96 = .ok (.bipush 10, 2) := by decide +kernel
theorem d_M_clear_98 : decode c_M_clear 98 = .ok (.imul, 1) := by decide +kernel
theorem d_M_clear_99 : decode c_M_clear 99 = .ok (.iload 10, 2) := by decide +kernel
theorem d_M_clear_101 : decode c_M_clear 101 = .ok (.iadd, 1) := by decide +kernel
theorem d_M_clear_102 : decode c_M_clear 102 = .ok (.laload, 1) := by decide +kernel
theorem d_M_clear_103 : decode c_M_clear 103 = .ok (.lmul, 1) := by decide +kernel
theorem d_M_clear_104 : decode c_M_clear 104 = .ok (.ladd, 1) := by decide +kernel
theorem d_M_clear_105 : decode c_M_clear 105 = .ok (.lload_n 3, 1) := by decide +kernel
theorem d_M_clear_106 : decode c_M_clear 106 = .ok (.lrem, 1) := by decide +kernel
theorem d_M_clear_107 : decode c_M_clear 107 = .ok (.lastore, 1) := by decide +kernel
theorem d_M_clear_108 : decode c_M_clear 108 = .ok (.iinc 10 1, 3) := by decide +kernel
theorem d_M_clear_111 : decode c_M_clear 111 = .ok (.goto (-55), 3) := by decide +kernel
theorem d_M_clear_114 : decode c_M_clear 114 = .ok (.iinc 7 1, 3) := by decide +kernel
theorem d_M_clear_117 : decode c_M_clear 117 = .ok (.goto (-89), 3) := by decide +kernel
theorem d_M_clear_120 : decode c_M_clear 120 = .ok (.return_, 1) := by decide +kernel
theorem d_M_powered_0 : decode c_M_powered 0 = .ok (.lconst 1, 1) := by decide +kernel
theorem d_M_powered_1 : decode c_M_powered 1 = .ok (.lstore 7, 2) := by decide +kernel
theorem d_M_powered_3 : decode c_M_powered 3 = .ok (.bipush 62, 2) := by decide +kernel
theorem d_M_powered_5 : decode c_M_powered 5 = .ok (.istore 9, 2) := by decide +kernel
theorem d_M_powered_7 : decode c_M_powered 7 = .ok (.iload 9, 2) := by decide +kernel
theorem d_M_powered_9 : decode c_M_powered 9 = .ok (.ifCond .lt 39, 3) := by decide +kernel
theorem d_M_powered_12 : decode c_M_powered 12 = .ok (.lload 7, 2) := by decide +kernel
theorem d_M_powered_14 : decode c_M_powered 14 = .ok (.lload 7, 2) := by decide +kernel
theorem d_M_powered_16 : decode c_M_powered 16 = .ok (.lmul, 1) := by decide +kernel
theorem d_M_powered_17 : decode c_M_powered 17 = .ok (.lload 5, 2) := by decide +kernel
theorem d_M_powered_19 : decode c_M_powered 19 = .ok (.lrem, 1) := by decide +kernel
theorem d_M_powered_20 : decode c_M_powered 20 = .ok (.lstore 7, 2) := by decide +kernel
theorem d_M_powered_22 : decode c_M_powered 22 = .ok (.lload_n 3, 1) := by decide +kernel
theorem d_M_powered_23 : decode c_M_powered 23 = .ok (.iload 9, 2) := by decide +kernel
theorem d_M_powered_25 : decode c_M_powered 25 = .ok (.lshr, 1) := by decide +kernel
theorem d_M_powered_26 : decode c_M_powered 26 = .ok (.lconst 1, 1) := by decide +kernel
theorem d_M_powered_27 : decode c_M_powered 27 = .ok (.land, 1) := by decide +kernel
theorem d_M_powered_28 : decode c_M_powered 28 = .ok (.lconst 0, 1) := by decide +kernel
theorem d_M_powered_29 : decode c_M_powered 29 = .ok (.lcmp, 1) := by decide +kernel
theorem d_M_powered_30 : decode c_M_powered 30 = .ok (.ifCond .eq 12, 3) := by decide +kernel
theorem d_M_powered_33 : decode c_M_powered 33 = .ok (.lload 7, 2) := by decide +kernel
theorem d_M_powered_35 : decode c_M_powered 35 = .ok (.lload_n 1, 1) := by decide +kernel
theorem d_M_powered_36 : decode c_M_powered 36 = .ok (.lmul, 1) := by decide +kernel
theorem d_M_powered_37 : decode c_M_powered 37 = .ok (.lload 5, 2) := by decide +kernel
theorem d_M_powered_39 : decode c_M_powered 39 = .ok (.lrem, 1) := by decide +kernel
theorem d_M_powered_40 : decode c_M_powered 40 = .ok (.lstore 7, 2) := by decide +kernel
theorem d_M_powered_42 : decode c_M_powered 42 = .ok (.iinc 9 (-1), 3) := by decide +kernel
theorem d_M_powered_45 : decode c_M_powered 45 = .ok (.goto (-38), 3) := by decide +kernel
theorem d_M_powered_48 : decode c_M_powered 48 = .ok (.lload 7, 2) := by decide +kernel
theorem d_M_powered_50 : decode c_M_powered 50 = .ok (.lreturn, 1) := by decide +kernel
theorem d_M_open_0 : decode c_M_open 0 = .ok (.aload_n 0, 1) := by decide +kernel
theorem d_M_open_1 : decode c_M_open 1 = .ok (.getfield 61, 3) := by decide +kernel
theorem d_M_open_4 : decode c_M_open 4 = .ok (.ifCond .ne 5, 3) := by decide +kernel
theorem d_M_open_7 : decode c_M_open 7 = .ok (.iconst (-1), 1) := by decide +kernel
theorem d_M_open_8 : decode c_M_open 8 = .ok (.ireturn, 1) := by decide +kernel
theorem d_M_open_9 : decode c_M_open 9 = .ok (.aload_n 0, 1) := by decide +kernel
theorem d_M_open_10 : decode c_M_open 10 = .ok (.iconst 0, 1) := by decide +kernel
theorem d_M_open_11 : decode c_M_open 11 = .ok (.putfield 61, 3) := by decide +kernel
theorem d_M_open_14 : decode c_M_open 14 = .ok (.iconst 0, 1) := by decide +kernel
theorem d_M_open_15 : decode c_M_open 15 = .ok (.ireturn, 1) := by decide +kernel
theorem d_M_displacement_0 : decode c_M_displacement 0 = .ok (.aload_n 0, 1) := by decide +kernel
theorem d_M_displacement_1 : decode c_M_displacement 1 = .ok (.iload_n 1, 1) := by decide +kernel
theorem d_M_displacement_2 : decode c_M_displacement 2 = .ok (.iconst 3, 1) := by decide +kernel
theorem d_M_displacement_3 : decode c_M_displacement 3 = .ok (.invokevirtual 57, 3) := by decide +kernel
theorem d_M_displacement_6 : decode c_M_displacement 6 = .ok (.ifCond .eq 7, 3) := by decide +kernel
theorem d_M_displacement_9 : decode c_M_displacement 9 = .ok (.ldc2_w 148, 3) := by decide +kernel
theorem d_M_displacement_12 : decode c_M_displacement 12 = .ok (.lreturn, 1) := by decide +kernel
theorem d_M_displacement_13 : decode c_M_displacement 13 = .ok (.aload_n 0, 1) := by decide +kernel
theorem d_M_displacement_14 : decode c_M_displacement 14 = .ok (.iconst 1, 1) := by decide +kernel
theorem d_M_displacement_15 : decode c_M_displacement 15 = .ok (.bipush 8, 2) := by decide +kernel
theorem d_M_displacement_17 : decode c_M_displacement 17 = .ok (.iload_n 1, 1) := by decide +kernel
theorem d_M_displacement_18 : decode c_M_displacement 18 = .ok (.imul, 1) := by decide +kernel
theorem d_M_displacement_19 : decode c_M_displacement 19 = .ok (.ishl, 1) := by decide +kernel
theorem d_M_displacement_20 : decode c_M_displacement 20 = .ok (.iload_n 2, 1) := by decide +kernel
theorem d_M_displacement_21 : decode c_M_displacement 21 = .ok (.iload_n 3, 1) := by decide +kernel
theorem d_M_displacement_22 : decode c_M_displacement 22 = .ok (.iload 4, 2) := by decide +kernel
theorem d_M_displacement_24 : decode c_M_displacement 24 = .ok (.invokevirtual 150, 3) := by decide +kernel
theorem d_M_displacement_27 : decode c_M_displacement 27 = .ok (.lreturn, 1) := by decide +kernel
theorem d_M_combined_0 : decode c_M_combined 0 = .ok (.aload_n 0, 1) := by decide +kernel
theorem d_M_combined_1 : decode c_M_combined 1 = .ok (.getfield 61, 3) := by decide +kernel
theorem d_M_combined_4 : decode c_M_combined 4 = .ok (.ifCond .eq 40, 3) := by decide +kernel
theorem d_M_combined_7 : decode c_M_combined 7 = .ok (.aload_n 0, 1) := by decide +kernel
theorem d_M_combined_8 : decode c_M_combined 8 = .ok (.iload_n 2, 1) := by decide +kernel
theorem d_M_combined_9 : decode c_M_combined 9 = .ok (.iconst 4, 1) := by decide +kernel
theorem d_M_combined_10 : decode c_M_combined 10 = .ok (.invokevirtual 57, 3) := by decide +kernel
theorem d_M_combined_13 : decode c_M_combined 13 = .ok (.ifCond .ne 31, 3) := by decide +kernel
theorem d_M_combined_16 : decode c_M_combined 16 = .ok (.aload_n 0, 1) := by decide +kernel
theorem d_M_combined_17 : decode c_M_combined 17 = .ok (.getfield 7, 3) := by decide +kernel
theorem d_M_combined_20 : decode c_M_combined 20 = .ok (.iload_n 2, 1) := by decide +kernel
theorem d_M_combined_21 : decode c_M_combined 21 = .ok (.baload, 1) := by decide +kernel
theorem d_M_combined_22 : decode c_M_combined 22 = .ok (.ifCond .eq 22, 3) := by decide +kernel
theorem d_M_combined_25 : decode c_M_combined 25 = .ok (.aload_n 0, 1) := by decide +kernel
theorem d_M_combined_26 : decode c_M_combined 26 = .ok (.iload_n 3, 1) := by decide +kernel
theorem d_M_combined_27 : decode c_M_combined 27 = .ok (.iconst 1, 1) := by decide +kernel
theorem d_M_combined_28 : decode c_M_combined 28 = .ok (.invokevirtual 57, 3) := by decide +kernel
theorem d_M_combined_31 : decode c_M_combined 31 = .ok (.ifCond .ne 13, 3) := by decide +kernel
theorem d_M_combined_34 : decode c_M_combined 34 = .ok (.aload_n 0, 1) := by decide +kernel
theorem d_M_combined_35 : decode c_M_combined 35 = .ok (.iload 4, 2) := by decide +kernel
theorem d_M_combined_37 : decode c_M_combined 37 = .ok (.iconst 1, 1) := by decide +kernel
theorem d_M_combined_38 : decode c_M_combined 38 = .ok (.invokevirtual 57, 3) := by decide +kernel
theorem d_M_combined_41 : decode c_M_combined 41 = .ok (.ifCond .eq 7, 3) := by decide +kernel
theorem d_M_combined_44 : decode c_M_combined 44 = .ok (.ldc2_w 148, 3) := by decide +kernel
theorem d_M_combined_47 : decode c_M_combined 47 = .ok (.lreturn, 1) := by decide +kernel
theorem d_M_combined_48 : decode c_M_combined 48 = .ok (.aload_n 0, 1) := by decide +kernel
theorem d_M_combined_49 : decode c_M_combined 49 = .ok (.aload_n 0, 1) := by decide +kernel
theorem d_M_combined_50 : decode c_M_combined 50 = .ok (.iload_n 1, 1) := by decide +kernel
theorem d_M_combined_51 : decode c_M_combined 51 = .ok (.iload_n 2, 1) := by decide +kernel
theorem d_M_combined_52 : decode c_M_combined 52 = .ok (.iconst 2, 1) := by decide +kernel
theorem d_M_combined_53 : decode c_M_combined 53 = .ok (.imul, 1) := by decide +kernel
theorem d_M_combined_54 : decode c_M_combined 54 = .ok (.iload_n 3, 1) := by decide +kernel
theorem d_M_combined_55 : decode c_M_combined 55 = .ok (.iadd, 1) := by decide +kernel
theorem d_M_combined_56 : decode c_M_combined 56 = .ok (.invokevirtual 154, 3) := by decide +kernel
theorem d_M_combined_59 : decode c_M_combined 59 = .ok (.aload_n 0, 1) := by decide +kernel
theorem d_M_combined_60 : decode c_M_combined 60 = .ok (.invokevirtual 157, 3) := by decide +kernel
theorem d_M_combined_63 : decode c_M_combined 63 = .ok (.iload 4, 2) := by decide +kernel
theorem d_M_combined_65 : decode c_M_combined 65 = .ok (.invokevirtual 161, 3) := by decide +kernel
theorem d_M_combined_68 : decode c_M_combined 68 = .ok (.lreturn, 1) := by decide +kernel
theorem d_M_moved_0 : decode c_M_moved 0 = .ok (.aload_n 0, 1) := by decide +kernel
theorem d_M_moved_1 : decode c_M_moved 1 = .ok (.invokevirtual 122, 3) := by decide +kernel
theorem d_M_moved_4 : decode c_M_moved 4 = .ok (.aload_n 0, 1) := by decide +kernel
theorem d_M_moved_5 : decode c_M_moved 5 = .ok (.invokevirtual 128, 3) := by decide +kernel
theorem d_M_moved_8 : decode c_M_moved 8 = .ok (.iconst (-1), 1) := by decide +kernel
theorem d_M_moved_9 : decode c_M_moved 9 = .ok (.istore_n 3, 1) := by decide +kernel
theorem d_M_moved_10 : decode c_M_moved 10 = .ok (.iconst 0, 1) := by decide +kernel
theorem d_M_moved_11 : decode c_M_moved 11 = .ok (.istore 4, 2) := by decide +kernel
theorem d_M_moved_13 : decode c_M_moved 13 = .ok (.iload 4, 2) := by decide +kernel
theorem d_M_moved_15 : decode c_M_moved 15 = .ok (.aload_n 0, 1) := by decide +kernel
theorem d_M_moved_16 : decode c_M_moved 16 = .ok (.getfield 93, 3) := by decide +kernel
theorem d_M_moved_19 : decode c_M_moved 19 = .ok (.if_icmp .ge 105, 3) := by decide +kernel
theorem d_M_moved_22 : decode c_M_moved 22 = .ok (.aload_n 0, 1) := by decide +kernel
theorem d_M_moved_23 : decode c_M_moved 23 = .ok (.getfield 50, 3) := by decide +kernel
theorem d_M_moved_26 : decode c_M_moved 26 = .ok (.iload 4, 2) := by decide +kernel
theorem d_M_moved_28 : decode c_M_moved 28 = .ok (.aload_n 0, 1) := by decide +kernel
theorem d_M_moved_29 : decode c_M_moved 29 = .ok (.iload_n 1, 1) := by decide +kernel
theorem d_M_moved_30 : decode c_M_moved 30 = .ok (.aload_n 0, 1) := by decide +kernel
theorem d_M_moved_31 : decode c_M_moved 31 = .ok (.getfield 44, 3) := by decide +kernel
theorem d_M_moved_34 : decode c_M_moved 34 = .ok (.iload 4, 2) := by decide +kernel
theorem d_M_moved_36 : decode c_M_moved 36 = .ok (.iaload, 1) := by decide +kernel
theorem d_M_moved_37 : decode c_M_moved 37 = .ok (.invokevirtual 135, 3) := by decide +kernel
theorem d_M_moved_40 : decode c_M_moved 40 = .ok (.lastore, 1) := by decide +kernel
theorem d_M_moved_41 : decode c_M_moved 41 = .ok (.iconst 0, 1) := by decide +kernel
theorem d_M_moved_42 : decode c_M_moved 42 = .ok (.istore 5, 2) := by decide +kernel
theorem d_M_moved_44 : decode c_M_moved 44 = .ok (.iload 5, 2) := by decide +kernel
theorem d_M_moved_46 : decode c_M_moved 46 = .ok (.bipush 10, 2) := by decide +kernel
theorem d_M_moved_48 : decode c_M_moved 48 = .ok (.if_icmp .ge 56, 3) := by decide +kernel
theorem d_M_moved_51 : decode c_M_moved 51 = .ok (.aload_n 0, 1) := by decide +kernel
theorem d_M_moved_52 : decode c_M_moved 52 = .ok (.getfield 29, 3) := by decide +kernel
theorem d_M_moved_55 : decode c_M_moved 55 = .ok (.iload 5, 2) := by decide +kernel
theorem d_M_moved_57 : decode c_M_moved 57 = .ok (.baload, 1) := by decide +kernel
theorem d_M_moved_58 : decode c_M_moved 58 = .ok (.ifCond .eq 40, 3) := by decide +kernel
theorem d_M_moved_61 : decode c_M_moved 61 = .ok (.aload_n 0, 1) := by decide +kernel
theorem d_M_moved_62 : decode c_M_moved 62 = .ok (.getfield 50, 3) := by decide +kernel
theorem d_M_moved_65 : decode c_M_moved 65 = .ok (.iload 4, 2) := by decide +kernel
theorem d_M_moved_67 : decode c_M_moved 67 = .ok (.dup2, 1) := by decide +kernel
theorem d_M_moved_68 : decode c_M_moved 68 = .ok (.laload, 1) := by decide +kernel
theorem d_M_moved_69 : decode c_M_moved 69 = .ok (.aload_n 0, 1) := by decide +kernel
theorem d_M_moved_70 : decode c_M_moved 70 = .ok (.getfield 47, 3) := by decide +kernel
theorem d_M_moved_73 : decode c_M_moved 73 = .ok (.aload_n 0, 1) := by decide +kernel
theorem d_M_moved_74 : decode c_M_moved 74 = .ok (.getfield 44, 3) := by decide +kernel
theorem d_M_moved_77 : decode c_M_moved 77 = .ok (.iload 4, 2) := by decide +kernel
theorem d_M_moved_79 : decode c_M_moved 79 = .ok (.iaload, 1) := by decide +kernel
theorem d_M_moved_80 : decode c_M_moved 80 = .ok (.bipush 10, 2) := by decide +kernel
theorem d_M_moved_82 : decode c_M_moved 82 = .ok (.imul, 1) := by decide +kernel
theorem d_M_moved_83 : decode c_M_moved 83 = .ok (.iload 5, 2) := by decide +kernel
theorem d_M_moved_85 : decode c_M_moved 85 = .ok (.iadd, 1) := by decide +kernel
theorem d_M_moved_86 : decode c_M_moved 86 = .ok (.iaload, 1) := by decide +kernel
theorem d_M_moved_87 : decode c_M_moved 87 = .ok (.i2l, 1) := by decide +kernel
theorem d_M_moved_88 : decode c_M_moved 88 = .ok (.aload_n 0, 1) := by decide +kernel
theorem d_M_moved_89 : decode c_M_moved 89 = .ok (.iload_n 1, 1) := by decide +kernel
theorem d_M_moved_90 : decode c_M_moved 90 = .ok (.iload 5, 2) := by decide +kernel
theorem d_M_moved_92 : decode c_M_moved 92 = .ok (.invokevirtual 138, 3) := by decide +kernel
theorem d_M_moved_95 : decode c_M_moved 95 = .ok (.lmul, 1) := by decide +kernel
theorem d_M_moved_96 : decode c_M_moved 96 = .ok (.lsub, 1) := by decide +kernel
theorem d_M_moved_97 : decode c_M_moved 97 = .ok (.lastore, 1) := by decide +kernel
theorem d_M_moved_98 : decode c_M_moved 98 = .ok (.iinc 5 1, 3) := by decide +kernel
theorem d_M_moved_101 : decode c_M_moved 101 = .ok (.goto (-57), 3) := by decide +kernel
theorem d_M_moved_104 : decode c_M_moved 104 = .ok (.aload_n 0, 1) := by decide +kernel
theorem d_M_moved_105 : decode c_M_moved 105 = .ok (.getfield 44, 3) := by decide +kernel
theorem d_M_moved_108 : decode c_M_moved 108 = .ok (.iload 4, 2) := by decide +kernel
theorem d_M_moved_110 : decode c_M_moved 110 = .ok (.iaload, 1) := by decide +kernel
theorem d_M_moved_111 : decode c_M_moved 111 = .ok (.iload_n 2, 1) := by decide +kernel
theorem d_M_moved_112 : decode c_M_moved 112 = .ok (.if_icmp .ne 6, 3) := by decide +kernel
theorem d_M_moved_115 : decode c_M_moved 115 = .ok (.iload 4, 2) := by decide +kernel
theorem d_M_moved_117 : decode c_M_moved 117 = .ok (.istore_n 3, 1) := by decide +kernel
theorem d_M_moved_118 : decode c_M_moved 118 = .ok (.iinc 4 1, 3) := by decide +kernel
theorem d_M_moved_121 : decode c_M_moved 121 = .ok (.goto (-108), 3) := by decide +kernel
theorem d_M_moved_124 : decode c_M_moved 124 = .ok (.iload_n 3, 1) := by decide +kernel
theorem d_M_moved_125 : decode c_M_moved 125 = .ok (.ifCond .ge 22, 3) := by decide +kernel
theorem d_M_moved_128 : decode c_M_moved 128 = .ok (.aload_n 0, 1) := by decide +kernel
theorem d_M_moved_129 : decode c_M_moved 129 = .ok (.iload_n 1, 1) := by decide +kernel
theorem d_M_moved_130 : decode c_M_moved 130 = .ok (.iload_n 2, 1) := by decide +kernel
theorem d_M_moved_131 : decode c_M_moved 131 = .ok (.invokevirtual 138, 3) := by decide +kernel
theorem d_M_moved_134 : decode c_M_moved 134 = .ok (.aload_n 0, 1) := by decide +kernel
theorem d_M_moved_135 : decode c_M_moved 135 = .ok (.aload_n 0, 1) := by decide +kernel
theorem d_M_moved_136 : decode c_M_moved 136 = .ok (.getfield 93, 3) := by decide +kernel
theorem d_M_moved_139 : decode c_M_moved 139 = .ok (.iconst (-1), 1) := by decide +kernel
theorem d_M_moved_140 : decode c_M_moved 140 = .ok (.invokevirtual 131, 3) := by decide +kernel
theorem d_M_moved_143 : decode c_M_moved 143 = .ok (.lmul, 1) := by decide +kernel
theorem d_M_moved_144 : decode c_M_moved 144 = .ok (.goto 12, 3) := by decide +kernel
theorem d_M_moved_147 : decode c_M_moved 147 = .ok (.aload_n 0, 1) := by decide +kernel
theorem d_M_moved_148 : decode c_M_moved 148 = .ok (.aload_n 0, 1) := by decide +kernel
theorem d_M_moved_149 : decode c_M_moved 149 = .ok (.getfield 93, 3) := by decide +kernel
theorem d_M_moved_152 : decode c_M_moved 152 = .ok (.iload_n 3, 1) := by decide +kernel
theorem d_M_moved_153 : decode c_M_moved 153 = .ok (.invokevirtual 131, 3) := by decide +kernel
theorem d_M_moved_156 : decode c_M_moved 156 = .ok (.lreturn, 1) := by decide +kernel
theorem d_M_loadOf_0 : decode c_M_loadOf 0 = .ok (.lconst 0, 1) := by decide +kernel
theorem d_M_loadOf_1 : decode c_M_loadOf 1 = .ok (.lstore_n 3, 1) := by decide +kernel
theorem d_M_loadOf_2 : decode c_M_loadOf 2 = .ok (.iconst 0, 1) := by decide +kernel
theorem d_M_loadOf_3 : decode c_M_loadOf 3 = .ok (.istore 5, 2) := by decide +kernel
theorem d_M_loadOf_5 : decode c_M_loadOf 5 = .ok (.iload 5, 2) := by decide +kernel
theorem d_M_loadOf_7 : decode c_M_loadOf 7 = .ok (.iconst 4, 1) := by decide +kernel
theorem d_M_loadOf_8 : decode c_M_loadOf 8 = .ok (.if_icmp .ge 35, 3) := by decide +kernel
theorem d_M_loadOf_11 : decode c_M_loadOf 11 = .ok (.lload_n 3, 1) := by decide +kernel
theorem d_M_loadOf_12 : decode c_M_loadOf 12 = .ok (.iload_n 1, 1) := by decide +kernel
theorem d_M_loadOf_13 : decode c_M_loadOf 13 = .ok (.bipush 8, 2) := by decide +kernel
theorem d_M_loadOf_15 : decode c_M_loadOf 15 = .ok (.iload 5, 2) := by decide +kernel
theorem d_M_loadOf_17 : decode c_M_loadOf 17 = .ok (.imul, 1) := by decide +kernel
theorem d_M_loadOf_18 : decode c_M_loadOf 18 = .ok (.ishr, 1) := by decide +kernel
theorem d_M_loadOf_19 : decode c_M_loadOf 19 = .ok (.i2b, 1) := by decide +kernel
theorem d_M_loadOf_20 : decode c_M_loadOf 20 = .ok (.i2l, 1) := by decide +kernel
theorem d_M_loadOf_21 : decode c_M_loadOf 21 = .ok (.aload_n 0, 1) := by decide +kernel
theorem d_M_loadOf_22 : decode c_M_loadOf 22 = .ok (.getfield 38, 3) := by decide +kernel
theorem d_M_loadOf_25 : decode c_M_loadOf 25 = .ok (.iload 5, 2) := by decide +kernel
theorem d_M_loadOf_27 : decode c_M_loadOf 27 = .ok (.bipush 10, 2) := by decide +kernel
theorem d_M_loadOf_29 : decode c_M_loadOf 29 = .ok (.imul, 1) := by decide +kernel
theorem d_M_loadOf_30 : decode c_M_loadOf 30 = .ok (.iload_n 2, 1) := by decide +kernel
theorem d_M_loadOf_31 : decode c_M_loadOf 31 = .ok (.iadd, 1) := by decide +kernel
theorem d_M_loadOf_32 : decode c_M_loadOf 32 = .ok (.iaload, 1) := by decide +kernel
theorem d_M_loadOf_33 : decode c_M_loadOf 33 = .ok (.i2l, 1) := by decide +kernel
theorem d_M_loadOf_34 : decode c_M_loadOf 34 = .ok (.lmul, 1) := by decide +kernel
theorem d_M_loadOf_35 : decode c_M_loadOf 35 = .ok (.ladd, 1) := by decide +kernel
theorem d_M_loadOf_36 : decode c_M_loadOf 36 = .ok (.lstore_n 3, 1) := by decide +kernel
theorem d_M_loadOf_37 : decode c_M_loadOf 37 = .ok (.iinc 5 1, 3) := by decide +kernel
theorem d_M_loadOf_40 : decode c_M_loadOf 40 = .ok (.goto (-35), 3) := by decide +kernel
theorem d_M_loadOf_43 : decode c_M_loadOf 43 = .ok (.lload_n 3, 1) := by decide +kernel
theorem d_M_loadOf_44 : decode c_M_loadOf 44 = .ok (.lreturn, 1) := by decide +kernel
theorem d_M_fixedOf_0 : decode c_M_fixedOf 0 = .ok (.lconst 0, 1) := by decide +kernel
theorem d_M_fixedOf_1 : decode c_M_fixedOf 1 = .ok (.lstore_n 3, 1) := by decide +kernel
theorem d_M_fixedOf_2 : decode c_M_fixedOf 2 = .ok (.iconst 0, 1) := by decide +kernel
theorem d_M_fixedOf_3 : decode c_M_fixedOf 3 = .ok (.istore 5, 2) := by decide +kernel
theorem d_M_fixedOf_5 : decode c_M_fixedOf 5 = .ok (.iload 5, 2) := by decide +kernel
theorem d_M_fixedOf_7 : decode c_M_fixedOf 7 = .ok (.iconst 4, 1) := by decide +kernel
theorem d_M_fixedOf_8 : decode c_M_fixedOf 8 = .ok (.if_icmp .ge 29, 3) := by decide +kernel
theorem d_M_fixedOf_11 : decode c_M_fixedOf 11 = .ok (.lload_n 3, 1) := by decide +kernel
theorem d_M_fixedOf_12 : decode c_M_fixedOf 12 = .ok (.iload_n 1, 1) := by decide +kernel
theorem d_M_fixedOf_13 : decode c_M_fixedOf 13 = .ok (.bipush 8, 2) := by decide +kernel
theorem d_M_fixedOf_15 : decode c_M_fixedOf 15 = .ok (.iload 5, 2) := by decide +kernel
theorem d_M_fixedOf_17 : decode c_M_fixedOf 17 = .ok (.imul, 1) := by decide +kernel
theorem d_M_fixedOf_18 : decode c_M_fixedOf 18 = .ok (.ishr, 1) := by decide +kernel
theorem d_M_fixedOf_19 : decode c_M_fixedOf 19 = .ok (.i2b, 1) := by decide +kernel
theorem d_M_fixedOf_20 : decode c_M_fixedOf 20 = .ok (.i2l, 1) := by decide +kernel
theorem d_M_fixedOf_21 : decode c_M_fixedOf 21 = .ok (.aload_n 0, 1) := by decide +kernel
theorem d_M_fixedOf_22 : decode c_M_fixedOf 22 = .ok (.getfield 32, 3) := by decide +kernel
theorem d_M_fixedOf_25 : decode c_M_fixedOf 25 = .ok (.iload_n 2, 1) := by decide +kernel
theorem d_M_fixedOf_26 : decode c_M_fixedOf 26 = .ok (.iaload, 1) := by decide +kernel
theorem d_M_fixedOf_27 : decode c_M_fixedOf 27 = .ok (.i2l, 1) := by decide +kernel
theorem d_M_fixedOf_28 : decode c_M_fixedOf 28 = .ok (.lmul, 1) := by decide +kernel
theorem d_M_fixedOf_29 : decode c_M_fixedOf 29 = .ok (.ladd, 1) := by decide +kernel
theorem d_M_fixedOf_30 : decode c_M_fixedOf 30 = .ok (.lstore_n 3, 1) := by decide +kernel
theorem d_M_fixedOf_31 : decode c_M_fixedOf 31 = .ok (.iinc 5 1, 3) := by decide +kernel
theorem d_M_fixedOf_34 : decode c_M_fixedOf 34 = .ok (.goto (-29), 3) := by decide +kernel
theorem d_M_fixedOf_37 : decode c_M_fixedOf 37 = .ok (.lload_n 3, 1) := by decide +kernel
theorem d_M_fixedOf_38 : decode c_M_fixedOf 38 = .ok (.lreturn, 1) := by decide +kernel
theorem d_M_determinant_0 : decode c_M_determinant 0 = .ok (.aload_n 0, 1) := by decide +kernel
theorem d_M_determinant_1 : decode c_M_determinant 1 = .ok (.getfield 61, 3) := by decide +kernel
theorem d_M_determinant_4 : decode c_M_determinant 4 = .ok (.ifCond .ne 7, 3) := by decide +kernel
theorem d_M_determinant_7 : decode c_M_determinant 7 = .ok (.ldc2_w 148, 3) := by decide +kernel
theorem d_M_determinant_10 : decode c_M_determinant 10 = .ok (.lreturn, 1) := by decide +kernel
theorem d_M_determinant_11 : decode c_M_determinant 11 = .ok (.aload_n 0, 1) := by decide +kernel
theorem d_M_determinant_12 : decode c_M_determinant 12 = .ok (.invokevirtual 122, 3) := by decide +kernel
theorem d_M_determinant_15 : decode c_M_determinant 15 = .ok (.aload_n 0, 1) := by decide +kernel
theorem d_M_determinant_16 : decode c_M_determinant 16 = .ok (.invokevirtual 128, 3) := by decide +kernel
theorem d_M_determinant_19 : decode c_M_determinant 19 = .ok (.aload_n 0, 1) := by decide +kernel
theorem d_M_determinant_20 : decode c_M_determinant 20 = .ok (.aload_n 0, 1) := by decide +kernel
theorem d_M_determinant_21 : decode c_M_determinant 21 = .ok (.getfield 93, 3) := by decide +kernel
theorem d_M_determinant_24 : decode c_M_determinant 24 = .ok (.iconst (-1), 1) := by decide +kernel
theorem d_M_determinant_25 : decode c_M_determinant 25 = .ok (.invokevirtual 131, 3) := by decide +kernel
theorem d_M_determinant_28 : decode c_M_determinant 28 = .ok (.lreturn, 1) := by decide +kernel
theorem d_M_fraction_0 : decode c_M_fraction 0 = .ok (.aload_n 0, 1) := by decide +kernel
theorem d_M_fraction_1 : decode c_M_fraction 1 = .ok (.lload_n 1, 1) := by decide +kernel
theorem d_M_fraction_2 : decode c_M_fraction 2 = .ok (.lconst 0, 1) := by decide +kernel
theorem d_M_fraction_3 : decode c_M_fraction 3 = .ok (.lcmp, 1) := by decide +kernel
theorem d_M_fraction_4 : decode c_M_fraction 4 = .ok (.ifCond .ge 8, 3) := by decide +kernel
theorem d_M_fraction_7 : decode c_M_fraction 7 = .ok (.lload_n 1, 1) := by decide +kernel
theorem d_M_fraction_8 : decode c_M_fraction 8 = .ok (.lneg, 1) := by decide +kernel
theorem d_M_fraction_9 : decode c_M_fraction 9 = .ok (.goto 4, 3) := by decide +kernel
theorem d_M_fraction_12 : decode c_M_fraction 12 = .ok (.lload_n 1, 1) := by decide +kernel
theorem d_M_fraction_13 : decode c_M_fraction 13 = .ok (.putfield 141, 3) := by decide +kernel
theorem d_M_fraction_16 : decode c_M_fraction 16 = .ok (.aload_n 0, 1) := by decide +kernel
theorem d_M_fraction_17 : decode c_M_fraction 17 = .ok (.lload_n 3, 1) := by decide +kernel
theorem d_M_fraction_18 : decode c_M_fraction 18 = .ok (.putfield 145, 3) := by decide +kernel
theorem d_M_fraction_21 : decode c_M_fraction 21 = .ok (.aload_n 0, 1) := by decide +kernel
theorem d_M_fraction_22 : decode c_M_fraction 22 = .ok (.getfield 145, 3) := by decide +kernel
theorem d_M_fraction_25 : decode c_M_fraction 25 = .ok (.lconst 0, 1) := by decide +kernel
theorem d_M_fraction_26 : decode c_M_fraction 26 = .ok (.lcmp, 1) := by decide +kernel
theorem d_M_fraction_27 : decode c_M_fraction 27 = .ok (.ifCond .eq 31, 3) := by decide +kernel
theorem d_M_fraction_30 : decode c_M_fraction 30 = .ok (.aload_n 0, 1) := by decide +kernel
theorem d_M_fraction_31 : decode c_M_fraction 31 = .ok (.getfield 141, 3) := by decide +kernel
theorem d_M_fraction_34 : decode c_M_fraction 34 = .ok (.aload_n 0, 1) := by decide +kernel
theorem d_M_fraction_35 : decode c_M_fraction 35 = .ok (.getfield 145, 3) := by decide +kernel
theorem d_M_fraction_38 : decode c_M_fraction 38 = .ok (.lrem, 1) := by decide +kernel
theorem d_M_fraction_39 : decode c_M_fraction 39 = .ok (.lstore 6, 2) := by decide +kernel
theorem d_M_fraction_41 : decode c_M_fraction 41 = .ok (.aload_n 0, 1) := by decide +kernel
theorem d_M_fraction_42 : decode c_M_fraction 42 = .ok (.aload_n 0, 1) := by decide +kernel
theorem d_M_fraction_43 : decode c_M_fraction 43 = .ok (.getfield 145, 3) := by decide +kernel
theorem d_M_fraction_46 : decode c_M_fraction 46 = .ok (.putfield 141, 3) := by decide +kernel
theorem d_M_fraction_49 : decode c_M_fraction 49 = .ok (.aload_n 0, 1) := by decide +kernel
theorem d_M_fraction_50 : decode c_M_fraction 50 = .ok (.lload 6, 2) := by decide +kernel
theorem d_M_fraction_52 : decode c_M_fraction 52 = .ok (.putfield 145, 3) := by decide +kernel
theorem d_M_fraction_55 : decode c_M_fraction 55 = .ok (.goto (-34), 3) := by decide +kernel
theorem d_M_fraction_58 : decode c_M_fraction 58 = .ok (.iload 5, 2) := by decide +kernel
theorem d_M_fraction_60 : decode c_M_fraction 60 = .ok (.ifCond .ne 12, 3) := by decide +kernel
theorem d_M_fraction_63 : decode c_M_fraction 63 = .ok (.lload_n 1, 1) := by decide +kernel
theorem d_M_fraction_64 : decode c_M_fraction 64 = .ok (.aload_n 0, 1) := by decide +kernel
theorem d_M_fraction_65 : decode c_M_fraction 65 = .ok (.getfield 141, 3) := by decide +kernel
theorem d_M_fraction_68 : decode c_M_fraction 68 = .ok (.ldiv, 1) := by decide +kernel
theorem d_M_fraction_69 : decode c_M_fraction 69 = .ok (.goto 9, 3) := by decide +kernel
theorem d_M_fraction_72 : decode c_M_fraction 72 = .ok (.lload_n 3, 1) := by decide +kernel
theorem d_M_fraction_73 : decode c_M_fraction 73 = .ok (.aload_n 0, 1) := by decide +kernel
theorem d_M_fraction_74 : decode c_M_fraction 74 = .ok (.getfield 141, 3) := by decide +kernel
theorem d_M_fraction_77 : decode c_M_fraction 77 = .ok (.ldiv, 1) := by decide +kernel
theorem d_M_fraction_78 : decode c_M_fraction 78 = .ok (.lreturn, 1) := by decide +kernel
theorem d_M_force_0 : decode c_M_force 0 = .ok (.aload_n 0, 1) := by decide +kernel
theorem d_M_force_1 : decode c_M_force 1 = .ok (.getfield 61, 3) := by decide +kernel
theorem d_M_force_4 : decode c_M_force 4 = .ok (.ifCond .eq 33, 3) := by decide +kernel
theorem d_M_force_7 : decode c_M_force 7 = .ok (.aload_n 0, 1) := by decide +kernel
theorem d_M_force_8 : decode c_M_force 8 = .ok (.iload_n 1, 1) := by decide +kernel
theorem d_M_force_9 : decode c_M_force 9 = .ok (.iconst 3, 1) := by decide +kernel
theorem d_M_force_10 : decode c_M_force 10 = .ok (.invokevirtual 57, 3) := by decide +kernel
theorem d_M_force_13 : decode c_M_force 13 = .ok (.ifCond .ne 24, 3) := by decide +kernel
theorem d_M_force_16 : decode c_M_force 16 = .ok (.iload_n 2, 1) := by decide +kernel
theorem d_M_force_17 : decode c_M_force 17 = .ok (.ifCond .lt 20, 3) := by decide +kernel
theorem d_M_force_20 : decode c_M_force 20 = .ok (.iload_n 2, 1) := by decide +kernel
theorem d_M_force_21 : decode c_M_force 21 = .ok (.aload_n 0, 1) := by decide +kernel
theorem d_M_force_22 : decode c_M_force 22 = .ok (.getfield 65, 3) := by decide +kernel
theorem d_M_force_25 : decode c_M_force 25 = .ok (.if_icmp .ge 12, 3) := by decide +kernel
theorem d_M_force_28 : decode c_M_force 28 = .ok (.aload_n 0, 1) := by decide +kernel
theorem d_M_force_29 : decode c_M_force 29 = .ok (.iload_n 3, 1) := by decide +kernel
theorem d_M_force_30 : decode c_M_force 30 = .ok (.iconst 1, 1) := by decide +kernel
theorem d_M_force_31 : decode c_M_force 31 = .ok (.invokevirtual 57, 3) := by decide +kernel
theorem d_M_force_34 : decode c_M_force 34 = .ok (.ifCond .eq 7, 3) := by decide +kernel
theorem d_M_force_37 : decode c_M_force 37 = .ok (.ldc2_w 148, 3) := by decide +kernel
theorem d_M_force_40 : decode c_M_force 40 = .ok (.lreturn, 1) := by decide +kernel
theorem d_M_force_41 : decode c_M_force 41 = .ok (.aload_n 0, 1) := by decide +kernel
theorem d_M_force_42 : decode c_M_force 42 = .ok (.aload_n 0, 1) := by decide +kernel
theorem d_M_force_43 : decode c_M_force 43 = .ok (.iconst 1, 1) := by decide +kernel
theorem d_M_force_44 : decode c_M_force 44 = .ok (.bipush 8, 2) := by decide +kernel
theorem d_M_force_46 : decode c_M_force 46 = .ok (.iload_n 1, 1) := by decide +kernel
theorem d_M_force_47 : decode c_M_force 47 = .ok (.imul, 1) := by decide +kernel
theorem d_M_force_48 : decode c_M_force 48 = .ok (.ishl, 1) := by decide +kernel
theorem d_M_force_49 : decode c_M_force 49 = .ok (.iload_n 2, 1) := by decide +kernel
theorem d_M_force_50 : decode c_M_force 50 = .ok (.invokevirtual 165, 3) := by decide +kernel
theorem d_M_force_53 : decode c_M_force 53 = .ok (.aload_n 0, 1) := by decide +kernel
theorem d_M_force_54 : decode c_M_force 54 = .ok (.invokevirtual 157, 3) := by decide +kernel
theorem d_M_force_57 : decode c_M_force 57 = .ok (.iload_n 3, 1) := by decide +kernel
theorem d_M_force_58 : decode c_M_force 58 = .ok (.invokevirtual 161, 3) := by decide +kernel
theorem d_M_force_61 : decode c_M_force 61 = .ok (.lreturn, 1) := by decide +kernel
