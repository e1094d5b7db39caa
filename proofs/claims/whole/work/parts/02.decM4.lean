theorem d_M_pull_0 : decode c_M_pull 0 = .ok (.lconst 0, 1) := by decide +kernel
theorem d_M_pull_1 : decode c_M_pull 1 = .ok (.lstore_n 3, 1) := by decide +kernel
theorem d_M_pull_2 : decode c_M_pull 2 = .ok (.iconst 0, 1) := by decide +kernel
theorem d_M_pull_3 : decode c_M_pull 3 = .ok (.istore 5, 2) := by decide +kernel
theorem d_M_pull_5 : decode c_M_pull 5 = .ok (.iload 5, 2) := by decide +kernel
theorem d_M_pull_7 : decode c_M_pull 7 = .ok (.iconst 2, 1) := by decide +kernel
theorem d_M_pull_8 : decode c_M_pull 8 = .ok (.if_icmp .ge 54, 3) := by decide +kernel
theorem d_M_pull_11 : decode c_M_pull 11 = .ok (.lload_n 3, 1) := by decide +kernel
theorem d_M_pull_12 : decode c_M_pull 12 = .ok (.aload_n 0, 1) := by decide +kernel
theorem d_M_pull_13 : decode c_M_pull 13 = .ok (.iload_n 2, 1) := by decide +kernel
theorem d_M_pull_14 : decode c_M_pull 14 = .ok (.iload 5, 2) := by decide +kernel
theorem d_M_pull_16 : decode c_M_pull 16 = .ok (.invokevirtual 96, 3) := by decide +kernel
theorem d_M_pull_19 : decode c_M_pull 19 = .ok (.i2l, 1) := by decide +kernel
theorem d_M_pull_20 : decode c_M_pull 20 = .ok (.aload_n 0, 1) := by decide +kernel
theorem d_M_pull_21 : decode c_M_pull 21 = .ok (.iload_n 1, 1) := by decide +kernel
theorem d_M_pull_22 : decode c_M_pull 22 = .ok (.aload_n 0, 1) := by decide +kernel
theorem d_M_pull_23 : decode c_M_pull 23 = .ok (.getfield 23, 3) := by decide +kernel
theorem d_M_pull_26 : decode c_M_pull 26 = .ok (.iload_n 2, 1) := by decide +kernel
theorem d_M_pull_27 : decode c_M_pull 27 = .ok (.iaload, 1) := by decide +kernel
theorem d_M_pull_28 : decode c_M_pull 28 = .ok (.iconst 2, 1) := by decide +kernel
theorem d_M_pull_29 : decode c_M_pull 29 = .ok (.imul, 1) := by decide +kernel
theorem d_M_pull_30 : decode c_M_pull 30 = .ok (.iload 5, 2) := by decide +kernel
theorem d_M_pull_32 : decode c_M_pull 32 = .ok (.iadd, 1) := by decide +kernel
theorem d_M_pull_33 : decode c_M_pull 33 = .ok (.invokevirtual 154, 3) := by decide +kernel
theorem d_M_pull_36 : decode c_M_pull 36 = .ok (.aload_n 0, 1) := by decide +kernel
theorem d_M_pull_37 : decode c_M_pull 37 = .ok (.iload_n 1, 1) := by decide +kernel
theorem d_M_pull_38 : decode c_M_pull 38 = .ok (.aload_n 0, 1) := by decide +kernel
theorem d_M_pull_39 : decode c_M_pull 39 = .ok (.getfield 20, 3) := by decide +kernel
theorem d_M_pull_42 : decode c_M_pull 42 = .ok (.iload_n 2, 1) := by decide +kernel
theorem d_M_pull_43 : decode c_M_pull 43 = .ok (.iaload, 1) := by decide +kernel
theorem d_M_pull_44 : decode c_M_pull 44 = .ok (.iconst 2, 1) := by decide +kernel
theorem d_M_pull_45 : decode c_M_pull 45 = .ok (.imul, 1) := by decide +kernel
theorem d_M_pull_46 : decode c_M_pull 46 = .ok (.iload 5, 2) := by decide +kernel
theorem d_M_pull_48 : decode c_M_pull 48 = .ok (.iadd, 1) := by decide +kernel
theorem d_M_pull_49 : decode c_M_pull 49 = .ok (.invokevirtual 154, 3) := by decide +kernel
theorem d_M_pull_52 : decode c_M_pull 52 = .ok (.lsub, 1) := by decide +kernel
theorem d_M_pull_53 : decode c_M_pull 53 = .ok (.lmul, 1) := by decide +kernel
theorem d_M_pull_54 : decode c_M_pull 54 = .ok (.ladd, 1) := by decide +kernel
theorem d_M_pull_55 : decode c_M_pull 55 = .ok (.lstore_n 3, 1) := by decide +kernel
theorem d_M_pull_56 : decode c_M_pull 56 = .ok (.iinc 5 1, 3) := by decide +kernel
theorem d_M_pull_59 : decode c_M_pull 59 = .ok (.goto (-54), 3) := by decide +kernel
theorem d_M_pull_62 : decode c_M_pull 62 = .ok (.lload_n 3, 1) := by decide +kernel
theorem d_M_pull_63 : decode c_M_pull 63 = .ok (.aload_n 0, 1) := by decide +kernel
theorem d_M_pull_64 : decode c_M_pull 64 = .ok (.getfield 26, 3) := by decide +kernel
theorem d_M_pull_67 : decode c_M_pull 67 = .ok (.iload_n 2, 1) := by decide +kernel
theorem d_M_pull_68 : decode c_M_pull 68 = .ok (.iaload, 1) := by decide +kernel
theorem d_M_pull_69 : decode c_M_pull 69 = .ok (.i2l, 1) := by decide +kernel
theorem d_M_pull_70 : decode c_M_pull 70 = .ok (.lmul, 1) := by decide +kernel
theorem d_M_pull_71 : decode c_M_pull 71 = .ok (.lreturn, 1) := by decide +kernel
theorem d_M_reaction_0 : decode c_M_reaction 0 = .ok (.aload_n 0, 1) := by decide +kernel
theorem d_M_reaction_1 : decode c_M_reaction 1 = .ok (.getfield 61, 3) := by decide +kernel
theorem d_M_reaction_4 : decode c_M_reaction 4 = .ok (.ifCond .eq 49, 3) := by decide +kernel
theorem d_M_reaction_7 : decode c_M_reaction 7 = .ok (.aload_n 0, 1) := by decide +kernel
theorem d_M_reaction_8 : decode c_M_reaction 8 = .ok (.iload_n 1, 1) := by decide +kernel
theorem d_M_reaction_9 : decode c_M_reaction 9 = .ok (.iconst 3, 1) := by decide +kernel
theorem d_M_reaction_10 : decode c_M_reaction 10 = .ok (.invokevirtual 57, 3) := by decide +kernel
theorem d_M_reaction_13 : decode c_M_reaction 13 = .ok (.ifCond .ne 40, 3) := by decide +kernel
theorem d_M_reaction_16 : decode c_M_reaction 16 = .ok (.aload_n 0, 1) := by decide +kernel
theorem d_M_reaction_17 : decode c_M_reaction 17 = .ok (.iload_n 2, 1) := by decide +kernel
theorem d_M_reaction_18 : decode c_M_reaction 18 = .ok (.iconst 4, 1) := by decide +kernel
theorem d_M_reaction_19 : decode c_M_reaction 19 = .ok (.invokevirtual 57, 3) := by decide +kernel
theorem d_M_reaction_22 : decode c_M_reaction 22 = .ok (.ifCond .ne 31, 3) := by decide +kernel
theorem d_M_reaction_25 : decode c_M_reaction 25 = .ok (.aload_n 0, 1) := by decide +kernel
theorem d_M_reaction_26 : decode c_M_reaction 26 = .ok (.getfield 7, 3) := by decide +kernel
theorem d_M_reaction_29 : decode c_M_reaction 29 = .ok (.iload_n 2, 1) := by decide +kernel
theorem d_M_reaction_30 : decode c_M_reaction 30 = .ok (.baload, 1) := by decide +kernel
theorem d_M_reaction_31 : decode c_M_reaction 31 = .ok (.ifCond .eq 22, 3) := by decide +kernel
theorem d_M_reaction_34 : decode c_M_reaction 34 = .ok (.aload_n 0, 1) := by decide +kernel
theorem d_M_reaction_35 : decode c_M_reaction 35 = .ok (.iload_n 3, 1) := by decide +kernel
theorem d_M_reaction_36 : decode c_M_reaction 36 = .ok (.iconst 1, 1) := by decide +kernel
theorem d_M_reaction_37 : decode c_M_reaction 37 = .ok (.invokevirtual 57, 3) := by decide +kernel
theorem d_M_reaction_40 : decode c_M_reaction 40 = .ok (.ifCond .ne 13, 3) := by decide +kernel
theorem d_M_reaction_43 : decode c_M_reaction 43 = .ok (.aload_n 0, 1) := by decide +kernel
theorem d_M_reaction_44 : decode c_M_reaction 44 = .ok (.iload 4, 2) := by decide +kernel
theorem d_M_reaction_46 : decode c_M_reaction 46 = .ok (.iconst 1, 1) := by decide +kernel
theorem d_M_reaction_47 : decode c_M_reaction 47 = .ok (.invokevirtual 57, 3) := by decide +kernel
theorem d_M_reaction_50 : decode c_M_reaction 50 = .ok (.ifCond .eq 7, 3) := by decide +kernel
theorem d_M_reaction_53 : decode c_M_reaction 53 = .ok (.ldc2_w 148, 3) := by decide +kernel
theorem d_M_reaction_56 : decode c_M_reaction 56 = .ok (.lreturn, 1) := by decide +kernel
theorem d_M_reaction_57 : decode c_M_reaction 57 = .ok (.iload_n 2, 1) := by decide +kernel
theorem d_M_reaction_58 : decode c_M_reaction 58 = .ok (.iconst 2, 1) := by decide +kernel
theorem d_M_reaction_59 : decode c_M_reaction 59 = .ok (.imul, 1) := by decide +kernel
theorem d_M_reaction_60 : decode c_M_reaction 60 = .ok (.iload_n 3, 1) := by decide +kernel
theorem d_M_reaction_61 : decode c_M_reaction 61 = .ok (.iadd, 1) := by decide +kernel
theorem d_M_reaction_62 : decode c_M_reaction 62 = .ok (.istore 5, 2) := by decide +kernel
theorem d_M_reaction_64 : decode c_M_reaction 64 = .ok (.aload_n 0, 1) := by decide +kernel
theorem d_M_reaction_65 : decode c_M_reaction 65 = .ok (.getfield 29, 3) := by decide +kernel
theorem d_M_reaction_68 : decode c_M_reaction 68 = .ok (.iload 5, 2) := by decide +kernel
theorem d_M_reaction_70 : decode c_M_reaction 70 = .ok (.baload, 1) := by decide +kernel
theorem d_M_reaction_71 : decode c_M_reaction 71 = .ok (.ifCond .ne 7, 3) := by decide +kernel
theorem d_M_reaction_74 : decode c_M_reaction 74 = .ok (.ldc2_w 148, 3) := by decide +kernel
theorem d_M_reaction_77 : decode c_M_reaction 77 = .ok (.lreturn, 1) := by decide +kernel
theorem d_M_reaction_78 : decode c_M_reaction 78 = .ok (.aload_n 0, 1) := by decide +kernel
theorem d_M_reaction_79 : decode c_M_reaction 79 = .ok (.getfield 35, 3) := by decide +kernel
theorem d_M_reaction_82 : decode c_M_reaction 82 = .ok (.iload 5, 2) := by decide +kernel
theorem d_M_reaction_84 : decode c_M_reaction 84 = .ok (.iaload, 1) := by decide +kernel
theorem d_M_reaction_85 : decode c_M_reaction 85 = .ok (.i2l, 1) := by decide +kernel
theorem d_M_reaction_86 : decode c_M_reaction 86 = .ok (.aload_n 0, 1) := by decide +kernel
theorem d_M_reaction_87 : decode c_M_reaction 87 = .ok (.getfield 32, 3) := by decide +kernel
theorem d_M_reaction_90 : decode c_M_reaction 90 = .ok (.iload 5, 2) := by decide +kernel
theorem d_M_reaction_92 : decode c_M_reaction 92 = .ok (.iaload, 1) := by decide +kernel
theorem d_M_reaction_93 : decode c_M_reaction 93 = .ok (.i2l, 1) := by decide +kernel
theorem d_M_reaction_94 : decode c_M_reaction 94 = .ok (.lmul, 1) := by decide +kernel
theorem d_M_reaction_95 : decode c_M_reaction 95 = .ok (.aload_n 0, 1) := by decide +kernel
theorem d_M_reaction_96 : decode c_M_reaction 96 = .ok (.getfield 38, 3) := by decide +kernel
theorem d_M_reaction_99 : decode c_M_reaction 99 = .ok (.iload_n 1, 1) := by decide +kernel
theorem d_M_reaction_100 : decode c_M_reaction 100 = .ok (.bipush 10, 2) := by decide +kernel
theorem d_M_reaction_102 : decode c_M_reaction 102 = .ok (.imul, 1) := by decide +kernel
theorem d_M_reaction_103 : decode c_M_reaction 103 = .ok (.iload 5, 2) := by decide +kernel
theorem d_M_reaction_105 : decode c_M_reaction 105 = .ok (.iadd, 1) := by decide +kernel
theorem d_M_reaction_106 : decode c_M_reaction 106 = .ok (.iaload, 1) := by decide +kernel
theorem d_M_reaction_107 : decode c_M_reaction 107 = .ok (.i2l, 1) := by decide +kernel
theorem d_M_reaction_108 : decode c_M_reaction 108 = .ok (.lsub, 1) := by decide +kernel
theorem d_M_reaction_109 : decode c_M_reaction 109 = .ok (.aload_n 0, 1) := by decide +kernel
theorem d_M_reaction_110 : decode c_M_reaction 110 = .ok (.invokevirtual 157, 3) := by decide +kernel
theorem d_M_reaction_113 : decode c_M_reaction 113 = .ok (.lmul, 1) := by decide +kernel
theorem d_M_reaction_114 : decode c_M_reaction 114 = .ok (.lstore 6, 2) := by decide +kernel
theorem d_M_reaction_116 : decode c_M_reaction 116 = .ok (.iconst 0, 1) := by decide +kernel
theorem d_M_reaction_117 : decode c_M_reaction 117 = .ok (.istore 8, 2) := by decide +kernel
theorem d_M_reaction_119 : decode c_M_reaction 119 = .ok (.iload 8, 2) := by decide +kernel
theorem d_M_reaction_121 : decode c_M_reaction 121 = .ok (.aload_n 0, 1) := by decide +kernel
theorem d_M_reaction_122 : decode c_M_reaction 122 = .ok (.getfield 65, 3) := by decide +kernel
theorem d_M_reaction_125 : decode c_M_reaction 125 = .ok (.if_icmp .ge 83, 3) := by decide +kernel
theorem d_M_reaction_128 : decode c_M_reaction 128 = .ok (.aload_n 0, 1) := by decide +kernel
theorem d_M_reaction_129 : decode c_M_reaction 129 = .ok (.getfield 20, 3) := by decide +kernel
theorem d_M_reaction_132 : decode c_M_reaction 132 = .ok (.iload 8, 2) := by decide +kernel
theorem d_M_reaction_134 : decode c_M_reaction 134 = .ok (.iaload, 1) := by decide +kernel
theorem d_M_reaction_135 : decode c_M_reaction 135 = .ok (.iload_n 2, 1) := by decide +kernel
theorem d_M_reaction_136 : decode c_M_reaction 136 = .ok (.if_icmp .ne 29, 3) := by decide +kernel
theorem d_M_reaction_139 : decode c_M_reaction 139 = .ok (.lload 6, 2) := by decide +kernel
theorem d_M_reaction_141 : decode c_M_reaction 141 = .ok (.aload_n 0, 1) := by decide +kernel
theorem d_M_reaction_142 : decode c_M_reaction 142 = .ok (.iload 8, 2) := by decide +kernel
theorem d_M_reaction_144 : decode c_M_reaction 144 = .ok (.iload_n 3, 1) := by decide +kernel
theorem d_M_reaction_145 : decode c_M_reaction 145 = .ok (.invokevirtual 96, 3) := by decide +kernel
theorem d_M_reaction_148 : decode c_M_reaction 148 = .ok (.i2l, 1) := by decide +kernel
theorem d_M_reaction_149 : decode c_M_reaction 149 = .ok (.aload_n 0, 1) := by decide +kernel
theorem d_M_reaction_150 : decode c_M_reaction 150 = .ok (.iconst 1, 1) := by decide +kernel
theorem d_M_reaction_151 : decode c_M_reaction 151 = .ok (.bipush 8, 2) := by decide +kernel
theorem d_M_reaction_153 : decode c_M_reaction 153 = .ok (.iload_n 1, 1) := by decide +kernel
theorem d_M_reaction_154 : decode c_M_reaction 154 = .ok (.imul, 1) := by decide +kernel
theorem d_M_reaction_155 : decode c_M_reaction 155 = .ok (.ishl, 1) := by decide +kernel
theorem d_M_reaction_156 : decode c_M_reaction 156 = .ok (.iload 8, 2) := by decide +kernel
theorem d_M_reaction_158 : decode c_M_reaction 158 = .ok (.invokevirtual 165, 3) := by decide +kernel
theorem d_M_reaction_161 : decode c_M_reaction 161 = .ok (.lmul, 1) := by decide +kernel
theorem d_M_reaction_162 : decode c_M_reaction 162 = .ok (.lsub, 1) := by decide +kernel
theorem d_M_reaction_163 : decode c_M_reaction 163 = .ok (.lstore 6, 2) := by decide +kernel
theorem d_M_reaction_165 : decode c_M_reaction 165 = .ok (.aload_n 0, 1) := by decide +kernel
theorem d_M_reaction_166 : decode c_M_reaction 166 = .ok (.getfield 23, 3) := by decide +kernel
theorem d_M_reaction_169 : decode c_M_reaction 169 = .ok (.iload 8, 2) := by decide +kernel
theorem d_M_reaction_171 : decode c_M_reaction 171 = .ok (.iaload, 1) := by decide +kernel
theorem d_M_reaction_172 : decode c_M_reaction 172 = .ok (.iload_n 2, 1) := by decide +kernel
theorem d_M_reaction_173 : decode c_M_reaction 173 = .ok (.if_icmp .ne 29, 3) := by decide +kernel
theorem d_M_reaction_176 : decode c_M_reaction 176 = .ok (.lload 6, 2) := by decide +kernel
theorem d_M_reaction_178 : decode c_M_reaction 178 = .ok (.aload_n 0, 1) := by decide +kernel
theorem d_M_reaction_179 : decode c_M_reaction 179 = .ok (.iload 8, 2) := by decide +kernel
theorem d_M_reaction_181 : decode c_M_reaction 181 = .ok (.iload_n 3, 1) := by decide +kernel
theorem d_M_reaction_182 : decode c_M_reaction 182 = .ok (.invokevirtual 96, 3) := by decide +kernel
theorem d_M_reaction_185 : decode c_M_reaction 185 = .ok (.i2l, 1) := by decide +kernel
theorem d_M_reaction_186 : decode c_M_reaction 186 = .ok (.aload_n 0, 1) := by decide +kernel
theorem d_M_reaction_187 : decode c_M_reaction 187 = .ok (.iconst 1, 1) := by decide +kernel
theorem d_M_reaction_188 : decode c_M_reaction 188 = .ok (.bipush 8, 2) := by decide +kernel
theorem d_M_reaction_190 : decode c_M_reaction 190 = .ok (.iload_n 1, 1) := by decide +kernel
theorem d_M_reaction_191 : decode c_M_reaction 191 = .ok (.imul, 1) := by decide +kernel
theorem d_M_reaction_192 : decode c_M_reaction 192 = .ok (.ishl, 1) := by decide +kernel
theorem d_M_reaction_193 : decode c_M_reaction 193 = .ok (.iload 8, 2) := by decide +kernel
theorem d_M_reaction_195 : decode c_M_reaction 195 = .ok (.invokevirtual 165, 3) := by decide +kernel
theorem d_M_reaction_198 : decode c_M_reaction 198 = .ok (.lmul, 1) := by decide +kernel
theorem d_M_reaction_199 : decode c_M_reaction 199 = .ok (.ladd, 1) := by decide +kernel
theorem d_M_reaction_200 : decode c_M_reaction 200 = .ok (.lstore 6, 2) := by decide +kernel
theorem d_M_reaction_202 : decode c_M_reaction 202 = .ok (.iinc 8 1, 3) := by decide +kernel
theorem d_M_reaction_205 : decode c_M_reaction 205 = .ok (.goto (-86), 3) := by decide +kernel
theorem d_M_reaction_208 : decode c_M_reaction 208 = .ok (.aload_n 0, 1) := by decide +kernel
theorem d_M_reaction_209 : decode c_M_reaction 209 = .ok (.lload 6, 2) := by decide +kernel
theorem d_M_reaction_211 : decode c_M_reaction 211 = .ok (.aload_n 0, 1) := by decide +kernel
theorem d_M_reaction_212 : decode c_M_reaction 212 = .ok (.invokevirtual 157, 3) := by decide +kernel
theorem d_M_reaction_215 : decode c_M_reaction 215 = .ok (.iload 4, 2) := by decide +kernel
theorem d_M_reaction_217 : decode c_M_reaction 217 = .ok (.invokevirtual 161, 3) := by decide +kernel
theorem d_M_reaction_220 : decode c_M_reaction 220 = .ok (.lreturn, 1) := by decide +kernel
theorem d_M_order_0 : decode c_M_order 0 = .ok (.aload_n 0, 1) := by decide +kernel
theorem d_M_order_1 : decode c_M_order 1 = .ok (.getfield 61, 3) := by decide +kernel
theorem d_M_order_4 : decode c_M_order 4 = .ok (.ifCond .eq 7, 3) := by decide +kernel
theorem d_M_order_7 : decode c_M_order 7 = .ok (.iload_n 1, 1) := by decide +kernel
theorem d_M_order_8 : decode c_M_order 8 = .ok (.ifCond .ge 5, 3) := by decide +kernel
theorem d_M_order_11 : decode c_M_order 11 = .ok (.iconst (-1), 1) := by decide +kernel
theorem d_M_order_12 : decode c_M_order 12 = .ok (.ireturn, 1) := by decide +kernel
theorem d_M_order_13 : decode c_M_order 13 = .ok (.aload_n 0, 1) := by decide +kernel
theorem d_M_order_14 : decode c_M_order 14 = .ok (.invokevirtual 122, 3) := by decide +kernel
theorem d_M_order_17 : decode c_M_order 17 = .ok (.iload_n 1, 1) := by decide +kernel
theorem d_M_order_18 : decode c_M_order 18 = .ok (.aload_n 0, 1) := by decide +kernel
theorem d_M_order_19 : decode c_M_order 19 = .ok (.getfield 76, 3) := by decide +kernel
theorem d_M_order_22 : decode c_M_order 22 = .ok (.if_icmp .ge 12, 3) := by decide +kernel
theorem d_M_order_25 : decode c_M_order 25 = .ok (.aload_n 0, 1) := by decide +kernel
theorem d_M_order_26 : decode c_M_order 26 = .ok (.getfield 41, 3) := by decide +kernel
theorem d_M_order_29 : decode c_M_order 29 = .ok (.iload_n 1, 1) := by decide +kernel
theorem d_M_order_30 : decode c_M_order 30 = .ok (.iaload, 1) := by decide +kernel
theorem d_M_order_31 : decode c_M_order 31 = .ok (.goto 4, 3) := by decide +kernel
theorem d_M_order_34 : decode c_M_order 34 = .ok (.iconst (-1), 1) := by decide +kernel
theorem d_M_order_35 : decode c_M_order 35 = .ok (.ireturn, 1) := by decide +kernel
theorem d_M_unknown_0 : decode c_M_unknown 0 = .ok (.aload_n 0, 1) := by decide +kernel
theorem d_M_unknown_1 : decode c_M_unknown 1 = .ok (.getfield 61, 3) := by decide +kernel
theorem d_M_unknown_4 : decode c_M_unknown 4 = .ok (.ifCond .eq 30, 3) := by decide +kernel
theorem d_M_unknown_7 : decode c_M_unknown 7 = .ok (.aload_n 0, 1) := by decide +kernel
theorem d_M_unknown_8 : decode c_M_unknown 8 = .ok (.iload_n 1, 1) := by decide +kernel
theorem d_M_unknown_9 : decode c_M_unknown 9 = .ok (.iconst 4, 1) := by decide +kernel
theorem d_M_unknown_10 : decode c_M_unknown 10 = .ok (.invokevirtual 57, 3) := by decide +kernel
theorem d_M_unknown_13 : decode c_M_unknown 13 = .ok (.ifCond .ne 21, 3) := by decide +kernel
theorem d_M_unknown_16 : decode c_M_unknown 16 = .ok (.aload_n 0, 1) := by decide +kernel
theorem d_M_unknown_17 : decode c_M_unknown 17 = .ok (.getfield 7, 3) := by decide +kernel
theorem d_M_unknown_20 : decode c_M_unknown 20 = .ok (.iload_n 1, 1) := by decide +kernel
theorem d_M_unknown_21 : decode c_M_unknown 21 = .ok (.baload, 1) := by decide +kernel
theorem d_M_unknown_22 : decode c_M_unknown 22 = .ok (.ifCond .eq 12, 3) := by decide +kernel
theorem d_M_unknown_25 : decode c_M_unknown 25 = .ok (.aload_n 0, 1) := by decide +kernel
theorem d_M_unknown_26 : decode c_M_unknown 26 = .ok (.iload_n 2, 1) := by decide +kernel
theorem d_M_unknown_27 : decode c_M_unknown 27 = .ok (.iconst 1, 1) := by decide +kernel
theorem d_M_unknown_28 : decode c_M_unknown 28 = .ok (.invokevirtual 57, 3) := by decide +kernel
theorem d_M_unknown_31 : decode c_M_unknown 31 = .ok (.ifCond .eq 5, 3) := by decide +kernel
theorem d_M_unknown_34 : decode c_M_unknown 34 = .ok (.iconst (-1), 1) := by decide +kernel
theorem d_M_unknown_35 : decode c_M_unknown 35 = .ok (.ireturn, 1) := by decide +kernel
theorem d_M_unknown_36 : decode c_M_unknown 36 = .ok (.aload_n 0, 1) := by decide +kernel
theorem d_M_unknown_37 : decode c_M_unknown 37 = .ok (.invokevirtual 122, 3) := by decide +kernel
theorem d_M_unknown_40 : decode c_M_unknown 40 = .ok (.iconst 0, 1) := by decide +kernel
theorem d_M_unknown_41 : decode c_M_unknown 41 = .ok (.istore_n 3, 1) := by decide +kernel
theorem d_M_unknown_42 : decode c_M_unknown 42 = .ok (.iload_n 3, 1) := by decide +kernel
theorem d_M_unknown_43 : decode c_M_unknown 43 = .ok (.aload_n 0, 1) := by decide +kernel
theorem d_M_unknown_44 : decode c_M_unknown 44 = .ok (.getfield 93, 3) := by decide +kernel
theorem d_M_unknown_47 : decode c_M_unknown 47 = .ok (.if_icmp .ge 25, 3) := by decide +kernel
theorem d_M_unknown_50 : decode c_M_unknown 50 = .ok (.aload_n 0, 1) := by decide +kernel
theorem d_M_unknown_51 : decode c_M_unknown 51 = .ok (.getfield 44, 3) := by decide +kernel
theorem d_M_unknown_54 : decode c_M_unknown 54 = .ok (.iload_n 3, 1) := by decide +kernel
theorem d_M_unknown_55 : decode c_M_unknown 55 = .ok (.iaload, 1) := by decide +kernel
theorem d_M_unknown_56 : decode c_M_unknown 56 = .ok (.iload_n 1, 1) := by decide +kernel
theorem d_M_unknown_57 : decode c_M_unknown 57 = .ok (.iconst 2, 1) := by decide +kernel
theorem d_M_unknown_58 : decode c_M_unknown 58 = .ok (.imul, 1) := by decide +kernel
theorem d_M_unknown_59 : decode c_M_unknown 59 = .ok (.iload_n 2, 1) := by decide +kernel
theorem d_M_unknown_60 : decode c_M_unknown 60 = .ok (.iadd, 1) := by decide +kernel
theorem d_M_unknown_61 : decode c_M_unknown 61 = .ok (.if_icmp .ne 5, 3) := by decide +kernel
theorem d_M_unknown_64 : decode c_M_unknown 64 = .ok (.iload_n 3, 1) := by decide +kernel
theorem d_M_unknown_65 : decode c_M_unknown 65 = .ok (.ireturn, 1) := by decide +kernel
theorem d_M_unknown_66 : decode c_M_unknown 66 = .ok (.iinc 3 1, 3) := by decide +kernel
theorem d_M_unknown_69 : decode c_M_unknown 69 = .ok (.goto (-27), 3) := by decide +kernel
theorem d_M_unknown_72 : decode c_M_unknown 72 = .ok (.bipush (-2), 2) := by decide +kernel
theorem d_M_unknown_74 : decode c_M_unknown 74 = .ok (.ireturn, 1) := by decide +kernel
theorem d_M_count_0 : decode c_M_count 0 = .ok (.aload_n 0, 1) := by decide +kernel
theorem d_M_count_1 : decode c_M_count 1 = .ok (.iload_n 1, 1) := by decide +kernel
theorem d_M_count_2 : decode c_M_count 2 = .ok (.iconst 4, 1) := by decide +kernel
theorem d_M_count_3 : decode c_M_count 3 = .ok (.invokevirtual 57, 3) := by decide +kernel
theorem d_M_count_6 : decode c_M_count 6 = .ok (.ifCond .eq 5, 3) := by decide +kernel
theorem d_M_count_9 : decode c_M_count 9 = .ok (.iconst (-1), 1) := by decide +kernel
theorem d_M_count_10 : decode c_M_count 10 = .ok (.ireturn, 1) := by decide +kernel
theorem d_M_count_11 : decode c_M_count 11 = .ok (.iload_n 1, 1) := by decide +kernel
theorem d_M_count_12 : decode c_M_count 12 = .ok (.iconst 1, 1) := by decide +kernel
theorem d_M_count_13 : decode c_M_count 13 = .ok (.if_icmp .ne 8, 3) := by decide +kernel
theorem d_M_count_16 : decode c_M_count 16 = .ok (.aload_n 0, 1) := by decide +kernel
theorem d_M_count_17 : decode c_M_count 17 = .ok (.getfield 65, 3) := by decide +kernel
theorem d_M_count_20 : decode c_M_count 20 = .ok (.ireturn, 1) := by decide +kernel
theorem d_M_count_21 : decode c_M_count 21 = .ok (.iload_n 1, 1) := by decide +kernel
theorem d_M_count_22 : decode c_M_count 22 = .ok (.iconst 2, 1) := by decide +kernel
theorem d_M_count_23 : decode c_M_count 23 = .ok (.if_icmp .ne 16, 3) := by decide +kernel
theorem d_M_count_26 : decode c_M_count 26 = .ok (.aload_n 0, 1) := by decide +kernel
theorem d_M_count_27 : decode c_M_count 27 = .ok (.getfield 61, 3) := by decide +kernel
theorem d_M_count_30 : decode c_M_count 30 = .ok (.ifCond .eq 7, 3) := by decide +kernel
theorem d_M_count_33 : decode c_M_count 33 = .ok (.iconst 1, 1) := by decide +kernel
theorem d_M_count_34 : decode c_M_count 34 = .ok (.goto 4, 3) := by decide +kernel
theorem d_M_count_37 : decode c_M_count 37 = .ok (.iconst 0, 1) := by decide +kernel
theorem d_M_count_38 : decode c_M_count 38 = .ok (.ireturn, 1) := by decide +kernel
theorem d_M_count_39 : decode c_M_count 39 = .ok (.iload_n 1, 1) := by decide +kernel
theorem d_M_count_40 : decode c_M_count 40 = .ok (.ifCond .ne 32, 3) := by decide +kernel
theorem d_M_count_43 : decode c_M_count 43 = .ok (.iconst 0, 1) := by decide +kernel
theorem d_M_count_44 : decode c_M_count 44 = .ok (.istore_n 2, 1) := by decide +kernel
theorem d_M_count_45 : decode c_M_count 45 = .ok (.iconst 0, 1) := by decide +kernel
theorem d_M_count_46 : decode c_M_count 46 = .ok (.istore_n 3, 1) := by decide +kernel
theorem d_M_count_47 : decode c_M_count 47 = .ok (.iload_n 3, 1) := by decide +kernel
theorem d_M_count_48 : decode c_M_count 48 = .ok (.iconst 5, 1) := by decide +kernel
theorem d_M_count_49 : decode c_M_count 49 = .ok (.if_icmp .ge 21, 3) := by decide +kernel
theorem d_M_count_52 : decode c_M_count 52 = .ok (.aload_n 0, 1) := by decide +kernel
theorem d_M_count_53 : decode c_M_count 53 = .ok (.getfield 7, 3) := by decide +kernel
theorem d_M_count_56 : decode c_M_count 56 = .ok (.iload_n 3, 1) := by decide +kernel
theorem d_M_count_57 : decode c_M_count 57 = .ok (.baload, 1) := by decide +kernel
theorem d_M_count_58 : decode c_M_count 58 = .ok (.ifCond .eq 6, 3) := by decide +kernel
theorem d_M_count_61 : decode c_M_count 61 = .ok (.iinc 2 1, 3) := by decide +kernel
theorem d_M_count_64 : decode c_M_count 64 = .ok (.iinc 3 1, 3) := by decide +kernel
theorem d_M_count_67 : decode c_M_count 67 = .ok (.goto (-20), 3) := by decide +kernel
theorem d_M_count_70 : decode c_M_count 70 = .ok (.iload_n 2, 1) := by decide +kernel
theorem d_M_count_71 : decode c_M_count 71 = .ok (.ireturn, 1) := by decide +kernel
theorem d_M_count_72 : decode c_M_count 72 = .ok (.aload_n 0, 1) := by decide +kernel
theorem d_M_count_73 : decode c_M_count 73 = .ok (.getfield 61, 3) := by decide +kernel
theorem d_M_count_76 : decode c_M_count 76 = .ok (.ifCond .ne 5, 3) := by decide +kernel
theorem d_M_count_79 : decode c_M_count 79 = .ok (.iconst 0, 1) := by decide +kernel
theorem d_M_count_80 : decode c_M_count 80 = .ok (.ireturn, 1) := by decide +kernel
theorem d_M_count_81 : decode c_M_count 81 = .ok (.aload_n 0, 1) := by decide +kernel
theorem d_M_count_82 : decode c_M_count 82 = .ok (.invokevirtual 122, 3) := by decide +kernel
theorem d_M_count_85 : decode c_M_count 85 = .ok (.iload_n 1, 1) := by decide +kernel
theorem d_M_count_86 : decode c_M_count 86 = .ok (.iconst 3, 1) := by decide +kernel
theorem d_M_count_87 : decode c_M_count 87 = .ok (.if_icmp .ne 10, 3) := by decide +kernel
theorem d_M_count_90 : decode c_M_count 90 = .ok (.aload_n 0, 1) := by decide +kernel
theorem d_M_count_91 : decode c_M_count 91 = .ok (.getfield 93, 3) := by decide +kernel
theorem d_M_count_94 : decode c_M_count 94 = .ok (.goto 7, 3) := by decide +kernel
theorem d_M_count_97 : decode c_M_count 97 = .ok (.aload_n 0, 1) := by decide +kernel
theorem d_M_count_98 : decode c_M_count 98 = .ok (.invokevirtual 168, 3) := by decide +kernel
theorem d_M_count_101 : decode c_M_count 101 = .ok (.ireturn, 1) := by decide +kernel
theorem d_M_profile_0 : decode c_M_profile 0 = .ok (.aload_n 0, 1) := by decide +kernel
theorem d_M_profile_1 : decode c_M_profile 1 = .ok (.invokevirtual 128, 3) := by decide +kernel
theorem d_M_profile_4 : decode c_M_profile 4 = .ok (.iconst 0, 1) := by decide +kernel
theorem d_M_profile_5 : decode c_M_profile 5 = .ok (.istore_n 1, 1) := by decide +kernel
theorem d_M_profile_6 : decode c_M_profile 6 = .ok (.iconst 0, 1) := by decide +kernel
theorem d_M_profile_7 : decode c_M_profile 7 = .ok (.istore_n 2, 1) := by decide +kernel
theorem d_M_profile_8 : decode c_M_profile 8 = .ok (.iload_n 2, 1) := by decide +kernel
theorem d_M_profile_9 : decode c_M_profile 9 = .ok (.aload_n 0, 1) := by decide +kernel
theorem d_M_profile_10 : decode c_M_profile 10 = .ok (.getfield 93, 3) := by decide +kernel
theorem d_M_profile_13 : decode c_M_profile 13 = .ok (.if_icmp .ge 59, 3) := by decide +kernel
theorem d_M_profile_16 : decode c_M_profile 16 = .ok (.iload_n 2, 1) := by decide +kernel
theorem d_M_profile_17 : decode c_M_profile 17 = .ok (.istore_n 3, 1) := by decide +kernel
theorem d_M_profile_18 : decode c_M_profile 18 = .ok (.iload_n 2, 1) := by decide +kernel
theorem d_M_profile_19 : decode c_M_profile 19 = .ok (.istore 4, 2) := by decide +kernel
theorem d_M_profile_21 : decode c_M_profile 21 = .ok (.iload 4, 2) := by decide +kernel
theorem d_M_profile_23 : decode c_M_profile 23 = .ok (.ifCond .lt 37, 3) := by decide +kernel
theorem d_M_profile_26 : decode c_M_profile 26 = .ok (.aload_n 0, 1) := by decide +kernel
theorem d_M_profile_27 : decode c_M_profile 27 = .ok (.getfield 47, 3) := by decide +kernel
theorem d_M_profile_30 : decode c_M_profile 30 = .ok (.aload_n 0, 1) := by decide +kernel
theorem d_M_profile_31 : decode c_M_profile 31 = .ok (.getfield 44, 3) := by decide +kernel
theorem d_M_profile_34 : decode c_M_profile 34 = .ok (.iload_n 2, 1) := by decide +kernel
theorem d_M_profile_35 : decode c_M_profile 35 = .ok (.iaload, 1) := by decide +kernel
theorem d_M_profile_36 : decode c_M_profile 36 = .ok (.bipush 10, 2) := by decide +kernel
theorem d_M_profile_38 : decode c_M_profile 38 = .ok (.imul, 1) := by decide +kernel
theorem d_M_profile_39 : decode c_M_profile 39 = .ok (.aload_n 0, 1) := by decide +kernel
theorem d_M_profile_40 : decode c_M_profile 40 = .ok (.getfield 44, 3) := by decide +kernel
theorem d_M_profile_43 : decode c_M_profile 43 = .ok (.iload 4, 2) := by decide +kernel
theorem d_M_profile_45 : decode c_M_profile 45 = .ok (.iaload, 1) := by decide +kernel
theorem d_M_profile_46 : decode c_M_profile 46 = .ok (.iadd, 1) := by decide +kernel
theorem d_M_profile_47 : decode c_M_profile 47 = .ok (.iaload, 1) := by decide +kernel
theorem d_M_profile_48 : decode c_M_profile 48 = .ok (.ifCond .eq 6, 3) := by decide +kernel
theorem d_M_profile_51 : decode c_M_profile 51 = .ok (.iload 4, 2) := by decide +kernel
theorem d_M_profile_53 : decode c_M_profile 53 = .ok (.istore_n 3, 1) := by decide +kernel
theorem d_M_profile_54 : decode c_M_profile 54 = .ok (.iinc 4 (-1), 3) := by decide +kernel
theorem d_M_profile_57 : decode c_M_profile 57 = .ok (.goto (-36), 3) := by decide +kernel
theorem d_M_profile_60 : decode c_M_profile 60 = .ok (.iload_n 1, 1) := by decide +kernel
theorem d_M_profile_61 : decode c_M_profile 61 = .ok (.iload_n 2, 1) := by decide +kernel
theorem d_M_profile_62 : decode c_M_profile 62 = .ok (.iload_n 3, 1) := by decide +kernel
theorem d_M_profile_63 : decode c_M_profile 63 = .ok (.isub, 1) := by decide +kernel
theorem d_M_profile_64 : decode c_M_profile 64 = .ok (.iadd, 1) := by decide +kernel
theorem d_M_profile_65 : decode c_M_profile 65 = .ok (.istore_n 1, 1) := by decide +kernel
theorem d_M_profile_66 : decode c_M_profile 66 = .ok (.iinc 2 1, 3) := by decide +kernel
theorem d_M_profile_69 : decode c_M_profile 69 = .ok (.goto (-61), 3) := by decide +kernel
theorem d_M_profile_72 : decode c_M_profile 72 = .ok (.iload_n 1, 1) := by decide +kernel
theorem d_M_profile_73 : decode c_M_profile 73 = .ok (.ireturn, 1) := by decide +kernel
