theorem dX8_law_65 : decode cX8_law 65 = .ok (.goto (-57), 3) := by decide +kernel
theorem dX8_law_68 : decode cX8_law 68 = .ok (.iload_n 3, 1) := by decide +kernel
theorem dX8_law_69 : decode cX8_law 69 = .ok (.ireturn, 1) := by decide +kernel
theorem dX8_refused_0 : decode cX8_refused 0 = .ok (.aload_n 0, 1) := by decide +kernel
theorem dX8_refused_1 : decode cX8_refused 1 = .ok (.aload_n 0, 1) := by decide +kernel
theorem dX8_refused_2 : decode cX8_refused 2 = .ok (.getfield 58, 3) := by decide +kernel
theorem dX8_refused_5 : decode cX8_refused 5 = .ok (.iload_n 1, 1) := by decide +kernel
theorem dX8_refused_6 : decode cX8_refused 6 = .ok (.iaload, 1) := by decide +kernel
theorem dX8_refused_7 : decode cX8_refused 7 = .ok (.aload_n 0, 1) := by decide +kernel
theorem dX8_refused_8 : decode cX8_refused 8 = .ok (.getfield 61, 3) := by decide +kernel
theorem dX8_refused_11 : decode cX8_refused 11 = .ok (.iload_n 1, 1) := by decide +kernel
theorem dX8_refused_12 : decode cX8_refused 12 = .ok (.iaload, 1) := by decide +kernel
theorem dX8_refused_13 : decode cX8_refused 13 = .ok (.invokevirtual 191, 3) := by decide +kernel
theorem dX8_refused_16 : decode cX8_refused 16 = .ok (.istore_n 2, 1) := by decide +kernel
theorem dX8_refused_17 : decode cX8_refused 17 = .ok (.iload_n 2, 1) := by decide +kernel
theorem dX8_refused_18 : decode cX8_refused 18 = .ok (.ifCond .lt 53, 3) := by decide +kernel
theorem dX8_refused_21 : decode cX8_refused 21 = .ok (.aload_n 0, 1) := by decide +kernel
theorem dX8_refused_22 : decode cX8_refused 22 = .ok (.getfield 76, 3) := by decide +kernel
theorem dX8_refused_25 : decode cX8_refused 25 = .ok (.iload_n 1, 1) := by decide +kernel
theorem dX8_refused_26 : decode cX8_refused 26 = .ok (.iaload, 1) := by decide +kernel
theorem dX8_refused_27 : decode cX8_refused 27 = .ok (.aload_n 0, 1) := by decide +kernel
theorem dX8_refused_28 : decode cX8_refused 28 = .ok (.getfield 43, 3) := by decide +kernel
theorem dX8_refused_31 : decode cX8_refused 31 = .ok (.iload_n 2, 1) := by decide +kernel
theorem dX8_refused_32 : decode cX8_refused 32 = .ok (.iaload, 1) := by decide +kernel
theorem dX8_refused_33 : decode cX8_refused 33 = .ok (.iand, 1) := by decide +kernel
theorem dX8_refused_34 : decode cX8_refused 34 = .ok (.ifCond .gt 33, 3) := by decide +kernel
theorem dX8_refused_37 : decode cX8_refused 37 = .ok (.aload_n 0, 1) := by decide +kernel
theorem dX8_refused_38 : decode cX8_refused 38 = .ok (.getfield 70, 3) := by decide +kernel
theorem dX8_refused_41 : decode cX8_refused 41 = .ok (.iload_n 1, 1) := by decide +kernel
theorem dX8_refused_42 : decode cX8_refused 42 = .ok (.iaload, 1) := by decide +kernel
theorem dX8_refused_43 : decode cX8_refused 43 = .ok (.aload_n 0, 1) := by decide +kernel
theorem dX8_refused_44 : decode cX8_refused 44 = .ok (.getfield 46, 3) := by decide +kernel
theorem dX8_refused_47 : decode cX8_refused 47 = .ok (.iload_n 2, 1) := by decide +kernel
theorem dX8_refused_48 : decode cX8_refused 48 = .ok (.iaload, 1) := by decide +kernel
theorem dX8_refused_49 : decode cX8_refused 49 = .ok (.if_icmp .lt 18, 3) := by decide +kernel
theorem dX8_refused_52 : decode cX8_refused 52 = .ok (.aload_n 0, 1) := by decide +kernel
theorem dX8_refused_53 : decode cX8_refused 53 = .ok (.getfield 73, 3) := by decide +kernel
theorem dX8_refused_56 : decode cX8_refused 56 = .ok (.iload_n 1, 1) := by decide +kernel
theorem dX8_refused_57 : decode cX8_refused 57 = .ok (.iaload, 1) := by decide +kernel
theorem dX8_refused_58 : decode cX8_refused 58 = .ok (.aload_n 0, 1) := by decide +kernel
theorem dX8_refused_59 : decode cX8_refused 59 = .ok (.getfield 49, 3) := by decide +kernel
theorem dX8_refused_62 : decode cX8_refused 62 = .ok (.iload_n 2, 1) := by decide +kernel
theorem dX8_refused_63 : decode cX8_refused 63 = .ok (.iaload, 1) := by decide +kernel
theorem dX8_refused_64 : decode cX8_refused 64 = .ok (.if_icmp .le 7, 3) := by decide +kernel
theorem dX8_refused_67 : decode cX8_refused 67 = .ok (.iconst 1, 1) := by decide +kernel
theorem dX8_refused_68 : decode cX8_refused 68 = .ok (.goto 4, 3) := by decide +kernel
theorem dX8_refused_71 : decode cX8_refused 71 = .ok (.iconst 0, 1) := by decide +kernel
theorem dX8_refused_72 : decode cX8_refused 72 = .ok (.ireturn, 1) := by decide +kernel
theorem dX8_counts_0 : decode cX8_counts 0 = .ok (.aload_n 0, 1) := by decide +kernel
theorem dX8_counts_1 : decode cX8_counts 1 = .ok (.getfield 64, 3) := by decide +kernel
theorem dX8_counts_4 : decode cX8_counts 4 = .ok (.iload_n 1, 1) := by decide +kernel
theorem dX8_counts_5 : decode cX8_counts 5 = .ok (.iaload, 1) := by decide +kernel
theorem dX8_counts_6 : decode cX8_counts 6 = .ok (.ifCond .ne 15, 3) := by decide +kernel
theorem dX8_counts_9 : decode cX8_counts 9 = .ok (.aload_n 0, 1) := by decide +kernel
theorem dX8_counts_10 : decode cX8_counts 10 = .ok (.iload_n 1, 1) := by decide +kernel
theorem dX8_counts_11 : decode cX8_counts 11 = .ok (.invokevirtual 194, 3) := by decide +kernel
theorem dX8_counts_14 : decode cX8_counts 14 = .ok (.ifCond .ne 7, 3) := by decide +kernel
theorem dX8_counts_17 : decode cX8_counts 17 = .ok (.iconst 1, 1) := by decide +kernel
theorem dX8_counts_18 : decode cX8_counts 18 = .ok (.goto 4, 3) := by decide +kernel
theorem dX8_counts_21 : decode cX8_counts 21 = .ok (.iconst 0, 1) := by decide +kernel
theorem dX8_counts_22 : decode cX8_counts 22 = .ok (.ireturn, 1) := by decide +kernel
theorem dX8_rule_0 : decode cX8_rule 0 = .ok (.aload_n 0, 1) := by decide +kernel
theorem dX8_rule_1 : decode cX8_rule 1 = .ok (.iload_n 2, 1) := by decide +kernel
theorem dX8_rule_2 : decode cX8_rule 2 = .ok (.iconst 0, 1) := by decide +kernel
theorem dX8_rule_3 : decode cX8_rule 3 = .ok (.sipush 1000, 3) := by decide +kernel
theorem dX8_rule_6 : decode cX8_rule 6 = .ok (.invokevirtual 95, 3) := by decide +kernel
theorem dX8_rule_9 : decode cX8_rule 9 = .ok (.ifCond .eq 43, 3) := by decide +kernel
theorem dX8_rule_12 : decode cX8_rule 12 = .ok (.aload_n 0, 1) := by decide +kernel
theorem dX8_rule_13 : decode cX8_rule 13 = .ok (.iload_n 3, 1) := by decide +kernel
theorem dX8_rule_14 : decode cX8_rule 14 = .ok (.iconst 0, 1) := by decide +kernel
theorem dX8_rule_15 : decode cX8_rule 15 = .ok (.bipush 7, 2) := by decide +kernel
theorem dX8_rule_17 : decode cX8_rule 17 = .ok (.invokevirtual 95, 3) := by decide +kernel
theorem dX8_rule_20 : decode cX8_rule 20 = .ok (.ifCond .eq 32, 3) := by decide +kernel
theorem dX8_rule_23 : decode cX8_rule 23 = .ok (.aload_n 0, 1) := by decide +kernel
theorem dX8_rule_24 : decode cX8_rule 24 = .ok (.iload 4, 2) := by decide +kernel
theorem dX8_rule_26 : decode cX8_rule 26 = .ok (.iconst 0, 1) := by decide +kernel
theorem dX8_rule_27 : decode cX8_rule 27 = .ok (.bipush 32, 2) := by decide +kernel
theorem dX8_rule_29 : decode cX8_rule 29 = .ok (.invokevirtual 95, 3) := by decide +kernel
theorem dX8_rule_32 : decode cX8_rule 32 = .ok (.ifCond .eq 20, 3) := by decide +kernel
theorem dX8_rule_35 : decode cX8_rule 35 = .ok (.aload_n 0, 1) := by decide +kernel
theorem dX8_rule_36 : decode cX8_rule 36 = .ok (.iload 5, 2) := by decide +kernel
theorem dX8_rule_38 : decode cX8_rule 38 = .ok (.iconst 0, 1) := by decide +kernel
theorem dX8_rule_39 : decode cX8_rule 39 = .ok (.sipush 500, 3) := by decide +kernel
theorem dX8_rule_42 : decode cX8_rule 42 = .ok (.invokevirtual 95, 3) := by decide +kernel
theorem dX8_rule_45 : decode cX8_rule 45 = .ok (.ifCond .eq 7, 3) := by decide +kernel
theorem dX8_rule_48 : decode cX8_rule 48 = .ok (.iconst 1, 1) := by decide +kernel
theorem dX8_rule_49 : decode cX8_rule 49 = .ok (.goto 4, 3) := by decide +kernel
theorem dX8_rule_52 : decode cX8_rule 52 = .ok (.iconst 0, 1) := by decide +kernel
theorem dX8_rule_53 : decode cX8_rule 53 = .ok (.istore 6, 2) := by decide +kernel
theorem dX8_rule_55 : decode cX8_rule 55 = .ok (.aload_n 0, 1) := by decide +kernel
theorem dX8_rule_56 : decode cX8_rule 56 = .ok (.aload_n 0, 1) := by decide +kernel
theorem dX8_rule_57 : decode cX8_rule 57 = .ok (.iload_n 1, 1) := by decide +kernel
theorem dX8_rule_58 : decode cX8_rule 58 = .ok (.invokevirtual 197, 3) := by decide +kernel
theorem dX8_rule_61 : decode cX8_rule 61 = .ok (.ifCond .ne 7, 3) := by decide +kernel
theorem dX8_rule_64 : decode cX8_rule 64 = .ok (.iconst 1, 1) := by decide +kernel
theorem dX8_rule_65 : decode cX8_rule 65 = .ok (.goto 28, 3) := by decide +kernel
theorem dX8_rule_68 : decode cX8_rule 68 = .ok (.iload 6, 2) := by decide +kernel
theorem dX8_rule_70 : decode cX8_rule 70 = .ok (.ifCond .ne 7, 3) := by decide +kernel
theorem dX8_rule_73 : decode cX8_rule 73 = .ok (.iconst 2, 1) := by decide +kernel
theorem dX8_rule_74 : decode cX8_rule 74 = .ok (.goto 19, 3) := by decide +kernel
theorem dX8_rule_77 : decode cX8_rule 77 = .ok (.aload_n 0, 1) := by decide +kernel
theorem dX8_rule_78 : decode cX8_rule 78 = .ok (.getfield 37, 3) := by decide +kernel
theorem dX8_rule_81 : decode cX8_rule 81 = .ok (.iload_n 1, 1) := by decide +kernel
theorem dX8_rule_82 : decode cX8_rule 82 = .ok (.iaload, 1) := by decide +kernel
theorem dX8_rule_83 : decode cX8_rule 83 = .ok (.bipush 10, 2) := by decide +kernel
theorem dX8_rule_85 : decode cX8_rule 85 = .ok (.if_icmp .ne 7, 3) := by decide +kernel
theorem dX8_rule_88 : decode cX8_rule 88 = .ok (.iconst 3, 1) := by decide +kernel
theorem dX8_rule_89 : decode cX8_rule 89 = .ok (.goto 4, 3) := by decide +kernel
theorem dX8_rule_92 : decode cX8_rule 92 = .ok (.iconst 0, 1) := by decide +kernel
theorem dX8_rule_93 : decode cX8_rule 93 = .ok (.invokevirtual 171, 3) := by decide +kernel
theorem dX8_rule_96 : decode cX8_rule 96 = .ok (.ifCond .eq 5, 3) := by decide +kernel
theorem dX8_rule_99 : decode cX8_rule 99 = .ok (.iconst (-1), 1) := by decide +kernel
theorem dX8_rule_100 : decode cX8_rule 100 = .ok (.ireturn, 1) := by decide +kernel
theorem dX8_rule_101 : decode cX8_rule 101 = .ok (.bipush 10, 2) := by decide +kernel
theorem dX8_rule_103 : decode cX8_rule 103 = .ok (.iload_n 1, 1) := by decide +kernel
theorem dX8_rule_104 : decode cX8_rule 104 = .ok (.imul, 1) := by decide +kernel
theorem dX8_rule_105 : decode cX8_rule 105 = .ok (.aload_n 0, 1) := by decide +kernel
theorem dX8_rule_106 : decode cX8_rule 106 = .ok (.getfield 37, 3) := by decide +kernel
theorem dX8_rule_109 : decode cX8_rule 109 = .ok (.iload_n 1, 1) := by decide +kernel
theorem dX8_rule_110 : decode cX8_rule 110 = .ok (.iaload, 1) := by decide +kernel
theorem dX8_rule_111 : decode cX8_rule 111 = .ok (.iadd, 1) := by decide +kernel
theorem dX8_rule_112 : decode cX8_rule 112 = .ok (.istore 7, 2) := by decide +kernel
theorem dX8_rule_114 : decode cX8_rule 114 = .ok (.aload_n 0, 1) := by decide +kernel
theorem dX8_rule_115 : decode cX8_rule 115 = .ok (.getfield 40, 3) := by decide +kernel
theorem dX8_rule_118 : decode cX8_rule 118 = .ok (.iload 7, 2) := by decide +kernel
theorem dX8_rule_120 : decode cX8_rule 120 = .ok (.iload_n 2, 1) := by decide +kernel
theorem dX8_rule_121 : decode cX8_rule 121 = .ok (.iastore, 1) := by decide +kernel
theorem dX8_rule_122 : decode cX8_rule 122 = .ok (.aload_n 0, 1) := by decide +kernel
theorem dX8_rule_123 : decode cX8_rule 123 = .ok (.getfield 43, 3) := by decide +kernel
theorem dX8_rule_126 : decode cX8_rule 126 = .ok (.iload 7, 2) := by decide +kernel
theorem dX8_rule_128 : decode cX8_rule 128 = .ok (.iload_n 3, 1) := by decide +kernel
theorem dX8_rule_129 : decode cX8_rule 129 = .ok (.iastore, 1) := by decide +kernel
theorem dX8_rule_130 : decode cX8_rule 130 = .ok (.aload_n 0, 1) := by decide +kernel
theorem dX8_rule_131 : decode cX8_rule 131 = .ok (.getfield 46, 3) := by decide +kernel
theorem dX8_rule_134 : decode cX8_rule 134 = .ok (.iload 7, 2) := by decide +kernel
theorem dX8_rule_136 : decode cX8_rule 136 = .ok (.iload 4, 2) := by decide +kernel
theorem dX8_rule_138 : decode cX8_rule 138 = .ok (.iastore, 1) := by decide +kernel
theorem dX8_rule_139 : decode cX8_rule 139 = .ok (.aload_n 0, 1) := by decide +kernel
theorem dX8_rule_140 : decode cX8_rule 140 = .ok (.getfield 49, 3) := by decide +kernel
theorem dX8_rule_143 : decode cX8_rule 143 = .ok (.iload 7, 2) := by decide +kernel
theorem dX8_rule_145 : decode cX8_rule 145 = .ok (.iload 5, 2) := by decide +kernel
theorem dX8_rule_147 : decode cX8_rule 147 = .ok (.iastore, 1) := by decide +kernel
theorem dX8_rule_148 : decode cX8_rule 148 = .ok (.aload_n 0, 1) := by decide +kernel
theorem dX8_rule_149 : decode cX8_rule 149 = .ok (.getfield 37, 3) := by decide +kernel
theorem dX8_rule_152 : decode cX8_rule 152 = .ok (.iload_n 1, 1) := by decide +kernel
theorem dX8_rule_153 : decode cX8_rule 153 = .ok (.dup2, 1) := by decide +kernel
theorem dX8_rule_154 : decode cX8_rule 154 = .ok (.iaload, 1) := by decide +kernel
theorem dX8_rule_155 : decode cX8_rule 155 = .ok (.iconst 1, 1) := by decide +kernel
theorem dX8_rule_156 : decode cX8_rule 156 = .ok (.iadd, 1) := by decide +kernel
theorem dX8_rule_157 : decode cX8_rule 157 = .ok (.iastore, 1) := by decide +kernel
theorem dX8_rule_158 : decode cX8_rule 158 = .ok (.iconst 0, 1) := by decide +kernel
theorem dX8_rule_159 : decode cX8_rule 159 = .ok (.istore 8, 2) := by decide +kernel
theorem dX8_rule_161 : decode cX8_rule 161 = .ok (.iconst 0, 1) := by decide +kernel
theorem dX8_rule_162 : decode cX8_rule 162 = .ok (.istore 9, 2) := by decide +kernel
theorem dX8_rule_164 : decode cX8_rule 164 = .ok (.iload 9, 2) := by decide +kernel
theorem dX8_rule_166 : decode cX8_rule 166 = .ok (.aload_n 0, 1) := by decide +kernel
theorem dX8_rule_167 : decode cX8_rule 167 = .ok (.getfield 105, 3) := by decide +kernel
theorem dX8_rule_170 : decode cX8_rule 170 = .ok (.if_icmp .ge 39, 3) := by decide +kernel
theorem dX8_rule_173 : decode cX8_rule 173 = .ok (.iload 8, 2) := by decide +kernel
theorem dX8_rule_175 : decode cX8_rule 175 = .ok (.aload_n 0, 1) := by decide +kernel
theorem dX8_rule_176 : decode cX8_rule 176 = .ok (.getfield 58, 3) := by decide +kernel
theorem dX8_rule_179 : decode cX8_rule 179 = .ok (.iload 9, 2) := by decide +kernel
theorem dX8_rule_181 : decode cX8_rule 181 = .ok (.iaload, 1) := by decide +kernel
theorem dX8_rule_182 : decode cX8_rule 182 = .ok (.iload_n 1, 1) := by decide +kernel
theorem dX8_rule_183 : decode cX8_rule 183 = .ok (.if_icmp .ne 16, 3) := by decide +kernel
theorem dX8_rule_186 : decode cX8_rule 186 = .ok (.aload_n 0, 1) := by decide +kernel
theorem dX8_rule_187 : decode cX8_rule 187 = .ok (.iload 9, 2) := by decide +kernel
theorem dX8_rule_189 : decode cX8_rule 189 = .ok (.invokevirtual 194, 3) := by decide +kernel
theorem dX8_rule_192 : decode cX8_rule 192 = .ok (.ifCond .eq 7, 3) := by decide +kernel
theorem dX8_rule_195 : decode cX8_rule 195 = .ok (.iconst 1, 1) := by decide +kernel
theorem dX8_rule_196 : decode cX8_rule 196 = .ok (.goto 4, 3) := by decide +kernel
theorem dX8_rule_199 : decode cX8_rule 199 = .ok (.iconst 0, 1) := by decide +kernel
theorem dX8_rule_200 : decode cX8_rule 200 = .ok (.iadd, 1) := by decide +kernel
theorem dX8_rule_201 : decode cX8_rule 201 = .ok (.istore 8, 2) := by decide +kernel
theorem dX8_rule_203 : decode cX8_rule 203 = .ok (.iinc 9 1, 3) := by decide +kernel
theorem dX8_rule_206 : decode cX8_rule 206 = .ok (.goto (-42), 3) := by decide +kernel
theorem dX8_rule_209 : decode cX8_rule 209 = .ok (.iload 8, 2) := by decide +kernel
theorem dX8_rule_211 : decode cX8_rule 211 = .ok (.ireturn, 1) := by decide +kernel
theorem dX8_pass_0 : decode cX8_pass 0 = .ok (.aload_n 0, 1) := by decide +kernel
theorem dX8_pass_1 : decode cX8_pass 1 = .ok (.aload_n 0, 1) := by decide +kernel
theorem dX8_pass_2 : decode cX8_pass 2 = .ok (.iload_n 1, 1) := by decide +kernel
theorem dX8_pass_3 : decode cX8_pass 3 = .ok (.iconst 1, 1) := by decide +kernel
theorem dX8_pass_4 : decode cX8_pass 4 = .ok (.bipush 100, 2) := by decide +kernel
theorem dX8_pass_6 : decode cX8_pass 6 = .ok (.invokevirtual 95, 3) := by decide +kernel
theorem dX8_pass_9 : decode cX8_pass 9 = .ok (.ifCond .ne 7, 3) := by decide +kernel
theorem dX8_pass_12 : decode cX8_pass 12 = .ok (.iconst 1, 1) := by decide +kernel
theorem dX8_pass_13 : decode cX8_pass 13 = .ok (.goto 20, 3) := by decide +kernel
theorem dX8_pass_16 : decode cX8_pass 16 = .ok (.aload_n 0, 1) := by decide +kernel
theorem dX8_pass_17 : decode cX8_pass 17 = .ok (.getfield 200, 3) := by decide +kernel
theorem dX8_pass_20 : decode cX8_pass 20 = .ok (.iload_n 1, 1) := by decide +kernel
theorem dX8_pass_21 : decode cX8_pass 21 = .ok (.iadd, 1) := by decide +kernel
theorem dX8_pass_22 : decode cX8_pass 22 = .ok (.sipush 1000, 3) := by decide +kernel
theorem dX8_pass_25 : decode cX8_pass 25 = .ok (.if_icmp .le 7, 3) := by decide +kernel
theorem dX8_pass_28 : decode cX8_pass 28 = .ok (.iconst 2, 1) := by decide +kernel
theorem dX8_pass_29 : decode cX8_pass 29 = .ok (.goto 4, 3) := by decide +kernel
theorem dX8_pass_32 : decode cX8_pass 32 = .ok (.iconst 0, 1) := by decide +kernel
theorem dX8_pass_33 : decode cX8_pass 33 = .ok (.invokevirtual 171, 3) := by decide +kernel
theorem dX8_pass_36 : decode cX8_pass 36 = .ok (.ifCond .eq 5, 3) := by decide +kernel
theorem dX8_pass_39 : decode cX8_pass 39 = .ok (.iconst (-1), 1) := by decide +kernel
theorem dX8_pass_40 : decode cX8_pass 40 = .ok (.ireturn, 1) := by decide +kernel
theorem dX8_pass_41 : decode cX8_pass 41 = .ok (.aload_n 0, 1) := by decide +kernel
theorem dX8_pass_42 : decode cX8_pass 42 = .ok (.dup, 1) := by decide +kernel
theorem dX8_pass_43 : decode cX8_pass 43 = .ok (.getfield 200, 3) := by decide +kernel
theorem dX8_pass_46 : decode cX8_pass 46 = .ok (.iload_n 1, 1) := by decide +kernel
theorem dX8_pass_47 : decode cX8_pass 47 = .ok (.iadd, 1) := by decide +kernel
theorem dX8_pass_48 : decode cX8_pass 48 = .ok (.putfield 200, 3) := by decide +kernel
theorem dX8_pass_51 : decode cX8_pass 51 = .ok (.aload_n 0, 1) := by decide +kernel
theorem dX8_pass_52 : decode cX8_pass 52 = .ok (.getfield 200, 3) := by decide +kernel
theorem dX8_pass_55 : decode cX8_pass 55 = .ok (.ireturn, 1) := by decide +kernel
theorem dX8_submit_0 : decode cX8_submit 0 = .ok (.aload_n 0, 1) := by decide +kernel
theorem dX8_submit_1 : decode cX8_submit 1 = .ok (.iload_n 1, 1) := by decide +kernel
theorem dX8_submit_2 : decode cX8_submit 2 = .ok (.invokevirtual 203, 3) := by decide +kernel
theorem dX8_submit_5 : decode cX8_submit 5 = .ok (.ifCond .eq 23, 3) := by decide +kernel
theorem dX8_submit_8 : decode cX8_submit 8 = .ok (.aload_n 0, 1) := by decide +kernel
theorem dX8_submit_9 : decode cX8_submit 9 = .ok (.iload_n 2, 1) := by decide +kernel
theorem dX8_submit_10 : decode cX8_submit 10 = .ok (.invokevirtual 181, 3) := by decide +kernel
theorem dX8_submit_13 : decode cX8_submit 13 = .ok (.ifCond .eq 15, 3) := by decide +kernel
theorem dX8_submit_16 : decode cX8_submit 16 = .ok (.aload_n 0, 1) := by decide +kernel
theorem dX8_submit_17 : decode cX8_submit 17 = .ok (.iload_n 3, 1) := by decide +kernel
theorem dX8_submit_18 : decode cX8_submit 18 = .ok (.invokevirtual 197, 3) := by decide +kernel
theorem dX8_submit_21 : decode cX8_submit 21 = .ok (.ifCond .eq 7, 3) := by decide +kernel
theorem dX8_submit_24 : decode cX8_submit 24 = .ok (.iconst 1, 1) := by decide +kernel
theorem dX8_submit_25 : decode cX8_submit 25 = .ok (.goto 4, 3) := by decide +kernel
theorem dX8_submit_28 : decode cX8_submit 28 = .ok (.iconst 0, 1) := by decide +kernel
theorem dX8_submit_29 : decode cX8_submit 29 = .ok (.istore 4, 2) := by decide +kernel
theorem dX8_submit_31 : decode cX8_submit 31 = .ok (.iload 4, 2) := by decide +kernel
theorem dX8_submit_33 : decode cX8_submit 33 = .ok (.ifCond .eq 11, 3) := by decide +kernel
theorem dX8_submit_36 : decode cX8_submit 36 = .ok (.aload_n 0, 1) := by decide +kernel
theorem dX8_submit_37 : decode cX8_submit 37 = .ok (.iload_n 2, 1) := by decide +kernel
theorem dX8_submit_38 : decode cX8_submit 38 = .ok (.sipush 500, 3) := by decide +kernel
theorem dX8_submit_41 : decode cX8_submit 41 = .ok (.invokevirtual 184, 3) := by decide +kernel
theorem dX8_submit_44 : decode cX8_submit 44 = .ok (.aload_n 0, 1) := by decide +kernel
theorem dX8_submit_45 : decode cX8_submit 45 = .ok (.iload 4, 2) := by decide +kernel
theorem dX8_submit_47 : decode cX8_submit 47 = .ok (.ifCond .ne 7, 3) := by decide +kernel
theorem dX8_submit_50 : decode cX8_submit 50 = .ok (.iconst 1, 1) := by decide +kernel
theorem dX8_submit_51 : decode cX8_submit 51 = .ok (.goto 44, 3) := by decide +kernel
theorem dX8_submit_54 : decode cX8_submit 54 = .ok (.aload_n 0, 1) := by decide +kernel
theorem dX8_submit_55 : decode cX8_submit 55 = .ok (.getfield 16, 3) := by decide +kernel
theorem dX8_submit_58 : decode cX8_submit 58 = .ok (.iload_n 2, 1) := by decide +kernel
theorem dX8_submit_59 : decode cX8_submit 59 = .ok (.iaload, 1) := by decide +kernel
theorem dX8_submit_60 : decode cX8_submit 60 = .ok (.aload_n 0, 1) := by decide +kernel
theorem dX8_submit_61 : decode cX8_submit 61 = .ok (.getfield 34, 3) := by decide +kernel
theorem dX8_submit_64 : decode cX8_submit 64 = .ok (.iload_n 3, 1) := by decide +kernel
theorem dX8_submit_65 : decode cX8_submit 65 = .ok (.iaload, 1) := by decide +kernel
theorem dX8_submit_66 : decode cX8_submit 66 = .ok (.if_icmp .eq 7, 3) := by decide +kernel
theorem dX8_submit_69 : decode cX8_submit 69 = .ok (.iconst 2, 1) := by decide +kernel
theorem dX8_submit_70 : decode cX8_submit 70 = .ok (.goto 25, 3) := by decide +kernel
theorem dX8_submit_73 : decode cX8_submit 73 = .ok (.aload_n 0, 1) := by decide +kernel
theorem dX8_submit_74 : decode cX8_submit 74 = .ok (.getfield 144, 3) := by decide +kernel
theorem dX8_submit_77 : decode cX8_submit 77 = .ok (.iconst 1, 1) := by decide +kernel
theorem dX8_submit_78 : decode cX8_submit 78 = .ok (.if_icmp .ne 12, 3) := by decide +kernel
theorem dX8_submit_81 : decode cX8_submit 81 = .ok (.aload_n 0, 1) := by decide +kernel
theorem dX8_submit_82 : decode cX8_submit 82 = .ok (.getfield 105, 3) := by decide +kernel
theorem dX8_submit_85 : decode cX8_submit 85 = .ok (.bipush 40, 2) := by decide +kernel
theorem dX8_submit_87 : decode cX8_submit 87 = .ok (.if_icmp .ne 7, 3) := by decide +kernel
theorem dX8_submit_90 : decode cX8_submit 90 = .ok (.iconst 3, 1) := by decide +kernel
theorem dX8_submit_91 : decode cX8_submit 91 = .ok (.goto 4, 3) := by decide +kernel
theorem dX8_submit_94 : decode cX8_submit 94 = .ok (.iconst 0, 1) := by decide +kernel
theorem dX8_submit_95 : decode cX8_submit 95 = .ok (.invokevirtual 171, 3) := by decide +kernel
theorem dX8_submit_98 : decode cX8_submit 98 = .ok (.ifCond .eq 5, 3) := by decide +kernel
theorem dX8_submit_101 : decode cX8_submit 101 = .ok (.iconst (-1), 1) := by decide +kernel
theorem dX8_submit_102 : decode cX8_submit 102 = .ok (.ireturn, 1) := by decide +kernel
theorem dX8_submit_103 : decode cX8_submit 103 = .ok (.aload_n 0, 1) := by decide +kernel
theorem dX8_submit_104 : decode cX8_submit 104 = .ok (.getfield 25, 3) := by decide +kernel
theorem dX8_submit_107 : decode cX8_submit 107 = .ok (.iload_n 2, 1) := by decide +kernel
theorem dX8_submit_108 : decode cX8_submit 108 = .ok (.iconst 1, 1) := by decide +kernel
theorem dX8_submit_109 : decode cX8_submit 109 = .ok (.iastore, 1) := by decide +kernel
theorem dX8_submit_110 : decode cX8_submit 110 = .ok (.aload_n 0, 1) := by decide +kernel
theorem dX8_submit_111 : decode cX8_submit 111 = .ok (.getfield 52, 3) := by decide +kernel
theorem dX8_submit_114 : decode cX8_submit 114 = .ok (.aload_n 0, 1) := by decide +kernel
theorem dX8_submit_115 : decode cX8_submit 115 = .ok (.getfield 105, 3) := by decide +kernel
theorem dX8_submit_118 : decode cX8_submit 118 = .ok (.iload_n 2, 1) := by decide +kernel
theorem dX8_submit_119 : decode cX8_submit 119 = .ok (.iastore, 1) := by decide +kernel
theorem dX8_submit_120 : decode cX8_submit 120 = .ok (.aload_n 0, 1) := by decide +kernel
theorem dX8_submit_121 : decode cX8_submit 121 = .ok (.getfield 55, 3) := by decide +kernel
theorem dX8_submit_124 : decode cX8_submit 124 = .ok (.aload_n 0, 1) := by decide +kernel
theorem dX8_submit_125 : decode cX8_submit 125 = .ok (.getfield 105, 3) := by decide +kernel
theorem dX8_submit_128 : decode cX8_submit 128 = .ok (.iload_n 1, 1) := by decide +kernel
theorem dX8_submit_129 : decode cX8_submit 129 = .ok (.iastore, 1) := by decide +kernel
theorem dX8_submit_130 : decode cX8_submit 130 = .ok (.aload_n 0, 1) := by decide +kernel
theorem dX8_submit_131 : decode cX8_submit 131 = .ok (.getfield 58, 3) := by decide +kernel
theorem dX8_submit_134 : decode cX8_submit 134 = .ok (.aload_n 0, 1) := by decide +kernel
theorem dX8_submit_135 : decode cX8_submit 135 = .ok (.getfield 105, 3) := by decide +kernel
theorem dX8_submit_138 : decode cX8_submit 138 = .ok (.iload_n 3, 1) := by decide +kernel
theorem dX8_submit_139 : decode cX8_submit 139 = .ok (.iastore, 1) := by decide +kernel
theorem dX8_submit_140 : decode cX8_submit 140 = .ok (.aload_n 0, 1) := by decide +kernel
theorem dX8_submit_141 : decode cX8_submit 141 = .ok (.getfield 61, 3) := by decide +kernel
theorem dX8_submit_144 : decode cX8_submit 144 = .ok (.aload_n 0, 1) := by decide +kernel
theorem dX8_submit_145 : decode cX8_submit 145 = .ok (.getfield 105, 3) := by decide +kernel
theorem dX8_submit_148 : decode cX8_submit 148 = .ok (.aload_n 0, 1) := by decide +kernel
theorem dX8_submit_149 : decode cX8_submit 149 = .ok (.getfield 200, 3) := by decide +kernel
theorem dX8_submit_152 : decode cX8_submit 152 = .ok (.iastore, 1) := by decide +kernel
theorem dX8_submit_153 : decode cX8_submit 153 = .ok (.aload_n 0, 1) := by decide +kernel
theorem dX8_submit_154 : decode cX8_submit 154 = .ok (.getfield 67, 3) := by decide +kernel
theorem dX8_submit_157 : decode cX8_submit 157 = .ok (.aload_n 0, 1) := by decide +kernel
theorem dX8_submit_158 : decode cX8_submit 158 = .ok (.getfield 105, 3) := by decide +kernel
theorem dX8_submit_161 : decode cX8_submit 161 = .ok (.aload_n 0, 1) := by decide +kernel
theorem dX8_submit_162 : decode cX8_submit 162 = .ok (.getfield 141, 3) := by decide +kernel
theorem dX8_submit_165 : decode cX8_submit 165 = .ok (.iastore, 1) := by decide +kernel
theorem dX8_submit_166 : decode cX8_submit 166 = .ok (.aload_n 0, 1) := by decide +kernel
theorem dX8_submit_167 : decode cX8_submit 167 = .ok (.getfield 70, 3) := by decide +kernel
theorem dX8_submit_170 : decode cX8_submit 170 = .ok (.aload_n 0, 1) := by decide +kernel
theorem dX8_submit_171 : decode cX8_submit 171 = .ok (.getfield 105, 3) := by decide +kernel
theorem dX8_submit_174 : decode cX8_submit 174 = .ok (.aload_n 0, 1) := by decide +kernel
theorem dX8_submit_175 : decode cX8_submit 175 = .ok (.invokevirtual 187, 3) := by decide +kernel
theorem dX8_submit_178 : decode cX8_submit 178 = .ok (.iastore, 1) := by decide +kernel
theorem dX8_submit_179 : decode cX8_submit 179 = .ok (.aload_n 0, 1) := by decide +kernel
theorem dX8_submit_180 : decode cX8_submit 180 = .ok (.getfield 73, 3) := by decide +kernel
theorem dX8_submit_183 : decode cX8_submit 183 = .ok (.aload_n 0, 1) := by decide +kernel
theorem dX8_submit_184 : decode cX8_submit 184 = .ok (.getfield 105, 3) := by decide +kernel
theorem dX8_submit_187 : decode cX8_submit 187 = .ok (.aload_n 0, 1) := by decide +kernel
theorem dX8_submit_188 : decode cX8_submit 188 = .ok (.getfield 135, 3) := by decide +kernel
theorem dX8_submit_191 : decode cX8_submit 191 = .ok (.iastore, 1) := by decide +kernel
theorem dX8_submit_192 : decode cX8_submit 192 = .ok (.aload_n 0, 1) := by decide +kernel
theorem dX8_submit_193 : decode cX8_submit 193 = .ok (.getfield 76, 3) := by decide +kernel
theorem dX8_submit_196 : decode cX8_submit 196 = .ok (.aload_n 0, 1) := by decide +kernel
theorem dX8_submit_197 : decode cX8_submit 197 = .ok (.getfield 105, 3) := by decide +kernel
theorem dX8_submit_200 : decode cX8_submit 200 = .ok (.aload_n 0, 1) := by decide +kernel
theorem dX8_submit_201 : decode cX8_submit 201 = .ok (.getfield 138, 3) := by decide +kernel
theorem dX8_submit_204 : decode cX8_submit 204 = .ok (.iastore, 1) := by decide +kernel
theorem dX8_submit_205 : decode cX8_submit 205 = .ok (.aload_n 0, 1) := by decide +kernel
theorem dX8_submit_206 : decode cX8_submit 206 = .ok (.dup, 1) := by decide +kernel
theorem dX8_submit_207 : decode cX8_submit 207 = .ok (.getfield 105, 3) := by decide +kernel
theorem dX8_submit_210 : decode cX8_submit 210 = .ok (.iconst 1, 1) := by decide +kernel
theorem dX8_submit_211 : decode cX8_submit 211 = .ok (.iadd, 1) := by decide +kernel
theorem dX8_submit_212 : decode cX8_submit 212 = .ok (.putfield 105, 3) := by decide +kernel
theorem dX8_submit_215 : decode cX8_submit 215 = .ok (.aload_n 0, 1) := by decide +kernel
theorem dX8_submit_216 : decode cX8_submit 216 = .ok (.getfield 105, 3) := by decide +kernel
theorem dX8_submit_219 : decode cX8_submit 219 = .ok (.iconst 1, 1) := by decide +kernel
theorem dX8_submit_220 : decode cX8_submit 220 = .ok (.isub, 1) := by decide +kernel
theorem dX8_submit_221 : decode cX8_submit 221 = .ok (.ireturn, 1) := by decide +kernel
theorem dX8_judged_0 : decode cX8_judged 0 = .ok (.aload_n 0, 1) := by decide +kernel
theorem dX8_judged_1 : decode cX8_judged 1 = .ok (.aload_n 0, 1) := by decide +kernel
theorem dX8_judged_2 : decode cX8_judged 2 = .ok (.iload_n 1, 1) := by decide +kernel
theorem dX8_judged_3 : decode cX8_judged 3 = .ok (.invokevirtual 206, 3) := by decide +kernel
theorem dX8_judged_6 : decode cX8_judged 6 = .ok (.ifCond .eq 7, 3) := by decide +kernel
theorem dX8_judged_9 : decode cX8_judged 9 = .ok (.iconst 0, 1) := by decide +kernel
theorem dX8_judged_10 : decode cX8_judged 10 = .ok (.goto 4, 3) := by decide +kernel
theorem dX8_judged_13 : decode cX8_judged 13 = .ok (.iconst 1, 1) := by decide +kernel
theorem dX8_judged_14 : decode cX8_judged 14 = .ok (.invokevirtual 171, 3) := by decide +kernel
theorem dX8_judged_17 : decode cX8_judged 17 = .ok (.ifCond .eq 7, 3) := by decide +kernel
theorem dX8_judged_20 : decode cX8_judged 20 = .ok (.iconst (-1), 1) := by decide +kernel
theorem dX8_judged_21 : decode cX8_judged 21 = .ok (.goto 25, 3) := by decide +kernel
theorem dX8_judged_24 : decode cX8_judged 24 = .ok (.aload_n 0, 1) := by decide +kernel
theorem dX8_judged_25 : decode cX8_judged 25 = .ok (.iload_n 1, 1) := by decide +kernel
theorem dX8_judged_26 : decode cX8_judged 26 = .ok (.invokevirtual 194, 3) := by decide +kernel
theorem dX8_judged_29 : decode cX8_judged 29 = .ok (.ifCond .eq 7, 3) := by decide +kernel
theorem dX8_judged_32 : decode cX8_judged 32 = .ok (.iconst 1, 1) := by decide +kernel
theorem dX8_judged_33 : decode cX8_judged 33 = .ok (.goto 4, 3) := by decide +kernel
theorem dX8_judged_36 : decode cX8_judged 36 = .ok (.iconst 0, 1) := by decide +kernel
theorem dX8_judged_37 : decode cX8_judged 37 = .ok (.iconst 2, 1) := by decide +kernel
theorem dX8_judged_38 : decode cX8_judged 38 = .ok (.aload_n 0, 1) := by decide +kernel
theorem dX8_judged_39 : decode cX8_judged 39 = .ok (.getfield 64, 3) := by decide +kernel
theorem dX8_judged_42 : decode cX8_judged 42 = .ok (.iload_n 1, 1) := by decide +kernel
theorem dX8_judged_43 : decode cX8_judged 43 = .ok (.iaload, 1) := by decide +kernel
theorem dX8_judged_44 : decode cX8_judged 44 = .ok (.imul, 1) := by decide +kernel
theorem dX8_judged_45 : decode cX8_judged 45 = .ok (.iadd, 1) := by decide +kernel
theorem dX8_judged_46 : decode cX8_judged 46 = .ok (.ireturn, 1) := by decide +kernel
theorem dX8_strike_0 : decode cX8_strike 0 = .ok (.aload_n 0, 1) := by decide +kernel
theorem dX8_strike_1 : decode cX8_strike 1 = .ok (.aload_n 0, 1) := by decide +kernel
theorem dX8_strike_2 : decode cX8_strike 2 = .ok (.iload_n 1, 1) := by decide +kernel
theorem dX8_strike_3 : decode cX8_strike 3 = .ok (.invokevirtual 206, 3) := by decide +kernel
theorem dX8_strike_6 : decode cX8_strike 6 = .ok (.ifCond .eq 7, 3) := by decide +kernel
theorem dX8_strike_9 : decode cX8_strike 9 = .ok (.iconst 0, 1) := by decide +kernel
theorem dX8_strike_10 : decode cX8_strike 10 = .ok (.goto 4, 3) := by decide +kernel
theorem dX8_strike_13 : decode cX8_strike 13 = .ok (.iconst 1, 1) := by decide +kernel
theorem dX8_strike_14 : decode cX8_strike 14 = .ok (.invokevirtual 171, 3) := by decide +kernel
theorem dX8_strike_17 : decode cX8_strike 17 = .ok (.ifCond .eq 5, 3) := by decide +kernel
theorem dX8_strike_20 : decode cX8_strike 20 = .ok (.iconst 0, 1) := by decide +kernel
theorem dX8_strike_21 : decode cX8_strike 21 = .ok (.ireturn, 1) := by decide +kernel
theorem dX8_strike_22 : decode cX8_strike 22 = .ok (.aload_n 0, 1) := by decide +kernel
theorem dX8_strike_23 : decode cX8_strike 23 = .ok (.getfield 64, 3) := by decide +kernel
theorem dX8_strike_26 : decode cX8_strike 26 = .ok (.iload_n 1, 1) := by decide +kernel
theorem dX8_strike_27 : decode cX8_strike 27 = .ok (.iconst 1, 1) := by decide +kernel
theorem dX8_strike_28 : decode cX8_strike 28 = .ok (.aload_n 0, 1) := by decide +kernel
theorem dX8_strike_29 : decode cX8_strike 29 = .ok (.getfield 64, 3) := by decide +kernel
theorem dX8_strike_32 : decode cX8_strike 32 = .ok (.iload_n 1, 1) := by decide +kernel
theorem dX8_strike_33 : decode cX8_strike 33 = .ok (.iaload, 1) := by decide +kernel
theorem dX8_strike_34 : decode cX8_strike 34 = .ok (.isub, 1) := by decide +kernel
theorem dX8_strike_35 : decode cX8_strike 35 = .ok (.iastore, 1) := by decide +kernel
theorem dX8_strike_36 : decode cX8_strike 36 = .ok (.aload_n 0, 1) := by decide +kernel
theorem dX8_strike_37 : decode cX8_strike 37 = .ok (.getfield 64, 3) := by decide +kernel
theorem dX8_strike_40 : decode cX8_strike 40 = .ok (.iload_n 1, 1) := by decide +kernel
theorem dX8_strike_41 : decode cX8_strike 41 = .ok (.iaload, 1) := by decide +kernel
theorem dX8_strike_42 : decode cX8_strike 42 = .ok (.iconst 1, 1) := by decide +kernel
theorem dX8_strike_43 : decode cX8_strike 43 = .ok (.if_icmp .ne 7, 3) := by decide +kernel
theorem dX8_strike_46 : decode cX8_strike 46 = .ok (.iconst 1, 1) := by decide +kernel
theorem dX8_strike_47 : decode cX8_strike 47 = .ok (.goto 4, 3) := by decide +kernel
theorem dX8_strike_50 : decode cX8_strike 50 = .ok (.iconst 0, 1) := by decide +kernel
theorem dX8_strike_51 : decode cX8_strike 51 = .ok (.ireturn, 1) := by decide +kernel
theorem dX8_ahead_0 : decode cX8_ahead 0 = .ok (.aload_n 0, 1) := by decide +kernel
theorem dX8_ahead_1 : decode cX8_ahead 1 = .ok (.getfield 67, 3) := by decide +kernel
theorem dX8_ahead_4 : decode cX8_ahead 4 = .ok (.iload_n 1, 1) := by decide +kernel
theorem dX8_ahead_5 : decode cX8_ahead 5 = .ok (.iaload, 1) := by decide +kernel
theorem dX8_ahead_6 : decode cX8_ahead 6 = .ok (.aload_n 0, 1) := by decide +kernel
theorem dX8_ahead_7 : decode cX8_ahead 7 = .ok (.getfield 67, 3) := by decide +kernel
theorem dX8_ahead_10 : decode cX8_ahead 10 = .ok (.iload_n 2, 1) := by decide +kernel
theorem dX8_ahead_11 : decode cX8_ahead 11 = .ok (.iaload, 1) := by decide +kernel
theorem dX8_ahead_12 : decode cX8_ahead 12 = .ok (.if_icmp .eq 24, 3) := by decide +kernel
theorem dX8_ahead_15 : decode cX8_ahead 15 = .ok (.aload_n 0, 1) := by decide +kernel
theorem dX8_ahead_16 : decode cX8_ahead 16 = .ok (.getfield 67, 3) := by decide +kernel
theorem dX8_ahead_19 : decode cX8_ahead 19 = .ok (.iload_n 1, 1) := by decide +kernel
theorem dX8_ahead_20 : decode cX8_ahead 20 = .ok (.iaload, 1) := by decide +kernel
theorem dX8_ahead_21 : decode cX8_ahead 21 = .ok (.aload_n 0, 1) := by decide +kernel
theorem dX8_ahead_22 : decode cX8_ahead 22 = .ok (.getfield 67, 3) := by decide +kernel
theorem dX8_ahead_25 : decode cX8_ahead 25 = .ok (.iload_n 2, 1) := by decide +kernel
theorem dX8_ahead_26 : decode cX8_ahead 26 = .ok (.iaload, 1) := by decide +kernel
theorem dX8_ahead_27 : decode cX8_ahead 27 = .ok (.if_icmp .ge 7, 3) := by decide +kernel
theorem dX8_ahead_30 : decode cX8_ahead 30 = .ok (.iconst 1, 1) := by decide +kernel
theorem dX8_ahead_31 : decode cX8_ahead 31 = .ok (.goto 4, 3) := by decide +kernel
theorem dX8_ahead_34 : decode cX8_ahead 34 = .ok (.iconst 0, 1) := by decide +kernel
theorem dX8_ahead_35 : decode cX8_ahead 35 = .ok (.ireturn, 1) := by decide +kernel
theorem dX8_ahead_36 : decode cX8_ahead 36 = .ok (.aload_n 0, 1) := by decide +kernel
theorem dX8_ahead_37 : decode cX8_ahead 37 = .ok (.getfield 61, 3) := by decide +kernel
theorem dX8_ahead_40 : decode cX8_ahead 40 = .ok (.iload_n 1, 1) := by decide +kernel
theorem dX8_ahead_41 : decode cX8_ahead 41 = .ok (.iaload, 1) := by decide +kernel
theorem dX8_ahead_42 : decode cX8_ahead 42 = .ok (.aload_n 0, 1) := by decide +kernel
theorem dX8_ahead_43 : decode cX8_ahead 43 = .ok (.getfield 61, 3) := by decide +kernel
theorem dX8_ahead_46 : decode cX8_ahead 46 = .ok (.iload_n 2, 1) := by decide +kernel
theorem dX8_ahead_47 : decode cX8_ahead 47 = .ok (.iaload, 1) := by decide +kernel
theorem dX8_ahead_48 : decode cX8_ahead 48 = .ok (.if_icmp .ne 16, 3) := by decide +kernel
theorem dX8_ahead_51 : decode cX8_ahead 51 = .ok (.iload_n 1, 1) := by decide +kernel
theorem dX8_ahead_52 : decode cX8_ahead 52 = .ok (.iload_n 2, 1) := by decide +kernel
theorem dX8_ahead_53 : decode cX8_ahead 53 = .ok (.if_icmp .ge 7, 3) := by decide +kernel
theorem dX8_ahead_56 : decode cX8_ahead 56 = .ok (.iconst 1, 1) := by decide +kernel
theorem dX8_ahead_57 : decode cX8_ahead 57 = .ok (.goto 27, 3) := by decide +kernel
theorem dX8_ahead_60 : decode cX8_ahead 60 = .ok (.iconst 0, 1) := by decide +kernel
theorem dX8_ahead_61 : decode cX8_ahead 61 = .ok (.goto 23, 3) := by decide +kernel
theorem dX8_ahead_64 : decode cX8_ahead 64 = .ok (.aload_n 0, 1) := by decide +kernel
theorem dX8_ahead_65 : decode cX8_ahead 65 = .ok (.getfield 61, 3) := by decide +kernel
theorem dX8_ahead_68 : decode cX8_ahead 68 = .ok (.iload_n 1, 1) := by decide +kernel
theorem dX8_ahead_69 : decode cX8_ahead 69 = .ok (.iaload, 1) := by decide +kernel
theorem dX8_ahead_70 : decode cX8_ahead 70 = .ok (.aload_n 0, 1) := by decide +kernel
theorem dX8_ahead_71 : decode cX8_ahead 71 = .ok (.getfield 61, 3) := by decide +kernel
theorem dX8_ahead_74 : decode cX8_ahead 74 = .ok (.iload_n 2, 1) := by decide +kernel
theorem dX8_ahead_75 : decode cX8_ahead 75 = .ok (.iaload, 1) := by decide +kernel
theorem dX8_ahead_76 : decode cX8_ahead 76 = .ok (.if_icmp .ge 7, 3) := by decide +kernel
theorem dX8_ahead_79 : decode cX8_ahead 79 = .ok (.iconst 1, 1) := by decide +kernel
theorem dX8_ahead_80 : decode cX8_ahead 80 = .ok (.goto 4, 3) := by decide +kernel
theorem dX8_ahead_83 : decode cX8_ahead 83 = .ok (.iconst 0, 1) := by decide +kernel
theorem dX8_ahead_84 : decode cX8_ahead 84 = .ok (.ireturn, 1) := by decide +kernel
theorem dX8_top_0 : decode cX8_top 0 = .ok (.iconst (-1), 1) := by decide +kernel
theorem dX8_top_1 : decode cX8_top 1 = .ok (.istore 4, 2) := by decide +kernel
theorem dX8_top_3 : decode cX8_top 3 = .ok (.iconst 0, 1) := by decide +kernel
theorem dX8_top_4 : decode cX8_top 4 = .ok (.istore 5, 2) := by decide +kernel
theorem dX8_top_6 : decode cX8_top 6 = .ok (.iload 5, 2) := by decide +kernel
theorem dX8_top_8 : decode cX8_top 8 = .ok (.aload_n 0, 1) := by decide +kernel
theorem dX8_top_9 : decode cX8_top 9 = .ok (.getfield 105, 3) := by decide +kernel
theorem dX8_top_12 : decode cX8_top 12 = .ok (.if_icmp .ge 83, 3) := by decide +kernel
theorem dX8_top_15 : decode cX8_top 15 = .ok (.iload 5, 2) := by decide +kernel
theorem dX8_top_17 : decode cX8_top 17 = .ok (.iload_n 3, 1) := by decide +kernel
theorem dX8_top_18 : decode cX8_top 18 = .ok (.if_icmp .eq 38, 3) := by decide +kernel
theorem dX8_top_21 : decode cX8_top 21 = .ok (.aload_n 0, 1) := by decide +kernel
theorem dX8_top_22 : decode cX8_top 22 = .ok (.getfield 58, 3) := by decide +kernel
theorem dX8_top_25 : decode cX8_top 25 = .ok (.iload 5, 2) := by decide +kernel
theorem dX8_top_27 : decode cX8_top 27 = .ok (.iaload, 1) := by decide +kernel
theorem dX8_top_28 : decode cX8_top 28 = .ok (.iload_n 1, 1) := by decide +kernel
theorem dX8_top_29 : decode cX8_top 29 = .ok (.if_icmp .ne 27, 3) := by decide +kernel
theorem dX8_top_32 : decode cX8_top 32 = .ok (.aload_n 0, 1) := by decide +kernel
theorem dX8_top_33 : decode cX8_top 33 = .ok (.getfield 55, 3) := by decide +kernel
theorem dX8_top_36 : decode cX8_top 36 = .ok (.iload 5, 2) := by decide +kernel
theorem dX8_top_38 : decode cX8_top 38 = .ok (.iaload, 1) := by decide +kernel
theorem dX8_top_39 : decode cX8_top 39 = .ok (.iload_n 2, 1) := by decide +kernel
theorem dX8_top_40 : decode cX8_top 40 = .ok (.if_icmp .ne 16, 3) := by decide +kernel
theorem dX8_top_43 : decode cX8_top 43 = .ok (.aload_n 0, 1) := by decide +kernel
theorem dX8_top_44 : decode cX8_top 44 = .ok (.iload 5, 2) := by decide +kernel
theorem dX8_top_46 : decode cX8_top 46 = .ok (.invokevirtual 209, 3) := by decide +kernel
theorem dX8_top_49 : decode cX8_top 49 = .ok (.ifCond .eq 7, 3) := by decide +kernel
theorem dX8_top_52 : decode cX8_top 52 = .ok (.iconst 1, 1) := by decide +kernel
theorem dX8_top_53 : decode cX8_top 53 = .ok (.goto 4, 3) := by decide +kernel
theorem dX8_top_56 : decode cX8_top 56 = .ok (.iconst 0, 1) := by decide +kernel
theorem dX8_top_57 : decode cX8_top 57 = .ok (.istore 6, 2) := by decide +kernel
theorem dX8_top_59 : decode cX8_top 59 = .ok (.iload 6, 2) := by decide +kernel
theorem dX8_top_61 : decode cX8_top 61 = .ok (.ifCond .eq 24, 3) := by decide +kernel
theorem dX8_top_64 : decode cX8_top 64 = .ok (.iload 4, 2) := by decide +kernel
theorem dX8_top_66 : decode cX8_top 66 = .ok (.ifCond .lt 14, 3) := by decide +kernel
theorem dX8_top_69 : decode cX8_top 69 = .ok (.aload_n 0, 1) := by decide +kernel
theorem dX8_top_70 : decode cX8_top 70 = .ok (.iload 5, 2) := by decide +kernel
theorem dX8_top_72 : decode cX8_top 72 = .ok (.iload 4, 2) := by decide +kernel
theorem dX8_top_74 : decode cX8_top 74 = .ok (.invokevirtual 212, 3) := by decide +kernel
theorem dX8_top_77 : decode cX8_top 77 = .ok (.ifCond .eq 8, 3) := by decide +kernel
theorem dX8_top_80 : decode cX8_top 80 = .ok (.iload 5, 2) := by decide +kernel
theorem dX8_top_82 : decode cX8_top 82 = .ok (.goto 5, 3) := by decide +kernel
theorem dX8_top_85 : decode cX8_top 85 = .ok (.iload 4, 2) := by decide +kernel
theorem dX8_top_87 : decode cX8_top 87 = .ok (.istore 4, 2) := by decide +kernel
theorem dX8_top_89 : decode cX8_top 89 = .ok (.iinc 5 1, 3) := by decide +kernel
theorem dX8_top_92 : decode cX8_top 92 = .ok (.goto (-86), 3) := by decide +kernel
theorem dX8_top_95 : decode cX8_top 95 = .ok (.iload 4, 2) := by decide +kernel
theorem dX8_top_97 : decode cX8_top 97 = .ok (.ireturn, 1) := by decide +kernel
theorem dX8_isPair_0 : decode cX8_isPair 0 = .ok (.aload_n 0, 1) := by decide +kernel
theorem dX8_isPair_1 : decode cX8_isPair 1 = .ok (.iload_n 1, 1) := by decide +kernel
theorem dX8_isPair_2 : decode cX8_isPair 2 = .ok (.invokevirtual 197, 3) := by decide +kernel
theorem dX8_isPair_5 : decode cX8_isPair 5 = .ok (.ifCond .eq 15, 3) := by decide +kernel
theorem dX8_isPair_8 : decode cX8_isPair 8 = .ok (.aload_n 0, 1) := by decide +kernel
theorem dX8_isPair_9 : decode cX8_isPair 9 = .ok (.iload_n 2, 1) := by decide +kernel
theorem dX8_isPair_10 : decode cX8_isPair 10 = .ok (.invokevirtual 203, 3) := by decide +kernel
theorem dX8_isPair_13 : decode cX8_isPair 13 = .ok (.ifCond .eq 7, 3) := by decide +kernel
theorem dX8_isPair_16 : decode cX8_isPair 16 = .ok (.iconst 1, 1) := by decide +kernel
theorem dX8_isPair_17 : decode cX8_isPair 17 = .ok (.goto 4, 3) := by decide +kernel
theorem dX8_isPair_20 : decode cX8_isPair 20 = .ok (.iconst 0, 1) := by decide +kernel
theorem dX8_isPair_21 : decode cX8_isPair 21 = .ok (.ireturn, 1) := by decide +kernel
theorem dX8_best_0 : decode cX8_best 0 = .ok (.aload_n 0, 1) := by decide +kernel
theorem dX8_best_1 : decode cX8_best 1 = .ok (.aload_n 0, 1) := by decide +kernel
theorem dX8_best_2 : decode cX8_best 2 = .ok (.iload_n 1, 1) := by decide +kernel
theorem dX8_best_3 : decode cX8_best 3 = .ok (.iload_n 2, 1) := by decide +kernel
theorem dX8_best_4 : decode cX8_best 4 = .ok (.invokevirtual 215, 3) := by decide +kernel
theorem dX8_best_7 : decode cX8_best 7 = .ok (.ifCond .eq 7, 3) := by decide +kernel
theorem dX8_best_10 : decode cX8_best 10 = .ok (.iconst 0, 1) := by decide +kernel
theorem dX8_best_11 : decode cX8_best 11 = .ok (.goto 4, 3) := by decide +kernel
theorem dX8_best_14 : decode cX8_best 14 = .ok (.iconst 1, 1) := by decide +kernel
theorem dX8_best_15 : decode cX8_best 15 = .ok (.invokevirtual 171, 3) := by decide +kernel
theorem dX8_best_18 : decode cX8_best 18 = .ok (.ifCond .eq 7, 3) := by decide +kernel
theorem dX8_best_21 : decode cX8_best 21 = .ok (.iconst (-1), 1) := by decide +kernel
theorem dX8_best_22 : decode cX8_best 22 = .ok (.goto 10, 3) := by decide +kernel
theorem dX8_best_25 : decode cX8_best 25 = .ok (.aload_n 0, 1) := by decide +kernel
theorem dX8_best_26 : decode cX8_best 26 = .ok (.iload_n 1, 1) := by decide +kernel
theorem dX8_best_27 : decode cX8_best 27 = .ok (.iload_n 2, 1) := by decide +kernel
theorem dX8_best_28 : decode cX8_best 28 = .ok (.iconst (-1), 1) := by decide +kernel
theorem dX8_best_29 : decode cX8_best 29 = .ok (.invokevirtual 218, 3) := by decide +kernel
theorem dX8_best_32 : decode cX8_best 32 = .ok (.ireturn, 1) := by decide +kernel
theorem dX8_bestAnew_0 : decode cX8_bestAnew 0 = .ok (.aload_n 0, 1) := by decide +kernel
theorem dX8_bestAnew_1 : decode cX8_bestAnew 1 = .ok (.aload_n 0, 1) := by decide +kernel
theorem dX8_bestAnew_2 : decode cX8_bestAnew 2 = .ok (.iload_n 1, 1) := by decide +kernel
theorem dX8_bestAnew_3 : decode cX8_bestAnew 3 = .ok (.iload_n 2, 1) := by decide +kernel
theorem dX8_bestAnew_4 : decode cX8_bestAnew 4 = .ok (.invokevirtual 215, 3) := by decide +kernel
theorem dX8_bestAnew_7 : decode cX8_bestAnew 7 = .ok (.ifCond .eq 7, 3) := by decide +kernel
theorem dX8_bestAnew_10 : decode cX8_bestAnew 10 = .ok (.iconst 0, 1) := by decide +kernel
theorem dX8_bestAnew_11 : decode cX8_bestAnew 11 = .ok (.goto 4, 3) := by decide +kernel
theorem dX8_bestAnew_14 : decode cX8_bestAnew 14 = .ok (.iconst 1, 1) := by decide +kernel
theorem dX8_bestAnew_15 : decode cX8_bestAnew 15 = .ok (.invokevirtual 171, 3) := by decide +kernel
theorem dX8_bestAnew_18 : decode cX8_bestAnew 18 = .ok (.ifCond .eq 5, 3) := by decide +kernel
theorem dX8_bestAnew_21 : decode cX8_bestAnew 21 = .ok (.iconst (-1), 1) := by decide +kernel
theorem dX8_bestAnew_22 : decode cX8_bestAnew 22 = .ok (.ireturn, 1) := by decide +kernel
theorem dX8_bestAnew_23 : decode cX8_bestAnew 23 = .ok (.iconst (-1), 1) := by decide +kernel
theorem dX8_bestAnew_24 : decode cX8_bestAnew 24 = .ok (.istore_n 3, 1) := by decide +kernel
theorem dX8_bestAnew_25 : decode cX8_bestAnew 25 = .ok (.iconst 0, 1) := by decide +kernel
theorem dX8_bestAnew_26 : decode cX8_bestAnew 26 = .ok (.istore 4, 2) := by decide +kernel
theorem dX8_bestAnew_28 : decode cX8_bestAnew 28 = .ok (.iconst 0, 1) := by decide +kernel
theorem dX8_bestAnew_29 : decode cX8_bestAnew 29 = .ok (.istore 5, 2) := by decide +kernel
theorem dX8_bestAnew_31 : decode cX8_bestAnew 31 = .ok (.iload 5, 2) := by decide +kernel
theorem dX8_bestAnew_33 : decode cX8_bestAnew 33 = .ok (.aload_n 0, 1) := by decide +kernel
theorem dX8_bestAnew_34 : decode cX8_bestAnew 34 = .ok (.getfield 105, 3) := by decide +kernel
theorem dX8_bestAnew_37 : decode cX8_bestAnew 37 = .ok (.if_icmp .ge 91, 3) := by decide +kernel
theorem dX8_bestAnew_40 : decode cX8_bestAnew 40 = .ok (.aload_n 0, 1) := by decide +kernel
theorem dX8_bestAnew_41 : decode cX8_bestAnew 41 = .ok (.getfield 58, 3) := by decide +kernel
theorem dX8_bestAnew_44 : decode cX8_bestAnew 44 = .ok (.iload 5, 2) := by decide +kernel
theorem dX8_bestAnew_46 : decode cX8_bestAnew 46 = .ok (.iaload, 1) := by decide +kernel
theorem dX8_bestAnew_47 : decode cX8_bestAnew 47 = .ok (.iload_n 1, 1) := by decide +kernel
theorem dX8_bestAnew_48 : decode cX8_bestAnew 48 = .ok (.if_icmp .ne 74, 3) := by decide +kernel
theorem dX8_bestAnew_51 : decode cX8_bestAnew 51 = .ok (.aload_n 0, 1) := by decide +kernel
theorem dX8_bestAnew_52 : decode cX8_bestAnew 52 = .ok (.getfield 55, 3) := by decide +kernel
theorem dX8_bestAnew_55 : decode cX8_bestAnew 55 = .ok (.iload 5, 2) := by decide +kernel
theorem dX8_bestAnew_57 : decode cX8_bestAnew 57 = .ok (.iaload, 1) := by decide +kernel
theorem dX8_bestAnew_58 : decode cX8_bestAnew 58 = .ok (.iload_n 2, 1) := by decide +kernel
theorem dX8_bestAnew_59 : decode cX8_bestAnew 59 = .ok (.if_icmp .ne 63, 3) := by decide +kernel
theorem dX8_bestAnew_62 : decode cX8_bestAnew 62 = .ok (.aload_n 0, 1) := by decide +kernel
theorem dX8_bestAnew_63 : decode cX8_bestAnew 63 = .ok (.iload 5, 2) := by decide +kernel
theorem dX8_bestAnew_65 : decode cX8_bestAnew 65 = .ok (.invokevirtual 209, 3) := by decide +kernel
theorem dX8_bestAnew_68 : decode cX8_bestAnew 68 = .ok (.ifCond .eq 54, 3) := by decide +kernel
theorem dX8_bestAnew_71 : decode cX8_bestAnew 71 = .ok (.aload_n 0, 1) := by decide +kernel
theorem dX8_bestAnew_72 : decode cX8_bestAnew 72 = .ok (.aload_n 0, 1) := by decide +kernel
theorem dX8_bestAnew_73 : decode cX8_bestAnew 73 = .ok (.getfield 52, 3) := by decide +kernel
theorem dX8_bestAnew_76 : decode cX8_bestAnew 76 = .ok (.iload 5, 2) := by decide +kernel
theorem dX8_bestAnew_78 : decode cX8_bestAnew 78 = .ok (.iaload, 1) := by decide +kernel
theorem dX8_bestAnew_79 : decode cX8_bestAnew 79 = .ok (.sipush 500, 3) := by decide +kernel
theorem dX8_bestAnew_82 : decode cX8_bestAnew 82 = .ok (.invokevirtual 184, 3) := by decide +kernel
theorem dX8_bestAnew_85 : decode cX8_bestAnew 85 = .ok (.iload_n 3, 1) := by decide +kernel
theorem dX8_bestAnew_86 : decode cX8_bestAnew 86 = .ok (.ifCond .lt 12, 3) := by decide +kernel
theorem dX8_bestAnew_89 : decode cX8_bestAnew 89 = .ok (.aload_n 0, 1) := by decide +kernel
theorem dX8_bestAnew_90 : decode cX8_bestAnew 90 = .ok (.getfield 141, 3) := by decide +kernel
theorem dX8_bestAnew_93 : decode cX8_bestAnew 93 = .ok (.iload 4, 2) := by decide +kernel
theorem dX8_bestAnew_95 : decode cX8_bestAnew 95 = .ok (.if_icmp .ge 8, 3) := by decide +kernel
theorem dX8_bestAnew_98 : decode cX8_bestAnew 98 = .ok (.iload 5, 2) := by decide +kernel
theorem dX8_bestAnew_100 : decode cX8_bestAnew 100 = .ok (.goto 4, 3) := by decide +kernel
theorem dX8_bestAnew_103 : decode cX8_bestAnew 103 = .ok (.iload_n 3, 1) := by decide +kernel
theorem dX8_bestAnew_104 : decode cX8_bestAnew 104 = .ok (.istore_n 3, 1) := by decide +kernel
theorem dX8_bestAnew_105 : decode cX8_bestAnew 105 = .ok (.iload_n 3, 1) := by decide +kernel
theorem dX8_bestAnew_106 : decode cX8_bestAnew 106 = .ok (.iload 5, 2) := by decide +kernel
theorem dX8_bestAnew_108 : decode cX8_bestAnew 108 = .ok (.if_icmp .ne 10, 3) := by decide +kernel
theorem dX8_bestAnew_111 : decode cX8_bestAnew 111 = .ok (.aload_n 0, 1) := by decide +kernel
theorem dX8_bestAnew_112 : decode cX8_bestAnew 112 = .ok (.getfield 141, 3) := by decide +kernel
theorem dX8_bestAnew_115 : decode cX8_bestAnew 115 = .ok (.goto 5, 3) := by decide +kernel
theorem dX8_bestAnew_118 : decode cX8_bestAnew 118 = .ok (.iload 4, 2) := by decide +kernel
theorem dX8_bestAnew_120 : decode cX8_bestAnew 120 = .ok (.istore 4, 2) := by decide +kernel
theorem dX8_bestAnew_122 : decode cX8_bestAnew 122 = .ok (.iinc 5 1, 3) := by decide +kernel
theorem dX8_bestAnew_125 : decode cX8_bestAnew 125 = .ok (.goto (-94), 3) := by decide +kernel
theorem dX8_bestAnew_128 : decode cX8_bestAnew 128 = .ok (.iload_n 3, 1) := by decide +kernel
theorem dX8_bestAnew_129 : decode cX8_bestAnew 129 = .ok (.ireturn, 1) := by decide +kernel
theorem dX8_spot_0 : decode cX8_spot 0 = .ok (.aload_n 0, 1) := by decide +kernel
theorem dX8_spot_1 : decode cX8_spot 1 = .ok (.iload_n 1, 1) := by decide +kernel
theorem dX8_spot_2 : decode cX8_spot 2 = .ok (.iload_n 2, 1) := by decide +kernel
theorem dX8_spot_3 : decode cX8_spot 3 = .ok (.iload_n 3, 1) := by decide +kernel
theorem dX8_spot_4 : decode cX8_spot 4 = .ok (.invokevirtual 218, 3) := by decide +kernel
theorem dX8_spot_7 : decode cX8_spot 7 = .ok (.istore 4, 2) := by decide +kernel
theorem dX8_spot_9 : decode cX8_spot 9 = .ok (.iconst 1, 1) := by decide +kernel
theorem dX8_spot_10 : decode cX8_spot 10 = .ok (.istore 5, 2) := by decide +kernel
theorem dX8_spot_12 : decode cX8_spot 12 = .ok (.iconst 0, 1) := by decide +kernel
theorem dX8_spot_13 : decode cX8_spot 13 = .ok (.istore 6, 2) := by decide +kernel
theorem dX8_spot_15 : decode cX8_spot 15 = .ok (.iload 6, 2) := by decide +kernel
theorem dX8_spot_17 : decode cX8_spot 17 = .ok (.bipush 8, 2) := by decide +kernel
theorem dX8_spot_19 : decode cX8_spot 19 = .ok (.if_icmp .ge 56, 3) := by decide +kernel
theorem dX8_spot_22 : decode cX8_spot 22 = .ok (.aload_n 0, 1) := by decide +kernel
theorem dX8_spot_23 : decode cX8_spot 23 = .ok (.iload_n 1, 1) := by decide +kernel
theorem dX8_spot_24 : decode cX8_spot 24 = .ok (.iload 6, 2) := by decide +kernel
theorem dX8_spot_26 : decode cX8_spot 26 = .ok (.iload_n 3, 1) := by decide +kernel
theorem dX8_spot_27 : decode cX8_spot 27 = .ok (.invokevirtual 218, 3) := by decide +kernel
theorem dX8_spot_30 : decode cX8_spot 30 = .ok (.istore 7, 2) := by decide +kernel
theorem dX8_spot_32 : decode cX8_spot 32 = .ok (.iload 5, 2) := by decide +kernel
theorem dX8_spot_34 : decode cX8_spot 34 = .ok (.iload 4, 2) := by decide +kernel
theorem dX8_spot_36 : decode cX8_spot 36 = .ok (.ifCond .lt 29, 3) := by decide +kernel
theorem dX8_spot_39 : decode cX8_spot 39 = .ok (.iload 7, 2) := by decide +kernel
theorem dX8_spot_41 : decode cX8_spot 41 = .ok (.ifCond .lt 24, 3) := by decide +kernel
theorem dX8_spot_44 : decode cX8_spot 44 = .ok (.aload_n 0, 1) := by decide +kernel
theorem dX8_spot_45 : decode cX8_spot 45 = .ok (.getfield 67, 3) := by decide +kernel
theorem dX8_spot_48 : decode cX8_spot 48 = .ok (.iload 7, 2) := by decide +kernel
theorem dX8_spot_50 : decode cX8_spot 50 = .ok (.iaload, 1) := by decide +kernel
theorem dX8_spot_51 : decode cX8_spot 51 = .ok (.aload_n 0, 1) := by decide +kernel
theorem dX8_spot_52 : decode cX8_spot 52 = .ok (.getfield 67, 3) := by decide +kernel
theorem dX8_spot_55 : decode cX8_spot 55 = .ok (.iload 4, 2) := by decide +kernel
theorem dX8_spot_57 : decode cX8_spot 57 = .ok (.iaload, 1) := by decide +kernel
theorem dX8_spot_58 : decode cX8_spot 58 = .ok (.if_icmp .ge 7, 3) := by decide +kernel
theorem dX8_spot_61 : decode cX8_spot 61 = .ok (.iconst 1, 1) := by decide +kernel
theorem dX8_spot_62 : decode cX8_spot 62 = .ok (.goto 4, 3) := by decide +kernel
theorem dX8_spot_65 : decode cX8_spot 65 = .ok (.iconst 0, 1) := by decide +kernel
theorem dX8_spot_66 : decode cX8_spot 66 = .ok (.iadd, 1) := by decide +kernel
theorem dX8_spot_67 : decode cX8_spot 67 = .ok (.istore 5, 2) := by decide +kernel
theorem dX8_spot_69 : decode cX8_spot 69 = .ok (.iinc 6 1, 3) := by decide +kernel
theorem dX8_spot_72 : decode cX8_spot 72 = .ok (.goto (-57), 3) := by decide +kernel
theorem dX8_spot_75 : decode cX8_spot 75 = .ok (.iload 4, 2) := by decide +kernel
theorem dX8_spot_77 : decode cX8_spot 77 = .ok (.ifCond .ge 7, 3) := by decide +kernel
theorem dX8_spot_80 : decode cX8_spot 80 = .ok (.iconst (-1), 1) := by decide +kernel
theorem dX8_spot_81 : decode cX8_spot 81 = .ok (.goto 5, 3) := by decide +kernel
theorem dX8_spot_84 : decode cX8_spot 84 = .ok (.iload 5, 2) := by decide +kernel
theorem dX8_spot_86 : decode cX8_spot 86 = .ok (.ireturn, 1) := by decide +kernel
theorem dX8_place_0 : decode cX8_place 0 = .ok (.aload_n 0, 1) := by decide +kernel
theorem dX8_place_1 : decode cX8_place 1 = .ok (.aload_n 0, 1) := by decide +kernel
theorem dX8_place_2 : decode cX8_place 2 = .ok (.iload_n 1, 1) := by decide +kernel
theorem dX8_place_3 : decode cX8_place 3 = .ok (.iload_n 2, 1) := by decide +kernel
theorem dX8_place_4 : decode cX8_place 4 = .ok (.invokevirtual 215, 3) := by decide +kernel
theorem dX8_place_7 : decode cX8_place 7 = .ok (.ifCond .eq 7, 3) := by decide +kernel
theorem dX8_place_10 : decode cX8_place 10 = .ok (.iconst 0, 1) := by decide +kernel
theorem dX8_place_11 : decode cX8_place 11 = .ok (.goto 4, 3) := by decide +kernel
theorem dX8_place_14 : decode cX8_place 14 = .ok (.iconst 1, 1) := by decide +kernel
theorem dX8_place_15 : decode cX8_place 15 = .ok (.invokevirtual 171, 3) := by decide +kernel
theorem dX8_place_18 : decode cX8_place 18 = .ok (.ifCond .eq 7, 3) := by decide +kernel
theorem dX8_place_21 : decode cX8_place 21 = .ok (.iconst (-1), 1) := by decide +kernel
theorem dX8_place_22 : decode cX8_place 22 = .ok (.goto 10, 3) := by decide +kernel
theorem dX8_place_25 : decode cX8_place 25 = .ok (.aload_n 0, 1) := by decide +kernel
theorem dX8_place_26 : decode cX8_place 26 = .ok (.iload_n 1, 1) := by decide +kernel
theorem dX8_place_27 : decode cX8_place 27 = .ok (.iload_n 2, 1) := by decide +kernel
theorem dX8_place_28 : decode cX8_place 28 = .ok (.iconst (-1), 1) := by decide +kernel
theorem dX8_place_29 : decode cX8_place 29 = .ok (.invokevirtual 222, 3) := by decide +kernel
theorem dX8_place_32 : decode cX8_place 32 = .ok (.ireturn, 1) := by decide +kernel
theorem dX8_at_0 : decode cX8_at 0 = .ok (.iconst (-1), 1) := by decide +kernel
theorem dX8_at_1 : decode cX8_at 1 = .ok (.istore_n 3, 1) := by decide +kernel
theorem dX8_at_2 : decode cX8_at 2 = .ok (.iconst 0, 1) := by decide +kernel
theorem dX8_at_3 : decode cX8_at 3 = .ok (.istore 4, 2) := by decide +kernel
theorem dX8_at_5 : decode cX8_at 5 = .ok (.iload 4, 2) := by decide +kernel
theorem dX8_at_7 : decode cX8_at 7 = .ok (.bipush 8, 2) := by decide +kernel
theorem dX8_at_9 : decode cX8_at 9 = .ok (.if_icmp .ge 105, 3) := by decide +kernel
theorem dX8_at_12 : decode cX8_at 12 = .ok (.aload_n 0, 1) := by decide +kernel
theorem dX8_at_13 : decode cX8_at 13 = .ok (.iload_n 1, 1) := by decide +kernel
theorem dX8_at_14 : decode cX8_at 14 = .ok (.invokevirtual 197, 3) := by decide +kernel
theorem dX8_at_17 : decode cX8_at 17 = .ok (.ifCond .eq 97, 3) := by decide +kernel
theorem dX8_at_20 : decode cX8_at 20 = .ok (.aload_n 0, 1) := by decide +kernel
theorem dX8_at_21 : decode cX8_at 21 = .ok (.iload_n 1, 1) := by decide +kernel
theorem dX8_at_22 : decode cX8_at 22 = .ok (.iload 4, 2) := by decide +kernel
theorem dX8_at_24 : decode cX8_at 24 = .ok (.iconst (-1), 1) := by decide +kernel
theorem dX8_at_25 : decode cX8_at 25 = .ok (.invokevirtual 218, 3) := by decide +kernel
theorem dX8_at_28 : decode cX8_at 28 = .ok (.istore 5, 2) := by decide +kernel
theorem dX8_at_30 : decode cX8_at 30 = .ok (.iconst 0, 1) := by decide +kernel
theorem dX8_at_31 : decode cX8_at 31 = .ok (.istore 6, 2) := by decide +kernel
theorem dX8_at_33 : decode cX8_at 33 = .ok (.iconst 0, 1) := by decide +kernel
theorem dX8_at_34 : decode cX8_at 34 = .ok (.istore 7, 2) := by decide +kernel
theorem dX8_at_36 : decode cX8_at 36 = .ok (.iload 7, 2) := by decide +kernel
theorem dX8_at_38 : decode cX8_at 38 = .ok (.bipush 8, 2) := by decide +kernel
theorem dX8_at_40 : decode cX8_at 40 = .ok (.if_icmp .ge 50, 3) := by decide +kernel
theorem dX8_at_43 : decode cX8_at 43 = .ok (.iload 5, 2) := by decide +kernel
theorem dX8_at_45 : decode cX8_at 45 = .ok (.ifCond .lt 45, 3) := by decide +kernel
theorem dX8_at_48 : decode cX8_at 48 = .ok (.aload_n 0, 1) := by decide +kernel
theorem dX8_at_49 : decode cX8_at 49 = .ok (.iload_n 1, 1) := by decide +kernel
theorem dX8_at_50 : decode cX8_at 50 = .ok (.iload 7, 2) := by decide +kernel
theorem dX8_at_52 : decode cX8_at 52 = .ok (.iconst (-1), 1) := by decide +kernel
theorem dX8_at_53 : decode cX8_at 53 = .ok (.invokevirtual 218, 3) := by decide +kernel
theorem dX8_at_56 : decode cX8_at 56 = .ok (.istore 8, 2) := by decide +kernel
theorem dX8_at_58 : decode cX8_at 58 = .ok (.iload 6, 2) := by decide +kernel
theorem dX8_at_60 : decode cX8_at 60 = .ok (.iload 8, 2) := by decide +kernel
theorem dX8_at_62 : decode cX8_at 62 = .ok (.ifCond .lt 18, 3) := by decide +kernel
theorem dX8_at_65 : decode cX8_at 65 = .ok (.aload_n 0, 1) := by decide +kernel
theorem dX8_at_66 : decode cX8_at 66 = .ok (.iload 8, 2) := by decide +kernel
theorem dX8_at_68 : decode cX8_at 68 = .ok (.iload 5, 2) := by decide +kernel
theorem dX8_at_70 : decode cX8_at 70 = .ok (.invokevirtual 212, 3) := by decide +kernel
theorem dX8_at_73 : decode cX8_at 73 = .ok (.ifCond .eq 7, 3) := by decide +kernel
theorem dX8_at_76 : decode cX8_at 76 = .ok (.iconst 1, 1) := by decide +kernel
theorem dX8_at_77 : decode cX8_at 77 = .ok (.goto 4, 3) := by decide +kernel
theorem dX8_at_80 : decode cX8_at 80 = .ok (.iconst 0, 1) := by decide +kernel
theorem dX8_at_81 : decode cX8_at 81 = .ok (.iadd, 1) := by decide +kernel
theorem dX8_at_82 : decode cX8_at 82 = .ok (.istore 6, 2) := by decide +kernel
theorem dX8_at_84 : decode cX8_at 84 = .ok (.iinc 7 1, 3) := by decide +kernel
theorem dX8_at_87 : decode cX8_at 87 = .ok (.goto (-51), 3) := by decide +kernel
theorem dX8_at_90 : decode cX8_at 90 = .ok (.iload 5, 2) := by decide +kernel
theorem dX8_at_92 : decode cX8_at 92 = .ok (.ifCond .lt 14, 3) := by decide +kernel
theorem dX8_at_95 : decode cX8_at 95 = .ok (.iload 6, 2) := by decide +kernel
theorem dX8_at_97 : decode cX8_at 97 = .ok (.iload_n 2, 1) := by decide +kernel
theorem dX8_at_98 : decode cX8_at 98 = .ok (.if_icmp .ne 8, 3) := by decide +kernel
theorem dX8_at_101 : decode cX8_at 101 = .ok (.iload 5, 2) := by decide +kernel
theorem dX8_at_103 : decode cX8_at 103 = .ok (.goto 4, 3) := by decide +kernel
theorem dX8_at_106 : decode cX8_at 106 = .ok (.iload_n 3, 1) := by decide +kernel
theorem dX8_at_107 : decode cX8_at 107 = .ok (.istore_n 3, 1) := by decide +kernel
theorem dX8_at_108 : decode cX8_at 108 = .ok (.iinc 4 1, 3) := by decide +kernel
theorem dX8_at_111 : decode cX8_at 111 = .ok (.goto (-106), 3) := by decide +kernel
theorem dX8_at_114 : decode cX8_at 114 = .ok (.aload_n 0, 1) := by decide +kernel
theorem dX8_at_115 : decode cX8_at 115 = .ok (.iload_n 3, 1) := by decide +kernel
theorem dX8_at_116 : decode cX8_at 116 = .ok (.ifCond .ge 7, 3) := by decide +kernel
theorem dX8_at_119 : decode cX8_at 119 = .ok (.iconst 1, 1) := by decide +kernel
theorem dX8_at_120 : decode cX8_at 120 = .ok (.goto 4, 3) := by decide +kernel
theorem dX8_at_123 : decode cX8_at 123 = .ok (.iconst 0, 1) := by decide +kernel
theorem dX8_at_124 : decode cX8_at 124 = .ok (.invokevirtual 171, 3) := by decide +kernel
theorem dX8_at_127 : decode cX8_at 127 = .ok (.ifCond .eq 7, 3) := by decide +kernel
theorem dX8_at_130 : decode cX8_at 130 = .ok (.iconst (-1), 1) := by decide +kernel
theorem dX8_at_131 : decode cX8_at 131 = .ok (.goto 4, 3) := by decide +kernel
theorem dX8_at_134 : decode cX8_at 134 = .ok (.iload_n 3, 1) := by decide +kernel
theorem dX8_at_135 : decode cX8_at 135 = .ok (.ireturn, 1) := by decide +kernel
theorem dX8_placeWithout_0 : decode cX8_placeWithout 0 = .ok (.aload_n 0, 1) := by decide +kernel
theorem dX8_placeWithout_1 : decode cX8_placeWithout 1 = .ok (.aload_n 0, 1) := by decide +kernel
theorem dX8_placeWithout_2 : decode cX8_placeWithout 2 = .ok (.iload_n 1, 1) := by decide +kernel
theorem dX8_placeWithout_3 : decode cX8_placeWithout 3 = .ok (.invokevirtual 206, 3) := by decide +kernel
theorem dX8_placeWithout_6 : decode cX8_placeWithout 6 = .ok (.ifCond .eq 7, 3) := by decide +kernel
theorem dX8_placeWithout_9 : decode cX8_placeWithout 9 = .ok (.iconst 0, 1) := by decide +kernel
theorem dX8_placeWithout_10 : decode cX8_placeWithout 10 = .ok (.goto 4, 3) := by decide +kernel
theorem dX8_placeWithout_13 : decode cX8_placeWithout 13 = .ok (.iconst 1, 1) := by decide +kernel
theorem dX8_placeWithout_14 : decode cX8_placeWithout 14 = .ok (.invokevirtual 171, 3) := by decide +kernel
theorem dX8_placeWithout_17 : decode cX8_placeWithout 17 = .ok (.ifCond .eq 7, 3) := by decide +kernel
theorem dX8_placeWithout_20 : decode cX8_placeWithout 20 = .ok (.iconst (-1), 1) := by decide +kernel
theorem dX8_placeWithout_21 : decode cX8_placeWithout 21 = .ok (.goto 20, 3) := by decide +kernel
theorem dX8_placeWithout_24 : decode cX8_placeWithout 24 = .ok (.aload_n 0, 1) := by decide +kernel
theorem dX8_placeWithout_25 : decode cX8_placeWithout 25 = .ok (.aload_n 0, 1) := by decide +kernel
theorem dX8_placeWithout_26 : decode cX8_placeWithout 26 = .ok (.getfield 58, 3) := by decide +kernel
theorem dX8_placeWithout_29 : decode cX8_placeWithout 29 = .ok (.iload_n 1, 1) := by decide +kernel
theorem dX8_placeWithout_30 : decode cX8_placeWithout 30 = .ok (.iaload, 1) := by decide +kernel
theorem dX8_placeWithout_31 : decode cX8_placeWithout 31 = .ok (.aload_n 0, 1) := by decide +kernel
theorem dX8_placeWithout_32 : decode cX8_placeWithout 32 = .ok (.getfield 55, 3) := by decide +kernel
theorem dX8_placeWithout_35 : decode cX8_placeWithout 35 = .ok (.iload_n 1, 1) := by decide +kernel
theorem dX8_placeWithout_36 : decode cX8_placeWithout 36 = .ok (.iaload, 1) := by decide +kernel
theorem dX8_placeWithout_37 : decode cX8_placeWithout 37 = .ok (.iload_n 1, 1) := by decide +kernel
theorem dX8_placeWithout_38 : decode cX8_placeWithout 38 = .ok (.invokevirtual 222, 3) := by decide +kernel
theorem dX8_placeWithout_41 : decode cX8_placeWithout 41 = .ok (.ireturn, 1) := by decide +kernel
theorem dX8_guess_0 : decode cX8_guess 0 = .ok (.iconst 0, 1) := by decide +kernel
theorem dX8_guess_1 : decode cX8_guess 1 = .ok (.istore_n 3, 1) := by decide +kernel
theorem dX8_guess_2 : decode cX8_guess 2 = .ok (.iconst 0, 1) := by decide +kernel
theorem dX8_guess_3 : decode cX8_guess 3 = .ok (.istore 4, 2) := by decide +kernel
theorem dX8_guess_5 : decode cX8_guess 5 = .ok (.aload_n 0, 1) := by decide +kernel
theorem dX8_guess_6 : decode cX8_guess 6 = .ok (.getfield 105, 3) := by decide +kernel
theorem dX8_guess_9 : decode cX8_guess 9 = .ok (.iconst 1, 1) := by decide +kernel
theorem dX8_guess_10 : decode cX8_guess 10 = .ok (.isub, 1) := by decide +kernel
theorem dX8_guess_11 : decode cX8_guess 11 = .ok (.istore 5, 2) := by decide +kernel
theorem dX8_guess_13 : decode cX8_guess 13 = .ok (.iload 5, 2) := by decide +kernel
theorem dX8_guess_15 : decode cX8_guess 15 = .ok (.ifCond .lt 59, 3) := by decide +kernel
theorem dX8_guess_18 : decode cX8_guess 18 = .ok (.iload 4, 2) := by decide +kernel
theorem dX8_guess_20 : decode cX8_guess 20 = .ok (.iconst 3, 1) := by decide +kernel
theorem dX8_guess_21 : decode cX8_guess 21 = .ok (.if_icmp .ge 53, 3) := by decide +kernel
theorem dX8_guess_24 : decode cX8_guess 24 = .ok (.aload_n 0, 1) := by decide +kernel
theorem dX8_guess_25 : decode cX8_guess 25 = .ok (.getfield 58, 3) := by decide +kernel
theorem dX8_guess_28 : decode cX8_guess 28 = .ok (.iload 5, 2) := by decide +kernel
theorem dX8_guess_30 : decode cX8_guess 30 = .ok (.iaload, 1) := by decide +kernel
theorem dX8_guess_31 : decode cX8_guess 31 = .ok (.iload_n 1, 1) := by decide +kernel
theorem dX8_guess_32 : decode cX8_guess 32 = .ok (.if_icmp .ne 36, 3) := by decide +kernel
theorem dX8_guess_35 : decode cX8_guess 35 = .ok (.aload_n 0, 1) := by decide +kernel
theorem dX8_guess_36 : decode cX8_guess 36 = .ok (.getfield 55, 3) := by decide +kernel
theorem dX8_guess_39 : decode cX8_guess 39 = .ok (.iload 5, 2) := by decide +kernel
theorem dX8_guess_41 : decode cX8_guess 41 = .ok (.iaload, 1) := by decide +kernel
theorem dX8_guess_42 : decode cX8_guess 42 = .ok (.iload_n 2, 1) := by decide +kernel
theorem dX8_guess_43 : decode cX8_guess 43 = .ok (.if_icmp .ne 25, 3) := by decide +kernel
theorem dX8_guess_46 : decode cX8_guess 46 = .ok (.aload_n 0, 1) := by decide +kernel
theorem dX8_guess_47 : decode cX8_guess 47 = .ok (.iload 5, 2) := by decide +kernel
theorem dX8_guess_49 : decode cX8_guess 49 = .ok (.invokevirtual 209, 3) := by decide +kernel
theorem dX8_guess_52 : decode cX8_guess 52 = .ok (.ifCond .eq 16, 3) := by decide +kernel
theorem dX8_guess_55 : decode cX8_guess 55 = .ok (.iload_n 3, 1) := by decide +kernel
theorem dX8_guess_56 : decode cX8_guess 56 = .ok (.aload_n 0, 1) := by decide +kernel
theorem dX8_guess_57 : decode cX8_guess 57 = .ok (.getfield 67, 3) := by decide +kernel
theorem dX8_guess_60 : decode cX8_guess 60 = .ok (.iload 5, 2) := by decide +kernel
theorem dX8_guess_62 : decode cX8_guess 62 = .ok (.iaload, 1) := by decide +kernel
theorem dX8_guess_63 : decode cX8_guess 63 = .ok (.iadd, 1) := by decide +kernel
theorem dX8_guess_64 : decode cX8_guess 64 = .ok (.istore_n 3, 1) := by decide +kernel
theorem dX8_guess_65 : decode cX8_guess 65 = .ok (.iinc 4 1, 3) := by decide +kernel
theorem dX8_guess_68 : decode cX8_guess 68 = .ok (.iinc 5 (-1), 3) := by decide +kernel
theorem dX8_guess_71 : decode cX8_guess 71 = .ok (.goto (-58), 3) := by decide +kernel
theorem dX8_guess_74 : decode cX8_guess 74 = .ok (.iload 4, 2) := by decide +kernel
theorem dX8_guess_76 : decode cX8_guess 76 = .ok (.ifCond .ne 7, 3) := by decide +kernel
theorem dX8_guess_79 : decode cX8_guess 79 = .ok (.iconst (-1), 1) := by decide +kernel
theorem dX8_guess_80 : decode cX8_guess 80 = .ok (.goto 21, 3) := by decide +kernel
theorem dX8_guess_83 : decode cX8_guess 83 = .ok (.bipush 11, 2) := by decide +kernel
theorem dX8_guess_85 : decode cX8_guess 85 = .ok (.iload_n 3, 1) := by decide +kernel
theorem dX8_guess_86 : decode cX8_guess 86 = .ok (.imul, 1) := by decide +kernel
theorem dX8_guess_87 : decode cX8_guess 87 = .ok (.bipush 10, 2) := by decide +kernel
theorem dX8_guess_89 : decode cX8_guess 89 = .ok (.iload 4, 2) := by decide +kernel
theorem dX8_guess_91 : decode cX8_guess 91 = .ok (.imul, 1) := by decide +kernel
theorem dX8_guess_92 : decode cX8_guess 92 = .ok (.iadd, 1) := by decide +kernel
theorem dX8_guess_93 : decode cX8_guess 93 = .ok (.iconst 1, 1) := by decide +kernel
theorem dX8_guess_94 : decode cX8_guess 94 = .ok (.isub, 1) := by decide +kernel
theorem dX8_guess_95 : decode cX8_guess 95 = .ok (.bipush 10, 2) := by decide +kernel
theorem dX8_guess_97 : decode cX8_guess 97 = .ok (.iload 4, 2) := by decide +kernel
theorem dX8_guess_99 : decode cX8_guess 99 = .ok (.imul, 1) := by decide +kernel
theorem dX8_guess_100 : decode cX8_guess 100 = .ok (.idiv, 1) := by decide +kernel
theorem dX8_guess_101 : decode cX8_guess 101 = .ok (.ireturn, 1) := by decide +kernel
theorem dX8_estimate_0 : decode cX8_estimate 0 = .ok (.aload_n 0, 1) := by decide +kernel
theorem dX8_estimate_1 : decode cX8_estimate 1 = .ok (.aload_n 0, 1) := by decide +kernel
theorem dX8_estimate_2 : decode cX8_estimate 2 = .ok (.iload_n 1, 1) := by decide +kernel
theorem dX8_estimate_3 : decode cX8_estimate 3 = .ok (.iload_n 2, 1) := by decide +kernel
theorem dX8_estimate_4 : decode cX8_estimate 4 = .ok (.invokevirtual 215, 3) := by decide +kernel
theorem dX8_estimate_7 : decode cX8_estimate 7 = .ok (.ifCond .eq 7, 3) := by decide +kernel
theorem dX8_estimate_10 : decode cX8_estimate 10 = .ok (.iconst 0, 1) := by decide +kernel
theorem dX8_estimate_11 : decode cX8_estimate 11 = .ok (.goto 4, 3) := by decide +kernel
theorem dX8_estimate_14 : decode cX8_estimate 14 = .ok (.iconst 1, 1) := by decide +kernel
theorem dX8_estimate_15 : decode cX8_estimate 15 = .ok (.invokevirtual 171, 3) := by decide +kernel
theorem dX8_estimate_18 : decode cX8_estimate 18 = .ok (.ifCond .eq 7, 3) := by decide +kernel
theorem dX8_estimate_21 : decode cX8_estimate 21 = .ok (.iconst (-1), 1) := by decide +kernel
theorem dX8_estimate_22 : decode cX8_estimate 22 = .ok (.goto 9, 3) := by decide +kernel
theorem dX8_estimate_25 : decode cX8_estimate 25 = .ok (.aload_n 0, 1) := by decide +kernel
theorem dX8_estimate_26 : decode cX8_estimate 26 = .ok (.iload_n 1, 1) := by decide +kernel
theorem dX8_estimate_27 : decode cX8_estimate 27 = .ok (.iload_n 2, 1) := by decide +kernel
theorem dX8_estimate_28 : decode cX8_estimate 28 = .ok (.invokevirtual 225, 3) := by decide +kernel
theorem dX8_estimate_31 : decode cX8_estimate 31 = .ok (.ireturn, 1) := by decide +kernel
theorem dX8_isOpen_0 : decode cX8_isOpen 0 = .ok (.aload_n 0, 1) := by decide +kernel
theorem dX8_isOpen_1 : decode cX8_isOpen 1 = .ok (.aload_n 0, 1) := by decide +kernel
theorem dX8_isOpen_2 : decode cX8_isOpen 2 = .ok (.getfield 79, 3) := by decide +kernel
theorem dX8_isOpen_5 : decode cX8_isOpen 5 = .ok (.iload_n 1, 1) := by decide +kernel
theorem dX8_isOpen_6 : decode cX8_isOpen 6 = .ok (.iaload, 1) := by decide +kernel
theorem dX8_isOpen_7 : decode cX8_isOpen 7 = .ok (.aload_n 0, 1) := by decide +kernel
theorem dX8_isOpen_8 : decode cX8_isOpen 8 = .ok (.getfield 82, 3) := by decide +kernel
theorem dX8_isOpen_11 : decode cX8_isOpen 11 = .ok (.iload_n 1, 1) := by decide +kernel
theorem dX8_isOpen_12 : decode cX8_isOpen 12 = .ok (.iaload, 1) := by decide +kernel
theorem dX8_isOpen_13 : decode cX8_isOpen 13 = .ok (.iconst (-1), 1) := by decide +kernel
theorem dX8_isOpen_14 : decode cX8_isOpen 14 = .ok (.invokevirtual 218, 3) := by decide +kernel
theorem dX8_isOpen_17 : decode cX8_isOpen 17 = .ok (.ifCond .lt 7, 3) := by decide +kernel
theorem dX8_isOpen_20 : decode cX8_isOpen 20 = .ok (.iconst 1, 1) := by decide +kernel
theorem dX8_isOpen_21 : decode cX8_isOpen 21 = .ok (.goto 4, 3) := by decide +kernel
theorem dX8_isOpen_24 : decode cX8_isOpen 24 = .ok (.iconst 0, 1) := by decide +kernel
theorem dX8_isOpen_25 : decode cX8_isOpen 25 = .ok (.ireturn, 1) := by decide +kernel
theorem dX8_offer_0 : decode cX8_offer 0 = .ok (.iconst 0, 1) := by decide +kernel
theorem dX8_offer_1 : decode cX8_offer 1 = .ok (.istore_n 3, 1) := by decide +kernel
theorem dX8_offer_2 : decode cX8_offer 2 = .ok (.iconst 0, 1) := by decide +kernel
theorem dX8_offer_3 : decode cX8_offer 3 = .ok (.istore 4, 2) := by decide +kernel
theorem dX8_offer_5 : decode cX8_offer 5 = .ok (.iload 4, 2) := by decide +kernel
theorem dX8_offer_7 : decode cX8_offer 7 = .ok (.aload_n 0, 1) := by decide +kernel
theorem dX8_offer_8 : decode cX8_offer 8 = .ok (.getfield 228, 3) := by decide +kernel
theorem dX8_offer_11 : decode cX8_offer 11 = .ok (.if_icmp .ge 39, 3) := by decide +kernel
theorem dX8_offer_14 : decode cX8_offer 14 = .ok (.iload_n 3, 1) := by decide +kernel
theorem dX8_offer_15 : decode cX8_offer 15 = .ok (.aload_n 0, 1) := by decide +kernel
theorem dX8_offer_16 : decode cX8_offer 16 = .ok (.getfield 79, 3) := by decide +kernel
theorem dX8_offer_19 : decode cX8_offer 19 = .ok (.iload 4, 2) := by decide +kernel
theorem dX8_offer_21 : decode cX8_offer 21 = .ok (.iaload, 1) := by decide +kernel
theorem dX8_offer_22 : decode cX8_offer 22 = .ok (.iload_n 1, 1) := by decide +kernel
theorem dX8_offer_23 : decode cX8_offer 23 = .ok (.if_icmp .ne 18, 3) := by decide +kernel
theorem dX8_offer_26 : decode cX8_offer 26 = .ok (.aload_n 0, 1) := by decide +kernel
theorem dX8_offer_27 : decode cX8_offer 27 = .ok (.getfield 82, 3) := by decide +kernel
theorem dX8_offer_30 : decode cX8_offer 30 = .ok (.iload 4, 2) := by decide +kernel
theorem dX8_offer_32 : decode cX8_offer 32 = .ok (.iaload, 1) := by decide +kernel
theorem dX8_offer_33 : decode cX8_offer 33 = .ok (.iload_n 2, 1) := by decide +kernel
theorem dX8_offer_34 : decode cX8_offer 34 = .ok (.if_icmp .ne 7, 3) := by decide +kernel
theorem dX8_offer_37 : decode cX8_offer 37 = .ok (.iconst 1, 1) := by decide +kernel
theorem dX8_offer_38 : decode cX8_offer 38 = .ok (.goto 4, 3) := by decide +kernel
theorem dX8_offer_41 : decode cX8_offer 41 = .ok (.iconst 0, 1) := by decide +kernel
theorem dX8_offer_42 : decode cX8_offer 42 = .ok (.ior, 1) := by decide +kernel
theorem dX8_offer_43 : decode cX8_offer 43 = .ok (.istore_n 3, 1) := by decide +kernel
theorem dX8_offer_44 : decode cX8_offer 44 = .ok (.iinc 4 1, 3) := by decide +kernel
theorem dX8_offer_47 : decode cX8_offer 47 = .ok (.goto (-42), 3) := by decide +kernel
theorem dX8_offer_50 : decode cX8_offer 50 = .ok (.aload_n 0, 1) := by decide +kernel
theorem dX8_offer_51 : decode cX8_offer 51 = .ok (.iload_n 1, 1) := by decide +kernel
theorem dX8_offer_52 : decode cX8_offer 52 = .ok (.iload_n 2, 1) := by decide +kernel
theorem dX8_offer_53 : decode cX8_offer 53 = .ok (.invokevirtual 215, 3) := by decide +kernel
theorem dX8_offer_56 : decode cX8_offer 56 = .ok (.ifCond .eq 30, 3) := by decide +kernel
theorem dX8_offer_59 : decode cX8_offer 59 = .ok (.iload_n 3, 1) := by decide +kernel
theorem dX8_offer_60 : decode cX8_offer 60 = .ok (.ifCond .ne 22, 3) := by decide +kernel
theorem dX8_offer_63 : decode cX8_offer 63 = .ok (.aload_n 0, 1) := by decide +kernel
theorem dX8_offer_64 : decode cX8_offer 64 = .ok (.getfield 228, 3) := by decide +kernel
theorem dX8_offer_67 : decode cX8_offer 67 = .ok (.bipush 10, 2) := by decide +kernel
theorem dX8_offer_69 : decode cX8_offer 69 = .ok (.if_icmp .eq 13, 3) := by decide +kernel
theorem dX8_offer_72 : decode cX8_offer 72 = .ok (.aload_n 0, 1) := by decide +kernel
theorem dX8_offer_73 : decode cX8_offer 73 = .ok (.iload_n 1, 1) := by decide +kernel
theorem dX8_offer_74 : decode cX8_offer 74 = .ok (.iload_n 2, 1) := by decide +kernel
theorem dX8_offer_75 : decode cX8_offer 75 = .ok (.iconst (-1), 1) := by decide +kernel
theorem dX8_offer_76 : decode cX8_offer 76 = .ok (.invokevirtual 218, 3) := by decide +kernel
theorem dX8_offer_79 : decode cX8_offer 79 = .ok (.ifCond .ge 7, 3) := by decide +kernel
theorem dX8_offer_82 : decode cX8_offer 82 = .ok (.iconst 1, 1) := by decide +kernel
theorem dX8_offer_83 : decode cX8_offer 83 = .ok (.goto 4, 3) := by decide +kernel
theorem dX8_offer_86 : decode cX8_offer 86 = .ok (.iconst 0, 1) := by decide +kernel
theorem dX8_offer_87 : decode cX8_offer 87 = .ok (.istore 4, 2) := by decide +kernel
theorem dX8_offer_89 : decode cX8_offer 89 = .ok (.aload_n 0, 1) := by decide +kernel
theorem dX8_offer_90 : decode cX8_offer 90 = .ok (.aload_n 0, 1) := by decide +kernel
theorem dX8_offer_91 : decode cX8_offer 91 = .ok (.iload_n 1, 1) := by decide +kernel
theorem dX8_offer_92 : decode cX8_offer 92 = .ok (.iload_n 2, 1) := by decide +kernel
theorem dX8_offer_93 : decode cX8_offer 93 = .ok (.invokevirtual 215, 3) := by decide +kernel
theorem dX8_offer_96 : decode cX8_offer 96 = .ok (.ifCond .ne 7, 3) := by decide +kernel
theorem dX8_offer_99 : decode cX8_offer 99 = .ok (.iconst 1, 1) := by decide +kernel
theorem dX8_offer_100 : decode cX8_offer 100 = .ok (.goto 13, 3) := by decide +kernel
theorem dX8_offer_103 : decode cX8_offer 103 = .ok (.iload 4, 2) := by decide +kernel
theorem dX8_offer_105 : decode cX8_offer 105 = .ok (.ifCond .eq 7, 3) := by decide +kernel
theorem dX8_offer_108 : decode cX8_offer 108 = .ok (.iconst 2, 1) := by decide +kernel
theorem dX8_offer_109 : decode cX8_offer 109 = .ok (.goto 4, 3) := by decide +kernel
theorem dX8_offer_112 : decode cX8_offer 112 = .ok (.iconst 0, 1) := by decide +kernel
theorem dX8_offer_113 : decode cX8_offer 113 = .ok (.invokevirtual 171, 3) := by decide +kernel
theorem dX8_offer_116 : decode cX8_offer 116 = .ok (.ifCond .eq 5, 3) := by decide +kernel
theorem dX8_offer_119 : decode cX8_offer 119 = .ok (.iconst (-1), 1) := by decide +kernel
theorem dX8_offer_120 : decode cX8_offer 120 = .ok (.ireturn, 1) := by decide +kernel
theorem dX8_offer_121 : decode cX8_offer 121 = .ok (.aload_n 0, 1) := by decide +kernel
theorem dX8_offer_122 : decode cX8_offer 122 = .ok (.getfield 79, 3) := by decide +kernel
theorem dX8_offer_125 : decode cX8_offer 125 = .ok (.aload_n 0, 1) := by decide +kernel
theorem dX8_offer_126 : decode cX8_offer 126 = .ok (.getfield 228, 3) := by decide +kernel
theorem dX8_offer_129 : decode cX8_offer 129 = .ok (.iload_n 1, 1) := by decide +kernel
theorem dX8_offer_130 : decode cX8_offer 130 = .ok (.iastore, 1) := by decide +kernel
theorem dX8_offer_131 : decode cX8_offer 131 = .ok (.aload_n 0, 1) := by decide +kernel
theorem dX8_offer_132 : decode cX8_offer 132 = .ok (.getfield 82, 3) := by decide +kernel
theorem dX8_offer_135 : decode cX8_offer 135 = .ok (.aload_n 0, 1) := by decide +kernel
theorem dX8_offer_136 : decode cX8_offer 136 = .ok (.getfield 228, 3) := by decide +kernel
theorem dX8_offer_139 : decode cX8_offer 139 = .ok (.iload_n 2, 1) := by decide +kernel
theorem dX8_offer_140 : decode cX8_offer 140 = .ok (.iastore, 1) := by decide +kernel
theorem dX8_offer_141 : decode cX8_offer 141 = .ok (.aload_n 0, 1) := by decide +kernel
theorem dX8_offer_142 : decode cX8_offer 142 = .ok (.dup, 1) := by decide +kernel
theorem dX8_offer_143 : decode cX8_offer 143 = .ok (.getfield 228, 3) := by decide +kernel
theorem dX8_offer_146 : decode cX8_offer 146 = .ok (.iconst 1, 1) := by decide +kernel
theorem dX8_offer_147 : decode cX8_offer 147 = .ok (.iadd, 1) := by decide +kernel
theorem dX8_offer_148 : decode cX8_offer 148 = .ok (.putfield 228, 3) := by decide +kernel
theorem dX8_offer_151 : decode cX8_offer 151 = .ok (.aload_n 0, 1) := by decide +kernel
theorem dX8_offer_152 : decode cX8_offer 152 = .ok (.getfield 228, 3) := by decide +kernel
theorem dX8_offer_155 : decode cX8_offer 155 = .ok (.iconst 1, 1) := by decide +kernel
theorem dX8_offer_156 : decode cX8_offer 156 = .ok (.isub, 1) := by decide +kernel
theorem dX8_offer_157 : decode cX8_offer 157 = .ok (.ireturn, 1) := by decide +kernel
theorem dX8_gift_0 : decode cX8_gift 0 = .ok (.aload_n 0, 1) := by decide +kernel
theorem dX8_gift_1 : decode cX8_gift 1 = .ok (.iload_n 1, 1) := by decide +kernel
theorem dX8_gift_2 : decode cX8_gift 2 = .ok (.iconst 0, 1) := by decide +kernel
theorem dX8_gift_3 : decode cX8_gift 3 = .ok (.aload_n 0, 1) := by decide +kernel
theorem dX8_gift_4 : decode cX8_gift 4 = .ok (.getfield 228, 3) := by decide +kernel
theorem dX8_gift_7 : decode cX8_gift 7 = .ok (.iconst 1, 1) := by decide +kernel
theorem dX8_gift_8 : decode cX8_gift 8 = .ok (.isub, 1) := by decide +kernel
theorem dX8_gift_9 : decode cX8_gift 9 = .ok (.invokevirtual 95, 3) := by decide +kernel
theorem dX8_gift_12 : decode cX8_gift 12 = .ok (.istore_n 3, 1) := by decide +kernel
theorem dX8_gift_13 : decode cX8_gift 13 = .ok (.aload_n 0, 1) := by decide +kernel
theorem dX8_gift_14 : decode cX8_gift 14 = .ok (.iload_n 3, 1) := by decide +kernel
theorem dX8_gift_15 : decode cX8_gift 15 = .ok (.ifCond .ne 7, 3) := by decide +kernel
theorem dX8_gift_18 : decode cX8_gift 18 = .ok (.iconst 1, 1) := by decide +kernel
theorem dX8_gift_19 : decode cX8_gift 19 = .ok (.goto 32, 3) := by decide +kernel
theorem dX8_gift_22 : decode cX8_gift 22 = .ok (.aload_n 0, 1) := by decide +kernel
theorem dX8_gift_23 : decode cX8_gift 23 = .ok (.iload_n 2, 1) := by decide +kernel
theorem dX8_gift_24 : decode cX8_gift 24 = .ok (.iconst 1, 1) := by decide +kernel
theorem dX8_gift_25 : decode cX8_gift 25 = .ok (.sipush 1000, 3) := by decide +kernel
theorem dX8_gift_28 : decode cX8_gift 28 = .ok (.invokevirtual 95, 3) := by decide +kernel
theorem dX8_gift_31 : decode cX8_gift 31 = .ok (.ifCond .ne 7, 3) := by decide +kernel
theorem dX8_gift_34 : decode cX8_gift 34 = .ok (.iconst 2, 1) := by decide +kernel
theorem dX8_gift_35 : decode cX8_gift 35 = .ok (.goto 16, 3) := by decide +kernel
theorem dX8_gift_38 : decode cX8_gift 38 = .ok (.aload_n 0, 1) := by decide +kernel
theorem dX8_gift_39 : decode cX8_gift 39 = .ok (.iload_n 1, 1) := by decide +kernel
theorem dX8_gift_40 : decode cX8_gift 40 = .ok (.invokevirtual 231, 3) := by decide +kernel
theorem dX8_gift_43 : decode cX8_gift 43 = .ok (.ifCond .eq 7, 3) := by decide +kernel
theorem dX8_gift_46 : decode cX8_gift 46 = .ok (.iconst 0, 1) := by decide +kernel
theorem dX8_gift_47 : decode cX8_gift 47 = .ok (.goto 4, 3) := by decide +kernel
theorem dX8_gift_50 : decode cX8_gift 50 = .ok (.iconst 3, 1) := by decide +kernel
theorem dX8_gift_51 : decode cX8_gift 51 = .ok (.invokevirtual 171, 3) := by decide +kernel
theorem dX8_gift_54 : decode cX8_gift 54 = .ok (.ifCond .eq 5, 3) := by decide +kernel
theorem dX8_gift_57 : decode cX8_gift 57 = .ok (.iconst (-1), 1) := by decide +kernel
theorem dX8_gift_58 : decode cX8_gift 58 = .ok (.ireturn, 1) := by decide +kernel
theorem dX8_gift_59 : decode cX8_gift 59 = .ok (.aload_n 0, 1) := by decide +kernel
theorem dX8_gift_60 : decode cX8_gift 60 = .ok (.getfield 85, 3) := by decide +kernel
theorem dX8_gift_63 : decode cX8_gift 63 = .ok (.iload_n 1, 1) := by decide +kernel
theorem dX8_gift_64 : decode cX8_gift 64 = .ok (.dup2, 1) := by decide +kernel
theorem dX8_gift_65 : decode cX8_gift 65 = .ok (.iaload, 1) := by decide +kernel
theorem dX8_gift_66 : decode cX8_gift 66 = .ok (.iload_n 2, 1) := by decide +kernel
theorem dX8_gift_67 : decode cX8_gift 67 = .ok (.iadd, 1) := by decide +kernel
theorem dX8_gift_68 : decode cX8_gift 68 = .ok (.iastore, 1) := by decide +kernel
theorem dX8_gift_69 : decode cX8_gift 69 = .ok (.aload_n 0, 1) := by decide +kernel
theorem dX8_gift_70 : decode cX8_gift 70 = .ok (.getfield 85, 3) := by decide +kernel
theorem dX8_gift_73 : decode cX8_gift 73 = .ok (.iload_n 1, 1) := by decide +kernel
theorem dX8_gift_74 : decode cX8_gift 74 = .ok (.iaload, 1) := by decide +kernel
theorem dX8_gift_75 : decode cX8_gift 75 = .ok (.ireturn, 1) := by decide +kernel
theorem dX8_plan_0 : decode cX8_plan 0 = .ok (.aload_n 0, 1) := by decide +kernel
theorem dX8_plan_1 : decode cX8_plan 1 = .ok (.aload_n 0, 1) := by decide +kernel
theorem dX8_plan_2 : decode cX8_plan 2 = .ok (.iload_n 1, 1) := by decide +kernel
theorem dX8_plan_3 : decode cX8_plan 3 = .ok (.iconst 0, 1) := by decide +kernel
theorem dX8_plan_4 : decode cX8_plan 4 = .ok (.sipush 10000, 3) := by decide +kernel
theorem dX8_plan_7 : decode cX8_plan 7 = .ok (.invokevirtual 95, 3) := by decide +kernel
theorem dX8_plan_10 : decode cX8_plan 10 = .ok (.ifCond .eq 7, 3) := by decide +kernel
theorem dX8_plan_13 : decode cX8_plan 13 = .ok (.iconst 0, 1) := by decide +kernel
theorem dX8_plan_14 : decode cX8_plan 14 = .ok (.goto 4, 3) := by decide +kernel
theorem dX8_plan_17 : decode cX8_plan 17 = .ok (.iconst 1, 1) := by decide +kernel
theorem dX8_plan_18 : decode cX8_plan 18 = .ok (.invokevirtual 171, 3) := by decide +kernel
theorem dX8_plan_21 : decode cX8_plan 21 = .ok (.ifCond .eq 5, 3) := by decide +kernel
theorem dX8_plan_24 : decode cX8_plan 24 = .ok (.iconst (-1), 1) := by decide +kernel
theorem dX8_plan_25 : decode cX8_plan 25 = .ok (.ireturn, 1) := by decide +kernel
theorem dX8_plan_26 : decode cX8_plan 26 = .ok (.iconst 0, 1) := by decide +kernel
theorem dX8_plan_27 : decode cX8_plan 27 = .ok (.istore_n 2, 1) := by decide +kernel
theorem dX8_plan_28 : decode cX8_plan 28 = .ok (.iconst 0, 1) := by decide +kernel
theorem dX8_plan_29 : decode cX8_plan 29 = .ok (.istore_n 3, 1) := by decide +kernel
theorem dX8_plan_30 : decode cX8_plan 30 = .ok (.iconst 0, 1) := by decide +kernel
theorem dX8_plan_31 : decode cX8_plan 31 = .ok (.istore 4, 2) := by decide +kernel
theorem dX8_plan_33 : decode cX8_plan 33 = .ok (.iconst 0, 1) := by decide +kernel
theorem dX8_plan_34 : decode cX8_plan 34 = .ok (.istore 5, 2) := by decide +kernel
theorem dX8_plan_36 : decode cX8_plan 36 = .ok (.iload 5, 2) := by decide +kernel
theorem dX8_plan_38 : decode cX8_plan 38 = .ok (.iconst 1, 1) := by decide +kernel
theorem dX8_plan_39 : decode cX8_plan 39 = .ok (.aload_n 0, 1) := by decide +kernel
theorem dX8_plan_40 : decode cX8_plan 40 = .ok (.getfield 228, 3) := by decide +kernel
theorem dX8_plan_43 : decode cX8_plan 43 = .ok (.ishl, 1) := by decide +kernel
theorem dX8_plan_44 : decode cX8_plan 44 = .ok (.if_icmp .ge 141, 3) := by decide +kernel
theorem dX8_plan_47 : decode cX8_plan 47 = .ok (.iconst 0, 1) := by decide +kernel
theorem dX8_plan_48 : decode cX8_plan 48 = .ok (.istore 6, 2) := by decide +kernel
theorem dX8_plan_50 : decode cX8_plan 50 = .ok (.iconst 0, 1) := by decide +kernel
theorem dX8_plan_51 : decode cX8_plan 51 = .ok (.istore 7, 2) := by decide +kernel
theorem dX8_plan_53 : decode cX8_plan 53 = .ok (.iconst 1, 1) := by decide +kernel
theorem dX8_plan_54 : decode cX8_plan 54 = .ok (.istore 8, 2) := by decide +kernel
theorem dX8_plan_56 : decode cX8_plan 56 = .ok (.iconst 0, 1) := by decide +kernel
theorem dX8_plan_57 : decode cX8_plan 57 = .ok (.istore 9, 2) := by decide +kernel
theorem dX8_plan_59 : decode cX8_plan 59 = .ok (.iload 9, 2) := by decide +kernel
theorem dX8_plan_61 : decode cX8_plan 61 = .ok (.aload_n 0, 1) := by decide +kernel
theorem dX8_plan_62 : decode cX8_plan 62 = .ok (.getfield 228, 3) := by decide +kernel
theorem dX8_plan_65 : decode cX8_plan 65 = .ok (.if_icmp .ge 74, 3) := by decide +kernel
theorem dX8_plan_68 : decode cX8_plan 68 = .ok (.iload 5, 2) := by decide +kernel
theorem dX8_plan_70 : decode cX8_plan 70 = .ok (.iload 9, 2) := by decide +kernel
theorem dX8_plan_72 : decode cX8_plan 72 = .ok (.ishr, 1) := by decide +kernel
theorem dX8_plan_73 : decode cX8_plan 73 = .ok (.iconst 1, 1) := by decide +kernel
theorem dX8_plan_74 : decode cX8_plan 74 = .ok (.iand, 1) := by decide +kernel
theorem dX8_plan_75 : decode cX8_plan 75 = .ok (.iconst 1, 1) := by decide +kernel
theorem dX8_plan_76 : decode cX8_plan 76 = .ok (.if_icmp .ne 57, 3) := by decide +kernel
theorem dX8_plan_79 : decode cX8_plan 79 = .ok (.aload_n 0, 1) := by decide +kernel
theorem dX8_plan_80 : decode cX8_plan 80 = .ok (.aload_n 0, 1) := by decide +kernel
theorem dX8_plan_81 : decode cX8_plan 81 = .ok (.getfield 79, 3) := by decide +kernel
theorem dX8_plan_84 : decode cX8_plan 84 = .ok (.iload 9, 2) := by decide +kernel
theorem dX8_plan_86 : decode cX8_plan 86 = .ok (.iaload, 1) := by decide +kernel
theorem dX8_plan_87 : decode cX8_plan 87 = .ok (.aload_n 0, 1) := by decide +kernel
theorem dX8_plan_88 : decode cX8_plan 88 = .ok (.getfield 82, 3) := by decide +kernel
theorem dX8_plan_91 : decode cX8_plan 91 = .ok (.iload 9, 2) := by decide +kernel
theorem dX8_plan_93 : decode cX8_plan 93 = .ok (.iaload, 1) := by decide +kernel
theorem dX8_plan_94 : decode cX8_plan 94 = .ok (.invokevirtual 225, 3) := by decide +kernel
theorem dX8_plan_97 : decode cX8_plan 97 = .ok (.istore 10, 2) := by decide +kernel
theorem dX8_plan_99 : decode cX8_plan 99 = .ok (.iload 8, 2) := by decide +kernel
theorem dX8_plan_101 : decode cX8_plan 101 = .ok (.iload 10, 2) := by decide +kernel
theorem dX8_plan_103 : decode cX8_plan 103 = .ok (.ifCond .lt 7, 3) := by decide +kernel
theorem dX8_plan_106 : decode cX8_plan 106 = .ok (.iconst 1, 1) := by decide +kernel
theorem dX8_plan_107 : decode cX8_plan 107 = .ok (.goto 4, 3) := by decide +kernel
theorem dX8_plan_110 : decode cX8_plan 110 = .ok (.iconst 0, 1) := by decide +kernel
theorem dX8_plan_111 : decode cX8_plan 111 = .ok (.iand, 1) := by decide +kernel
theorem dX8_plan_112 : decode cX8_plan 112 = .ok (.istore 8, 2) := by decide +kernel
theorem dX8_plan_114 : decode cX8_plan 114 = .ok (.iload 6, 2) := by decide +kernel
theorem dX8_plan_116 : decode cX8_plan 116 = .ok (.aload_n 0, 1) := by decide +kernel
theorem dX8_plan_117 : decode cX8_plan 117 = .ok (.getfield 85, 3) := by decide +kernel
theorem dX8_plan_120 : decode cX8_plan 120 = .ok (.iload 9, 2) := by decide +kernel
theorem dX8_plan_122 : decode cX8_plan 122 = .ok (.iaload, 1) := by decide +kernel
theorem dX8_plan_123 : decode cX8_plan 123 = .ok (.iadd, 1) := by decide +kernel
theorem dX8_plan_124 : decode cX8_plan 124 = .ok (.istore 6, 2) := by decide +kernel
theorem dX8_plan_126 : decode cX8_plan 126 = .ok (.iload 7, 2) := by decide +kernel
theorem dX8_plan_128 : decode cX8_plan 128 = .ok (.iload 10, 2) := by decide +kernel
theorem dX8_plan_130 : decode cX8_plan 130 = .ok (.iadd, 1) := by decide +kernel
theorem dX8_plan_131 : decode cX8_plan 131 = .ok (.istore 7, 2) := by decide +kernel
theorem dX8_plan_133 : decode cX8_plan 133 = .ok (.iinc 9 1, 3) := by decide +kernel
theorem dX8_plan_136 : decode cX8_plan 136 = .ok (.goto (-77), 3) := by decide +kernel
theorem dX8_plan_139 : decode cX8_plan 139 = .ok (.iload 8, 2) := by decide +kernel
theorem dX8_plan_141 : decode cX8_plan 141 = .ok (.ifCond .eq 38, 3) := by decide +kernel
theorem dX8_plan_144 : decode cX8_plan 144 = .ok (.iload 7, 2) := by decide +kernel
theorem dX8_plan_146 : decode cX8_plan 146 = .ok (.iload_n 1, 1) := by decide +kernel
theorem dX8_plan_147 : decode cX8_plan 147 = .ok (.if_icmp .gt 32, 3) := by decide +kernel
theorem dX8_plan_150 : decode cX8_plan 150 = .ok (.iload 6, 2) := by decide +kernel
theorem dX8_plan_152 : decode cX8_plan 152 = .ok (.iload_n 3, 1) := by decide +kernel
theorem dX8_plan_153 : decode cX8_plan 153 = .ok (.if_icmp .gt 16, 3) := by decide +kernel
theorem dX8_plan_156 : decode cX8_plan 156 = .ok (.iload 6, 2) := by decide +kernel
theorem dX8_plan_158 : decode cX8_plan 158 = .ok (.iload_n 3, 1) := by decide +kernel
theorem dX8_plan_159 : decode cX8_plan 159 = .ok (.if_icmp .ne 20, 3) := by decide +kernel
theorem dX8_plan_162 : decode cX8_plan 162 = .ok (.iload 7, 2) := by decide +kernel
theorem dX8_plan_164 : decode cX8_plan 164 = .ok (.iload 4, 2) := by decide +kernel
theorem dX8_plan_166 : decode cX8_plan 166 = .ok (.if_icmp .ge 13, 3) := by decide +kernel
theorem dX8_plan_169 : decode cX8_plan 169 = .ok (.iload 5, 2) := by decide +kernel
theorem dX8_plan_171 : decode cX8_plan 171 = .ok (.istore_n 2, 1) := by decide +kernel
theorem dX8_plan_172 : decode cX8_plan 172 = .ok (.iload 6, 2) := by decide +kernel
theorem dX8_plan_174 : decode cX8_plan 174 = .ok (.istore_n 3, 1) := by decide +kernel
theorem dX8_plan_175 : decode cX8_plan 175 = .ok (.iload 7, 2) := by decide +kernel
theorem dX8_plan_177 : decode cX8_plan 177 = .ok (.istore 4, 2) := by decide +kernel
theorem dX8_plan_179 : decode cX8_plan 179 = .ok (.iinc 5 1, 3) := by decide +kernel
theorem dX8_plan_182 : decode cX8_plan 182 = .ok (.goto (-146), 3) := by decide +kernel
theorem dX8_plan_185 : decode cX8_plan 185 = .ok (.iload_n 2, 1) := by decide +kernel
theorem dX8_plan_186 : decode cX8_plan 186 = .ok (.ireturn, 1) := by decide +kernel
