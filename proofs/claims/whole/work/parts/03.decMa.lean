theorem dX8_init_0 : decode cX8_init 0 = .ok (.aload_n 0, 1) := by decide +kernel
theorem dX8_init_1 : decode cX8_init 1 = .ok (.invokespecial 1, 3) := by decide +kernel
theorem dX8_init_4 : decode cX8_init 4 = .ok (.aload_n 0, 1) := by decide +kernel
theorem dX8_init_5 : decode cX8_init 5 = .ok (.bipush 96, 2) := by decide +kernel
theorem dX8_init_7 : decode cX8_init 7 = .ok (.newarray .int, 2) := by decide +kernel
theorem dX8_init_9 : decode cX8_init 9 = .ok (.putfield 7, 3) := by decide +kernel
theorem dX8_init_12 : decode cX8_init 12 = .ok (.aload_n 0, 1) := by decide +kernel
theorem dX8_init_13 : decode cX8_init 13 = .ok (.bipush 96, 2) := by decide +kernel
theorem dX8_init_15 : decode cX8_init 15 = .ok (.newarray .int, 2) := by decide +kernel
theorem dX8_init_17 : decode cX8_init 17 = .ok (.putfield 13, 3) := by decide +kernel
theorem dX8_init_20 : decode cX8_init 20 = .ok (.aload_n 0, 1) := by decide +kernel
theorem dX8_init_21 : decode cX8_init 21 = .ok (.bipush 20, 2) := by decide +kernel
theorem dX8_init_23 : decode cX8_init 23 = .ok (.newarray .int, 2) := by decide +kernel
theorem dX8_init_25 : decode cX8_init 25 = .ok (.putfield 16, 3) := by decide +kernel
theorem dX8_init_28 : decode cX8_init 28 = .ok (.aload_n 0, 1) := by decide +kernel
theorem dX8_init_29 : decode cX8_init 29 = .ok (.bipush 20, 2) := by decide +kernel
theorem dX8_init_31 : decode cX8_init 31 = .ok (.newarray .int, 2) := by decide +kernel
theorem dX8_init_33 : decode cX8_init 33 = .ok (.putfield 19, 3) := by decide +kernel
theorem dX8_init_36 : decode cX8_init 36 = .ok (.aload_n 0, 1) := by decide +kernel
theorem dX8_init_37 : decode cX8_init 37 = .ok (.bipush 20, 2) := by decide +kernel
theorem dX8_init_39 : decode cX8_init 39 = .ok (.newarray .int, 2) := by decide +kernel
theorem dX8_init_41 : decode cX8_init 41 = .ok (.putfield 22, 3) := by decide +kernel
theorem dX8_init_44 : decode cX8_init 44 = .ok (.aload_n 0, 1) := by decide +kernel
theorem dX8_init_45 : decode cX8_init 45 = .ok (.bipush 20, 2) := by decide +kernel
theorem dX8_init_47 : decode cX8_init 47 = .ok (.newarray .int, 2) := by decide +kernel
theorem dX8_init_49 : decode cX8_init 49 = .ok (.putfield 25, 3) := by decide +kernel
theorem dX8_init_52 : decode cX8_init 52 = .ok (.aload_n 0, 1) := by decide +kernel
theorem dX8_init_53 : decode cX8_init 53 = .ok (.sipush 400, 3) := by decide +kernel
theorem dX8_init_56 : decode cX8_init 56 = .ok (.newarray .int, 2) := by decide +kernel
theorem dX8_init_58 : decode cX8_init 58 = .ok (.putfield 28, 3) := by decide +kernel
theorem dX8_init_61 : decode cX8_init 61 = .ok (.aload_n 0, 1) := by decide +kernel
theorem dX8_init_62 : decode cX8_init 62 = .ok (.sipush 400, 3) := by decide +kernel
theorem dX8_init_65 : decode cX8_init 65 = .ok (.newarray .int, 2) := by decide +kernel
theorem dX8_init_67 : decode cX8_init 67 = .ok (.putfield 31, 3) := by decide +kernel
theorem dX8_init_70 : decode cX8_init 70 = .ok (.aload_n 0, 1) := by decide +kernel
theorem dX8_init_71 : decode cX8_init 71 = .ok (.bipush 6, 2) := by decide +kernel
theorem dX8_init_73 : decode cX8_init 73 = .ok (.newarray .int, 2) := by decide +kernel
theorem dX8_init_75 : decode cX8_init 75 = .ok (.putfield 34, 3) := by decide +kernel
theorem dX8_init_78 : decode cX8_init 78 = .ok (.aload_n 0, 1) := by decide +kernel
theorem dX8_init_79 : decode cX8_init 79 = .ok (.bipush 6, 2) := by decide +kernel
theorem dX8_init_81 : decode cX8_init 81 = .ok (.newarray .int, 2) := by decide +kernel
theorem dX8_init_83 : decode cX8_init 83 = .ok (.putfield 37, 3) := by decide +kernel
theorem dX8_init_86 : decode cX8_init 86 = .ok (.aload_n 0, 1) := by decide +kernel
theorem dX8_init_87 : decode cX8_init 87 = .ok (.bipush 60, 2) := by decide +kernel
theorem dX8_init_89 : decode cX8_init 89 = .ok (.newarray .int, 2) := by decide +kernel
theorem dX8_init_91 : decode cX8_init 91 = .ok (.putfield 40, 3) := by decide +kernel
theorem dX8_init_94 : decode cX8_init 94 = .ok (.aload_n 0, 1) := by decide +kernel
theorem dX8_init_95 : decode cX8_init 95 = .ok (.bipush 60, 2) := by decide +kernel
theorem dX8_init_97 : decode cX8_init 97 = .ok (.newarray .int, 2) := by decide +kernel
theorem dX8_init_99 : decode cX8_init 99 = .ok (.putfield 43, 3) := by decide +kernel
theorem dX8_init_102 : decode cX8_init 102 = .ok (.aload_n 0, 1) := by decide +kernel
theorem dX8_init_103 : decode cX8_init 103 = .ok (.bipush 60, 2) := by decide +kernel
theorem dX8_init_105 : decode cX8_init 105 = .ok (.newarray .int, 2) := by decide +kernel
theorem dX8_init_107 : decode cX8_init 107 = .ok (.putfield 46, 3) := by decide +kernel
theorem dX8_init_110 : decode cX8_init 110 = .ok (.aload_n 0, 1) := by decide +kernel
theorem dX8_init_111 : decode cX8_init 111 = .ok (.bipush 60, 2) := by decide +kernel
theorem dX8_init_113 : decode cX8_init 113 = .ok (.newarray .int, 2) := by decide +kernel
theorem dX8_init_115 : decode cX8_init 115 = .ok (.putfield 49, 3) := by decide +kernel
theorem dX8_init_118 : decode cX8_init 118 = .ok (.aload_n 0, 1) := by decide +kernel
theorem dX8_init_119 : decode cX8_init 119 = .ok (.bipush 40, 2) := by decide +kernel
theorem dX8_init_121 : decode cX8_init 121 = .ok (.newarray .int, 2) := by decide +kernel
theorem dX8_init_123 : decode cX8_init 123 = .ok (.putfield 52, 3) := by decide +kernel
theorem dX8_init_126 : decode cX8_init 126 = .ok (.aload_n 0, 1) := by decide +kernel
theorem dX8_init_127 : decode cX8_init 127 = .ok (.bipush 40, 2) := by decide +kernel
theorem dX8_init_129 : decode cX8_init 129 = .ok (.newarray .int, 2) := by decide +kernel
theorem dX8_init_131 : decode cX8_init 131 = .ok (.putfield 55, 3) := by decide +kernel
theorem dX8_init_134 : decode cX8_init 134 = .ok (.aload_n 0, 1) := by decide +kernel
theorem dX8_init_135 : decode cX8_init 135 = .ok (.bipush 40, 2) := by decide +kernel
theorem dX8_init_137 : decode cX8_init 137 = .ok (.newarray .int, 2) := by decide +kernel
theorem dX8_init_139 : decode cX8_init 139 = .ok (.putfield 58, 3) := by decide +kernel
theorem dX8_init_142 : decode cX8_init 142 = .ok (.aload_n 0, 1) := by decide +kernel
theorem dX8_init_143 : decode cX8_init 143 = .ok (.bipush 40, 2) := by decide +kernel
theorem dX8_init_145 : decode cX8_init 145 = .ok (.newarray .int, 2) := by decide +kernel
theorem dX8_init_147 : decode cX8_init 147 = .ok (.putfield 61, 3) := by decide +kernel
theorem dX8_init_150 : decode cX8_init 150 = .ok (.aload_n 0, 1) := by decide +kernel
theorem dX8_init_151 : decode cX8_init 151 = .ok (.bipush 40, 2) := by decide +kernel
theorem dX8_init_153 : decode cX8_init 153 = .ok (.newarray .int, 2) := by decide +kernel
theorem dX8_init_155 : decode cX8_init 155 = .ok (.putfield 64, 3) := by decide +kernel
theorem dX8_init_158 : decode cX8_init 158 = .ok (.aload_n 0, 1) := by decide +kernel
theorem dX8_init_159 : decode cX8_init 159 = .ok (.bipush 40, 2) := by decide +kernel
theorem dX8_init_161 : decode cX8_init 161 = .ok (.newarray .int, 2) := by decide +kernel
theorem dX8_init_163 : decode cX8_init 163 = .ok (.putfield 67, 3) := by decide +kernel
theorem dX8_init_166 : decode cX8_init 166 = .ok (.aload_n 0, 1) := by decide +kernel
theorem dX8_init_167 : decode cX8_init 167 = .ok (.bipush 40, 2) := by decide +kernel
theorem dX8_init_169 : decode cX8_init 169 = .ok (.newarray .int, 2) := by decide +kernel
theorem dX8_init_171 : decode cX8_init 171 = .ok (.putfield 70, 3) := by decide +kernel
theorem dX8_init_174 : decode cX8_init 174 = .ok (.aload_n 0, 1) := by decide +kernel
theorem dX8_init_175 : decode cX8_init 175 = .ok (.bipush 40, 2) := by decide +kernel
theorem dX8_init_177 : decode cX8_init 177 = .ok (.newarray .int, 2) := by decide +kernel
theorem dX8_init_179 : decode cX8_init 179 = .ok (.putfield 73, 3) := by decide +kernel
theorem dX8_init_182 : decode cX8_init 182 = .ok (.aload_n 0, 1) := by decide +kernel
theorem dX8_init_183 : decode cX8_init 183 = .ok (.bipush 40, 2) := by decide +kernel
theorem dX8_init_185 : decode cX8_init 185 = .ok (.newarray .int, 2) := by decide +kernel
theorem dX8_init_187 : decode cX8_init 187 = .ok (.putfield 76, 3) := by decide +kernel
theorem dX8_init_190 : decode cX8_init 190 = .ok (.aload_n 0, 1) := by decide +kernel
theorem dX8_init_191 : decode cX8_init 191 = .ok (.bipush 10, 2) := by decide +kernel
theorem dX8_init_193 : decode cX8_init 193 = .ok (.newarray .int, 2) := by decide +kernel
theorem dX8_init_195 : decode cX8_init 195 = .ok (.putfield 79, 3) := by decide +kernel
theorem dX8_init_198 : decode cX8_init 198 = .ok (.aload_n 0, 1) := by decide +kernel
theorem dX8_init_199 : decode cX8_init 199 = .ok (.bipush 10, 2) := by decide +kernel
theorem dX8_init_201 : decode cX8_init 201 = .ok (.newarray .int, 2) := by decide +kernel
theorem dX8_init_203 : decode cX8_init 203 = .ok (.putfield 82, 3) := by decide +kernel
theorem dX8_init_206 : decode cX8_init 206 = .ok (.aload_n 0, 1) := by decide +kernel
theorem dX8_init_207 : decode cX8_init 207 = .ok (.bipush 10, 2) := by decide +kernel
theorem dX8_init_209 : decode cX8_init 209 = .ok (.newarray .int, 2) := by decide +kernel
theorem dX8_init_211 : decode cX8_init 211 = .ok (.putfield 85, 3) := by decide +kernel
theorem dX8_init_214 : decode cX8_init 214 = .ok (.return_, 1) := by decide +kernel
theorem dX8_thrown_0 : decode cX8_thrown 0 = .ok (.aload_n 0, 1) := by decide +kernel
theorem dX8_thrown_1 : decode cX8_thrown 1 = .ok (.getfield 88, 3) := by decide +kernel
theorem dX8_thrown_4 : decode cX8_thrown 4 = .ok (.ireturn, 1) := by decide +kernel
theorem dX8_holds_0 : decode cX8_holds 0 = .ok (.aload_n 0, 1) := by decide +kernel
theorem dX8_holds_1 : decode cX8_holds 1 = .ok (.iload_n 1, 1) := by decide +kernel
theorem dX8_holds_2 : decode cX8_holds 2 = .ok (.putfield 88, 3) := by decide +kernel
theorem dX8_holds_5 : decode cX8_holds 5 = .ok (.iload_n 1, 1) := by decide +kernel
theorem dX8_holds_6 : decode cX8_holds 6 = .ok (.ifCond .le 7, 3) := by decide +kernel
theorem dX8_holds_9 : decode cX8_holds 9 = .ok (.iconst 1, 1) := by decide +kernel
theorem dX8_holds_10 : decode cX8_holds 10 = .ok (.goto 4, 3) := by decide +kernel
theorem dX8_holds_13 : decode cX8_holds 13 = .ok (.iconst 0, 1) := by decide +kernel
theorem dX8_holds_14 : decode cX8_holds 14 = .ok (.ireturn, 1) := by decide +kernel
theorem dX8_between_0 : decode cX8_between 0 = .ok (.iload_n 1, 1) := by decide +kernel
theorem dX8_between_1 : decode cX8_between 1 = .ok (.iload_n 2, 1) := by decide +kernel
theorem dX8_between_2 : decode cX8_between 2 = .ok (.if_icmp .lt 12, 3) := by decide +kernel
theorem dX8_between_5 : decode cX8_between 5 = .ok (.iload_n 1, 1) := by decide +kernel
theorem dX8_between_6 : decode cX8_between 6 = .ok (.iload_n 3, 1) := by decide +kernel
theorem dX8_between_7 : decode cX8_between 7 = .ok (.if_icmp .gt 7, 3) := by decide +kernel
theorem dX8_between_10 : decode cX8_between 10 = .ok (.iconst 1, 1) := by decide +kernel
theorem dX8_between_11 : decode cX8_between 11 = .ok (.goto 4, 3) := by decide +kernel
theorem dX8_between_14 : decode cX8_between 14 = .ok (.iconst 0, 1) := by decide +kernel
theorem dX8_between_15 : decode cX8_between 15 = .ok (.ireturn, 1) := by decide +kernel
theorem dX8_isLevel_0 : decode cX8_isLevel 0 = .ok (.aload_n 0, 1) := by decide +kernel
theorem dX8_isLevel_1 : decode cX8_isLevel 1 = .ok (.iload_n 1, 1) := by decide +kernel
theorem dX8_isLevel_2 : decode cX8_isLevel 2 = .ok (.iconst 0, 1) := by decide +kernel
theorem dX8_isLevel_3 : decode cX8_isLevel 3 = .ok (.aload_n 0, 1) := by decide +kernel
theorem dX8_isLevel_4 : decode cX8_isLevel 4 = .ok (.getfield 92, 3) := by decide +kernel
theorem dX8_isLevel_7 : decode cX8_isLevel 7 = .ok (.iconst 1, 1) := by decide +kernel
theorem dX8_isLevel_8 : decode cX8_isLevel 8 = .ok (.isub, 1) := by decide +kernel
theorem dX8_isLevel_9 : decode cX8_isLevel 9 = .ok (.invokevirtual 95, 3) := by decide +kernel
theorem dX8_isLevel_12 : decode cX8_isLevel 12 = .ok (.ireturn, 1) := by decide +kernel
theorem dX8_isReplay_0 : decode cX8_isReplay 0 = .ok (.aload_n 0, 1) := by decide +kernel
theorem dX8_isReplay_1 : decode cX8_isReplay 1 = .ok (.iload_n 1, 1) := by decide +kernel
theorem dX8_isReplay_2 : decode cX8_isReplay 2 = .ok (.iconst 0, 1) := by decide +kernel
theorem dX8_isReplay_3 : decode cX8_isReplay 3 = .ok (.aload_n 0, 1) := by decide +kernel
theorem dX8_isReplay_4 : decode cX8_isReplay 4 = .ok (.getfield 99, 3) := by decide +kernel
theorem dX8_isReplay_7 : decode cX8_isReplay 7 = .ok (.iconst 1, 1) := by decide +kernel
theorem dX8_isReplay_8 : decode cX8_isReplay 8 = .ok (.isub, 1) := by decide +kernel
theorem dX8_isReplay_9 : decode cX8_isReplay 9 = .ok (.invokevirtual 95, 3) := by decide +kernel
theorem dX8_isReplay_12 : decode cX8_isReplay 12 = .ok (.ireturn, 1) := by decide +kernel
theorem dX8_isCategory_0 : decode cX8_isCategory 0 = .ok (.aload_n 0, 1) := by decide +kernel
theorem dX8_isCategory_1 : decode cX8_isCategory 1 = .ok (.iload_n 1, 1) := by decide +kernel
theorem dX8_isCategory_2 : decode cX8_isCategory 2 = .ok (.iconst 0, 1) := by decide +kernel
theorem dX8_isCategory_3 : decode cX8_isCategory 3 = .ok (.aload_n 0, 1) := by decide +kernel
theorem dX8_isCategory_4 : decode cX8_isCategory 4 = .ok (.getfield 102, 3) := by decide +kernel
theorem dX8_isCategory_7 : decode cX8_isCategory 7 = .ok (.iconst 1, 1) := by decide +kernel
theorem dX8_isCategory_8 : decode cX8_isCategory 8 = .ok (.isub, 1) := by decide +kernel
theorem dX8_isCategory_9 : decode cX8_isCategory 9 = .ok (.invokevirtual 95, 3) := by decide +kernel
theorem dX8_isCategory_12 : decode cX8_isCategory 12 = .ok (.ireturn, 1) := by decide +kernel
theorem dX8_isRun_0 : decode cX8_isRun 0 = .ok (.aload_n 0, 1) := by decide +kernel
theorem dX8_isRun_1 : decode cX8_isRun 1 = .ok (.iload_n 1, 1) := by decide +kernel
theorem dX8_isRun_2 : decode cX8_isRun 2 = .ok (.iconst 0, 1) := by decide +kernel
theorem dX8_isRun_3 : decode cX8_isRun 3 = .ok (.aload_n 0, 1) := by decide +kernel
theorem dX8_isRun_4 : decode cX8_isRun 4 = .ok (.getfield 105, 3) := by decide +kernel
theorem dX8_isRun_7 : decode cX8_isRun 7 = .ok (.iconst 1, 1) := by decide +kernel
theorem dX8_isRun_8 : decode cX8_isRun 8 = .ok (.isub, 1) := by decide +kernel
theorem dX8_isRun_9 : decode cX8_isRun 9 = .ok (.invokevirtual 95, 3) := by decide +kernel
theorem dX8_isRun_12 : decode cX8_isRun 12 = .ok (.ireturn, 1) := by decide +kernel
theorem dX8_isRunner_0 : decode cX8_isRunner 0 = .ok (.aload_n 0, 1) := by decide +kernel
theorem dX8_isRunner_1 : decode cX8_isRunner 1 = .ok (.iload_n 1, 1) := by decide +kernel
theorem dX8_isRunner_2 : decode cX8_isRunner 2 = .ok (.iconst 0, 1) := by decide +kernel
theorem dX8_isRunner_3 : decode cX8_isRunner 3 = .ok (.bipush 7, 2) := by decide +kernel
theorem dX8_isRunner_5 : decode cX8_isRunner 5 = .ok (.invokevirtual 95, 3) := by decide +kernel
theorem dX8_isRunner_8 : decode cX8_isRunner 8 = .ok (.ireturn, 1) := by decide +kernel
theorem dX8_gap_0 : decode cX8_gap 0 = .ok (.aload_n 0, 1) := by decide +kernel
theorem dX8_gap_1 : decode cX8_gap 1 = .ok (.getfield 7, 3) := by decide +kernel
theorem dX8_gap_4 : decode cX8_gap 4 = .ok (.bipush 32, 2) := by decide +kernel
theorem dX8_gap_6 : decode cX8_gap 6 = .ok (.iload_n 1, 1) := by decide +kernel
theorem dX8_gap_7 : decode cX8_gap 7 = .ok (.imul, 1) := by decide +kernel
theorem dX8_gap_8 : decode cX8_gap 8 = .ok (.iload_n 2, 1) := by decide +kernel
theorem dX8_gap_9 : decode cX8_gap 9 = .ok (.iadd, 1) := by decide +kernel
theorem dX8_gap_10 : decode cX8_gap 10 = .ok (.iaload, 1) := by decide +kernel
theorem dX8_gap_11 : decode cX8_gap 11 = .ok (.ifCond .ge 7, 3) := by decide +kernel
theorem dX8_gap_14 : decode cX8_gap 14 = .ok (.iconst 1, 1) := by decide +kernel
theorem dX8_gap_15 : decode cX8_gap 15 = .ok (.goto 4, 3) := by decide +kernel
theorem dX8_gap_18 : decode cX8_gap 18 = .ok (.iconst 0, 1) := by decide +kernel
theorem dX8_gap_19 : decode cX8_gap 19 = .ok (.ireturn, 1) := by decide +kernel
theorem dX8_ground_0 : decode cX8_ground 0 = .ok (.bipush 16, 2) := by decide +kernel
theorem dX8_ground_2 : decode cX8_ground 2 = .ok (.aload_n 0, 1) := by decide +kernel
theorem dX8_ground_3 : decode cX8_ground 3 = .ok (.getfield 7, 3) := by decide +kernel
theorem dX8_ground_6 : decode cX8_ground 6 = .ok (.bipush 32, 2) := by decide +kernel
theorem dX8_ground_8 : decode cX8_ground 8 = .ok (.iload_n 1, 1) := by decide +kernel
theorem dX8_ground_9 : decode cX8_ground 9 = .ok (.imul, 1) := by decide +kernel
theorem dX8_ground_10 : decode cX8_ground 10 = .ok (.iload_n 2, 1) := by decide +kernel
theorem dX8_ground_11 : decode cX8_ground 11 = .ok (.iadd, 1) := by decide +kernel
theorem dX8_ground_12 : decode cX8_ground 12 = .ok (.iaload, 1) := by decide +kernel
theorem dX8_ground_13 : decode cX8_ground 13 = .ok (.imul, 1) := by decide +kernel
theorem dX8_ground_14 : decode cX8_ground 14 = .ok (.ireturn, 1) := by decide +kernel
theorem dX8_wall_0 : decode cX8_wall 0 = .ok (.aload_n 0, 1) := by decide +kernel
theorem dX8_wall_1 : decode cX8_wall 1 = .ok (.iload_n 1, 1) := by decide +kernel
theorem dX8_wall_2 : decode cX8_wall 2 = .ok (.iload_n 2, 1) := by decide +kernel
theorem dX8_wall_3 : decode cX8_wall 3 = .ok (.invokevirtual 108, 3) := by decide +kernel
theorem dX8_wall_6 : decode cX8_wall 6 = .ok (.ifCond .ne 20, 3) := by decide +kernel
theorem dX8_wall_9 : decode cX8_wall 9 = .ok (.aload_n 0, 1) := by decide +kernel
theorem dX8_wall_10 : decode cX8_wall 10 = .ok (.iload_n 1, 1) := by decide +kernel
theorem dX8_wall_11 : decode cX8_wall 11 = .ok (.iload_n 2, 1) := by decide +kernel
theorem dX8_wall_12 : decode cX8_wall 12 = .ok (.invokevirtual 112, 3) := by decide +kernel
theorem dX8_wall_15 : decode cX8_wall 15 = .ok (.aload_n 0, 1) := by decide +kernel
theorem dX8_wall_16 : decode cX8_wall 16 = .ok (.getfield 116, 3) := by decide +kernel
theorem dX8_wall_19 : decode cX8_wall 19 = .ok (.if_icmp .le 7, 3) := by decide +kernel
theorem dX8_wall_22 : decode cX8_wall 22 = .ok (.iconst 1, 1) := by decide +kernel
theorem dX8_wall_23 : decode cX8_wall 23 = .ok (.goto 4, 3) := by decide +kernel
theorem dX8_wall_26 : decode cX8_wall 26 = .ok (.iconst 0, 1) := by decide +kernel
theorem dX8_wall_27 : decode cX8_wall 27 = .ok (.ireturn, 1) := by decide +kernel
theorem dX8_start_0 : decode cX8_start 0 = .ok (.aload_n 0, 1) := by decide +kernel
theorem dX8_start_1 : decode cX8_start 1 = .ok (.bipush 8, 2) := by decide +kernel
theorem dX8_start_3 : decode cX8_start 3 = .ok (.putfield 119, 3) := by decide +kernel
theorem dX8_start_6 : decode cX8_start 6 = .ok (.aload_n 0, 1) := by decide +kernel
theorem dX8_start_7 : decode cX8_start 7 = .ok (.aload_n 0, 1) := by decide +kernel
theorem dX8_start_8 : decode cX8_start 8 = .ok (.iload_n 1, 1) := by decide +kernel
theorem dX8_start_9 : decode cX8_start 9 = .ok (.iconst 0, 1) := by decide +kernel
theorem dX8_start_10 : decode cX8_start 10 = .ok (.invokevirtual 108, 3) := by decide +kernel
theorem dX8_start_13 : decode cX8_start 13 = .ok (.ifCond .eq 7, 3) := by decide +kernel
theorem dX8_start_16 : decode cX8_start 16 = .ok (.iconst 0, 1) := by decide +kernel
theorem dX8_start_17 : decode cX8_start 17 = .ok (.goto 9, 3) := by decide +kernel
theorem dX8_start_20 : decode cX8_start 20 = .ok (.aload_n 0, 1) := by decide +kernel
theorem dX8_start_21 : decode cX8_start 21 = .ok (.iload_n 1, 1) := by decide +kernel
theorem dX8_start_22 : decode cX8_start 22 = .ok (.iconst 0, 1) := by decide +kernel
theorem dX8_start_23 : decode cX8_start 23 = .ok (.invokevirtual 112, 3) := by decide +kernel
theorem dX8_start_26 : decode cX8_start 26 = .ok (.putfield 116, 3) := by decide +kernel
theorem dX8_start_29 : decode cX8_start 29 = .ok (.aload_n 0, 1) := by decide +kernel
theorem dX8_start_30 : decode cX8_start 30 = .ok (.iconst 0, 1) := by decide +kernel
theorem dX8_start_31 : decode cX8_start 31 = .ok (.putfield 122, 3) := by decide +kernel
theorem dX8_start_34 : decode cX8_start 34 = .ok (.aload_n 0, 1) := by decide +kernel
theorem dX8_start_35 : decode cX8_start 35 = .ok (.iconst 1, 1) := by decide +kernel
theorem dX8_start_36 : decode cX8_start 36 = .ok (.putfield 125, 3) := by decide +kernel
theorem dX8_start_39 : decode cX8_start 39 = .ok (.aload_n 0, 1) := by decide +kernel
theorem dX8_start_40 : decode cX8_start 40 = .ok (.iconst 1, 1) := by decide +kernel
theorem dX8_start_41 : decode cX8_start 41 = .ok (.putfield 129, 3) := by decide +kernel
theorem dX8_start_44 : decode cX8_start 44 = .ok (.aload_n 0, 1) := by decide +kernel
theorem dX8_start_45 : decode cX8_start 45 = .ok (.iconst 0, 1) := by decide +kernel
theorem dX8_start_46 : decode cX8_start 46 = .ok (.putfield 132, 3) := by decide +kernel
theorem dX8_start_49 : decode cX8_start 49 = .ok (.aload_n 0, 1) := by decide +kernel
theorem dX8_start_50 : decode cX8_start 50 = .ok (.iconst 0, 1) := by decide +kernel
theorem dX8_start_51 : decode cX8_start 51 = .ok (.putfield 135, 3) := by decide +kernel
theorem dX8_start_54 : decode cX8_start 54 = .ok (.aload_n 0, 1) := by decide +kernel
theorem dX8_start_55 : decode cX8_start 55 = .ok (.iconst 0, 1) := by decide +kernel
theorem dX8_start_56 : decode cX8_start 56 = .ok (.putfield 138, 3) := by decide +kernel
theorem dX8_start_59 : decode cX8_start 59 = .ok (.aload_n 0, 1) := by decide +kernel
theorem dX8_start_60 : decode cX8_start 60 = .ok (.iconst 0, 1) := by decide +kernel
theorem dX8_start_61 : decode cX8_start 61 = .ok (.putfield 141, 3) := by decide +kernel
theorem dX8_start_64 : decode cX8_start 64 = .ok (.aload_n 0, 1) := by decide +kernel
theorem dX8_start_65 : decode cX8_start 65 = .ok (.iconst 0, 1) := by decide +kernel
theorem dX8_start_66 : decode cX8_start 66 = .ok (.putfield 144, 3) := by decide +kernel
theorem dX8_start_69 : decode cX8_start 69 = .ok (.return_, 1) := by decide +kernel
theorem dX8_way_0 : decode cX8_way 0 = .ok (.iload_n 1, 1) := by decide +kernel
theorem dX8_way_1 : decode cX8_way 1 = .ok (.iconst 3, 1) := by decide +kernel
theorem dX8_way_2 : decode cX8_way 2 = .ok (.iand, 1) := by decide +kernel
theorem dX8_way_3 : decode cX8_way 3 = .ok (.iconst 2, 1) := by decide +kernel
theorem dX8_way_4 : decode cX8_way 4 = .ok (.if_icmp .ne 7, 3) := by decide +kernel
theorem dX8_way_7 : decode cX8_way 7 = .ok (.iconst 4, 1) := by decide +kernel
theorem dX8_way_8 : decode cX8_way 8 = .ok (.goto 16, 3) := by decide +kernel
theorem dX8_way_11 : decode cX8_way 11 = .ok (.iload_n 1, 1) := by decide +kernel
theorem dX8_way_12 : decode cX8_way 12 = .ok (.iconst 3, 1) := by decide +kernel
theorem dX8_way_13 : decode cX8_way 13 = .ok (.iand, 1) := by decide +kernel
theorem dX8_way_14 : decode cX8_way 14 = .ok (.iconst 1, 1) := by decide +kernel
theorem dX8_way_15 : decode cX8_way 15 = .ok (.if_icmp .ne 8, 3) := by decide +kernel
theorem dX8_way_18 : decode cX8_way 18 = .ok (.bipush (-4), 2) := by decide +kernel
theorem dX8_way_20 : decode cX8_way 20 = .ok (.goto 4, 3) := by decide +kernel
theorem dX8_way_23 : decode cX8_way 23 = .ok (.iconst 0, 1) := by decide +kernel
theorem dX8_way_24 : decode cX8_way 24 = .ok (.istore_n 3, 1) := by decide +kernel
theorem dX8_way_25 : decode cX8_way 25 = .ok (.iload_n 2, 1) := by decide +kernel
theorem dX8_way_26 : decode cX8_way 26 = .ok (.bipush 8, 2) := by decide +kernel
theorem dX8_way_28 : decode cX8_way 28 = .ok (.iand, 1) := by decide +kernel
theorem dX8_way_29 : decode cX8_way 29 = .ok (.ifCond .le 33, 3) := by decide +kernel
theorem dX8_way_32 : decode cX8_way 32 = .ok (.iload_n 3, 1) := by decide +kernel
theorem dX8_way_33 : decode cX8_way 33 = .ok (.ifCond .eq 29, 3) := by decide +kernel
theorem dX8_way_36 : decode cX8_way 36 = .ok (.aload_n 0, 1) := by decide +kernel
theorem dX8_way_37 : decode cX8_way 37 = .ok (.getfield 129, 3) := by decide +kernel
theorem dX8_way_40 : decode cX8_way 40 = .ok (.ifCond .eq 22, 3) := by decide +kernel
theorem dX8_way_43 : decode cX8_way 43 = .ok (.iload_n 3, 1) := by decide +kernel
theorem dX8_way_44 : decode cX8_way 44 = .ok (.iconst 5, 1) := by decide +kernel
theorem dX8_way_45 : decode cX8_way 45 = .ok (.imul, 1) := by decide +kernel
theorem dX8_way_46 : decode cX8_way 46 = .ok (.istore_n 3, 1) := by decide +kernel
theorem dX8_way_47 : decode cX8_way 47 = .ok (.aload_n 0, 1) := by decide +kernel
theorem dX8_way_48 : decode cX8_way 48 = .ok (.iconst 0, 1) := by decide +kernel
theorem dX8_way_49 : decode cX8_way 49 = .ok (.putfield 129, 3) := by decide +kernel
theorem dX8_way_52 : decode cX8_way 52 = .ok (.aload_n 0, 1) := by decide +kernel
theorem dX8_way_53 : decode cX8_way 53 = .ok (.dup, 1) := by decide +kernel
theorem dX8_way_54 : decode cX8_way 54 = .ok (.getfield 138, 3) := by decide +kernel
theorem dX8_way_57 : decode cX8_way 57 = .ok (.iconst 2, 1) := by decide +kernel
theorem dX8_way_58 : decode cX8_way 58 = .ok (.ior, 1) := by decide +kernel
theorem dX8_way_59 : decode cX8_way 59 = .ok (.putfield 138, 3) := by decide +kernel
theorem dX8_way_62 : decode cX8_way 62 = .ok (.aload_n 0, 1) := by decide +kernel
theorem dX8_way_63 : decode cX8_way 63 = .ok (.dup, 1) := by decide +kernel
theorem dX8_way_64 : decode cX8_way 64 = .ok (.getfield 138, 3) := by decide +kernel
theorem dX8_way_67 : decode cX8_way 67 = .ok (.iload_n 3, 1) := by decide +kernel
theorem dX8_way_68 : decode cX8_way 68 = .ok (.ifCond .ge 7, 3) := by decide +kernel
theorem dX8_way_71 : decode cX8_way 71 = .ok (.iconst 1, 1) := by decide +kernel
theorem dX8_way_72 : decode cX8_way 72 = .ok (.goto 4, 3) := by decide +kernel
theorem dX8_way_75 : decode cX8_way 75 = .ok (.iconst 0, 1) := by decide +kernel
theorem dX8_way_76 : decode cX8_way 76 = .ok (.ior, 1) := by decide +kernel
theorem dX8_way_77 : decode cX8_way 77 = .ok (.putfield 138, 3) := by decide +kernel
theorem dX8_way_80 : decode cX8_way 80 = .ok (.iload_n 3, 1) := by decide +kernel
theorem dX8_way_81 : decode cX8_way 81 = .ok (.ireturn, 1) := by decide +kernel
theorem dX8_go_0 : decode cX8_go 0 = .ok (.aload_n 0, 1) := by decide +kernel
theorem dX8_go_1 : decode cX8_go 1 = .ok (.getfield 119, 3) := by decide +kernel
theorem dX8_go_4 : decode cX8_go 4 = .ok (.iload_n 2, 1) := by decide +kernel
theorem dX8_go_5 : decode cX8_go 5 = .ok (.iadd, 1) := by decide +kernel
theorem dX8_go_6 : decode cX8_go 6 = .ok (.istore_n 3, 1) := by decide +kernel
theorem dX8_go_7 : decode cX8_go 7 = .ok (.iload_n 3, 1) := by decide +kernel
theorem dX8_go_8 : decode cX8_go 8 = .ok (.ifCond .ge 7, 3) := by decide +kernel
theorem dX8_go_11 : decode cX8_go 11 = .ok (.iconst 0, 1) := by decide +kernel
theorem dX8_go_12 : decode cX8_go 12 = .ok (.goto 17, 3) := by decide +kernel
theorem dX8_go_15 : decode cX8_go 15 = .ok (.iload_n 3, 1) := by decide +kernel
theorem dX8_go_16 : decode cX8_go 16 = .ok (.sipush 511, 3) := by decide +kernel
theorem dX8_go_19 : decode cX8_go 19 = .ok (.if_icmp .le 9, 3) := by decide +kernel
theorem dX8_go_22 : decode cX8_go 22 = .ok (.sipush 511, 3) := by decide +kernel
theorem dX8_go_25 : decode cX8_go 25 = .ok (.goto 4, 3) := by decide +kernel
theorem dX8_go_28 : decode cX8_go 28 = .ok (.iload_n 3, 1) := by decide +kernel
theorem dX8_go_29 : decode cX8_go 29 = .ok (.istore_n 3, 1) := by decide +kernel
theorem dX8_go_30 : decode cX8_go 30 = .ok (.aload_n 0, 1) := by decide +kernel
theorem dX8_go_31 : decode cX8_go 31 = .ok (.iload_n 1, 1) := by decide +kernel
theorem dX8_go_32 : decode cX8_go 32 = .ok (.iload_n 3, 1) := by decide +kernel
theorem dX8_go_33 : decode cX8_go 33 = .ok (.bipush 16, 2) := by decide +kernel
theorem dX8_go_35 : decode cX8_go 35 = .ok (.idiv, 1) := by decide +kernel
theorem dX8_go_36 : decode cX8_go 36 = .ok (.invokevirtual 147, 3) := by decide +kernel
theorem dX8_go_39 : decode cX8_go 39 = .ok (.ifCond .eq 4, 3) := by decide +kernel
theorem dX8_go_42 : decode cX8_go 42 = .ok (.return_, 1) := by decide +kernel
theorem dX8_go_43 : decode cX8_go 43 = .ok (.aload_n 0, 1) := by decide +kernel
theorem dX8_go_44 : decode cX8_go 44 = .ok (.getfield 119, 3) := by decide +kernel
theorem dX8_go_47 : decode cX8_go 47 = .ok (.iload_n 3, 1) := by decide +kernel
theorem dX8_go_48 : decode cX8_go 48 = .ok (.if_icmp .ge 13, 3) := by decide +kernel
theorem dX8_go_51 : decode cX8_go 51 = .ok (.aload_n 0, 1) := by decide +kernel
theorem dX8_go_52 : decode cX8_go 52 = .ok (.getfield 119, 3) := by decide +kernel
theorem dX8_go_55 : decode cX8_go 55 = .ok (.bipush 16, 2) := by decide +kernel
theorem dX8_go_57 : decode cX8_go 57 = .ok (.idiv, 1) := by decide +kernel
theorem dX8_go_58 : decode cX8_go 58 = .ok (.goto 7, 3) := by decide +kernel
theorem dX8_go_61 : decode cX8_go 61 = .ok (.iload_n 3, 1) := by decide +kernel
theorem dX8_go_62 : decode cX8_go 62 = .ok (.bipush 16, 2) := by decide +kernel
theorem dX8_go_64 : decode cX8_go 64 = .ok (.idiv, 1) := by decide +kernel
theorem dX8_go_65 : decode cX8_go 65 = .ok (.istore 4, 2) := by decide +kernel
theorem dX8_go_67 : decode cX8_go 67 = .ok (.aload_n 0, 1) := by decide +kernel
theorem dX8_go_68 : decode cX8_go 68 = .ok (.getfield 119, 3) := by decide +kernel
theorem dX8_go_71 : decode cX8_go 71 = .ok (.iload_n 3, 1) := by decide +kernel
theorem dX8_go_72 : decode cX8_go 72 = .ok (.if_icmp .ge 10, 3) := by decide +kernel
theorem dX8_go_75 : decode cX8_go 75 = .ok (.iload_n 3, 1) := by decide +kernel
theorem dX8_go_76 : decode cX8_go 76 = .ok (.bipush 16, 2) := by decide +kernel
theorem dX8_go_78 : decode cX8_go 78 = .ok (.idiv, 1) := by decide +kernel
theorem dX8_go_79 : decode cX8_go 79 = .ok (.goto 10, 3) := by decide +kernel
theorem dX8_go_82 : decode cX8_go 82 = .ok (.aload_n 0, 1) := by decide +kernel
theorem dX8_go_83 : decode cX8_go 83 = .ok (.getfield 119, 3) := by decide +kernel
theorem dX8_go_86 : decode cX8_go 86 = .ok (.bipush 16, 2) := by decide +kernel
theorem dX8_go_88 : decode cX8_go 88 = .ok (.idiv, 1) := by decide +kernel
theorem dX8_go_89 : decode cX8_go 89 = .ok (.istore 5, 2) := by decide +kernel
theorem dX8_go_91 : decode cX8_go 91 = .ok (.iload 4, 2) := by decide +kernel
theorem dX8_go_93 : decode cX8_go 93 = .ok (.iconst 1, 1) := by decide +kernel
theorem dX8_go_94 : decode cX8_go 94 = .ok (.iadd, 1) := by decide +kernel
theorem dX8_go_95 : decode cX8_go 95 = .ok (.istore 6, 2) := by decide +kernel
theorem dX8_go_97 : decode cX8_go 97 = .ok (.iload 6, 2) := by decide +kernel
theorem dX8_go_99 : decode cX8_go 99 = .ok (.iload 5, 2) := by decide +kernel
theorem dX8_go_101 : decode cX8_go 101 = .ok (.if_icmp .ge 33, 3) := by decide +kernel
theorem dX8_go_104 : decode cX8_go 104 = .ok (.aload_n 0, 1) := by decide +kernel
theorem dX8_go_105 : decode cX8_go 105 = .ok (.dup, 1) := by decide +kernel
theorem dX8_go_106 : decode cX8_go 106 = .ok (.getfield 138, 3) := by decide +kernel
theorem dX8_go_109 : decode cX8_go 109 = .ok (.aload_n 0, 1) := by decide +kernel
theorem dX8_go_110 : decode cX8_go 110 = .ok (.iload_n 1, 1) := by decide +kernel
theorem dX8_go_111 : decode cX8_go 111 = .ok (.iload 6, 2) := by decide +kernel
theorem dX8_go_113 : decode cX8_go 113 = .ok (.invokevirtual 147, 3) := by decide +kernel
theorem dX8_go_116 : decode cX8_go 116 = .ok (.ifCond .eq 7, 3) := by decide +kernel
theorem dX8_go_119 : decode cX8_go 119 = .ok (.iconst 4, 1) := by decide +kernel
theorem dX8_go_120 : decode cX8_go 120 = .ok (.goto 4, 3) := by decide +kernel
theorem dX8_go_123 : decode cX8_go 123 = .ok (.iconst 0, 1) := by decide +kernel
theorem dX8_go_124 : decode cX8_go 124 = .ok (.ior, 1) := by decide +kernel
theorem dX8_go_125 : decode cX8_go 125 = .ok (.putfield 138, 3) := by decide +kernel
theorem dX8_go_128 : decode cX8_go 128 = .ok (.iinc 6 1, 3) := by decide +kernel
theorem dX8_go_131 : decode cX8_go 131 = .ok (.goto (-34), 3) := by decide +kernel
theorem dX8_go_134 : decode cX8_go 134 = .ok (.aload_n 0, 1) := by decide +kernel
theorem dX8_go_135 : decode cX8_go 135 = .ok (.iload_n 3, 1) := by decide +kernel
theorem dX8_go_136 : decode cX8_go 136 = .ok (.putfield 119, 3) := by decide +kernel
theorem dX8_go_139 : decode cX8_go 139 = .ok (.return_, 1) := by decide +kernel
theorem dX8_fall_0 : decode cX8_fall 0 = .ok (.aload_n 0, 1) := by decide +kernel
theorem dX8_fall_1 : decode cX8_fall 1 = .ok (.getfield 119, 3) := by decide +kernel
theorem dX8_fall_4 : decode cX8_fall 4 = .ok (.bipush 16, 2) := by decide +kernel
theorem dX8_fall_6 : decode cX8_fall 6 = .ok (.idiv, 1) := by decide +kernel
theorem dX8_fall_7 : decode cX8_fall 7 = .ok (.istore_n 2, 1) := by decide +kernel
theorem dX8_fall_8 : decode cX8_fall 8 = .ok (.aload_n 0, 1) := by decide +kernel
theorem dX8_fall_9 : decode cX8_fall 9 = .ok (.getfield 125, 3) := by decide +kernel
theorem dX8_fall_12 : decode cX8_fall 12 = .ok (.ifCond .eq 35, 3) := by decide +kernel
theorem dX8_fall_15 : decode cX8_fall 15 = .ok (.aload_n 0, 1) := by decide +kernel
theorem dX8_fall_16 : decode cX8_fall 16 = .ok (.iload_n 1, 1) := by decide +kernel
theorem dX8_fall_17 : decode cX8_fall 17 = .ok (.iload_n 2, 1) := by decide +kernel
theorem dX8_fall_18 : decode cX8_fall 18 = .ok (.invokevirtual 108, 3) := by decide +kernel
theorem dX8_fall_21 : decode cX8_fall 21 = .ok (.ifCond .ne 16, 3) := by decide +kernel
theorem dX8_fall_24 : decode cX8_fall 24 = .ok (.aload_n 0, 1) := by decide +kernel
theorem dX8_fall_25 : decode cX8_fall 25 = .ok (.iload_n 1, 1) := by decide +kernel
theorem dX8_fall_26 : decode cX8_fall 26 = .ok (.iload_n 2, 1) := by decide +kernel
theorem dX8_fall_27 : decode cX8_fall 27 = .ok (.invokevirtual 112, 3) := by decide +kernel
theorem dX8_fall_30 : decode cX8_fall 30 = .ok (.aload_n 0, 1) := by decide +kernel
theorem dX8_fall_31 : decode cX8_fall 31 = .ok (.getfield 116, 3) := by decide +kernel
theorem dX8_fall_34 : decode cX8_fall 34 = .ok (.if_icmp .ge 13, 3) := by decide +kernel
theorem dX8_fall_37 : decode cX8_fall 37 = .ok (.aload_n 0, 1) := by decide +kernel
theorem dX8_fall_38 : decode cX8_fall 38 = .ok (.iconst 0, 1) := by decide +kernel
theorem dX8_fall_39 : decode cX8_fall 39 = .ok (.putfield 125, 3) := by decide +kernel
theorem dX8_fall_42 : decode cX8_fall 42 = .ok (.aload_n 0, 1) := by decide +kernel
theorem dX8_fall_43 : decode cX8_fall 43 = .ok (.iconst 0, 1) := by decide +kernel
theorem dX8_fall_44 : decode cX8_fall 44 = .ok (.putfield 122, 3) := by decide +kernel
theorem dX8_fall_47 : decode cX8_fall 47 = .ok (.aload_n 0, 1) := by decide +kernel
theorem dX8_fall_48 : decode cX8_fall 48 = .ok (.getfield 125, 3) := by decide +kernel
theorem dX8_fall_51 : decode cX8_fall 51 = .ok (.ifCond .ne 91, 3) := by decide +kernel
theorem dX8_fall_54 : decode cX8_fall 54 = .ok (.aload_n 0, 1) := by decide +kernel
theorem dX8_fall_55 : decode cX8_fall 55 = .ok (.aload_n 0, 1) := by decide +kernel
theorem dX8_fall_56 : decode cX8_fall 56 = .ok (.getfield 122, 3) := by decide +kernel
theorem dX8_fall_59 : decode cX8_fall 59 = .ok (.iconst 2, 1) := by decide +kernel
theorem dX8_fall_60 : decode cX8_fall 60 = .ok (.isub, 1) := by decide +kernel
theorem dX8_fall_61 : decode cX8_fall 61 = .ok (.bipush (-14), 2) := by decide +kernel
theorem dX8_fall_63 : decode cX8_fall 63 = .ok (.if_icmp .ge 8, 3) := by decide +kernel
theorem dX8_fall_66 : decode cX8_fall 66 = .ok (.bipush (-14), 2) := by decide +kernel
theorem dX8_fall_68 : decode cX8_fall 68 = .ok (.goto 9, 3) := by decide +kernel
theorem dX8_fall_71 : decode cX8_fall 71 = .ok (.aload_n 0, 1) := by decide +kernel
theorem dX8_fall_72 : decode cX8_fall 72 = .ok (.getfield 122, 3) := by decide +kernel
theorem dX8_fall_75 : decode cX8_fall 75 = .ok (.iconst 2, 1) := by decide +kernel
theorem dX8_fall_76 : decode cX8_fall 76 = .ok (.isub, 1) := by decide +kernel
theorem dX8_fall_77 : decode cX8_fall 77 = .ok (.putfield 122, 3) := by decide +kernel
theorem dX8_fall_80 : decode cX8_fall 80 = .ok (.aload_n 0, 1) := by decide +kernel
theorem dX8_fall_81 : decode cX8_fall 81 = .ok (.dup, 1) := by decide +kernel
theorem dX8_fall_82 : decode cX8_fall 82 = .ok (.getfield 116, 3) := by decide +kernel
theorem dX8_fall_85 : decode cX8_fall 85 = .ok (.aload_n 0, 1) := by decide +kernel
theorem dX8_fall_86 : decode cX8_fall 86 = .ok (.getfield 122, 3) := by decide +kernel
theorem dX8_fall_89 : decode cX8_fall 89 = .ok (.iadd, 1) := by decide +kernel
theorem dX8_fall_90 : decode cX8_fall 90 = .ok (.putfield 116, 3) := by decide +kernel
theorem dX8_fall_93 : decode cX8_fall 93 = .ok (.aload_n 0, 1) := by decide +kernel
theorem dX8_fall_94 : decode cX8_fall 94 = .ok (.iload_n 1, 1) := by decide +kernel
theorem dX8_fall_95 : decode cX8_fall 95 = .ok (.iload_n 2, 1) := by decide +kernel
theorem dX8_fall_96 : decode cX8_fall 96 = .ok (.invokevirtual 108, 3) := by decide +kernel
theorem dX8_fall_99 : decode cX8_fall 99 = .ok (.ifCond .ne 43, 3) := by decide +kernel
theorem dX8_fall_102 : decode cX8_fall 102 = .ok (.aload_n 0, 1) := by decide +kernel
theorem dX8_fall_103 : decode cX8_fall 103 = .ok (.getfield 122, 3) := by decide +kernel
theorem dX8_fall_106 : decode cX8_fall 106 = .ok (.ifCond .gt 36, 3) := by decide +kernel
theorem dX8_fall_109 : decode cX8_fall 109 = .ok (.aload_n 0, 1) := by decide +kernel
theorem dX8_fall_110 : decode cX8_fall 110 = .ok (.getfield 116, 3) := by decide +kernel
theorem dX8_fall_113 : decode cX8_fall 113 = .ok (.aload_n 0, 1) := by decide +kernel
theorem dX8_fall_114 : decode cX8_fall 114 = .ok (.iload_n 1, 1) := by decide +kernel
theorem dX8_fall_115 : decode cX8_fall 115 = .ok (.iload_n 2, 1) := by decide +kernel
theorem dX8_fall_116 : decode cX8_fall 116 = .ok (.invokevirtual 112, 3) := by decide +kernel
theorem dX8_fall_119 : decode cX8_fall 119 = .ok (.if_icmp .gt 23, 3) := by decide +kernel
theorem dX8_fall_122 : decode cX8_fall 122 = .ok (.aload_n 0, 1) := by decide +kernel
theorem dX8_fall_123 : decode cX8_fall 123 = .ok (.iconst 1, 1) := by decide +kernel
theorem dX8_fall_124 : decode cX8_fall 124 = .ok (.putfield 125, 3) := by decide +kernel
theorem dX8_fall_127 : decode cX8_fall 127 = .ok (.aload_n 0, 1) := by decide +kernel
theorem dX8_fall_128 : decode cX8_fall 128 = .ok (.aload_n 0, 1) := by decide +kernel
theorem dX8_fall_129 : decode cX8_fall 129 = .ok (.iload_n 1, 1) := by decide +kernel
theorem dX8_fall_130 : decode cX8_fall 130 = .ok (.iload_n 2, 1) := by decide +kernel
theorem dX8_fall_131 : decode cX8_fall 131 = .ok (.invokevirtual 112, 3) := by decide +kernel
theorem dX8_fall_134 : decode cX8_fall 134 = .ok (.putfield 116, 3) := by decide +kernel
theorem dX8_fall_137 : decode cX8_fall 137 = .ok (.aload_n 0, 1) := by decide +kernel
theorem dX8_fall_138 : decode cX8_fall 138 = .ok (.iconst 0, 1) := by decide +kernel
theorem dX8_fall_139 : decode cX8_fall 139 = .ok (.putfield 122, 3) := by decide +kernel
theorem dX8_fall_142 : decode cX8_fall 142 = .ok (.aload_n 0, 1) := by decide +kernel
theorem dX8_fall_143 : decode cX8_fall 143 = .ok (.dup, 1) := by decide +kernel
theorem dX8_fall_144 : decode cX8_fall 144 = .ok (.getfield 129, 3) := by decide +kernel
theorem dX8_fall_147 : decode cX8_fall 147 = .ok (.aload_n 0, 1) := by decide +kernel
theorem dX8_fall_148 : decode cX8_fall 148 = .ok (.getfield 125, 3) := by decide +kernel
theorem dX8_fall_151 : decode cX8_fall 151 = .ok (.ior, 1) := by decide +kernel
theorem dX8_fall_152 : decode cX8_fall 152 = .ok (.putfield 129, 3) := by decide +kernel
theorem dX8_fall_155 : decode cX8_fall 155 = .ok (.return_, 1) := by decide +kernel
theorem dX8_meet_0 : decode cX8_meet 0 = .ok (.aload_n 0, 1) := by decide +kernel
theorem dX8_meet_1 : decode cX8_meet 1 = .ok (.getfield 119, 3) := by decide +kernel
theorem dX8_meet_4 : decode cX8_meet 4 = .ok (.bipush 16, 2) := by decide +kernel
theorem dX8_meet_6 : decode cX8_meet 6 = .ok (.idiv, 1) := by decide +kernel
theorem dX8_meet_7 : decode cX8_meet 7 = .ok (.istore_n 2, 1) := by decide +kernel
theorem dX8_meet_8 : decode cX8_meet 8 = .ok (.aload_n 0, 1) := by decide +kernel
theorem dX8_meet_9 : decode cX8_meet 9 = .ok (.getfield 13, 3) := by decide +kernel
theorem dX8_meet_12 : decode cX8_meet 12 = .ok (.bipush 32, 2) := by decide +kernel
theorem dX8_meet_14 : decode cX8_meet 14 = .ok (.iload_n 1, 1) := by decide +kernel
theorem dX8_meet_15 : decode cX8_meet 15 = .ok (.imul, 1) := by decide +kernel
theorem dX8_meet_16 : decode cX8_meet 16 = .ok (.iload_n 2, 1) := by decide +kernel
theorem dX8_meet_17 : decode cX8_meet 17 = .ok (.iadd, 1) := by decide +kernel
theorem dX8_meet_18 : decode cX8_meet 18 = .ok (.iaload, 1) := by decide +kernel
theorem dX8_meet_19 : decode cX8_meet 19 = .ok (.istore_n 3, 1) := by decide +kernel
theorem dX8_meet_20 : decode cX8_meet 20 = .ok (.aload_n 0, 1) := by decide +kernel
theorem dX8_meet_21 : decode cX8_meet 21 = .ok (.iload_n 1, 1) := by decide +kernel
theorem dX8_meet_22 : decode cX8_meet 22 = .ok (.iload_n 2, 1) := by decide +kernel
theorem dX8_meet_23 : decode cX8_meet 23 = .ok (.invokevirtual 108, 3) := by decide +kernel
theorem dX8_meet_26 : decode cX8_meet 26 = .ok (.ifCond .eq 7, 3) := by decide +kernel
theorem dX8_meet_29 : decode cX8_meet 29 = .ok (.iconst 0, 1) := by decide +kernel
theorem dX8_meet_30 : decode cX8_meet 30 = .ok (.goto 9, 3) := by decide +kernel
theorem dX8_meet_33 : decode cX8_meet 33 = .ok (.aload_n 0, 1) := by decide +kernel
theorem dX8_meet_34 : decode cX8_meet 34 = .ok (.iload_n 1, 1) := by decide +kernel
theorem dX8_meet_35 : decode cX8_meet 35 = .ok (.iload_n 2, 1) := by decide +kernel
theorem dX8_meet_36 : decode cX8_meet 36 = .ok (.invokevirtual 112, 3) := by decide +kernel
theorem dX8_meet_39 : decode cX8_meet 39 = .ok (.istore 4, 2) := by decide +kernel
theorem dX8_meet_41 : decode cX8_meet 41 = .ok (.iload_n 3, 1) := by decide +kernel
theorem dX8_meet_42 : decode cX8_meet 42 = .ok (.iconst 1, 1) := by decide +kernel
theorem dX8_meet_43 : decode cX8_meet 43 = .ok (.if_icmp .ne 27, 3) := by decide +kernel
theorem dX8_meet_46 : decode cX8_meet 46 = .ok (.aload_n 0, 1) := by decide +kernel
theorem dX8_meet_47 : decode cX8_meet 47 = .ok (.getfield 116, 3) := by decide +kernel
theorem dX8_meet_50 : decode cX8_meet 50 = .ok (.iload 4, 2) := by decide +kernel
theorem dX8_meet_52 : decode cX8_meet 52 = .ok (.isub, 1) := by decide +kernel
theorem dX8_meet_53 : decode cX8_meet 53 = .ok (.bipush 24, 2) := by decide +kernel
theorem dX8_meet_55 : decode cX8_meet 55 = .ok (.if_icmp .gt 15, 3) := by decide +kernel
theorem dX8_meet_58 : decode cX8_meet 58 = .ok (.aload_n 0, 1) := by decide +kernel
theorem dX8_meet_59 : decode cX8_meet 59 = .ok (.dup, 1) := by decide +kernel
theorem dX8_meet_60 : decode cX8_meet 60 = .ok (.getfield 132, 3) := by decide +kernel
theorem dX8_meet_63 : decode cX8_meet 63 = .ok (.iconst 1, 1) := by decide +kernel
theorem dX8_meet_64 : decode cX8_meet 64 = .ok (.iload_n 2, 1) := by decide +kernel
theorem dX8_meet_65 : decode cX8_meet 65 = .ok (.ishl, 1) := by decide +kernel
theorem dX8_meet_66 : decode cX8_meet 66 = .ok (.ior, 1) := by decide +kernel
theorem dX8_meet_67 : decode cX8_meet 67 = .ok (.putfield 132, 3) := by decide +kernel
theorem dX8_meet_70 : decode cX8_meet 70 = .ok (.aload_n 0, 1) := by decide +kernel
theorem dX8_meet_71 : decode cX8_meet 71 = .ok (.aload_n 0, 1) := by decide +kernel
theorem dX8_meet_72 : decode cX8_meet 72 = .ok (.getfield 116, 3) := by decide +kernel
theorem dX8_meet_75 : decode cX8_meet 75 = .ok (.bipush (-32), 2) := by decide +kernel
theorem dX8_meet_77 : decode cX8_meet 77 = .ok (.if_icmp .lt 15, 3) := by decide +kernel
theorem dX8_meet_80 : decode cX8_meet 80 = .ok (.aload_n 0, 1) := by decide +kernel
theorem dX8_meet_81 : decode cX8_meet 81 = .ok (.getfield 125, 3) := by decide +kernel
theorem dX8_meet_84 : decode cX8_meet 84 = .ok (.ifCond .eq 12, 3) := by decide +kernel
theorem dX8_meet_87 : decode cX8_meet 87 = .ok (.iload_n 3, 1) := by decide +kernel
theorem dX8_meet_88 : decode cX8_meet 88 = .ok (.iconst 2, 1) := by decide +kernel
theorem dX8_meet_89 : decode cX8_meet 89 = .ok (.if_icmp .ne 7, 3) := by decide +kernel
theorem dX8_meet_92 : decode cX8_meet 92 = .ok (.iconst 2, 1) := by decide +kernel
theorem dX8_meet_93 : decode cX8_meet 93 = .ok (.goto 14, 3) := by decide +kernel
theorem dX8_meet_96 : decode cX8_meet 96 = .ok (.iload_n 2, 1) := by decide +kernel
theorem dX8_meet_97 : decode cX8_meet 97 = .ok (.bipush 31, 2) := by decide +kernel
theorem dX8_meet_99 : decode cX8_meet 99 = .ok (.if_icmp .ne 7, 3) := by decide +kernel
theorem dX8_meet_102 : decode cX8_meet 102 = .ok (.iconst 1, 1) := by decide +kernel
theorem dX8_meet_103 : decode cX8_meet 103 = .ok (.goto 4, 3) := by decide +kernel
theorem dX8_meet_106 : decode cX8_meet 106 = .ok (.iconst 0, 1) := by decide +kernel
theorem dX8_meet_107 : decode cX8_meet 107 = .ok (.putfield 144, 3) := by decide +kernel
theorem dX8_meet_110 : decode cX8_meet 110 = .ok (.return_, 1) := by decide +kernel
theorem dX8_tick_0 : decode cX8_tick 0 = .ok (.iload_n 2, 1) := by decide +kernel
theorem dX8_tick_1 : decode cX8_tick 1 = .ok (.iload_n 3, 1) := by decide +kernel
theorem dX8_tick_2 : decode cX8_tick 2 = .ok (.iconst (-1), 1) := by decide +kernel
theorem dX8_tick_3 : decode cX8_tick 3 = .ok (.ixor, 1) := by decide +kernel
theorem dX8_tick_4 : decode cX8_tick 4 = .ok (.iand, 1) := by decide +kernel
theorem dX8_tick_5 : decode cX8_tick 5 = .ok (.istore 4, 2) := by decide +kernel
theorem dX8_tick_7 : decode cX8_tick 7 = .ok (.aload_n 0, 1) := by decide +kernel
theorem dX8_tick_8 : decode cX8_tick 8 = .ok (.iload_n 2, 1) := by decide +kernel
theorem dX8_tick_9 : decode cX8_tick 9 = .ok (.iload 4, 2) := by decide +kernel
theorem dX8_tick_11 : decode cX8_tick 11 = .ok (.invokevirtual 150, 3) := by decide +kernel
theorem dX8_tick_14 : decode cX8_tick 14 = .ok (.istore 5, 2) := by decide +kernel
theorem dX8_tick_16 : decode cX8_tick 16 = .ok (.iload 4, 2) := by decide +kernel
theorem dX8_tick_18 : decode cX8_tick 18 = .ok (.iconst 4, 1) := by decide +kernel
theorem dX8_tick_19 : decode cX8_tick 19 = .ok (.iand, 1) := by decide +kernel
theorem dX8_tick_20 : decode cX8_tick 20 = .ok (.ifCond .le 31, 3) := by decide +kernel
theorem dX8_tick_23 : decode cX8_tick 23 = .ok (.aload_n 0, 1) := by decide +kernel
theorem dX8_tick_24 : decode cX8_tick 24 = .ok (.getfield 125, 3) := by decide +kernel
theorem dX8_tick_27 : decode cX8_tick 27 = .ok (.ifCond .eq 24, 3) := by decide +kernel
theorem dX8_tick_30 : decode cX8_tick 30 = .ok (.aload_n 0, 1) := by decide +kernel
theorem dX8_tick_31 : decode cX8_tick 31 = .ok (.bipush 14, 2) := by decide +kernel
theorem dX8_tick_33 : decode cX8_tick 33 = .ok (.putfield 122, 3) := by decide +kernel
theorem dX8_tick_36 : decode cX8_tick 36 = .ok (.aload_n 0, 1) := by decide +kernel
theorem dX8_tick_37 : decode cX8_tick 37 = .ok (.iconst 0, 1) := by decide +kernel
theorem dX8_tick_38 : decode cX8_tick 38 = .ok (.putfield 125, 3) := by decide +kernel
theorem dX8_tick_41 : decode cX8_tick 41 = .ok (.aload_n 0, 1) := by decide +kernel
theorem dX8_tick_42 : decode cX8_tick 42 = .ok (.dup, 1) := by decide +kernel
theorem dX8_tick_43 : decode cX8_tick 43 = .ok (.getfield 135, 3) := by decide +kernel
theorem dX8_tick_46 : decode cX8_tick 46 = .ok (.iconst 1, 1) := by decide +kernel
theorem dX8_tick_47 : decode cX8_tick 47 = .ok (.iadd, 1) := by decide +kernel
theorem dX8_tick_48 : decode cX8_tick 48 = .ok (.putfield 135, 3) := by decide +kernel
theorem dX8_tick_51 : decode cX8_tick 51 = .ok (.aload_n 0, 1) := by decide +kernel
theorem dX8_tick_52 : decode cX8_tick 52 = .ok (.iload_n 1, 1) := by decide +kernel
theorem dX8_tick_53 : decode cX8_tick 53 = .ok (.iload 5, 2) := by decide +kernel
theorem dX8_tick_55 : decode cX8_tick 55 = .ok (.invokevirtual 153, 3) := by decide +kernel
theorem dX8_tick_58 : decode cX8_tick 58 = .ok (.aload_n 0, 1) := by decide +kernel
theorem dX8_tick_59 : decode cX8_tick 59 = .ok (.iload_n 1, 1) := by decide +kernel
theorem dX8_tick_60 : decode cX8_tick 60 = .ok (.invokevirtual 157, 3) := by decide +kernel
theorem dX8_tick_63 : decode cX8_tick 63 = .ok (.aload_n 0, 1) := by decide +kernel
theorem dX8_tick_64 : decode cX8_tick 64 = .ok (.iload_n 1, 1) := by decide +kernel
theorem dX8_tick_65 : decode cX8_tick 65 = .ok (.invokevirtual 161, 3) := by decide +kernel
theorem dX8_tick_68 : decode cX8_tick 68 = .ok (.aload_n 0, 1) := by decide +kernel
theorem dX8_tick_69 : decode cX8_tick 69 = .ok (.dup, 1) := by decide +kernel
theorem dX8_tick_70 : decode cX8_tick 70 = .ok (.getfield 141, 3) := by decide +kernel
theorem dX8_tick_73 : decode cX8_tick 73 = .ok (.iconst 1, 1) := by decide +kernel
theorem dX8_tick_74 : decode cX8_tick 74 = .ok (.iadd, 1) := by decide +kernel
theorem dX8_tick_75 : decode cX8_tick 75 = .ok (.putfield 141, 3) := by decide +kernel
theorem dX8_tick_78 : decode cX8_tick 78 = .ok (.return_, 1) := by decide +kernel
theorem dX8_run_0 : decode cX8_run 0 = .ok (.iconst 0, 1) := by decide +kernel
theorem dX8_run_1 : decode cX8_run 1 = .ok (.istore_n 3, 1) := by decide +kernel
theorem dX8_run_2 : decode cX8_run 2 = .ok (.aload_n 0, 1) := by decide +kernel
theorem dX8_run_3 : decode cX8_run 3 = .ok (.aload_n 0, 1) := by decide +kernel
theorem dX8_run_4 : decode cX8_run 4 = .ok (.getfield 16, 3) := by decide +kernel
theorem dX8_run_7 : decode cX8_run 7 = .ok (.iload_n 1, 1) := by decide +kernel
theorem dX8_run_8 : decode cX8_run 8 = .ok (.iaload, 1) := by decide +kernel
theorem dX8_run_9 : decode cX8_run 9 = .ok (.invokevirtual 164, 3) := by decide +kernel
theorem dX8_run_12 : decode cX8_run 12 = .ok (.iconst 0, 1) := by decide +kernel
theorem dX8_run_13 : decode cX8_run 13 = .ok (.istore 4, 2) := by decide +kernel
theorem dX8_run_15 : decode cX8_run 15 = .ok (.iload 4, 2) := by decide +kernel
theorem dX8_run_17 : decode cX8_run 17 = .ok (.aload_n 0, 1) := by decide +kernel
theorem dX8_run_18 : decode cX8_run 18 = .ok (.getfield 19, 3) := by decide +kernel
theorem dX8_run_21 : decode cX8_run 21 = .ok (.iload_n 1, 1) := by decide +kernel
theorem dX8_run_22 : decode cX8_run 22 = .ok (.iaload, 1) := by decide +kernel
theorem dX8_run_23 : decode cX8_run 23 = .ok (.if_icmp .ge 86, 3) := by decide +kernel
theorem dX8_run_26 : decode cX8_run 26 = .ok (.iconst 0, 1) := by decide +kernel
theorem dX8_run_27 : decode cX8_run 27 = .ok (.istore 5, 2) := by decide +kernel
theorem dX8_run_29 : decode cX8_run 29 = .ok (.iload 5, 2) := by decide +kernel
theorem dX8_run_31 : decode cX8_run 31 = .ok (.aload_n 0, 1) := by decide +kernel
theorem dX8_run_32 : decode cX8_run 32 = .ok (.getfield 31, 3) := by decide +kernel
theorem dX8_run_35 : decode cX8_run 35 = .ok (.bipush 20, 2) := by decide +kernel
theorem dX8_run_37 : decode cX8_run 37 = .ok (.iload_n 1, 1) := by decide +kernel
theorem dX8_run_38 : decode cX8_run 38 = .ok (.imul, 1) := by decide +kernel
theorem dX8_run_39 : decode cX8_run 39 = .ok (.iload 4, 2) := by decide +kernel
theorem dX8_run_41 : decode cX8_run 41 = .ok (.iadd, 1) := by decide +kernel
theorem dX8_run_42 : decode cX8_run 42 = .ok (.iaload, 1) := by decide +kernel
theorem dX8_run_43 : decode cX8_run 43 = .ok (.if_icmp .ge 60, 3) := by decide +kernel
theorem dX8_run_46 : decode cX8_run 46 = .ok (.aload_n 0, 1) := by decide +kernel
theorem dX8_run_47 : decode cX8_run 47 = .ok (.getfield 141, 3) := by decide +kernel
theorem dX8_run_50 : decode cX8_run 50 = .ok (.iload_n 2, 1) := by decide +kernel
theorem dX8_run_51 : decode cX8_run 51 = .ok (.if_icmp .ge 52, 3) := by decide +kernel
theorem dX8_run_54 : decode cX8_run 54 = .ok (.aload_n 0, 1) := by decide +kernel
theorem dX8_run_55 : decode cX8_run 55 = .ok (.getfield 144, 3) := by decide +kernel
theorem dX8_run_58 : decode cX8_run 58 = .ok (.ifCond .ne 45, 3) := by decide +kernel
theorem dX8_run_61 : decode cX8_run 61 = .ok (.aload_n 0, 1) := by decide +kernel
theorem dX8_run_62 : decode cX8_run 62 = .ok (.aload_n 0, 1) := by decide +kernel
theorem dX8_run_63 : decode cX8_run 63 = .ok (.getfield 16, 3) := by decide +kernel
theorem dX8_run_66 : decode cX8_run 66 = .ok (.iload_n 1, 1) := by decide +kernel
theorem dX8_run_67 : decode cX8_run 67 = .ok (.iaload, 1) := by decide +kernel
theorem dX8_run_68 : decode cX8_run 68 = .ok (.aload_n 0, 1) := by decide +kernel
theorem dX8_run_69 : decode cX8_run 69 = .ok (.getfield 28, 3) := by decide +kernel
theorem dX8_run_72 : decode cX8_run 72 = .ok (.bipush 20, 2) := by decide +kernel
theorem dX8_run_74 : decode cX8_run 74 = .ok (.iload_n 1, 1) := by decide +kernel
theorem dX8_run_75 : decode cX8_run 75 = .ok (.imul, 1) := by decide +kernel
theorem dX8_run_76 : decode cX8_run 76 = .ok (.iload 4, 2) := by decide +kernel
theorem dX8_run_78 : decode cX8_run 78 = .ok (.iadd, 1) := by decide +kernel
theorem dX8_run_79 : decode cX8_run 79 = .ok (.iaload, 1) := by decide +kernel
theorem dX8_run_80 : decode cX8_run 80 = .ok (.iload_n 3, 1) := by decide +kernel
theorem dX8_run_81 : decode cX8_run 81 = .ok (.invokevirtual 167, 3) := by decide +kernel
theorem dX8_run_84 : decode cX8_run 84 = .ok (.aload_n 0, 1) := by decide +kernel
theorem dX8_run_85 : decode cX8_run 85 = .ok (.getfield 28, 3) := by decide +kernel
theorem dX8_run_88 : decode cX8_run 88 = .ok (.bipush 20, 2) := by decide +kernel
theorem dX8_run_90 : decode cX8_run 90 = .ok (.iload_n 1, 1) := by decide +kernel
theorem dX8_run_91 : decode cX8_run 91 = .ok (.imul, 1) := by decide +kernel
theorem dX8_run_92 : decode cX8_run 92 = .ok (.iload 4, 2) := by decide +kernel
theorem dX8_run_94 : decode cX8_run 94 = .ok (.iadd, 1) := by decide +kernel
theorem dX8_run_95 : decode cX8_run 95 = .ok (.iaload, 1) := by decide +kernel
theorem dX8_run_96 : decode cX8_run 96 = .ok (.istore_n 3, 1) := by decide +kernel
theorem dX8_run_97 : decode cX8_run 97 = .ok (.iinc 5 1, 3) := by decide +kernel
theorem dX8_run_100 : decode cX8_run 100 = .ok (.goto (-71), 3) := by decide +kernel
theorem dX8_run_103 : decode cX8_run 103 = .ok (.iinc 4 1, 3) := by decide +kernel
theorem dX8_run_106 : decode cX8_run 106 = .ok (.goto (-91), 3) := by decide +kernel
theorem dX8_run_109 : decode cX8_run 109 = .ok (.return_, 1) := by decide +kernel
theorem dX8_purse_0 : decode cX8_purse 0 = .ok (.iconst 0, 1) := by decide +kernel
theorem dX8_purse_1 : decode cX8_purse 1 = .ok (.istore_n 1, 1) := by decide +kernel
theorem dX8_purse_2 : decode cX8_purse 2 = .ok (.iconst 0, 1) := by decide +kernel
theorem dX8_purse_3 : decode cX8_purse 3 = .ok (.istore_n 2, 1) := by decide +kernel
theorem dX8_purse_4 : decode cX8_purse 4 = .ok (.iload_n 2, 1) := by decide +kernel
theorem dX8_purse_5 : decode cX8_purse 5 = .ok (.bipush 32, 2) := by decide +kernel
theorem dX8_purse_7 : decode cX8_purse 7 = .ok (.if_icmp .ge 20, 3) := by decide +kernel
theorem dX8_purse_10 : decode cX8_purse 10 = .ok (.iload_n 1, 1) := by decide +kernel
theorem dX8_purse_11 : decode cX8_purse 11 = .ok (.aload_n 0, 1) := by decide +kernel
theorem dX8_purse_12 : decode cX8_purse 12 = .ok (.getfield 132, 3) := by decide +kernel
theorem dX8_purse_15 : decode cX8_purse 15 = .ok (.iload_n 2, 1) := by decide +kernel
theorem dX8_purse_16 : decode cX8_purse 16 = .ok (.ishr, 1) := by decide +kernel
theorem dX8_purse_17 : decode cX8_purse 17 = .ok (.iconst 1, 1) := by decide +kernel
theorem dX8_purse_18 : decode cX8_purse 18 = .ok (.iand, 1) := by decide +kernel
theorem dX8_purse_19 : decode cX8_purse 19 = .ok (.iadd, 1) := by decide +kernel
theorem dX8_purse_20 : decode cX8_purse 20 = .ok (.istore_n 1, 1) := by decide +kernel
theorem dX8_purse_21 : decode cX8_purse 21 = .ok (.iinc 2 1, 3) := by decide +kernel
theorem dX8_purse_24 : decode cX8_purse 24 = .ok (.goto (-20), 3) := by decide +kernel
theorem dX8_purse_27 : decode cX8_purse 27 = .ok (.iload_n 1, 1) := by decide +kernel
theorem dX8_purse_28 : decode cX8_purse 28 = .ok (.ireturn, 1) := by decide +kernel
theorem dX8_level_0 : decode cX8_level 0 = .ok (.aload_n 0, 1) := by decide +kernel
theorem dX8_level_1 : decode cX8_level 1 = .ok (.aload_n 0, 1) := by decide +kernel
theorem dX8_level_2 : decode cX8_level 2 = .ok (.getfield 92, 3) := by decide +kernel
theorem dX8_level_5 : decode cX8_level 5 = .ok (.iconst 3, 1) := by decide +kernel
theorem dX8_level_6 : decode cX8_level 6 = .ok (.if_icmp .ne 7, 3) := by decide +kernel
theorem dX8_level_9 : decode cX8_level 9 = .ok (.iconst 1, 1) := by decide +kernel
theorem dX8_level_10 : decode cX8_level 10 = .ok (.goto 4, 3) := by decide +kernel
theorem dX8_level_13 : decode cX8_level 13 = .ok (.iconst 0, 1) := by decide +kernel
theorem dX8_level_14 : decode cX8_level 14 = .ok (.invokevirtual 171, 3) := by decide +kernel
theorem dX8_level_17 : decode cX8_level 17 = .ok (.ifCond .eq 5, 3) := by decide +kernel
theorem dX8_level_20 : decode cX8_level 20 = .ok (.iconst (-1), 1) := by decide +kernel
theorem dX8_level_21 : decode cX8_level 21 = .ok (.ireturn, 1) := by decide +kernel
theorem dX8_level_22 : decode cX8_level 22 = .ok (.aload_n 0, 1) := by decide +kernel
theorem dX8_level_23 : decode cX8_level 23 = .ok (.dup, 1) := by decide +kernel
theorem dX8_level_24 : decode cX8_level 24 = .ok (.getfield 92, 3) := by decide +kernel
theorem dX8_level_27 : decode cX8_level 27 = .ok (.iconst 1, 1) := by decide +kernel
theorem dX8_level_28 : decode cX8_level 28 = .ok (.iadd, 1) := by decide +kernel
theorem dX8_level_29 : decode cX8_level 29 = .ok (.putfield 92, 3) := by decide +kernel
theorem dX8_level_32 : decode cX8_level 32 = .ok (.aload_n 0, 1) := by decide +kernel
theorem dX8_level_33 : decode cX8_level 33 = .ok (.getfield 92, 3) := by decide +kernel
theorem dX8_level_36 : decode cX8_level 36 = .ok (.iconst 1, 1) := by decide +kernel
theorem dX8_level_37 : decode cX8_level 37 = .ok (.isub, 1) := by decide +kernel
theorem dX8_level_38 : decode cX8_level 38 = .ok (.ireturn, 1) := by decide +kernel
theorem dX8_isUsed_0 : decode cX8_isUsed 0 = .ok (.iconst 0, 1) := by decide +kernel
theorem dX8_isUsed_1 : decode cX8_isUsed 1 = .ok (.istore_n 2, 1) := by decide +kernel
theorem dX8_isUsed_2 : decode cX8_isUsed 2 = .ok (.iconst 0, 1) := by decide +kernel
theorem dX8_isUsed_3 : decode cX8_isUsed 3 = .ok (.istore_n 3, 1) := by decide +kernel
theorem dX8_isUsed_4 : decode cX8_isUsed 4 = .ok (.iload_n 3, 1) := by decide +kernel
theorem dX8_isUsed_5 : decode cX8_isUsed 5 = .ok (.aload_n 0, 1) := by decide +kernel
theorem dX8_isUsed_6 : decode cX8_isUsed 6 = .ok (.getfield 99, 3) := by decide +kernel
theorem dX8_isUsed_9 : decode cX8_isUsed 9 = .ok (.if_icmp .ge 27, 3) := by decide +kernel
theorem dX8_isUsed_12 : decode cX8_isUsed 12 = .ok (.iload_n 2, 1) := by decide +kernel
theorem dX8_isUsed_13 : decode cX8_isUsed 13 = .ok (.aload_n 0, 1) := by decide +kernel
theorem dX8_isUsed_14 : decode cX8_isUsed 14 = .ok (.getfield 16, 3) := by decide +kernel
theorem dX8_isUsed_17 : decode cX8_isUsed 17 = .ok (.iload_n 3, 1) := by decide +kernel
theorem dX8_isUsed_18 : decode cX8_isUsed 18 = .ok (.iaload, 1) := by decide +kernel
theorem dX8_isUsed_19 : decode cX8_isUsed 19 = .ok (.iload_n 1, 1) := by decide +kernel
theorem dX8_isUsed_20 : decode cX8_isUsed 20 = .ok (.if_icmp .ne 7, 3) := by decide +kernel
theorem dX8_isUsed_23 : decode cX8_isUsed 23 = .ok (.iconst 1, 1) := by decide +kernel
theorem dX8_isUsed_24 : decode cX8_isUsed 24 = .ok (.goto 4, 3) := by decide +kernel
theorem dX8_isUsed_27 : decode cX8_isUsed 27 = .ok (.iconst 0, 1) := by decide +kernel
theorem dX8_isUsed_28 : decode cX8_isUsed 28 = .ok (.ior, 1) := by decide +kernel
theorem dX8_isUsed_29 : decode cX8_isUsed 29 = .ok (.istore_n 2, 1) := by decide +kernel
theorem dX8_isUsed_30 : decode cX8_isUsed 30 = .ok (.iinc 3 1, 3) := by decide +kernel
theorem dX8_isUsed_33 : decode cX8_isUsed 33 = .ok (.goto (-29), 3) := by decide +kernel
theorem dX8_isUsed_36 : decode cX8_isUsed 36 = .ok (.iload_n 2, 1) := by decide +kernel
theorem dX8_isUsed_37 : decode cX8_isUsed 37 = .ok (.ireturn, 1) := by decide +kernel
theorem dX8_column_0 : decode cX8_column 0 = .ok (.aload_n 0, 1) := by decide +kernel
theorem dX8_column_1 : decode cX8_column 1 = .ok (.iload_n 3, 1) := by decide +kernel
theorem dX8_column_2 : decode cX8_column 2 = .ok (.iconst (-1), 1) := by decide +kernel
theorem dX8_column_3 : decode cX8_column 3 = .ok (.bipush 6, 2) := by decide +kernel
theorem dX8_column_5 : decode cX8_column 5 = .ok (.invokevirtual 95, 3) := by decide +kernel
theorem dX8_column_8 : decode cX8_column 8 = .ok (.ifCond .eq 18, 3) := by decide +kernel
theorem dX8_column_11 : decode cX8_column 11 = .ok (.aload_n 0, 1) := by decide +kernel
theorem dX8_column_12 : decode cX8_column 12 = .ok (.iload 4, 2) := by decide +kernel
theorem dX8_column_14 : decode cX8_column 14 = .ok (.iconst 0, 1) := by decide +kernel
theorem dX8_column_15 : decode cX8_column 15 = .ok (.iconst 2, 1) := by decide +kernel
theorem dX8_column_16 : decode cX8_column 16 = .ok (.invokevirtual 95, 3) := by decide +kernel
theorem dX8_column_19 : decode cX8_column 19 = .ok (.ifCond .eq 7, 3) := by decide +kernel
theorem dX8_column_22 : decode cX8_column 22 = .ok (.iconst 1, 1) := by decide +kernel
theorem dX8_column_23 : decode cX8_column 23 = .ok (.goto 4, 3) := by decide +kernel
theorem dX8_column_26 : decode cX8_column 26 = .ok (.iconst 0, 1) := by decide +kernel
theorem dX8_column_27 : decode cX8_column 27 = .ok (.istore 5, 2) := by decide +kernel
theorem dX8_column_29 : decode cX8_column 29 = .ok (.aload_n 0, 1) := by decide +kernel
theorem dX8_column_30 : decode cX8_column 30 = .ok (.aload_n 0, 1) := by decide +kernel
theorem dX8_column_31 : decode cX8_column 31 = .ok (.iload_n 1, 1) := by decide +kernel
theorem dX8_column_32 : decode cX8_column 32 = .ok (.invokevirtual 175, 3) := by decide +kernel
theorem dX8_column_35 : decode cX8_column 35 = .ok (.ifCond .eq 14, 3) := by decide +kernel
theorem dX8_column_38 : decode cX8_column 38 = .ok (.aload_n 0, 1) := by decide +kernel
theorem dX8_column_39 : decode cX8_column 39 = .ok (.iload_n 2, 1) := by decide +kernel
theorem dX8_column_40 : decode cX8_column 40 = .ok (.iconst 0, 1) := by decide +kernel
theorem dX8_column_41 : decode cX8_column 41 = .ok (.bipush 31, 2) := by decide +kernel
theorem dX8_column_43 : decode cX8_column 43 = .ok (.invokevirtual 95, 3) := by decide +kernel
theorem dX8_column_46 : decode cX8_column 46 = .ok (.ifCond .ne 7, 3) := by decide +kernel
theorem dX8_column_49 : decode cX8_column 49 = .ok (.iconst 1, 1) := by decide +kernel
theorem dX8_column_50 : decode cX8_column 50 = .ok (.goto 25, 3) := by decide +kernel
theorem dX8_column_53 : decode cX8_column 53 = .ok (.iload 5, 2) := by decide +kernel
theorem dX8_column_55 : decode cX8_column 55 = .ok (.ifCond .ne 7, 3) := by decide +kernel
theorem dX8_column_58 : decode cX8_column 58 = .ok (.iconst 2, 1) := by decide +kernel
theorem dX8_column_59 : decode cX8_column 59 = .ok (.goto 16, 3) := by decide +kernel
theorem dX8_column_62 : decode cX8_column 62 = .ok (.aload_n 0, 1) := by decide +kernel
theorem dX8_column_63 : decode cX8_column 63 = .ok (.iload_n 1, 1) := by decide +kernel
theorem dX8_column_64 : decode cX8_column 64 = .ok (.invokevirtual 178, 3) := by decide +kernel
theorem dX8_column_67 : decode cX8_column 67 = .ok (.ifCond .eq 7, 3) := by decide +kernel
theorem dX8_column_70 : decode cX8_column 70 = .ok (.iconst 3, 1) := by decide +kernel
theorem dX8_column_71 : decode cX8_column 71 = .ok (.goto 4, 3) := by decide +kernel
theorem dX8_column_74 : decode cX8_column 74 = .ok (.iconst 0, 1) := by decide +kernel
theorem dX8_column_75 : decode cX8_column 75 = .ok (.invokevirtual 171, 3) := by decide +kernel
theorem dX8_column_78 : decode cX8_column 78 = .ok (.ifCond .ne 28, 3) := by decide +kernel
theorem dX8_column_81 : decode cX8_column 81 = .ok (.aload_n 0, 1) := by decide +kernel
theorem dX8_column_82 : decode cX8_column 82 = .ok (.getfield 7, 3) := by decide +kernel
theorem dX8_column_85 : decode cX8_column 85 = .ok (.bipush 32, 2) := by decide +kernel
theorem dX8_column_87 : decode cX8_column 87 = .ok (.iload_n 1, 1) := by decide +kernel
theorem dX8_column_88 : decode cX8_column 88 = .ok (.imul, 1) := by decide +kernel
theorem dX8_column_89 : decode cX8_column 89 = .ok (.iload_n 2, 1) := by decide +kernel
theorem dX8_column_90 : decode cX8_column 90 = .ok (.iadd, 1) := by decide +kernel
theorem dX8_column_91 : decode cX8_column 91 = .ok (.iload_n 3, 1) := by decide +kernel
theorem dX8_column_92 : decode cX8_column 92 = .ok (.iastore, 1) := by decide +kernel
theorem dX8_column_93 : decode cX8_column 93 = .ok (.aload_n 0, 1) := by decide +kernel
theorem dX8_column_94 : decode cX8_column 94 = .ok (.getfield 13, 3) := by decide +kernel
theorem dX8_column_97 : decode cX8_column 97 = .ok (.bipush 32, 2) := by decide +kernel
theorem dX8_column_99 : decode cX8_column 99 = .ok (.iload_n 1, 1) := by decide +kernel
theorem dX8_column_100 : decode cX8_column 100 = .ok (.imul, 1) := by decide +kernel
theorem dX8_column_101 : decode cX8_column 101 = .ok (.iload_n 2, 1) := by decide +kernel
theorem dX8_column_102 : decode cX8_column 102 = .ok (.iadd, 1) := by decide +kernel
theorem dX8_column_103 : decode cX8_column 103 = .ok (.iload 4, 2) := by decide +kernel
theorem dX8_column_105 : decode cX8_column 105 = .ok (.iastore, 1) := by decide +kernel
theorem dX8_column_106 : decode cX8_column 106 = .ok (.return_, 1) := by decide +kernel
theorem dX8_replay_0 : decode cX8_replay 0 = .ok (.aload_n 0, 1) := by decide +kernel
theorem dX8_replay_1 : decode cX8_replay 1 = .ok (.aload_n 0, 1) := by decide +kernel
theorem dX8_replay_2 : decode cX8_replay 2 = .ok (.iload_n 1, 1) := by decide +kernel
theorem dX8_replay_3 : decode cX8_replay 3 = .ok (.invokevirtual 175, 3) := by decide +kernel
theorem dX8_replay_6 : decode cX8_replay 6 = .ok (.ifCond .ne 7, 3) := by decide +kernel
theorem dX8_replay_9 : decode cX8_replay 9 = .ok (.iconst 1, 1) := by decide +kernel
theorem dX8_replay_10 : decode cX8_replay 10 = .ok (.goto 17, 3) := by decide +kernel
theorem dX8_replay_13 : decode cX8_replay 13 = .ok (.aload_n 0, 1) := by decide +kernel
theorem dX8_replay_14 : decode cX8_replay 14 = .ok (.getfield 99, 3) := by decide +kernel
theorem dX8_replay_17 : decode cX8_replay 17 = .ok (.bipush 20, 2) := by decide +kernel
theorem dX8_replay_19 : decode cX8_replay 19 = .ok (.if_icmp .ne 7, 3) := by decide +kernel
theorem dX8_replay_22 : decode cX8_replay 22 = .ok (.iconst 2, 1) := by decide +kernel
theorem dX8_replay_23 : decode cX8_replay 23 = .ok (.goto 4, 3) := by decide +kernel
theorem dX8_replay_26 : decode cX8_replay 26 = .ok (.iconst 0, 1) := by decide +kernel
theorem dX8_replay_27 : decode cX8_replay 27 = .ok (.invokevirtual 171, 3) := by decide +kernel
theorem dX8_replay_30 : decode cX8_replay 30 = .ok (.ifCond .eq 5, 3) := by decide +kernel
theorem dX8_replay_33 : decode cX8_replay 33 = .ok (.iconst (-1), 1) := by decide +kernel
theorem dX8_replay_34 : decode cX8_replay 34 = .ok (.ireturn, 1) := by decide +kernel
theorem dX8_replay_35 : decode cX8_replay 35 = .ok (.aload_n 0, 1) := by decide +kernel
theorem dX8_replay_36 : decode cX8_replay 36 = .ok (.getfield 16, 3) := by decide +kernel
theorem dX8_replay_39 : decode cX8_replay 39 = .ok (.aload_n 0, 1) := by decide +kernel
theorem dX8_replay_40 : decode cX8_replay 40 = .ok (.getfield 99, 3) := by decide +kernel
theorem dX8_replay_43 : decode cX8_replay 43 = .ok (.iload_n 1, 1) := by decide +kernel
theorem dX8_replay_44 : decode cX8_replay 44 = .ok (.iastore, 1) := by decide +kernel
theorem dX8_replay_45 : decode cX8_replay 45 = .ok (.aload_n 0, 1) := by decide +kernel
theorem dX8_replay_46 : decode cX8_replay 46 = .ok (.dup, 1) := by decide +kernel
theorem dX8_replay_47 : decode cX8_replay 47 = .ok (.getfield 99, 3) := by decide +kernel
theorem dX8_replay_50 : decode cX8_replay 50 = .ok (.iconst 1, 1) := by decide +kernel
theorem dX8_replay_51 : decode cX8_replay 51 = .ok (.iadd, 1) := by decide +kernel
theorem dX8_replay_52 : decode cX8_replay 52 = .ok (.putfield 99, 3) := by decide +kernel
theorem dX8_replay_55 : decode cX8_replay 55 = .ok (.aload_n 0, 1) := by decide +kernel
theorem dX8_replay_56 : decode cX8_replay 56 = .ok (.getfield 99, 3) := by decide +kernel
theorem dX8_replay_59 : decode cX8_replay 59 = .ok (.iconst 1, 1) := by decide +kernel
theorem dX8_replay_60 : decode cX8_replay 60 = .ok (.isub, 1) := by decide +kernel
theorem dX8_replay_61 : decode cX8_replay 61 = .ok (.ireturn, 1) := by decide +kernel
theorem dX8_input_0 : decode cX8_input 0 = .ok (.aload_n 0, 1) := by decide +kernel
theorem dX8_input_1 : decode cX8_input 1 = .ok (.iload_n 2, 1) := by decide +kernel
theorem dX8_input_2 : decode cX8_input 2 = .ok (.iconst 0, 1) := by decide +kernel
theorem dX8_input_3 : decode cX8_input 3 = .ok (.bipush 15, 2) := by decide +kernel
theorem dX8_input_5 : decode cX8_input 5 = .ok (.invokevirtual 95, 3) := by decide +kernel
theorem dX8_input_8 : decode cX8_input 8 = .ok (.ifCond .eq 18, 3) := by decide +kernel
theorem dX8_input_11 : decode cX8_input 11 = .ok (.aload_n 0, 1) := by decide +kernel
theorem dX8_input_12 : decode cX8_input 12 = .ok (.iload_n 3, 1) := by decide +kernel
theorem dX8_input_13 : decode cX8_input 13 = .ok (.iconst 1, 1) := by decide +kernel
theorem dX8_input_14 : decode cX8_input 14 = .ok (.bipush 100, 2) := by decide +kernel
theorem dX8_input_16 : decode cX8_input 16 = .ok (.invokevirtual 95, 3) := by decide +kernel
theorem dX8_input_19 : decode cX8_input 19 = .ok (.ifCond .eq 7, 3) := by decide +kernel
theorem dX8_input_22 : decode cX8_input 22 = .ok (.iconst 1, 1) := by decide +kernel
theorem dX8_input_23 : decode cX8_input 23 = .ok (.goto 4, 3) := by decide +kernel
theorem dX8_input_26 : decode cX8_input 26 = .ok (.iconst 0, 1) := by decide +kernel
theorem dX8_input_27 : decode cX8_input 27 = .ok (.istore 4, 2) := by decide +kernel
theorem dX8_input_29 : decode cX8_input 29 = .ok (.aload_n 0, 1) := by decide +kernel
theorem dX8_input_30 : decode cX8_input 30 = .ok (.iload_n 1, 1) := by decide +kernel
theorem dX8_input_31 : decode cX8_input 31 = .ok (.invokevirtual 181, 3) := by decide +kernel
theorem dX8_input_34 : decode cX8_input 34 = .ok (.ifCond .eq 47, 3) := by decide +kernel
theorem dX8_input_37 : decode cX8_input 37 = .ok (.iload 4, 2) := by decide +kernel
theorem dX8_input_39 : decode cX8_input 39 = .ok (.ifCond .eq 42, 3) := by decide +kernel
theorem dX8_input_42 : decode cX8_input 42 = .ok (.aload_n 0, 1) := by decide +kernel
theorem dX8_input_43 : decode cX8_input 43 = .ok (.getfield 25, 3) := by decide +kernel
theorem dX8_input_46 : decode cX8_input 46 = .ok (.iload_n 1, 1) := by decide +kernel
theorem dX8_input_47 : decode cX8_input 47 = .ok (.iaload, 1) := by decide +kernel
theorem dX8_input_48 : decode cX8_input 48 = .ok (.iconst 1, 1) := by decide +kernel
theorem dX8_input_49 : decode cX8_input 49 = .ok (.if_icmp .eq 28, 3) := by decide +kernel
theorem dX8_input_52 : decode cX8_input 52 = .ok (.aload_n 0, 1) := by decide +kernel
theorem dX8_input_53 : decode cX8_input 53 = .ok (.getfield 19, 3) := by decide +kernel
theorem dX8_input_56 : decode cX8_input 56 = .ok (.iload_n 1, 1) := by decide +kernel
theorem dX8_input_57 : decode cX8_input 57 = .ok (.iaload, 1) := by decide +kernel
theorem dX8_input_58 : decode cX8_input 58 = .ok (.bipush 20, 2) := by decide +kernel
theorem dX8_input_60 : decode cX8_input 60 = .ok (.if_icmp .eq 17, 3) := by decide +kernel
theorem dX8_input_63 : decode cX8_input 63 = .ok (.aload_n 0, 1) := by decide +kernel
theorem dX8_input_64 : decode cX8_input 64 = .ok (.getfield 22, 3) := by decide +kernel
theorem dX8_input_67 : decode cX8_input 67 = .ok (.iload_n 1, 1) := by decide +kernel
theorem dX8_input_68 : decode cX8_input 68 = .ok (.iaload, 1) := by decide +kernel
theorem dX8_input_69 : decode cX8_input 69 = .ok (.iload_n 3, 1) := by decide +kernel
theorem dX8_input_70 : decode cX8_input 70 = .ok (.iadd, 1) := by decide +kernel
theorem dX8_input_71 : decode cX8_input 71 = .ok (.sipush 500, 3) := by decide +kernel
theorem dX8_input_74 : decode cX8_input 74 = .ok (.if_icmp .le 7, 3) := by decide +kernel
theorem dX8_input_77 : decode cX8_input 77 = .ok (.iconst 1, 1) := by decide +kernel
theorem dX8_input_78 : decode cX8_input 78 = .ok (.goto 4, 3) := by decide +kernel
theorem dX8_input_81 : decode cX8_input 81 = .ok (.iconst 0, 1) := by decide +kernel
theorem dX8_input_82 : decode cX8_input 82 = .ok (.istore 5, 2) := by decide +kernel
theorem dX8_input_84 : decode cX8_input 84 = .ok (.aload_n 0, 1) := by decide +kernel
theorem dX8_input_85 : decode cX8_input 85 = .ok (.aload_n 0, 1) := by decide +kernel
theorem dX8_input_86 : decode cX8_input 86 = .ok (.iload_n 1, 1) := by decide +kernel
theorem dX8_input_87 : decode cX8_input 87 = .ok (.invokevirtual 181, 3) := by decide +kernel
theorem dX8_input_90 : decode cX8_input 90 = .ok (.ifCond .ne 7, 3) := by decide +kernel
theorem dX8_input_93 : decode cX8_input 93 = .ok (.iconst 1, 1) := by decide +kernel
theorem dX8_input_94 : decode cX8_input 94 = .ok (.goto 22, 3) := by decide +kernel
theorem dX8_input_97 : decode cX8_input 97 = .ok (.iload 4, 2) := by decide +kernel
theorem dX8_input_99 : decode cX8_input 99 = .ok (.ifCond .ne 7, 3) := by decide +kernel
theorem dX8_input_102 : decode cX8_input 102 = .ok (.iconst 2, 1) := by decide +kernel
theorem dX8_input_103 : decode cX8_input 103 = .ok (.goto 13, 3) := by decide +kernel
theorem dX8_input_106 : decode cX8_input 106 = .ok (.iload 5, 2) := by decide +kernel
theorem dX8_input_108 : decode cX8_input 108 = .ok (.ifCond .eq 7, 3) := by decide +kernel
theorem dX8_input_111 : decode cX8_input 111 = .ok (.iconst 3, 1) := by decide +kernel
theorem dX8_input_112 : decode cX8_input 112 = .ok (.goto 4, 3) := by decide +kernel
theorem dX8_input_115 : decode cX8_input 115 = .ok (.iconst 0, 1) := by decide +kernel
theorem dX8_input_116 : decode cX8_input 116 = .ok (.invokevirtual 171, 3) := by decide +kernel
theorem dX8_input_119 : decode cX8_input 119 = .ok (.ifCond .eq 5, 3) := by decide +kernel
theorem dX8_input_122 : decode cX8_input 122 = .ok (.iconst (-1), 1) := by decide +kernel
theorem dX8_input_123 : decode cX8_input 123 = .ok (.ireturn, 1) := by decide +kernel
theorem dX8_input_124 : decode cX8_input 124 = .ok (.aload_n 0, 1) := by decide +kernel
theorem dX8_input_125 : decode cX8_input 125 = .ok (.getfield 28, 3) := by decide +kernel
theorem dX8_input_128 : decode cX8_input 128 = .ok (.bipush 20, 2) := by decide +kernel
theorem dX8_input_130 : decode cX8_input 130 = .ok (.iload_n 1, 1) := by decide +kernel
theorem dX8_input_131 : decode cX8_input 131 = .ok (.imul, 1) := by decide +kernel
theorem dX8_input_132 : decode cX8_input 132 = .ok (.aload_n 0, 1) := by decide +kernel
theorem dX8_input_133 : decode cX8_input 133 = .ok (.getfield 19, 3) := by decide +kernel
theorem dX8_input_136 : decode cX8_input 136 = .ok (.iload_n 1, 1) := by decide +kernel
theorem dX8_input_137 : decode cX8_input 137 = .ok (.iaload, 1) := by decide +kernel
theorem dX8_input_138 : decode cX8_input 138 = .ok (.iadd, 1) := by decide +kernel
theorem dX8_input_139 : decode cX8_input 139 = .ok (.iload_n 2, 1) := by decide +kernel
theorem dX8_input_140 : decode cX8_input 140 = .ok (.iastore, 1) := by decide +kernel
theorem dX8_input_141 : decode cX8_input 141 = .ok (.aload_n 0, 1) := by decide +kernel
theorem dX8_input_142 : decode cX8_input 142 = .ok (.getfield 31, 3) := by decide +kernel
theorem dX8_input_145 : decode cX8_input 145 = .ok (.bipush 20, 2) := by decide +kernel
theorem dX8_input_147 : decode cX8_input 147 = .ok (.iload_n 1, 1) := by decide +kernel
theorem dX8_input_148 : decode cX8_input 148 = .ok (.imul, 1) := by decide +kernel
theorem dX8_input_149 : decode cX8_input 149 = .ok (.aload_n 0, 1) := by decide +kernel
theorem dX8_input_150 : decode cX8_input 150 = .ok (.getfield 19, 3) := by decide +kernel
theorem dX8_input_153 : decode cX8_input 153 = .ok (.iload_n 1, 1) := by decide +kernel
theorem dX8_input_154 : decode cX8_input 154 = .ok (.iaload, 1) := by decide +kernel
theorem dX8_input_155 : decode cX8_input 155 = .ok (.iadd, 1) := by decide +kernel
theorem dX8_input_156 : decode cX8_input 156 = .ok (.iload_n 3, 1) := by decide +kernel
theorem dX8_input_157 : decode cX8_input 157 = .ok (.iastore, 1) := by decide +kernel
theorem dX8_input_158 : decode cX8_input 158 = .ok (.aload_n 0, 1) := by decide +kernel
theorem dX8_input_159 : decode cX8_input 159 = .ok (.getfield 19, 3) := by decide +kernel
theorem dX8_input_162 : decode cX8_input 162 = .ok (.iload_n 1, 1) := by decide +kernel
theorem dX8_input_163 : decode cX8_input 163 = .ok (.dup2, 1) := by decide +kernel
theorem dX8_input_164 : decode cX8_input 164 = .ok (.iaload, 1) := by decide +kernel
theorem dX8_input_165 : decode cX8_input 165 = .ok (.iconst 1, 1) := by decide +kernel
theorem dX8_input_166 : decode cX8_input 166 = .ok (.iadd, 1) := by decide +kernel
theorem dX8_input_167 : decode cX8_input 167 = .ok (.iastore, 1) := by decide +kernel
theorem dX8_input_168 : decode cX8_input 168 = .ok (.aload_n 0, 1) := by decide +kernel
theorem dX8_input_169 : decode cX8_input 169 = .ok (.getfield 22, 3) := by decide +kernel
theorem dX8_input_172 : decode cX8_input 172 = .ok (.iload_n 1, 1) := by decide +kernel
theorem dX8_input_173 : decode cX8_input 173 = .ok (.dup2, 1) := by decide +kernel
theorem dX8_input_174 : decode cX8_input 174 = .ok (.iaload, 1) := by decide +kernel
theorem dX8_input_175 : decode cX8_input 175 = .ok (.iload_n 3, 1) := by decide +kernel
theorem dX8_input_176 : decode cX8_input 176 = .ok (.iadd, 1) := by decide +kernel
theorem dX8_input_177 : decode cX8_input 177 = .ok (.iastore, 1) := by decide +kernel
theorem dX8_input_178 : decode cX8_input 178 = .ok (.aload_n 0, 1) := by decide +kernel
theorem dX8_input_179 : decode cX8_input 179 = .ok (.getfield 22, 3) := by decide +kernel
theorem dX8_input_182 : decode cX8_input 182 = .ok (.iload_n 1, 1) := by decide +kernel
theorem dX8_input_183 : decode cX8_input 183 = .ok (.iaload, 1) := by decide +kernel
theorem dX8_input_184 : decode cX8_input 184 = .ok (.ireturn, 1) := by decide +kernel
theorem dX8_result_0 : decode cX8_result 0 = .ok (.aload_n 0, 1) := by decide +kernel
theorem dX8_result_1 : decode cX8_result 1 = .ok (.aload_n 0, 1) := by decide +kernel
theorem dX8_result_2 : decode cX8_result 2 = .ok (.iload_n 1, 1) := by decide +kernel
theorem dX8_result_3 : decode cX8_result 3 = .ok (.invokevirtual 181, 3) := by decide +kernel
theorem dX8_result_6 : decode cX8_result 6 = .ok (.ifCond .eq 7, 3) := by decide +kernel
theorem dX8_result_9 : decode cX8_result 9 = .ok (.iconst 0, 1) := by decide +kernel
theorem dX8_result_10 : decode cX8_result 10 = .ok (.goto 4, 3) := by decide +kernel
theorem dX8_result_13 : decode cX8_result 13 = .ok (.iconst 1, 1) := by decide +kernel
theorem dX8_result_14 : decode cX8_result 14 = .ok (.invokevirtual 171, 3) := by decide +kernel
theorem dX8_result_17 : decode cX8_result 17 = .ok (.ifCond .eq 5, 3) := by decide +kernel
theorem dX8_result_20 : decode cX8_result 20 = .ok (.iconst (-1), 1) := by decide +kernel
theorem dX8_result_21 : decode cX8_result 21 = .ok (.ireturn, 1) := by decide +kernel
theorem dX8_result_22 : decode cX8_result 22 = .ok (.aload_n 0, 1) := by decide +kernel
theorem dX8_result_23 : decode cX8_result 23 = .ok (.iload_n 1, 1) := by decide +kernel
theorem dX8_result_24 : decode cX8_result 24 = .ok (.sipush 500, 3) := by decide +kernel
theorem dX8_result_27 : decode cX8_result 27 = .ok (.invokevirtual 184, 3) := by decide +kernel
theorem dX8_result_30 : decode cX8_result 30 = .ok (.bipush 10, 2) := by decide +kernel
theorem dX8_result_32 : decode cX8_result 32 = .ok (.aload_n 0, 1) := by decide +kernel
theorem dX8_result_33 : decode cX8_result 33 = .ok (.getfield 141, 3) := by decide +kernel
theorem dX8_result_36 : decode cX8_result 36 = .ok (.imul, 1) := by decide +kernel
theorem dX8_result_37 : decode cX8_result 37 = .ok (.aload_n 0, 1) := by decide +kernel
theorem dX8_result_38 : decode cX8_result 38 = .ok (.getfield 144, 3) := by decide +kernel
theorem dX8_result_41 : decode cX8_result 41 = .ok (.iadd, 1) := by decide +kernel
theorem dX8_result_42 : decode cX8_result 42 = .ok (.ireturn, 1) := by decide +kernel
theorem dX8_used_0 : decode cX8_used 0 = .ok (.aload_n 0, 1) := by decide +kernel
theorem dX8_used_1 : decode cX8_used 1 = .ok (.aload_n 0, 1) := by decide +kernel
theorem dX8_used_2 : decode cX8_used 2 = .ok (.iload_n 1, 1) := by decide +kernel
theorem dX8_used_3 : decode cX8_used 3 = .ok (.invokevirtual 181, 3) := by decide +kernel
theorem dX8_used_6 : decode cX8_used 6 = .ok (.ifCond .eq 7, 3) := by decide +kernel
theorem dX8_used_9 : decode cX8_used 9 = .ok (.iconst 0, 1) := by decide +kernel
theorem dX8_used_10 : decode cX8_used 10 = .ok (.goto 4, 3) := by decide +kernel
theorem dX8_used_13 : decode cX8_used 13 = .ok (.iconst 1, 1) := by decide +kernel
theorem dX8_used_14 : decode cX8_used 14 = .ok (.invokevirtual 171, 3) := by decide +kernel
theorem dX8_used_17 : decode cX8_used 17 = .ok (.ifCond .eq 5, 3) := by decide +kernel
theorem dX8_used_20 : decode cX8_used 20 = .ok (.iconst (-1), 1) := by decide +kernel
theorem dX8_used_21 : decode cX8_used 21 = .ok (.ireturn, 1) := by decide +kernel
theorem dX8_used_22 : decode cX8_used 22 = .ok (.aload_n 0, 1) := by decide +kernel
theorem dX8_used_23 : decode cX8_used 23 = .ok (.iload_n 1, 1) := by decide +kernel
theorem dX8_used_24 : decode cX8_used 24 = .ok (.sipush 500, 3) := by decide +kernel
theorem dX8_used_27 : decode cX8_used 27 = .ok (.invokevirtual 184, 3) := by decide +kernel
theorem dX8_used_30 : decode cX8_used 30 = .ok (.sipush 10000, 3) := by decide +kernel
theorem dX8_used_33 : decode cX8_used 33 = .ok (.aload_n 0, 1) := by decide +kernel
theorem dX8_used_34 : decode cX8_used 34 = .ok (.invokevirtual 187, 3) := by decide +kernel
theorem dX8_used_37 : decode cX8_used 37 = .ok (.imul, 1) := by decide +kernel
theorem dX8_used_38 : decode cX8_used 38 = .ok (.bipush 10, 2) := by decide +kernel
theorem dX8_used_40 : decode cX8_used 40 = .ok (.aload_n 0, 1) := by decide +kernel
theorem dX8_used_41 : decode cX8_used 41 = .ok (.getfield 135, 3) := by decide +kernel
theorem dX8_used_44 : decode cX8_used 44 = .ok (.imul, 1) := by decide +kernel
theorem dX8_used_45 : decode cX8_used 45 = .ok (.iadd, 1) := by decide +kernel
theorem dX8_used_46 : decode cX8_used 46 = .ok (.aload_n 0, 1) := by decide +kernel
theorem dX8_used_47 : decode cX8_used 47 = .ok (.getfield 138, 3) := by decide +kernel
theorem dX8_used_50 : decode cX8_used 50 = .ok (.iadd, 1) := by decide +kernel
theorem dX8_used_51 : decode cX8_used 51 = .ok (.ireturn, 1) := by decide +kernel
theorem dX8_where_0 : decode cX8_where 0 = .ok (.aload_n 0, 1) := by decide +kernel
theorem dX8_where_1 : decode cX8_where 1 = .ok (.iload_n 1, 1) := by decide +kernel
theorem dX8_where_2 : decode cX8_where 2 = .ok (.invokevirtual 181, 3) := by decide +kernel
theorem dX8_where_5 : decode cX8_where 5 = .ok (.ifCond .eq 11, 3) := by decide +kernel
theorem dX8_where_8 : decode cX8_where 8 = .ok (.aload_n 0, 1) := by decide +kernel
theorem dX8_where_9 : decode cX8_where 9 = .ok (.iload_n 1, 1) := by decide +kernel
theorem dX8_where_10 : decode cX8_where 10 = .ok (.sipush 500, 3) := by decide +kernel
theorem dX8_where_13 : decode cX8_where 13 = .ok (.invokevirtual 184, 3) := by decide +kernel
theorem dX8_where_16 : decode cX8_where 16 = .ok (.aload_n 0, 1) := by decide +kernel
theorem dX8_where_17 : decode cX8_where 17 = .ok (.aload_n 0, 1) := by decide +kernel
theorem dX8_where_18 : decode cX8_where 18 = .ok (.iload_n 1, 1) := by decide +kernel
theorem dX8_where_19 : decode cX8_where 19 = .ok (.invokevirtual 181, 3) := by decide +kernel
theorem dX8_where_22 : decode cX8_where 22 = .ok (.ifCond .eq 20, 3) := by decide +kernel
theorem dX8_where_25 : decode cX8_where 25 = .ok (.aload_n 0, 1) := by decide +kernel
theorem dX8_where_26 : decode cX8_where 26 = .ok (.iload_n 2, 1) := by decide +kernel
theorem dX8_where_27 : decode cX8_where 27 = .ok (.iconst 0, 1) := by decide +kernel
theorem dX8_where_28 : decode cX8_where 28 = .ok (.aload_n 0, 1) := by decide +kernel
theorem dX8_where_29 : decode cX8_where 29 = .ok (.getfield 141, 3) := by decide +kernel
theorem dX8_where_32 : decode cX8_where 32 = .ok (.invokevirtual 95, 3) := by decide +kernel
theorem dX8_where_35 : decode cX8_where 35 = .ok (.ifCond .eq 7, 3) := by decide +kernel
theorem dX8_where_38 : decode cX8_where 38 = .ok (.iconst 0, 1) := by decide +kernel
theorem dX8_where_39 : decode cX8_where 39 = .ok (.goto 4, 3) := by decide +kernel
theorem dX8_where_42 : decode cX8_where 42 = .ok (.iconst 1, 1) := by decide +kernel
theorem dX8_where_43 : decode cX8_where 43 = .ok (.invokevirtual 171, 3) := by decide +kernel
theorem dX8_where_46 : decode cX8_where 46 = .ok (.ifCond .eq 5, 3) := by decide +kernel
theorem dX8_where_49 : decode cX8_where 49 = .ok (.iconst (-1), 1) := by decide +kernel
theorem dX8_where_50 : decode cX8_where 50 = .ok (.ireturn, 1) := by decide +kernel
theorem dX8_where_51 : decode cX8_where 51 = .ok (.aload_n 0, 1) := by decide +kernel
theorem dX8_where_52 : decode cX8_where 52 = .ok (.iload_n 1, 1) := by decide +kernel
theorem dX8_where_53 : decode cX8_where 53 = .ok (.iload_n 2, 1) := by decide +kernel
theorem dX8_where_54 : decode cX8_where 54 = .ok (.invokevirtual 184, 3) := by decide +kernel
theorem dX8_where_57 : decode cX8_where 57 = .ok (.sipush 1000, 3) := by decide +kernel
theorem dX8_where_60 : decode cX8_where 60 = .ok (.aload_n 0, 1) := by decide +kernel
theorem dX8_where_61 : decode cX8_where 61 = .ok (.getfield 116, 3) := by decide +kernel
theorem dX8_where_64 : decode cX8_where 64 = .ok (.imul, 1) := by decide +kernel
theorem dX8_where_65 : decode cX8_where 65 = .ok (.aload_n 0, 1) := by decide +kernel
theorem dX8_where_66 : decode cX8_where 66 = .ok (.getfield 119, 3) := by decide +kernel
theorem dX8_where_69 : decode cX8_where 69 = .ok (.iadd, 1) := by decide +kernel
theorem dX8_where_70 : decode cX8_where 70 = .ok (.ireturn, 1) := by decide +kernel
theorem dX8_category_0 : decode cX8_category 0 = .ok (.aload_n 0, 1) := by decide +kernel
theorem dX8_category_1 : decode cX8_category 1 = .ok (.aload_n 0, 1) := by decide +kernel
theorem dX8_category_2 : decode cX8_category 2 = .ok (.iload_n 1, 1) := by decide +kernel
theorem dX8_category_3 : decode cX8_category 3 = .ok (.invokevirtual 175, 3) := by decide +kernel
theorem dX8_category_6 : decode cX8_category 6 = .ok (.ifCond .ne 7, 3) := by decide +kernel
theorem dX8_category_9 : decode cX8_category 9 = .ok (.iconst 1, 1) := by decide +kernel
theorem dX8_category_10 : decode cX8_category 10 = .ok (.goto 17, 3) := by decide +kernel
theorem dX8_category_13 : decode cX8_category 13 = .ok (.aload_n 0, 1) := by decide +kernel
theorem dX8_category_14 : decode cX8_category 14 = .ok (.getfield 102, 3) := by decide +kernel
theorem dX8_category_17 : decode cX8_category 17 = .ok (.bipush 6, 2) := by decide +kernel
theorem dX8_category_19 : decode cX8_category 19 = .ok (.if_icmp .ne 7, 3) := by decide +kernel
theorem dX8_category_22 : decode cX8_category 22 = .ok (.iconst 2, 1) := by decide +kernel
theorem dX8_category_23 : decode cX8_category 23 = .ok (.goto 4, 3) := by decide +kernel
theorem dX8_category_26 : decode cX8_category 26 = .ok (.iconst 0, 1) := by decide +kernel
theorem dX8_category_27 : decode cX8_category 27 = .ok (.invokevirtual 171, 3) := by decide +kernel
theorem dX8_category_30 : decode cX8_category 30 = .ok (.ifCond .eq 5, 3) := by decide +kernel
theorem dX8_category_33 : decode cX8_category 33 = .ok (.iconst (-1), 1) := by decide +kernel
theorem dX8_category_34 : decode cX8_category 34 = .ok (.ireturn, 1) := by decide +kernel
theorem dX8_category_35 : decode cX8_category 35 = .ok (.aload_n 0, 1) := by decide +kernel
theorem dX8_category_36 : decode cX8_category 36 = .ok (.getfield 34, 3) := by decide +kernel
theorem dX8_category_39 : decode cX8_category 39 = .ok (.aload_n 0, 1) := by decide +kernel
theorem dX8_category_40 : decode cX8_category 40 = .ok (.getfield 102, 3) := by decide +kernel
theorem dX8_category_43 : decode cX8_category 43 = .ok (.iload_n 1, 1) := by decide +kernel
theorem dX8_category_44 : decode cX8_category 44 = .ok (.iastore, 1) := by decide +kernel
theorem dX8_category_45 : decode cX8_category 45 = .ok (.aload_n 0, 1) := by decide +kernel
theorem dX8_category_46 : decode cX8_category 46 = .ok (.dup, 1) := by decide +kernel
theorem dX8_category_47 : decode cX8_category 47 = .ok (.getfield 102, 3) := by decide +kernel
theorem dX8_category_50 : decode cX8_category 50 = .ok (.iconst 1, 1) := by decide +kernel
theorem dX8_category_51 : decode cX8_category 51 = .ok (.iadd, 1) := by decide +kernel
theorem dX8_category_52 : decode cX8_category 52 = .ok (.putfield 102, 3) := by decide +kernel
theorem dX8_category_55 : decode cX8_category 55 = .ok (.aload_n 0, 1) := by decide +kernel
theorem dX8_category_56 : decode cX8_category 56 = .ok (.getfield 102, 3) := by decide +kernel
theorem dX8_category_59 : decode cX8_category 59 = .ok (.iconst 1, 1) := by decide +kernel
theorem dX8_category_60 : decode cX8_category 60 = .ok (.isub, 1) := by decide +kernel
theorem dX8_category_61 : decode cX8_category 61 = .ok (.ireturn, 1) := by decide +kernel
theorem dX8_law_0 : decode cX8_law 0 = .ok (.iconst (-1), 1) := by decide +kernel
theorem dX8_law_1 : decode cX8_law 1 = .ok (.istore_n 3, 1) := by decide +kernel
theorem dX8_law_2 : decode cX8_law 2 = .ok (.bipush 10, 2) := by decide +kernel
theorem dX8_law_4 : decode cX8_law 4 = .ok (.iload_n 1, 1) := by decide +kernel
theorem dX8_law_5 : decode cX8_law 5 = .ok (.imul, 1) := by decide +kernel
theorem dX8_law_6 : decode cX8_law 6 = .ok (.istore 4, 2) := by decide +kernel
theorem dX8_law_8 : decode cX8_law 8 = .ok (.iload 4, 2) := by decide +kernel
theorem dX8_law_10 : decode cX8_law 10 = .ok (.bipush 10, 2) := by decide +kernel
theorem dX8_law_12 : decode cX8_law 12 = .ok (.iload_n 1, 1) := by decide +kernel
theorem dX8_law_13 : decode cX8_law 13 = .ok (.imul, 1) := by decide +kernel
theorem dX8_law_14 : decode cX8_law 14 = .ok (.aload_n 0, 1) := by decide +kernel
theorem dX8_law_15 : decode cX8_law 15 = .ok (.getfield 37, 3) := by decide +kernel
theorem dX8_law_18 : decode cX8_law 18 = .ok (.iload_n 1, 1) := by decide +kernel
theorem dX8_law_19 : decode cX8_law 19 = .ok (.iaload, 1) := by decide +kernel
theorem dX8_law_20 : decode cX8_law 20 = .ok (.iadd, 1) := by decide +kernel
theorem dX8_law_21 : decode cX8_law 21 = .ok (.if_icmp .ge 47, 3) := by decide +kernel
theorem dX8_law_24 : decode cX8_law 24 = .ok (.aload_n 0, 1) := by decide +kernel
theorem dX8_law_25 : decode cX8_law 25 = .ok (.getfield 40, 3) := by decide +kernel
theorem dX8_law_28 : decode cX8_law 28 = .ok (.iload 4, 2) := by decide +kernel
theorem dX8_law_30 : decode cX8_law 30 = .ok (.iaload, 1) := by decide +kernel
theorem dX8_law_31 : decode cX8_law 31 = .ok (.iload_n 2, 1) := by decide +kernel
theorem dX8_law_32 : decode cX8_law 32 = .ok (.if_icmp .gt 28, 3) := by decide +kernel
theorem dX8_law_35 : decode cX8_law 35 = .ok (.iload_n 3, 1) := by decide +kernel
theorem dX8_law_36 : decode cX8_law 36 = .ok (.ifCond .lt 19, 3) := by decide +kernel
theorem dX8_law_39 : decode cX8_law 39 = .ok (.aload_n 0, 1) := by decide +kernel
theorem dX8_law_40 : decode cX8_law 40 = .ok (.getfield 40, 3) := by decide +kernel
theorem dX8_law_43 : decode cX8_law 43 = .ok (.iload 4, 2) := by decide +kernel
theorem dX8_law_45 : decode cX8_law 45 = .ok (.iaload, 1) := by decide +kernel
theorem dX8_law_46 : decode cX8_law 46 = .ok (.aload_n 0, 1) := by decide +kernel
theorem dX8_law_47 : decode cX8_law 47 = .ok (.getfield 40, 3) := by decide +kernel
theorem dX8_law_50 : decode cX8_law 50 = .ok (.iload_n 3, 1) := by decide +kernel
theorem dX8_law_51 : decode cX8_law 51 = .ok (.iaload, 1) := by decide +kernel
theorem dX8_law_52 : decode cX8_law 52 = .ok (.if_icmp .lt 8, 3) := by decide +kernel
theorem dX8_law_55 : decode cX8_law 55 = .ok (.iload 4, 2) := by decide +kernel
theorem dX8_law_57 : decode cX8_law 57 = .ok (.goto 4, 3) := by decide +kernel
theorem dX8_law_60 : decode cX8_law 60 = .ok (.iload_n 3, 1) := by decide +kernel
theorem dX8_law_61 : decode cX8_law 61 = .ok (.istore_n 3, 1) := by decide +kernel
theorem dX8_law_62 : decode cX8_law 62 = .ok (.iinc 4 1, 3) := by decide +kernel
