theorem d_Md_judge_60 : decode b_Md_judge 60 = .ok (.aload_n 0, 1) := by decide +kernel
theorem d_Md_judge_61 : decode b_Md_judge 61 = .ok (.getfield 62, 3) := by decide +kernel
theorem d_Md_judge_64 : decode b_Md_judge 64 = .ok (.iload_n 1, 1) := by decide +kernel
theorem d_Md_judge_65 : decode b_Md_judge 65 = .ok (.iaload, 1) := by decide +kernel
theorem d_Md_judge_66 : decode b_Md_judge 66 = .ok (.iadd, 1) := by decide +kernel
theorem d_Md_judge_67 : decode b_Md_judge 67 = .ok (.iaload, 1) := by decide +kernel
theorem d_Md_judge_68 : decode b_Md_judge 68 = .ok (.istore_n 3, 1) := by decide +kernel
theorem d_Md_judge_69 : decode b_Md_judge 69 = .ok (.aload_n 0, 1) := by decide +kernel
theorem d_Md_judge_70 : decode b_Md_judge 70 = .ok (.getfield 47, 3) := by decide +kernel
theorem d_Md_judge_73 : decode b_Md_judge 73 = .ok (.iload_n 3, 1) := by decide +kernel
theorem d_Md_judge_74 : decode b_Md_judge 74 = .ok (.iconst 1, 1) := by decide +kernel
theorem d_Md_judge_75 : decode b_Md_judge 75 = .ok (.bastore, 1) := by decide +kernel
theorem d_Md_judge_76 : decode b_Md_judge 76 = .ok (.aload_n 0, 1) := by decide +kernel
theorem d_Md_judge_77 : decode b_Md_judge 77 = .ok (.getfield 89, 3) := by decide +kernel
theorem d_Md_judge_80 : decode b_Md_judge 80 = .ok (.aload_n 0, 1) := by decide +kernel
theorem d_Md_judge_81 : decode b_Md_judge 81 = .ok (.getfield 168, 3) := by decide +kernel
theorem d_Md_judge_84 : decode b_Md_judge 84 = .ok (.iload_n 1, 1) := by decide +kernel
theorem d_Md_judge_85 : decode b_Md_judge 85 = .ok (.iastore, 1) := by decide +kernel
theorem d_Md_judge_86 : decode b_Md_judge 86 = .ok (.aload_n 0, 1) := by decide +kernel
theorem d_Md_judge_87 : decode b_Md_judge 87 = .ok (.getfield 92, 3) := by decide +kernel
theorem d_Md_judge_90 : decode b_Md_judge 90 = .ok (.aload_n 0, 1) := by decide +kernel
theorem d_Md_judge_91 : decode b_Md_judge 91 = .ok (.getfield 168, 3) := by decide +kernel
theorem d_Md_judge_94 : decode b_Md_judge 94 = .ok (.iload_n 3, 1) := by decide +kernel
theorem d_Md_judge_95 : decode b_Md_judge 95 = .ok (.iastore, 1) := by decide +kernel
theorem d_Md_judge_96 : decode b_Md_judge 96 = .ok (.aload_n 0, 1) := by decide +kernel
theorem d_Md_judge_97 : decode b_Md_judge 97 = .ok (.getfield 95, 3) := by decide +kernel
theorem d_Md_judge_100 : decode b_Md_judge 100 = .ok (.aload_n 0, 1) := by decide +kernel
theorem d_Md_judge_101 : decode b_Md_judge 101 = .ok (.getfield 168, 3) := by decide +kernel
theorem d_Md_judge_104 : decode b_Md_judge 104 = .ok (.iload_n 2, 1) := by decide +kernel
theorem d_Md_judge_105 : decode b_Md_judge 105 = .ok (.iastore, 1) := by decide +kernel
theorem d_Md_judge_106 : decode b_Md_judge 106 = .ok (.aload_n 0, 1) := by decide +kernel
theorem d_Md_judge_107 : decode b_Md_judge 107 = .ok (.dup, 1) := by decide +kernel
theorem d_Md_judge_108 : decode b_Md_judge 108 = .ok (.getfield 168, 3) := by decide +kernel
theorem d_Md_judge_111 : decode b_Md_judge 111 = .ok (.iconst 1, 1) := by decide +kernel
theorem d_Md_judge_112 : decode b_Md_judge 112 = .ok (.iadd, 1) := by decide +kernel
theorem d_Md_judge_113 : decode b_Md_judge 113 = .ok (.putfield 168, 3) := by decide +kernel
theorem d_Md_judge_116 : decode b_Md_judge 116 = .ok (.aload_n 0, 1) := by decide +kernel
theorem d_Md_judge_117 : decode b_Md_judge 117 = .ok (.iload_n 1, 1) := by decide +kernel
theorem d_Md_judge_118 : decode b_Md_judge 118 = .ok (.aload_n 0, 1) := by decide +kernel
theorem d_Md_judge_119 : decode b_Md_judge 119 = .ok (.getfield 62, 3) := by decide +kernel
theorem d_Md_judge_122 : decode b_Md_judge 122 = .ok (.iload_n 1, 1) := by decide +kernel
theorem d_Md_judge_123 : decode b_Md_judge 123 = .ok (.iaload, 1) := by decide +kernel
theorem d_Md_judge_124 : decode b_Md_judge 124 = .ok (.iconst 1, 1) := by decide +kernel
theorem d_Md_judge_125 : decode b_Md_judge 125 = .ok (.iadd, 1) := by decide +kernel
theorem d_Md_judge_126 : decode b_Md_judge 126 = .ok (.invokevirtual 158, 3) := by decide +kernel
theorem d_Md_judge_129 : decode b_Md_judge 129 = .ok (.return_, 1) := by decide +kernel
theorem d_Md_turn_0 : decode b_Md_turn 0 = .ok (.aload_n 0, 1) := by decide +kernel
theorem d_Md_turn_1 : decode b_Md_turn 1 = .ok (.getfield 74, 3) := by decide +kernel
theorem d_Md_turn_4 : decode b_Md_turn 4 = .ok (.iload_n 1, 1) := by decide +kernel
theorem d_Md_turn_5 : decode b_Md_turn 5 = .ok (.dup2, 1) := by decide +kernel
theorem d_Md_turn_6 : decode b_Md_turn 6 = .ok (.iaload, 1) := by decide +kernel
theorem d_Md_turn_7 : decode b_Md_turn 7 = .ok (.iconst 1, 1) := by decide +kernel
theorem d_Md_turn_8 : decode b_Md_turn 8 = .ok (.iadd, 1) := by decide +kernel
theorem d_Md_turn_9 : decode b_Md_turn 9 = .ok (.iastore, 1) := by decide +kernel
theorem d_Md_turn_10 : decode b_Md_turn 10 = .ok (.aload_n 0, 1) := by decide +kernel
theorem d_Md_turn_11 : decode b_Md_turn 11 = .ok (.aload_n 0, 1) := by decide +kernel
theorem d_Md_turn_12 : decode b_Md_turn 12 = .ok (.getfield 56, 3) := by decide +kernel
theorem d_Md_turn_15 : decode b_Md_turn 15 = .ok (.bipush 6, 2) := by decide +kernel
theorem d_Md_turn_17 : decode b_Md_turn 17 = .ok (.iload_n 1, 1) := by decide +kernel
theorem d_Md_turn_18 : decode b_Md_turn 18 = .ok (.imul, 1) := by decide +kernel
theorem d_Md_turn_19 : decode b_Md_turn 19 = .ok (.aload_n 0, 1) := by decide +kernel
theorem d_Md_turn_20 : decode b_Md_turn 20 = .ok (.getfield 62, 3) := by decide +kernel
theorem d_Md_turn_23 : decode b_Md_turn 23 = .ok (.iload_n 1, 1) := by decide +kernel
theorem d_Md_turn_24 : decode b_Md_turn 24 = .ok (.iaload, 1) := by decide +kernel
theorem d_Md_turn_25 : decode b_Md_turn 25 = .ok (.iadd, 1) := by decide +kernel
theorem d_Md_turn_26 : decode b_Md_turn 26 = .ok (.iaload, 1) := by decide +kernel
theorem d_Md_turn_27 : decode b_Md_turn 27 = .ok (.invokevirtual 171, 3) := by decide +kernel
theorem d_Md_turn_30 : decode b_Md_turn 30 = .ok (.istore_n 2, 1) := by decide +kernel
theorem d_Md_turn_31 : decode b_Md_turn 31 = .ok (.iload_n 2, 1) := by decide +kernel
theorem d_Md_turn_32 : decode b_Md_turn 32 = .ok (.iconst (-1), 1) := by decide +kernel
theorem d_Md_turn_33 : decode b_Md_turn 33 = .ok (.if_icmp .ne 17, 3) := by decide +kernel
theorem d_Md_turn_36 : decode b_Md_turn 36 = .ok (.aload_n 0, 1) := by decide +kernel
theorem d_Md_turn_37 : decode b_Md_turn 37 = .ok (.iload_n 1, 1) := by decide +kernel
theorem d_Md_turn_38 : decode b_Md_turn 38 = .ok (.aload_n 0, 1) := by decide +kernel
theorem d_Md_turn_39 : decode b_Md_turn 39 = .ok (.getfield 62, 3) := by decide +kernel
theorem d_Md_turn_42 : decode b_Md_turn 42 = .ok (.iload_n 1, 1) := by decide +kernel
theorem d_Md_turn_43 : decode b_Md_turn 43 = .ok (.iaload, 1) := by decide +kernel
theorem d_Md_turn_44 : decode b_Md_turn 44 = .ok (.iconst 1, 1) := by decide +kernel
theorem d_Md_turn_45 : decode b_Md_turn 45 = .ok (.iadd, 1) := by decide +kernel
theorem d_Md_turn_46 : decode b_Md_turn 46 = .ok (.invokevirtual 158, 3) := by decide +kernel
theorem d_Md_turn_49 : decode b_Md_turn 49 = .ok (.return_, 1) := by decide +kernel
theorem d_Md_turn_50 : decode b_Md_turn 50 = .ok (.aload_n 0, 1) := by decide +kernel
theorem d_Md_turn_51 : decode b_Md_turn 51 = .ok (.getfield 29, 3) := by decide +kernel
theorem d_Md_turn_54 : decode b_Md_turn 54 = .ok (.iload_n 2, 1) := by decide +kernel
theorem d_Md_turn_55 : decode b_Md_turn 55 = .ok (.iaload, 1) := by decide +kernel
theorem d_Md_turn_56 : decode b_Md_turn 56 = .ok (.ifCond .le 7, 3) := by decide +kernel
theorem d_Md_turn_59 : decode b_Md_turn 59 = .ok (.iconst 1, 1) := by decide +kernel
theorem d_Md_turn_60 : decode b_Md_turn 60 = .ok (.goto 4, 3) := by decide +kernel
theorem d_Md_turn_63 : decode b_Md_turn 63 = .ok (.iconst 0, 1) := by decide +kernel
theorem d_Md_turn_64 : decode b_Md_turn 64 = .ok (.istore_n 3, 1) := by decide +kernel
theorem d_Md_turn_65 : decode b_Md_turn 65 = .ok (.iload_n 3, 1) := by decide +kernel
theorem d_Md_turn_66 : decode b_Md_turn 66 = .ok (.ifCond .eq 27, 3) := by decide +kernel
theorem d_Md_turn_69 : decode b_Md_turn 69 = .ok (.aload_n 0, 1) := by decide +kernel
theorem d_Md_turn_70 : decode b_Md_turn 70 = .ok (.getfield 32, 3) := by decide +kernel
theorem d_Md_turn_73 : decode b_Md_turn 73 = .ok (.iload_n 2, 1) := by decide +kernel
theorem d_Md_turn_74 : decode b_Md_turn 74 = .ok (.iaload, 1) := by decide +kernel
theorem d_Md_turn_75 : decode b_Md_turn 75 = .ok (.aload_n 0, 1) := by decide +kernel
theorem d_Md_turn_76 : decode b_Md_turn 76 = .ok (.getfield 20, 3) := by decide +kernel
theorem d_Md_turn_79 : decode b_Md_turn 79 = .ok (.iload_n 2, 1) := by decide +kernel
theorem d_Md_turn_80 : decode b_Md_turn 80 = .ok (.iaload, 1) := by decide +kernel
theorem d_Md_turn_81 : decode b_Md_turn 81 = .ok (.if_icmp .ge 12, 3) := by decide +kernel
theorem d_Md_turn_84 : decode b_Md_turn 84 = .ok (.aload_n 0, 1) := by decide +kernel
theorem d_Md_turn_85 : decode b_Md_turn 85 = .ok (.getfield 32, 3) := by decide +kernel
theorem d_Md_turn_88 : decode b_Md_turn 88 = .ok (.iload_n 2, 1) := by decide +kernel
theorem d_Md_turn_89 : decode b_Md_turn 89 = .ok (.iaload, 1) := by decide +kernel
theorem d_Md_turn_90 : decode b_Md_turn 90 = .ok (.goto 9, 3) := by decide +kernel
theorem d_Md_turn_93 : decode b_Md_turn 93 = .ok (.aload_n 0, 1) := by decide +kernel
theorem d_Md_turn_94 : decode b_Md_turn 94 = .ok (.getfield 20, 3) := by decide +kernel
theorem d_Md_turn_97 : decode b_Md_turn 97 = .ok (.iload_n 2, 1) := by decide +kernel
theorem d_Md_turn_98 : decode b_Md_turn 98 = .ok (.iaload, 1) := by decide +kernel
theorem d_Md_turn_99 : decode b_Md_turn 99 = .ok (.istore 4, 2) := by decide +kernel
theorem d_Md_turn_101 : decode b_Md_turn 101 = .ok (.aload_n 0, 1) := by decide +kernel
theorem d_Md_turn_102 : decode b_Md_turn 102 = .ok (.getfield 29, 3) := by decide +kernel
theorem d_Md_turn_105 : decode b_Md_turn 105 = .ok (.iload_n 2, 1) := by decide +kernel
theorem d_Md_turn_106 : decode b_Md_turn 106 = .ok (.dup2, 1) := by decide +kernel
theorem d_Md_turn_107 : decode b_Md_turn 107 = .ok (.iaload, 1) := by decide +kernel
theorem d_Md_turn_108 : decode b_Md_turn 108 = .ok (.iload_n 3, 1) := by decide +kernel
theorem d_Md_turn_109 : decode b_Md_turn 109 = .ok (.ifCond .eq 7, 3) := by decide +kernel
theorem d_Md_turn_112 : decode b_Md_turn 112 = .ok (.iconst 1, 1) := by decide +kernel
theorem d_Md_turn_113 : decode b_Md_turn 113 = .ok (.goto 4, 3) := by decide +kernel
theorem d_Md_turn_116 : decode b_Md_turn 116 = .ok (.iconst 0, 1) := by decide +kernel
theorem d_Md_turn_117 : decode b_Md_turn 117 = .ok (.isub, 1) := by decide +kernel
theorem d_Md_turn_118 : decode b_Md_turn 118 = .ok (.iastore, 1) := by decide +kernel
theorem d_Md_turn_119 : decode b_Md_turn 119 = .ok (.iconst 0, 1) := by decide +kernel
theorem d_Md_turn_120 : decode b_Md_turn 120 = .ok (.istore 5, 2) := by decide +kernel
theorem d_Md_turn_122 : decode b_Md_turn 122 = .ok (.iload 5, 2) := by decide +kernel
theorem d_Md_turn_124 : decode b_Md_turn 124 = .ok (.iload 4, 2) := by decide +kernel
theorem d_Md_turn_126 : decode b_Md_turn 126 = .ok (.if_icmp .ge 95, 3) := by decide +kernel
theorem d_Md_turn_129 : decode b_Md_turn 129 = .ok (.aload_n 0, 1) := by decide +kernel
theorem d_Md_turn_130 : decode b_Md_turn 130 = .ok (.getfield 65, 3) := by decide +kernel
theorem d_Md_turn_133 : decode b_Md_turn 133 = .ok (.iload_n 1, 1) := by decide +kernel
theorem d_Md_turn_134 : decode b_Md_turn 134 = .ok (.iaload, 1) := by decide +kernel
theorem d_Md_turn_135 : decode b_Md_turn 135 = .ok (.aload_n 0, 1) := by decide +kernel
theorem d_Md_turn_136 : decode b_Md_turn 136 = .ok (.getfield 23, 3) := by decide +kernel
theorem d_Md_turn_139 : decode b_Md_turn 139 = .ok (.iload_n 2, 1) := by decide +kernel
theorem d_Md_turn_140 : decode b_Md_turn 140 = .ok (.iaload, 1) := by decide +kernel
theorem d_Md_turn_141 : decode b_Md_turn 141 = .ok (.if_icmp .ge 80, 3) := by decide +kernel
theorem d_Md_turn_144 : decode b_Md_turn 144 = .ok (.aload_n 0, 1) := by decide +kernel
theorem d_Md_turn_145 : decode b_Md_turn 145 = .ok (.getfield 35, 3) := by decide +kernel
theorem d_Md_turn_148 : decode b_Md_turn 148 = .ok (.bipush 100, 2) := by decide +kernel
theorem d_Md_turn_150 : decode b_Md_turn 150 = .ok (.iload_n 2, 1) := by decide +kernel
theorem d_Md_turn_151 : decode b_Md_turn 151 = .ok (.imul, 1) := by decide +kernel
theorem d_Md_turn_152 : decode b_Md_turn 152 = .ok (.aload_n 0, 1) := by decide +kernel
theorem d_Md_turn_153 : decode b_Md_turn 153 = .ok (.getfield 65, 3) := by decide +kernel
theorem d_Md_turn_156 : decode b_Md_turn 156 = .ok (.iload_n 1, 1) := by decide +kernel
theorem d_Md_turn_157 : decode b_Md_turn 157 = .ok (.iaload, 1) := by decide +kernel
theorem d_Md_turn_158 : decode b_Md_turn 158 = .ok (.iadd, 1) := by decide +kernel
theorem d_Md_turn_159 : decode b_Md_turn 159 = .ok (.iaload, 1) := by decide +kernel
theorem d_Md_turn_160 : decode b_Md_turn 160 = .ok (.istore 6, 2) := by decide +kernel
theorem d_Md_turn_162 : decode b_Md_turn 162 = .ok (.aload_n 0, 1) := by decide +kernel
theorem d_Md_turn_163 : decode b_Md_turn 163 = .ok (.getfield 68, 3) := by decide +kernel
theorem d_Md_turn_166 : decode b_Md_turn 166 = .ok (.bipush 100, 2) := by decide +kernel
theorem d_Md_turn_168 : decode b_Md_turn 168 = .ok (.iload_n 1, 1) := by decide +kernel
theorem d_Md_turn_169 : decode b_Md_turn 169 = .ok (.imul, 1) := by decide +kernel
theorem d_Md_turn_170 : decode b_Md_turn 170 = .ok (.aload_n 0, 1) := by decide +kernel
theorem d_Md_turn_171 : decode b_Md_turn 171 = .ok (.getfield 65, 3) := by decide +kernel
theorem d_Md_turn_174 : decode b_Md_turn 174 = .ok (.iload_n 1, 1) := by decide +kernel
theorem d_Md_turn_175 : decode b_Md_turn 175 = .ok (.iaload, 1) := by decide +kernel
theorem d_Md_turn_176 : decode b_Md_turn 176 = .ok (.iadd, 1) := by decide +kernel
theorem d_Md_turn_177 : decode b_Md_turn 177 = .ok (.aload_n 0, 1) := by decide +kernel
theorem d_Md_turn_178 : decode b_Md_turn 178 = .ok (.getfield 65, 3) := by decide +kernel
theorem d_Md_turn_181 : decode b_Md_turn 181 = .ok (.iload_n 1, 1) := by decide +kernel
theorem d_Md_turn_182 : decode b_Md_turn 182 = .ok (.iaload, 1) := by decide +kernel
theorem d_Md_turn_183 : decode b_Md_turn 183 = .ok (.ifCond .ne 19, 3) := by decide +kernel
theorem d_Md_turn_186 : decode b_Md_turn 186 = .ok (.aload_n 0, 1) := by decide +kernel
theorem d_Md_turn_187 : decode b_Md_turn 187 = .ok (.getfield 44, 3) := by decide +kernel
theorem d_Md_turn_190 : decode b_Md_turn 190 = .ok (.iload_n 2, 1) := by decide +kernel
theorem d_Md_turn_191 : decode b_Md_turn 191 = .ok (.baload, 1) := by decide +kernel
theorem d_Md_turn_192 : decode b_Md_turn 192 = .ok (.ifCond .eq 10, 3) := by decide +kernel
theorem d_Md_turn_195 : decode b_Md_turn 195 = .ok (.iload 6, 2) := by decide +kernel
theorem d_Md_turn_197 : decode b_Md_turn 197 = .ok (.iconst 1, 1) := by decide +kernel
theorem d_Md_turn_198 : decode b_Md_turn 198 = .ok (.ixor, 1) := by decide +kernel
theorem d_Md_turn_199 : decode b_Md_turn 199 = .ok (.goto 5, 3) := by decide +kernel
theorem d_Md_turn_202 : decode b_Md_turn 202 = .ok (.iload 6, 2) := by decide +kernel
theorem d_Md_turn_204 : decode b_Md_turn 204 = .ok (.iastore, 1) := by decide +kernel
theorem d_Md_turn_205 : decode b_Md_turn 205 = .ok (.aload_n 0, 1) := by decide +kernel
theorem d_Md_turn_206 : decode b_Md_turn 206 = .ok (.getfield 65, 3) := by decide +kernel
theorem d_Md_turn_209 : decode b_Md_turn 209 = .ok (.iload_n 1, 1) := by decide +kernel
theorem d_Md_turn_210 : decode b_Md_turn 210 = .ok (.dup2, 1) := by decide +kernel
theorem d_Md_turn_211 : decode b_Md_turn 211 = .ok (.iaload, 1) := by decide +kernel
theorem d_Md_turn_212 : decode b_Md_turn 212 = .ok (.iconst 1, 1) := by decide +kernel
theorem d_Md_turn_213 : decode b_Md_turn 213 = .ok (.iadd, 1) := by decide +kernel
theorem d_Md_turn_214 : decode b_Md_turn 214 = .ok (.iastore, 1) := by decide +kernel
theorem d_Md_turn_215 : decode b_Md_turn 215 = .ok (.iinc 5 1, 3) := by decide +kernel
theorem d_Md_turn_218 : decode b_Md_turn 218 = .ok (.goto (-96), 3) := by decide +kernel
theorem d_Md_turn_221 : decode b_Md_turn 221 = .ok (.aload_n 0, 1) := by decide +kernel
theorem d_Md_turn_222 : decode b_Md_turn 222 = .ok (.getfield 65, 3) := by decide +kernel
theorem d_Md_turn_225 : decode b_Md_turn 225 = .ok (.iload_n 1, 1) := by decide +kernel
theorem d_Md_turn_226 : decode b_Md_turn 226 = .ok (.iaload, 1) := by decide +kernel
theorem d_Md_turn_227 : decode b_Md_turn 227 = .ok (.aload_n 0, 1) := by decide +kernel
theorem d_Md_turn_228 : decode b_Md_turn 228 = .ok (.getfield 23, 3) := by decide +kernel
theorem d_Md_turn_231 : decode b_Md_turn 231 = .ok (.iload_n 2, 1) := by decide +kernel
theorem d_Md_turn_232 : decode b_Md_turn 232 = .ok (.iaload, 1) := by decide +kernel
theorem d_Md_turn_233 : decode b_Md_turn 233 = .ok (.if_icmp .lt 11, 3) := by decide +kernel
theorem d_Md_turn_236 : decode b_Md_turn 236 = .ok (.aload_n 0, 1) := by decide +kernel
theorem d_Md_turn_237 : decode b_Md_turn 237 = .ok (.iload_n 1, 1) := by decide +kernel
theorem d_Md_turn_238 : decode b_Md_turn 238 = .ok (.invokevirtual 174, 3) := by decide +kernel
theorem d_Md_turn_241 : decode b_Md_turn 241 = .ok (.goto 12, 3) := by decide +kernel
theorem d_Md_turn_244 : decode b_Md_turn 244 = .ok (.iload_n 3, 1) := by decide +kernel
theorem d_Md_turn_245 : decode b_Md_turn 245 = .ok (.ifCond .eq 8, 3) := by decide +kernel
theorem d_Md_turn_248 : decode b_Md_turn 248 = .ok (.aload_n 0, 1) := by decide +kernel
theorem d_Md_turn_249 : decode b_Md_turn 249 = .ok (.iload_n 1, 1) := by decide +kernel
theorem d_Md_turn_250 : decode b_Md_turn 250 = .ok (.invokevirtual 177, 3) := by decide +kernel
theorem d_Md_turn_253 : decode b_Md_turn 253 = .ok (.return_, 1) := by decide +kernel
theorem d_Md_tick_0 : decode b_Md_tick 0 = .ok (.aload_n 0, 1) := by decide +kernel
theorem d_Md_tick_1 : decode b_Md_tick 1 = .ok (.iconst 0, 1) := by decide +kernel
theorem d_Md_tick_2 : decode b_Md_tick 2 = .ok (.putfield 117, 3) := by decide +kernel
theorem d_Md_tick_5 : decode b_Md_tick 5 = .ok (.iload_n 1, 1) := by decide +kernel
theorem d_Md_tick_6 : decode b_Md_tick 6 = .ok (.ifCond .lt 9, 3) := by decide +kernel
theorem d_Md_tick_9 : decode b_Md_tick 9 = .ok (.iload_n 1, 1) := by decide +kernel
theorem d_Md_tick_10 : decode b_Md_tick 10 = .ok (.bipush 50, 2) := by decide +kernel
theorem d_Md_tick_12 : decode b_Md_tick 12 = .ok (.if_icmp .le 5, 3) := by decide +kernel
theorem d_Md_tick_15 : decode b_Md_tick 15 = .ok (.iconst (-1), 1) := by decide +kernel
theorem d_Md_tick_16 : decode b_Md_tick 16 = .ok (.ireturn, 1) := by decide +kernel
theorem d_Md_tick_17 : decode b_Md_tick 17 = .ok (.iconst 0, 1) := by decide +kernel
theorem d_Md_tick_18 : decode b_Md_tick 18 = .ok (.istore_n 2, 1) := by decide +kernel
theorem d_Md_tick_19 : decode b_Md_tick 19 = .ok (.iload_n 2, 1) := by decide +kernel
theorem d_Md_tick_20 : decode b_Md_tick 20 = .ok (.iload_n 1, 1) := by decide +kernel
theorem d_Md_tick_21 : decode b_Md_tick 21 = .ok (.if_icmp .ge 80, 3) := by decide +kernel
theorem d_Md_tick_24 : decode b_Md_tick 24 = .ok (.aload_n 0, 1) := by decide +kernel
theorem d_Md_tick_25 : decode b_Md_tick 25 = .ok (.dup, 1) := by decide +kernel
theorem d_Md_tick_26 : decode b_Md_tick 26 = .ok (.getfield 162, 3) := by decide +kernel
theorem d_Md_tick_29 : decode b_Md_tick 29 = .ok (.iconst 1, 1) := by decide +kernel
theorem d_Md_tick_30 : decode b_Md_tick 30 = .ok (.iadd, 1) := by decide +kernel
theorem d_Md_tick_31 : decode b_Md_tick 31 = .ok (.putfield 162, 3) := by decide +kernel
theorem d_Md_tick_34 : decode b_Md_tick 34 = .ok (.iconst 0, 1) := by decide +kernel
theorem d_Md_tick_35 : decode b_Md_tick 35 = .ok (.istore_n 3, 1) := by decide +kernel
theorem d_Md_tick_36 : decode b_Md_tick 36 = .ok (.iload_n 3, 1) := by decide +kernel
theorem d_Md_tick_37 : decode b_Md_tick 37 = .ok (.aload_n 0, 1) := by decide +kernel
theorem d_Md_tick_38 : decode b_Md_tick 38 = .ok (.getfield 123, 3) := by decide +kernel
theorem d_Md_tick_41 : decode b_Md_tick 41 = .ok (.if_icmp .ge 54, 3) := by decide +kernel
theorem d_Md_tick_44 : decode b_Md_tick 44 = .ok (.aload_n 0, 1) := by decide +kernel
theorem d_Md_tick_45 : decode b_Md_tick 45 = .ok (.getfield 59, 3) := by decide +kernel
theorem d_Md_tick_48 : decode b_Md_tick 48 = .ok (.iload_n 3, 1) := by decide +kernel
theorem d_Md_tick_49 : decode b_Md_tick 49 = .ok (.iaload, 1) := by decide +kernel
theorem d_Md_tick_50 : decode b_Md_tick 50 = .ok (.iconst 2, 1) := by decide +kernel
theorem d_Md_tick_51 : decode b_Md_tick 51 = .ok (.if_icmp .ne 23, 3) := by decide +kernel
theorem d_Md_tick_54 : decode b_Md_tick 54 = .ok (.aload_n 0, 1) := by decide +kernel
theorem d_Md_tick_55 : decode b_Md_tick 55 = .ok (.getfield 71, 3) := by decide +kernel
theorem d_Md_tick_58 : decode b_Md_tick 58 = .ok (.iload_n 3, 1) := by decide +kernel
theorem d_Md_tick_59 : decode b_Md_tick 59 = .ok (.iaload, 1) := by decide +kernel
theorem d_Md_tick_60 : decode b_Md_tick 60 = .ok (.aload_n 0, 1) := by decide +kernel
theorem d_Md_tick_61 : decode b_Md_tick 61 = .ok (.getfield 162, 3) := by decide +kernel
theorem d_Md_tick_64 : decode b_Md_tick 64 = .ok (.if_icmp .gt 10, 3) := by decide +kernel
theorem d_Md_tick_67 : decode b_Md_tick 67 = .ok (.aload_n 0, 1) := by decide +kernel
theorem d_Md_tick_68 : decode b_Md_tick 68 = .ok (.getfield 59, 3) := by decide +kernel
theorem d_Md_tick_71 : decode b_Md_tick 71 = .ok (.iload_n 3, 1) := by decide +kernel
theorem d_Md_tick_72 : decode b_Md_tick 72 = .ok (.iconst 1, 1) := by decide +kernel
theorem d_Md_tick_73 : decode b_Md_tick 73 = .ok (.iastore, 1) := by decide +kernel
theorem d_Md_tick_74 : decode b_Md_tick 74 = .ok (.aload_n 0, 1) := by decide +kernel
theorem d_Md_tick_75 : decode b_Md_tick 75 = .ok (.getfield 59, 3) := by decide +kernel
theorem d_Md_tick_78 : decode b_Md_tick 78 = .ok (.iload_n 3, 1) := by decide +kernel
theorem d_Md_tick_79 : decode b_Md_tick 79 = .ok (.iaload, 1) := by decide +kernel
theorem d_Md_tick_80 : decode b_Md_tick 80 = .ok (.iconst 1, 1) := by decide +kernel
theorem d_Md_tick_81 : decode b_Md_tick 81 = .ok (.if_icmp .ne 8, 3) := by decide +kernel
theorem d_Md_tick_84 : decode b_Md_tick 84 = .ok (.aload_n 0, 1) := by decide +kernel
theorem d_Md_tick_85 : decode b_Md_tick 85 = .ok (.iload_n 3, 1) := by decide +kernel
theorem d_Md_tick_86 : decode b_Md_tick 86 = .ok (.invokevirtual 180, 3) := by decide +kernel
theorem d_Md_tick_89 : decode b_Md_tick 89 = .ok (.iinc 3 1, 3) := by decide +kernel
theorem d_Md_tick_92 : decode b_Md_tick 92 = .ok (.goto (-56), 3) := by decide +kernel
theorem d_Md_tick_95 : decode b_Md_tick 95 = .ok (.iinc 2 1, 3) := by decide +kernel
theorem d_Md_tick_98 : decode b_Md_tick 98 = .ok (.goto (-79), 3) := by decide +kernel
theorem d_Md_tick_101 : decode b_Md_tick 101 = .ok (.iconst 0, 1) := by decide +kernel
theorem d_Md_tick_102 : decode b_Md_tick 102 = .ok (.istore_n 2, 1) := by decide +kernel
theorem d_Md_tick_103 : decode b_Md_tick 103 = .ok (.iconst 0, 1) := by decide +kernel
theorem d_Md_tick_104 : decode b_Md_tick 104 = .ok (.istore_n 3, 1) := by decide +kernel
theorem d_Md_tick_105 : decode b_Md_tick 105 = .ok (.iload_n 3, 1) := by decide +kernel
theorem d_Md_tick_106 : decode b_Md_tick 106 = .ok (.aload_n 0, 1) := by decide +kernel
theorem d_Md_tick_107 : decode b_Md_tick 107 = .ok (.getfield 123, 3) := by decide +kernel
theorem d_Md_tick_110 : decode b_Md_tick 110 = .ok (.if_icmp .ge 37, 3) := by decide +kernel
theorem d_Md_tick_113 : decode b_Md_tick 113 = .ok (.iload_n 2, 1) := by decide +kernel
theorem d_Md_tick_114 : decode b_Md_tick 114 = .ok (.aload_n 0, 1) := by decide +kernel
theorem d_Md_tick_115 : decode b_Md_tick 115 = .ok (.getfield 59, 3) := by decide +kernel
theorem d_Md_tick_118 : decode b_Md_tick 118 = .ok (.iload_n 3, 1) := by decide +kernel
theorem d_Md_tick_119 : decode b_Md_tick 119 = .ok (.iaload, 1) := by decide +kernel
theorem d_Md_tick_120 : decode b_Md_tick 120 = .ok (.iconst 1, 1) := by decide +kernel
theorem d_Md_tick_121 : decode b_Md_tick 121 = .ok (.if_icmp .eq 13, 3) := by decide +kernel
theorem d_Md_tick_124 : decode b_Md_tick 124 = .ok (.aload_n 0, 1) := by decide +kernel
theorem d_Md_tick_125 : decode b_Md_tick 125 = .ok (.getfield 59, 3) := by decide +kernel
theorem d_Md_tick_128 : decode b_Md_tick 128 = .ok (.iload_n 3, 1) := by decide +kernel
theorem d_Md_tick_129 : decode b_Md_tick 129 = .ok (.iaload, 1) := by decide +kernel
theorem d_Md_tick_130 : decode b_Md_tick 130 = .ok (.iconst 2, 1) := by decide +kernel
theorem d_Md_tick_131 : decode b_Md_tick 131 = .ok (.if_icmp .ne 7, 3) := by decide +kernel
theorem d_Md_tick_134 : decode b_Md_tick 134 = .ok (.iconst 1, 1) := by decide +kernel
theorem d_Md_tick_135 : decode b_Md_tick 135 = .ok (.goto 4, 3) := by decide +kernel
theorem d_Md_tick_138 : decode b_Md_tick 138 = .ok (.iconst 0, 1) := by decide +kernel
theorem d_Md_tick_139 : decode b_Md_tick 139 = .ok (.iadd, 1) := by decide +kernel
theorem d_Md_tick_140 : decode b_Md_tick 140 = .ok (.istore_n 2, 1) := by decide +kernel
theorem d_Md_tick_141 : decode b_Md_tick 141 = .ok (.iinc 3 1, 3) := by decide +kernel
theorem d_Md_tick_144 : decode b_Md_tick 144 = .ok (.goto (-39), 3) := by decide +kernel
theorem d_Md_tick_147 : decode b_Md_tick 147 = .ok (.iload_n 2, 1) := by decide +kernel
theorem d_Md_tick_148 : decode b_Md_tick 148 = .ok (.ireturn, 1) := by decide +kernel
theorem d_Md_about_0 : decode b_Md_about 0 = .ok (.aload_n 0, 1) := by decide +kernel
theorem d_Md_about_1 : decode b_Md_about 1 = .ok (.iconst 0, 1) := by decide +kernel
theorem d_Md_about_2 : decode b_Md_about 2 = .ok (.putfield 117, 3) := by decide +kernel
theorem d_Md_about_5 : decode b_Md_about 5 = .ok (.aload_n 0, 1) := by decide +kernel
theorem d_Md_about_6 : decode b_Md_about 6 = .ok (.iload_n 1, 1) := by decide +kernel
theorem d_Md_about_7 : decode b_Md_about 7 = .ok (.invokevirtual 137, 3) := by decide +kernel
theorem d_Md_about_10 : decode b_Md_about 10 = .ok (.ifCond .ne 5, 3) := by decide +kernel
theorem d_Md_about_13 : decode b_Md_about 13 = .ok (.iconst (-1), 1) := by decide +kernel
theorem d_Md_about_14 : decode b_Md_about 14 = .ok (.ireturn, 1) := by decide +kernel
theorem d_Md_about_15 : decode b_Md_about 15 = .ok (.aload_n 0, 1) := by decide +kernel
theorem d_Md_about_16 : decode b_Md_about 16 = .ok (.getfield 59, 3) := by decide +kernel
theorem d_Md_about_19 : decode b_Md_about 19 = .ok (.iload_n 1, 1) := by decide +kernel
theorem d_Md_about_20 : decode b_Md_about 20 = .ok (.iaload, 1) := by decide +kernel
theorem d_Md_about_21 : decode b_Md_about 21 = .ok (.iconst 1, 1) := by decide +kernel
theorem d_Md_about_22 : decode b_Md_about 22 = .ok (.if_icmp .eq 13, 3) := by decide +kernel
theorem d_Md_about_25 : decode b_Md_about 25 = .ok (.aload_n 0, 1) := by decide +kernel
theorem d_Md_about_26 : decode b_Md_about 26 = .ok (.getfield 59, 3) := by decide +kernel
theorem d_Md_about_29 : decode b_Md_about 29 = .ok (.iload_n 1, 1) := by decide +kernel
theorem d_Md_about_30 : decode b_Md_about 30 = .ok (.iaload, 1) := by decide +kernel
theorem d_Md_about_31 : decode b_Md_about 31 = .ok (.iconst 2, 1) := by decide +kernel
theorem d_Md_about_32 : decode b_Md_about 32 = .ok (.if_icmp .ne 7, 3) := by decide +kernel
theorem d_Md_about_35 : decode b_Md_about 35 = .ok (.iconst 1, 1) := by decide +kernel
theorem d_Md_about_36 : decode b_Md_about 36 = .ok (.goto 4, 3) := by decide +kernel
theorem d_Md_about_39 : decode b_Md_about 39 = .ok (.iconst 0, 1) := by decide +kernel
theorem d_Md_about_40 : decode b_Md_about 40 = .ok (.istore_n 3, 1) := by decide +kernel
theorem d_Md_about_41 : decode b_Md_about 41 = .ok (.iload_n 2, 1) := by decide +kernel
theorem d_Md_about_42 : decode b_Md_about 42 = .ok (.tableswitch 101 0 4 #[34, 41, 66, 73, 94], 34) := by decide +kernel
theorem d_Md_about_76 : decode b_Md_about 76 = .ok (.aload_n 0, 1) := by decide +kernel
theorem d_Md_about_77 : decode b_Md_about 77 = .ok (.getfield 59, 3) := by decide +kernel
theorem d_Md_about_80 : decode b_Md_about 80 = .ok (.iload_n 1, 1) := by decide +kernel
theorem d_Md_about_81 : decode b_Md_about 81 = .ok (.iaload, 1) := by decide +kernel
theorem d_Md_about_82 : decode b_Md_about 82 = .ok (.ireturn, 1) := by decide +kernel
theorem d_Md_about_83 : decode b_Md_about 83 = .ok (.iload_n 3, 1) := by decide +kernel
theorem d_Md_about_84 : decode b_Md_about 84 = .ok (.ifCond .eq 22, 3) := by decide +kernel
theorem d_Md_about_87 : decode b_Md_about 87 = .ok (.aload_n 0, 1) := by decide +kernel
theorem d_Md_about_88 : decode b_Md_about 88 = .ok (.getfield 56, 3) := by decide +kernel
theorem d_Md_about_91 : decode b_Md_about 91 = .ok (.bipush 6, 2) := by decide +kernel
theorem d_Md_about_93 : decode b_Md_about 93 = .ok (.iload_n 1, 1) := by decide +kernel
theorem d_Md_about_94 : decode b_Md_about 94 = .ok (.imul, 1) := by decide +kernel
theorem d_Md_about_95 : decode b_Md_about 95 = .ok (.aload_n 0, 1) := by decide +kernel
theorem d_Md_about_96 : decode b_Md_about 96 = .ok (.getfield 62, 3) := by decide +kernel
theorem d_Md_about_99 : decode b_Md_about 99 = .ok (.iload_n 1, 1) := by decide +kernel
theorem d_Md_about_100 : decode b_Md_about 100 = .ok (.iaload, 1) := by decide +kernel
theorem d_Md_about_101 : decode b_Md_about 101 = .ok (.iadd, 1) := by decide +kernel
theorem d_Md_about_102 : decode b_Md_about 102 = .ok (.iaload, 1) := by decide +kernel
theorem d_Md_about_103 : decode b_Md_about 103 = .ok (.goto 4, 3) := by decide +kernel
theorem d_Md_about_106 : decode b_Md_about 106 = .ok (.iconst (-1), 1) := by decide +kernel
theorem d_Md_about_107 : decode b_Md_about 107 = .ok (.ireturn, 1) := by decide +kernel
theorem d_Md_about_108 : decode b_Md_about 108 = .ok (.aload_n 0, 1) := by decide +kernel
theorem d_Md_about_109 : decode b_Md_about 109 = .ok (.getfield 65, 3) := by decide +kernel
theorem d_Md_about_112 : decode b_Md_about 112 = .ok (.iload_n 1, 1) := by decide +kernel
theorem d_Md_about_113 : decode b_Md_about 113 = .ok (.iaload, 1) := by decide +kernel
theorem d_Md_about_114 : decode b_Md_about 114 = .ok (.ireturn, 1) := by decide +kernel
theorem d_Md_about_115 : decode b_Md_about 115 = .ok (.aload_n 0, 1) := by decide +kernel
theorem d_Md_about_116 : decode b_Md_about 116 = .ok (.getfield 59, 3) := by decide +kernel
theorem d_Md_about_119 : decode b_Md_about 119 = .ok (.iload_n 1, 1) := by decide +kernel
theorem d_Md_about_120 : decode b_Md_about 120 = .ok (.iaload, 1) := by decide +kernel
theorem d_Md_about_121 : decode b_Md_about 121 = .ok (.iconst 2, 1) := by decide +kernel
theorem d_Md_about_122 : decode b_Md_about 122 = .ok (.if_icmp .ne 12, 3) := by decide +kernel
theorem d_Md_about_125 : decode b_Md_about 125 = .ok (.aload_n 0, 1) := by decide +kernel
theorem d_Md_about_126 : decode b_Md_about 126 = .ok (.getfield 71, 3) := by decide +kernel
theorem d_Md_about_129 : decode b_Md_about 129 = .ok (.iload_n 1, 1) := by decide +kernel
theorem d_Md_about_130 : decode b_Md_about 130 = .ok (.iaload, 1) := by decide +kernel
theorem d_Md_about_131 : decode b_Md_about 131 = .ok (.goto 4, 3) := by decide +kernel
theorem d_Md_about_134 : decode b_Md_about 134 = .ok (.iconst (-1), 1) := by decide +kernel
theorem d_Md_about_135 : decode b_Md_about 135 = .ok (.ireturn, 1) := by decide +kernel
theorem d_Md_about_136 : decode b_Md_about 136 = .ok (.aload_n 0, 1) := by decide +kernel
theorem d_Md_about_137 : decode b_Md_about 137 = .ok (.getfield 74, 3) := by decide +kernel
theorem d_Md_about_140 : decode b_Md_about 140 = .ok (.iload_n 1, 1) := by decide +kernel
theorem d_Md_about_141 : decode b_Md_about 141 = .ok (.iaload, 1) := by decide +kernel
theorem d_Md_about_142 : decode b_Md_about 142 = .ok (.ireturn, 1) := by decide +kernel
theorem d_Md_about_143 : decode b_Md_about 143 = .ok (.iconst (-1), 1) := by decide +kernel
theorem d_Md_about_144 : decode b_Md_about 144 = .ok (.ireturn, 1) := by decide +kernel
theorem d_Md_byteOf_0 : decode b_Md_byteOf 0 = .ok (.aload_n 0, 1) := by decide +kernel
theorem d_Md_byteOf_1 : decode b_Md_byteOf 1 = .ok (.iconst 0, 1) := by decide +kernel
theorem d_Md_byteOf_2 : decode b_Md_byteOf 2 = .ok (.putfield 117, 3) := by decide +kernel
theorem d_Md_byteOf_5 : decode b_Md_byteOf 5 = .ok (.aload_n 0, 1) := by decide +kernel
theorem d_Md_byteOf_6 : decode b_Md_byteOf 6 = .ok (.iload_n 1, 1) := by decide +kernel
theorem d_Md_byteOf_7 : decode b_Md_byteOf 7 = .ok (.invokevirtual 137, 3) := by decide +kernel
theorem d_Md_byteOf_10 : decode b_Md_byteOf 10 = .ok (.ifCond .eq 17, 3) := by decide +kernel
theorem d_Md_byteOf_13 : decode b_Md_byteOf 13 = .ok (.iload_n 2, 1) := by decide +kernel
theorem d_Md_byteOf_14 : decode b_Md_byteOf 14 = .ok (.ifCond .lt 13, 3) := by decide +kernel
theorem d_Md_byteOf_17 : decode b_Md_byteOf 17 = .ok (.iload_n 2, 1) := by decide +kernel
theorem d_Md_byteOf_18 : decode b_Md_byteOf 18 = .ok (.aload_n 0, 1) := by decide +kernel
theorem d_Md_byteOf_19 : decode b_Md_byteOf 19 = .ok (.getfield 65, 3) := by decide +kernel
theorem d_Md_byteOf_22 : decode b_Md_byteOf 22 = .ok (.iload_n 1, 1) := by decide +kernel
theorem d_Md_byteOf_23 : decode b_Md_byteOf 23 = .ok (.iaload, 1) := by decide +kernel
theorem d_Md_byteOf_24 : decode b_Md_byteOf 24 = .ok (.if_icmp .lt 7, 3) := by decide +kernel
theorem d_Md_byteOf_27 : decode b_Md_byteOf 27 = .ok (.iconst (-1), 1) := by decide +kernel
theorem d_Md_byteOf_28 : decode b_Md_byteOf 28 = .ok (.goto 14, 3) := by decide +kernel
theorem d_Md_byteOf_31 : decode b_Md_byteOf 31 = .ok (.aload_n 0, 1) := by decide +kernel
theorem d_Md_byteOf_32 : decode b_Md_byteOf 32 = .ok (.getfield 68, 3) := by decide +kernel
theorem d_Md_byteOf_35 : decode b_Md_byteOf 35 = .ok (.bipush 100, 2) := by decide +kernel
theorem d_Md_byteOf_37 : decode b_Md_byteOf 37 = .ok (.iload_n 1, 1) := by decide +kernel
theorem d_Md_byteOf_38 : decode b_Md_byteOf 38 = .ok (.imul, 1) := by decide +kernel
theorem d_Md_byteOf_39 : decode b_Md_byteOf 39 = .ok (.iload_n 2, 1) := by decide +kernel
theorem d_Md_byteOf_40 : decode b_Md_byteOf 40 = .ok (.iadd, 1) := by decide +kernel
theorem d_Md_byteOf_41 : decode b_Md_byteOf 41 = .ok (.iaload, 1) := by decide +kernel
theorem d_Md_byteOf_42 : decode b_Md_byteOf 42 = .ok (.ireturn, 1) := by decide +kernel
theorem d_Md_barred_0 : decode b_Md_barred 0 = .ok (.aload_n 0, 1) := by decide +kernel
theorem d_Md_barred_1 : decode b_Md_barred 1 = .ok (.iconst 0, 1) := by decide +kernel
theorem d_Md_barred_2 : decode b_Md_barred 2 = .ok (.putfield 117, 3) := by decide +kernel
theorem d_Md_barred_5 : decode b_Md_barred 5 = .ok (.iload_n 1, 1) := by decide +kernel
theorem d_Md_barred_6 : decode b_Md_barred 6 = .ok (.ifCond .lt 11, 3) := by decide +kernel
theorem d_Md_barred_9 : decode b_Md_barred 9 = .ok (.iload_n 1, 1) := by decide +kernel
theorem d_Md_barred_10 : decode b_Md_barred 10 = .ok (.aload_n 0, 1) := by decide +kernel
theorem d_Md_barred_11 : decode b_Md_barred 11 = .ok (.getfield 168, 3) := by decide +kernel
theorem d_Md_barred_14 : decode b_Md_barred 14 = .ok (.if_icmp .lt 5, 3) := by decide +kernel
theorem d_Md_barred_17 : decode b_Md_barred 17 = .ok (.iconst (-1), 1) := by decide +kernel
theorem d_Md_barred_18 : decode b_Md_barred 18 = .ok (.ireturn, 1) := by decide +kernel
theorem d_Md_barred_19 : decode b_Md_barred 19 = .ok (.iload_n 2, 1) := by decide +kernel
theorem d_Md_barred_20 : decode b_Md_barred 20 = .ok (.ifCond .ne 12, 3) := by decide +kernel
theorem d_Md_barred_23 : decode b_Md_barred 23 = .ok (.aload_n 0, 1) := by decide +kernel
theorem d_Md_barred_24 : decode b_Md_barred 24 = .ok (.getfield 89, 3) := by decide +kernel
theorem d_Md_barred_27 : decode b_Md_barred 27 = .ok (.iload_n 1, 1) := by decide +kernel
theorem d_Md_barred_28 : decode b_Md_barred 28 = .ok (.iaload, 1) := by decide +kernel
theorem d_Md_barred_29 : decode b_Md_barred 29 = .ok (.goto 18, 3) := by decide +kernel
theorem d_Md_barred_32 : decode b_Md_barred 32 = .ok (.iload_n 2, 1) := by decide +kernel
theorem d_Md_barred_33 : decode b_Md_barred 33 = .ok (.iconst 1, 1) := by decide +kernel
theorem d_Md_barred_34 : decode b_Md_barred 34 = .ok (.if_icmp .ne 12, 3) := by decide +kernel
theorem d_Md_barred_37 : decode b_Md_barred 37 = .ok (.aload_n 0, 1) := by decide +kernel
theorem d_Md_barred_38 : decode b_Md_barred 38 = .ok (.getfield 92, 3) := by decide +kernel
theorem d_Md_barred_41 : decode b_Md_barred 41 = .ok (.iload_n 1, 1) := by decide +kernel
theorem d_Md_barred_42 : decode b_Md_barred 42 = .ok (.iaload, 1) := by decide +kernel
theorem d_Md_barred_43 : decode b_Md_barred 43 = .ok (.goto 4, 3) := by decide +kernel
theorem d_Md_barred_46 : decode b_Md_barred 46 = .ok (.iconst (-1), 1) := by decide +kernel
theorem d_Md_barred_47 : decode b_Md_barred 47 = .ok (.ireturn, 1) := by decide +kernel
theorem d_Md_came_0 : decode b_Md_came 0 = .ok (.aload_n 0, 1) := by decide +kernel
theorem d_Md_came_1 : decode b_Md_came 1 = .ok (.iconst 0, 1) := by decide +kernel
theorem d_Md_came_2 : decode b_Md_came 2 = .ok (.putfield 117, 3) := by decide +kernel
theorem d_Md_came_5 : decode b_Md_came 5 = .ok (.iload_n 1, 1) := by decide +kernel
theorem d_Md_came_6 : decode b_Md_came 6 = .ok (.ifCond .lt 11, 3) := by decide +kernel
theorem d_Md_came_9 : decode b_Md_came 9 = .ok (.iload_n 1, 1) := by decide +kernel
theorem d_Md_came_10 : decode b_Md_came 10 = .ok (.aload_n 0, 1) := by decide +kernel
theorem d_Md_came_11 : decode b_Md_came 11 = .ok (.getfield 168, 3) := by decide +kernel
theorem d_Md_came_14 : decode b_Md_came 14 = .ok (.if_icmp .lt 7, 3) := by decide +kernel
theorem d_Md_came_17 : decode b_Md_came 17 = .ok (.iconst 0, 1) := by decide +kernel
theorem d_Md_came_18 : decode b_Md_came 18 = .ok (.goto 9, 3) := by decide +kernel
theorem d_Md_came_21 : decode b_Md_came 21 = .ok (.aload_n 0, 1) := by decide +kernel
theorem d_Md_came_22 : decode b_Md_came 22 = .ok (.getfield 95, 3) := by decide +kernel
theorem d_Md_came_25 : decode b_Md_came 25 = .ok (.iload_n 1, 1) := by decide +kernel
theorem d_Md_came_26 : decode b_Md_came 26 = .ok (.iaload, 1) := by decide +kernel
theorem d_Md_came_27 : decode b_Md_came 27 = .ok (.ireturn, 1) := by decide +kernel
theorem d_Md_lacks_0 : decode b_Md_lacks 0 = .ok (.aload_n 0, 1) := by decide +kernel
theorem d_Md_lacks_1 : decode b_Md_lacks 1 = .ok (.iconst 0, 1) := by decide +kernel
theorem d_Md_lacks_2 : decode b_Md_lacks 2 = .ok (.putfield 117, 3) := by decide +kernel
theorem d_Md_lacks_5 : decode b_Md_lacks 5 = .ok (.iload_n 1, 1) := by decide +kernel
theorem d_Md_lacks_6 : decode b_Md_lacks 6 = .ok (.ifCond .lt 11, 3) := by decide +kernel
theorem d_Md_lacks_9 : decode b_Md_lacks 9 = .ok (.iload_n 1, 1) := by decide +kernel
theorem d_Md_lacks_10 : decode b_Md_lacks 10 = .ok (.aload_n 0, 1) := by decide +kernel
theorem d_Md_lacks_11 : decode b_Md_lacks 11 = .ok (.getfield 144, 3) := by decide +kernel
theorem d_Md_lacks_14 : decode b_Md_lacks 14 = .ok (.if_icmp .lt 7, 3) := by decide +kernel
theorem d_Md_lacks_17 : decode b_Md_lacks 17 = .ok (.iconst (-1), 1) := by decide +kernel
theorem d_Md_lacks_18 : decode b_Md_lacks 18 = .ok (.goto 9, 3) := by decide +kernel
theorem d_Md_lacks_21 : decode b_Md_lacks 21 = .ok (.aload_n 0, 1) := by decide +kernel
theorem d_Md_lacks_22 : decode b_Md_lacks 22 = .ok (.getfield 98, 3) := by decide +kernel
theorem d_Md_lacks_25 : decode b_Md_lacks 25 = .ok (.iload_n 1, 1) := by decide +kernel
theorem d_Md_lacks_26 : decode b_Md_lacks 26 = .ok (.iaload, 1) := by decide +kernel
theorem d_Md_lacks_27 : decode b_Md_lacks 27 = .ok (.ireturn, 1) := by decide +kernel
theorem d_Md_sent_0 : decode b_Md_sent 0 = .ok (.aload_n 0, 1) := by decide +kernel
theorem d_Md_sent_1 : decode b_Md_sent 1 = .ok (.iconst 0, 1) := by decide +kernel
theorem d_Md_sent_2 : decode b_Md_sent 2 = .ok (.putfield 117, 3) := by decide +kernel
theorem d_Md_sent_5 : decode b_Md_sent 5 = .ok (.iload_n 1, 1) := by decide +kernel
theorem d_Md_sent_6 : decode b_Md_sent 6 = .ok (.ifCond .lt 9, 3) := by decide +kernel
theorem d_Md_sent_9 : decode b_Md_sent 9 = .ok (.iload_n 1, 1) := by decide +kernel
theorem d_Md_sent_10 : decode b_Md_sent 10 = .ok (.bipush 8, 2) := by decide +kernel
theorem d_Md_sent_12 : decode b_Md_sent 12 = .ok (.if_icmp .lt 7, 3) := by decide +kernel
theorem d_Md_sent_15 : decode b_Md_sent 15 = .ok (.iconst 0, 1) := by decide +kernel
theorem d_Md_sent_16 : decode b_Md_sent 16 = .ok (.goto 9, 3) := by decide +kernel
theorem d_Md_sent_19 : decode b_Md_sent 19 = .ok (.aload_n 0, 1) := by decide +kernel
theorem d_Md_sent_20 : decode b_Md_sent 20 = .ok (.getfield 13, 3) := by decide +kernel
theorem d_Md_sent_23 : decode b_Md_sent 23 = .ok (.iload_n 1, 1) := by decide +kernel
theorem d_Md_sent_24 : decode b_Md_sent 24 = .ok (.iaload, 1) := by decide +kernel
theorem d_Md_sent_25 : decode b_Md_sent 25 = .ok (.ireturn, 1) := by decide +kernel
theorem d_Md_isSign_0 : decode b_Md_isSign 0 = .ok (.iload_n 0, 1) := by decide +kernel
theorem d_Md_isSign_1 : decode b_Md_isSign 1 = .ok (.bipush 97, 2) := by decide +kernel
theorem d_Md_isSign_3 : decode b_Md_isSign 3 = .ok (.if_icmp .lt 9, 3) := by decide +kernel
theorem d_Md_isSign_6 : decode b_Md_isSign 6 = .ok (.iload_n 0, 1) := by decide +kernel
theorem d_Md_isSign_7 : decode b_Md_isSign 7 = .ok (.bipush 122, 2) := by decide +kernel
theorem d_Md_isSign_9 : decode b_Md_isSign 9 = .ok (.if_icmp .le 27, 3) := by decide +kernel
theorem d_Md_isSign_12 : decode b_Md_isSign 12 = .ok (.iload_n 0, 1) := by decide +kernel
theorem d_Md_isSign_13 : decode b_Md_isSign 13 = .ok (.bipush 48, 2) := by decide +kernel
theorem d_Md_isSign_15 : decode b_Md_isSign 15 = .ok (.if_icmp .lt 9, 3) := by decide +kernel
theorem d_Md_isSign_18 : decode b_Md_isSign 18 = .ok (.iload_n 0, 1) := by decide +kernel
theorem d_Md_isSign_19 : decode b_Md_isSign 19 = .ok (.bipush 57, 2) := by decide +kernel
theorem d_Md_isSign_21 : decode b_Md_isSign 21 = .ok (.if_icmp .le 15, 3) := by decide +kernel
theorem d_Md_isSign_24 : decode b_Md_isSign 24 = .ok (.iload_n 0, 1) := by decide +kernel
theorem d_Md_isSign_25 : decode b_Md_isSign 25 = .ok (.bipush 46, 2) := by decide +kernel
theorem d_Md_isSign_27 : decode b_Md_isSign 27 = .ok (.if_icmp .eq 9, 3) := by decide +kernel
theorem d_Md_isSign_30 : decode b_Md_isSign 30 = .ok (.iload_n 0, 1) := by decide +kernel
theorem d_Md_isSign_31 : decode b_Md_isSign 31 = .ok (.bipush 47, 2) := by decide +kernel
theorem d_Md_isSign_33 : decode b_Md_isSign 33 = .ok (.if_icmp .ne 7, 3) := by decide +kernel
theorem d_Md_isSign_36 : decode b_Md_isSign 36 = .ok (.iconst 1, 1) := by decide +kernel
theorem d_Md_isSign_37 : decode b_Md_isSign 37 = .ok (.goto 4, 3) := by decide +kernel
theorem d_Md_isSign_40 : decode b_Md_isSign 40 = .ok (.iconst 0, 1) := by decide +kernel
theorem d_Md_isSign_41 : decode b_Md_isSign 41 = .ok (.ireturn, 1) := by decide +kernel
theorem d_Md_isRight_0 : decode b_Md_isRight 0 = .ok (.iconst 0, 1) := by decide +kernel
theorem d_Md_isRight_1 : decode b_Md_isRight 1 = .ok (.istore_n 3, 1) := by decide +kernel
theorem d_Md_isRight_2 : decode b_Md_isRight 2 = .ok (.iconst 0, 1) := by decide +kernel
theorem d_Md_isRight_3 : decode b_Md_isRight 3 = .ok (.istore 4, 2) := by decide +kernel
theorem d_Md_isRight_5 : decode b_Md_isRight 5 = .ok (.iload_n 1, 1) := by decide +kernel
theorem d_Md_isRight_6 : decode b_Md_isRight 6 = .ok (.istore 5, 2) := by decide +kernel
theorem d_Md_isRight_8 : decode b_Md_isRight 8 = .ok (.iload 5, 2) := by decide +kernel
theorem d_Md_isRight_10 : decode b_Md_isRight 10 = .ok (.iload_n 2, 1) := by decide +kernel
theorem d_Md_isRight_11 : decode b_Md_isRight 11 = .ok (.if_icmp .gt 91, 3) := by decide +kernel
theorem d_Md_isRight_14 : decode b_Md_isRight 14 = .ok (.iload 5, 2) := by decide +kernel
theorem d_Md_isRight_16 : decode b_Md_isRight 16 = .ok (.iload_n 2, 1) := by decide +kernel
theorem d_Md_isRight_17 : decode b_Md_isRight 17 = .ok (.if_icmp .ge 13, 3) := by decide +kernel
