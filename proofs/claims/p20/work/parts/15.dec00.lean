theorem d_Md_init_0 : decode b_Md_init 0 = .ok (.aload_n 0, 1) := by decide +kernel
theorem d_Md_init_1 : decode b_Md_init 1 = .ok (.invokespecial 1, 3) := by decide +kernel
theorem d_Md_init_4 : decode b_Md_init 4 = .ok (.aload_n 0, 1) := by decide +kernel
theorem d_Md_init_5 : decode b_Md_init 5 = .ok (.bipush 8, 2) := by decide +kernel
theorem d_Md_init_7 : decode b_Md_init 7 = .ok (.newarray .boolean, 2) := by decide +kernel
theorem d_Md_init_9 : decode b_Md_init 9 = .ok (.putfield 7, 3) := by decide +kernel
theorem d_Md_init_12 : decode b_Md_init 12 = .ok (.aload_n 0, 1) := by decide +kernel
theorem d_Md_init_13 : decode b_Md_init 13 = .ok (.bipush 8, 2) := by decide +kernel
theorem d_Md_init_15 : decode b_Md_init 15 = .ok (.newarray .int, 2) := by decide +kernel
theorem d_Md_init_17 : decode b_Md_init 17 = .ok (.putfield 13, 3) := by decide +kernel
theorem d_Md_init_20 : decode b_Md_init 20 = .ok (.aload_n 0, 1) := by decide +kernel
theorem d_Md_init_21 : decode b_Md_init 21 = .ok (.bipush 16, 2) := by decide +kernel
theorem d_Md_init_23 : decode b_Md_init 23 = .ok (.newarray .int, 2) := by decide +kernel
theorem d_Md_init_25 : decode b_Md_init 25 = .ok (.putfield 17, 3) := by decide +kernel
theorem d_Md_init_28 : decode b_Md_init 28 = .ok (.aload_n 0, 1) := by decide +kernel
theorem d_Md_init_29 : decode b_Md_init 29 = .ok (.bipush 16, 2) := by decide +kernel
theorem d_Md_init_31 : decode b_Md_init 31 = .ok (.newarray .int, 2) := by decide +kernel
theorem d_Md_init_33 : decode b_Md_init 33 = .ok (.putfield 20, 3) := by decide +kernel
theorem d_Md_init_36 : decode b_Md_init 36 = .ok (.aload_n 0, 1) := by decide +kernel
theorem d_Md_init_37 : decode b_Md_init 37 = .ok (.bipush 16, 2) := by decide +kernel
theorem d_Md_init_39 : decode b_Md_init 39 = .ok (.newarray .int, 2) := by decide +kernel
theorem d_Md_init_41 : decode b_Md_init 41 = .ok (.putfield 23, 3) := by decide +kernel
theorem d_Md_init_44 : decode b_Md_init 44 = .ok (.aload_n 0, 1) := by decide +kernel
theorem d_Md_init_45 : decode b_Md_init 45 = .ok (.bipush 16, 2) := by decide +kernel
theorem d_Md_init_47 : decode b_Md_init 47 = .ok (.newarray .int, 2) := by decide +kernel
theorem d_Md_init_49 : decode b_Md_init 49 = .ok (.putfield 26, 3) := by decide +kernel
theorem d_Md_init_52 : decode b_Md_init 52 = .ok (.aload_n 0, 1) := by decide +kernel
theorem d_Md_init_53 : decode b_Md_init 53 = .ok (.bipush 16, 2) := by decide +kernel
theorem d_Md_init_55 : decode b_Md_init 55 = .ok (.newarray .int, 2) := by decide +kernel
theorem d_Md_init_57 : decode b_Md_init 57 = .ok (.putfield 29, 3) := by decide +kernel
theorem d_Md_init_60 : decode b_Md_init 60 = .ok (.aload_n 0, 1) := by decide +kernel
theorem d_Md_init_61 : decode b_Md_init 61 = .ok (.bipush 16, 2) := by decide +kernel
theorem d_Md_init_63 : decode b_Md_init 63 = .ok (.newarray .int, 2) := by decide +kernel
theorem d_Md_init_65 : decode b_Md_init 65 = .ok (.putfield 32, 3) := by decide +kernel
theorem d_Md_init_68 : decode b_Md_init 68 = .ok (.aload_n 0, 1) := by decide +kernel
theorem d_Md_init_69 : decode b_Md_init 69 = .ok (.sipush 1600, 3) := by decide +kernel
theorem d_Md_init_72 : decode b_Md_init 72 = .ok (.newarray .int, 2) := by decide +kernel
theorem d_Md_init_74 : decode b_Md_init 74 = .ok (.putfield 35, 3) := by decide +kernel
theorem d_Md_init_77 : decode b_Md_init 77 = .ok (.aload_n 0, 1) := by decide +kernel
theorem d_Md_init_78 : decode b_Md_init 78 = .ok (.bipush 16, 2) := by decide +kernel
theorem d_Md_init_80 : decode b_Md_init 80 = .ok (.newarray .boolean, 2) := by decide +kernel
theorem d_Md_init_82 : decode b_Md_init 82 = .ok (.putfield 38, 3) := by decide +kernel
theorem d_Md_init_85 : decode b_Md_init 85 = .ok (.aload_n 0, 1) := by decide +kernel
theorem d_Md_init_86 : decode b_Md_init 86 = .ok (.bipush 16, 2) := by decide +kernel
theorem d_Md_init_88 : decode b_Md_init 88 = .ok (.newarray .boolean, 2) := by decide +kernel
theorem d_Md_init_90 : decode b_Md_init 90 = .ok (.putfield 41, 3) := by decide +kernel
theorem d_Md_init_93 : decode b_Md_init 93 = .ok (.aload_n 0, 1) := by decide +kernel
theorem d_Md_init_94 : decode b_Md_init 94 = .ok (.bipush 16, 2) := by decide +kernel
theorem d_Md_init_96 : decode b_Md_init 96 = .ok (.newarray .boolean, 2) := by decide +kernel
theorem d_Md_init_98 : decode b_Md_init 98 = .ok (.putfield 44, 3) := by decide +kernel
theorem d_Md_init_101 : decode b_Md_init 101 = .ok (.aload_n 0, 1) := by decide +kernel
theorem d_Md_init_102 : decode b_Md_init 102 = .ok (.bipush 16, 2) := by decide +kernel
theorem d_Md_init_104 : decode b_Md_init 104 = .ok (.newarray .boolean, 2) := by decide +kernel
theorem d_Md_init_106 : decode b_Md_init 106 = .ok (.putfield 47, 3) := by decide +kernel
theorem d_Md_init_109 : decode b_Md_init 109 = .ok (.aload_n 0, 1) := by decide +kernel
theorem d_Md_init_110 : decode b_Md_init 110 = .ok (.bipush 10, 2) := by decide +kernel
theorem d_Md_init_112 : decode b_Md_init 112 = .ok (.newarray .int, 2) := by decide +kernel
theorem d_Md_init_114 : decode b_Md_init 114 = .ok (.putfield 50, 3) := by decide +kernel
theorem d_Md_init_117 : decode b_Md_init 117 = .ok (.aload_n 0, 1) := by decide +kernel
theorem d_Md_init_118 : decode b_Md_init 118 = .ok (.bipush 10, 2) := by decide +kernel
theorem d_Md_init_120 : decode b_Md_init 120 = .ok (.newarray .int, 2) := by decide +kernel
theorem d_Md_init_122 : decode b_Md_init 122 = .ok (.putfield 53, 3) := by decide +kernel
theorem d_Md_init_125 : decode b_Md_init 125 = .ok (.aload_n 0, 1) := by decide +kernel
theorem d_Md_init_126 : decode b_Md_init 126 = .ok (.bipush 60, 2) := by decide +kernel
theorem d_Md_init_128 : decode b_Md_init 128 = .ok (.newarray .int, 2) := by decide +kernel
theorem d_Md_init_130 : decode b_Md_init 130 = .ok (.putfield 56, 3) := by decide +kernel
theorem d_Md_init_133 : decode b_Md_init 133 = .ok (.aload_n 0, 1) := by decide +kernel
theorem d_Md_init_134 : decode b_Md_init 134 = .ok (.bipush 10, 2) := by decide +kernel
theorem d_Md_init_136 : decode b_Md_init 136 = .ok (.newarray .int, 2) := by decide +kernel
theorem d_Md_init_138 : decode b_Md_init 138 = .ok (.putfield 59, 3) := by decide +kernel
theorem d_Md_init_141 : decode b_Md_init 141 = .ok (.aload_n 0, 1) := by decide +kernel
theorem d_Md_init_142 : decode b_Md_init 142 = .ok (.bipush 10, 2) := by decide +kernel
theorem d_Md_init_144 : decode b_Md_init 144 = .ok (.newarray .int, 2) := by decide +kernel
theorem d_Md_init_146 : decode b_Md_init 146 = .ok (.putfield 62, 3) := by decide +kernel
theorem d_Md_init_149 : decode b_Md_init 149 = .ok (.aload_n 0, 1) := by decide +kernel
theorem d_Md_init_150 : decode b_Md_init 150 = .ok (.bipush 10, 2) := by decide +kernel
theorem d_Md_init_152 : decode b_Md_init 152 = .ok (.newarray .int, 2) := by decide +kernel
theorem d_Md_init_154 : decode b_Md_init 154 = .ok (.putfield 65, 3) := by decide +kernel
theorem d_Md_init_157 : decode b_Md_init 157 = .ok (.aload_n 0, 1) := by decide +kernel
theorem d_Md_init_158 : decode b_Md_init 158 = .ok (.sipush 1000, 3) := by decide +kernel
theorem d_Md_init_161 : decode b_Md_init 161 = .ok (.newarray .int, 2) := by decide +kernel
theorem d_Md_init_163 : decode b_Md_init 163 = .ok (.putfield 68, 3) := by decide +kernel
theorem d_Md_init_166 : decode b_Md_init 166 = .ok (.aload_n 0, 1) := by decide +kernel
theorem d_Md_init_167 : decode b_Md_init 167 = .ok (.bipush 10, 2) := by decide +kernel
theorem d_Md_init_169 : decode b_Md_init 169 = .ok (.newarray .int, 2) := by decide +kernel
theorem d_Md_init_171 : decode b_Md_init 171 = .ok (.putfield 71, 3) := by decide +kernel
theorem d_Md_init_174 : decode b_Md_init 174 = .ok (.aload_n 0, 1) := by decide +kernel
theorem d_Md_init_175 : decode b_Md_init 175 = .ok (.bipush 10, 2) := by decide +kernel
theorem d_Md_init_177 : decode b_Md_init 177 = .ok (.newarray .int, 2) := by decide +kernel
theorem d_Md_init_179 : decode b_Md_init 179 = .ok (.putfield 74, 3) := by decide +kernel
theorem d_Md_init_182 : decode b_Md_init 182 = .ok (.aload_n 0, 1) := by decide +kernel
theorem d_Md_init_183 : decode b_Md_init 183 = .ok (.bipush 10, 2) := by decide +kernel
theorem d_Md_init_185 : decode b_Md_init 185 = .ok (.newarray .int, 2) := by decide +kernel
theorem d_Md_init_187 : decode b_Md_init 187 = .ok (.putfield 77, 3) := by decide +kernel
theorem d_Md_init_190 : decode b_Md_init 190 = .ok (.aload_n 0, 1) := by decide +kernel
theorem d_Md_init_191 : decode b_Md_init 191 = .ok (.bipush 10, 2) := by decide +kernel
theorem d_Md_init_193 : decode b_Md_init 193 = .ok (.newarray .int, 2) := by decide +kernel
theorem d_Md_init_195 : decode b_Md_init 195 = .ok (.putfield 80, 3) := by decide +kernel
theorem d_Md_init_198 : decode b_Md_init 198 = .ok (.aload_n 0, 1) := by decide +kernel
theorem d_Md_init_199 : decode b_Md_init 199 = .ok (.bipush 10, 2) := by decide +kernel
theorem d_Md_init_201 : decode b_Md_init 201 = .ok (.newarray .int, 2) := by decide +kernel
theorem d_Md_init_203 : decode b_Md_init 203 = .ok (.putfield 83, 3) := by decide +kernel
theorem d_Md_init_206 : decode b_Md_init 206 = .ok (.aload_n 0, 1) := by decide +kernel
theorem d_Md_init_207 : decode b_Md_init 207 = .ok (.sipush 1000, 3) := by decide +kernel
theorem d_Md_init_210 : decode b_Md_init 210 = .ok (.newarray .int, 2) := by decide +kernel
theorem d_Md_init_212 : decode b_Md_init 212 = .ok (.putfield 86, 3) := by decide +kernel
theorem d_Md_init_215 : decode b_Md_init 215 = .ok (.aload_n 0, 1) := by decide +kernel
theorem d_Md_init_216 : decode b_Md_init 216 = .ok (.sipush 400, 3) := by decide +kernel
theorem d_Md_init_219 : decode b_Md_init 219 = .ok (.newarray .int, 2) := by decide +kernel
theorem d_Md_init_221 : decode b_Md_init 221 = .ok (.putfield 89, 3) := by decide +kernel
theorem d_Md_init_224 : decode b_Md_init 224 = .ok (.aload_n 0, 1) := by decide +kernel
theorem d_Md_init_225 : decode b_Md_init 225 = .ok (.sipush 400, 3) := by decide +kernel
theorem d_Md_init_228 : decode b_Md_init 228 = .ok (.newarray .int, 2) := by decide +kernel
theorem d_Md_init_230 : decode b_Md_init 230 = .ok (.putfield 92, 3) := by decide +kernel
theorem d_Md_init_233 : decode b_Md_init 233 = .ok (.aload_n 0, 1) := by decide +kernel
theorem d_Md_init_234 : decode b_Md_init 234 = .ok (.sipush 400, 3) := by decide +kernel
theorem d_Md_init_237 : decode b_Md_init 237 = .ok (.newarray .int, 2) := by decide +kernel
theorem d_Md_init_239 : decode b_Md_init 239 = .ok (.putfield 95, 3) := by decide +kernel
theorem d_Md_init_242 : decode b_Md_init 242 = .ok (.aload_n 0, 1) := by decide +kernel
theorem d_Md_init_243 : decode b_Md_init 243 = .ok (.bipush 10, 2) := by decide +kernel
theorem d_Md_init_245 : decode b_Md_init 245 = .ok (.newarray .int, 2) := by decide +kernel
theorem d_Md_init_247 : decode b_Md_init 247 = .ok (.putfield 98, 3) := by decide +kernel
theorem d_Md_init_250 : decode b_Md_init 250 = .ok (.aload_n 0, 1) := by decide +kernel
theorem d_Md_init_251 : decode b_Md_init 251 = .ok (.bipush 40, 2) := by decide +kernel
theorem d_Md_init_253 : decode b_Md_init 253 = .ok (.newarray .int, 2) := by decide +kernel
theorem d_Md_init_255 : decode b_Md_init 255 = .ok (.putfield 101, 3) := by decide +kernel
theorem d_Md_init_258 : decode b_Md_init 258 = .ok (.aload_n 0, 1) := by decide +kernel
theorem d_Md_init_259 : decode b_Md_init 259 = .ok (.bipush 40, 2) := by decide +kernel
theorem d_Md_init_261 : decode b_Md_init 261 = .ok (.newarray .int, 2) := by decide +kernel
theorem d_Md_init_263 : decode b_Md_init 263 = .ok (.putfield 104, 3) := by decide +kernel
theorem d_Md_init_266 : decode b_Md_init 266 = .ok (.aload_n 0, 1) := by decide +kernel
theorem d_Md_init_267 : decode b_Md_init 267 = .ok (.bipush 40, 2) := by decide +kernel
theorem d_Md_init_269 : decode b_Md_init 269 = .ok (.newarray .int, 2) := by decide +kernel
theorem d_Md_init_271 : decode b_Md_init 271 = .ok (.putfield 107, 3) := by decide +kernel
theorem d_Md_init_274 : decode b_Md_init 274 = .ok (.aload_n 0, 1) := by decide +kernel
theorem d_Md_init_275 : decode b_Md_init 275 = .ok (.bipush 40, 2) := by decide +kernel
theorem d_Md_init_277 : decode b_Md_init 277 = .ok (.newarray .int, 2) := by decide +kernel
theorem d_Md_init_279 : decode b_Md_init 279 = .ok (.putfield 110, 3) := by decide +kernel
theorem d_Md_init_282 : decode b_Md_init 282 = .ok (.aload_n 0, 1) := by decide +kernel
theorem d_Md_init_283 : decode b_Md_init 283 = .ok (.iload_n 1, 1) := by decide +kernel
theorem d_Md_init_284 : decode b_Md_init 284 = .ok (.ifCond .ge 7, 3) := by decide +kernel
theorem d_Md_init_287 : decode b_Md_init 287 = .ok (.iconst 0, 1) := by decide +kernel
theorem d_Md_init_288 : decode b_Md_init 288 = .ok (.goto 13, 3) := by decide +kernel
theorem d_Md_init_291 : decode b_Md_init 291 = .ok (.iload_n 1, 1) := by decide +kernel
theorem d_Md_init_292 : decode b_Md_init 292 = .ok (.iconst 5, 1) := by decide +kernel
theorem d_Md_init_293 : decode b_Md_init 293 = .ok (.if_icmp .le 7, 3) := by decide +kernel
theorem d_Md_init_296 : decode b_Md_init 296 = .ok (.iconst 5, 1) := by decide +kernel
theorem d_Md_init_297 : decode b_Md_init 297 = .ok (.goto 4, 3) := by decide +kernel
theorem d_Md_init_300 : decode b_Md_init 300 = .ok (.iload_n 1, 1) := by decide +kernel
theorem d_Md_init_301 : decode b_Md_init 301 = .ok (.putfield 113, 3) := by decide +kernel
theorem d_Md_init_304 : decode b_Md_init 304 = .ok (.return_, 1) := by decide +kernel
theorem d_Md_isPlace_0 : decode b_Md_isPlace 0 = .ok (.iload_n 1, 1) := by decide +kernel
theorem d_Md_isPlace_1 : decode b_Md_isPlace 1 = .ok (.ifCond .lt 15, 3) := by decide +kernel
theorem d_Md_isPlace_4 : decode b_Md_isPlace 4 = .ok (.iload_n 1, 1) := by decide +kernel
theorem d_Md_isPlace_5 : decode b_Md_isPlace 5 = .ok (.aload_n 0, 1) := by decide +kernel
theorem d_Md_isPlace_6 : decode b_Md_isPlace 6 = .ok (.getfield 120, 3) := by decide +kernel
theorem d_Md_isPlace_9 : decode b_Md_isPlace 9 = .ok (.if_icmp .ge 7, 3) := by decide +kernel
theorem d_Md_isPlace_12 : decode b_Md_isPlace 12 = .ok (.iconst 1, 1) := by decide +kernel
theorem d_Md_isPlace_13 : decode b_Md_isPlace 13 = .ok (.goto 4, 3) := by decide +kernel
theorem d_Md_isPlace_16 : decode b_Md_isPlace 16 = .ok (.iconst 0, 1) := by decide +kernel
theorem d_Md_isPlace_17 : decode b_Md_isPlace 17 = .ok (.ireturn, 1) := by decide +kernel
theorem d_Md_isWant_0 : decode b_Md_isWant 0 = .ok (.iload_n 1, 1) := by decide +kernel
theorem d_Md_isWant_1 : decode b_Md_isWant 1 = .ok (.ifCond .lt 15, 3) := by decide +kernel
theorem d_Md_isWant_4 : decode b_Md_isWant 4 = .ok (.iload_n 1, 1) := by decide +kernel
theorem d_Md_isWant_5 : decode b_Md_isWant 5 = .ok (.aload_n 0, 1) := by decide +kernel
theorem d_Md_isWant_6 : decode b_Md_isWant 6 = .ok (.getfield 123, 3) := by decide +kernel
theorem d_Md_isWant_9 : decode b_Md_isWant 9 = .ok (.if_icmp .ge 7, 3) := by decide +kernel
theorem d_Md_isWant_12 : decode b_Md_isWant 12 = .ok (.iconst 1, 1) := by decide +kernel
theorem d_Md_isWant_13 : decode b_Md_isWant 13 = .ok (.goto 4, 3) := by decide +kernel
theorem d_Md_isWant_16 : decode b_Md_isWant 16 = .ok (.iconst 0, 1) := by decide +kernel
theorem d_Md_isWant_17 : decode b_Md_isWant 17 = .ok (.ireturn, 1) := by decide +kernel
theorem d_Md_credential_0 : decode b_Md_credential 0 = .ok (.aload_n 0, 1) := by decide +kernel
theorem d_Md_credential_1 : decode b_Md_credential 1 = .ok (.iconst 0, 1) := by decide +kernel
theorem d_Md_credential_2 : decode b_Md_credential 2 = .ok (.putfield 117, 3) := by decide +kernel
theorem d_Md_credential_5 : decode b_Md_credential 5 = .ok (.iload_n 1, 1) := by decide +kernel
theorem d_Md_credential_6 : decode b_Md_credential 6 = .ok (.ifCond .lt 9, 3) := by decide +kernel
theorem d_Md_credential_9 : decode b_Md_credential 9 = .ok (.iload_n 1, 1) := by decide +kernel
theorem d_Md_credential_10 : decode b_Md_credential 10 = .ok (.bipush 8, 2) := by decide +kernel
theorem d_Md_credential_12 : decode b_Md_credential 12 = .ok (.if_icmp .lt 5, 3) := by decide +kernel
theorem d_Md_credential_15 : decode b_Md_credential 15 = .ok (.iconst 0, 1) := by decide +kernel
theorem d_Md_credential_16 : decode b_Md_credential 16 = .ok (.ireturn, 1) := by decide +kernel
theorem d_Md_credential_17 : decode b_Md_credential 17 = .ok (.aload_n 0, 1) := by decide +kernel
theorem d_Md_credential_18 : decode b_Md_credential 18 = .ok (.getfield 7, 3) := by decide +kernel
theorem d_Md_credential_21 : decode b_Md_credential 21 = .ok (.iload_n 1, 1) := by decide +kernel
theorem d_Md_credential_22 : decode b_Md_credential 22 = .ok (.iload_n 2, 1) := by decide +kernel
theorem d_Md_credential_23 : decode b_Md_credential 23 = .ok (.bastore, 1) := by decide +kernel
theorem d_Md_credential_24 : decode b_Md_credential 24 = .ok (.iconst 1, 1) := by decide +kernel
theorem d_Md_credential_25 : decode b_Md_credential 25 = .ok (.ireturn, 1) := by decide +kernel
theorem d_Md_place_0 : decode b_Md_place 0 = .ok (.aload_n 0, 1) := by decide +kernel
theorem d_Md_place_1 : decode b_Md_place 1 = .ok (.iconst 0, 1) := by decide +kernel
theorem d_Md_place_2 : decode b_Md_place 2 = .ok (.putfield 117, 3) := by decide +kernel
theorem d_Md_place_5 : decode b_Md_place 5 = .ok (.aload_n 0, 1) := by decide +kernel
theorem d_Md_place_6 : decode b_Md_place 6 = .ok (.getfield 120, 3) := by decide +kernel
theorem d_Md_place_9 : decode b_Md_place 9 = .ok (.bipush 16, 2) := by decide +kernel
theorem d_Md_place_11 : decode b_Md_place 11 = .ok (.if_icmp .eq 24, 3) := by decide +kernel
theorem d_Md_place_14 : decode b_Md_place 14 = .ok (.iload_n 1, 1) := by decide +kernel
theorem d_Md_place_15 : decode b_Md_place 15 = .ok (.ifCond .lt 20, 3) := by decide +kernel
theorem d_Md_place_18 : decode b_Md_place 18 = .ok (.iload_n 1, 1) := by decide +kernel
theorem d_Md_place_19 : decode b_Md_place 19 = .ok (.bipush 8, 2) := by decide +kernel
theorem d_Md_place_21 : decode b_Md_place 21 = .ok (.if_icmp .ge 14, 3) := by decide +kernel
theorem d_Md_place_24 : decode b_Md_place 24 = .ok (.iload_n 2, 1) := by decide +kernel
theorem d_Md_place_25 : decode b_Md_place 25 = .ok (.iconst 1, 1) := by decide +kernel
theorem d_Md_place_26 : decode b_Md_place 26 = .ok (.if_icmp .lt 9, 3) := by decide +kernel
theorem d_Md_place_29 : decode b_Md_place 29 = .ok (.iload_n 2, 1) := by decide +kernel
theorem d_Md_place_30 : decode b_Md_place 30 = .ok (.bipush 50, 2) := by decide +kernel
theorem d_Md_place_32 : decode b_Md_place 32 = .ok (.if_icmp .le 5, 3) := by decide +kernel
theorem d_Md_place_35 : decode b_Md_place 35 = .ok (.iconst (-1), 1) := by decide +kernel
theorem d_Md_place_36 : decode b_Md_place 36 = .ok (.ireturn, 1) := by decide +kernel
theorem d_Md_place_37 : decode b_Md_place 37 = .ok (.aload_n 0, 1) := by decide +kernel
theorem d_Md_place_38 : decode b_Md_place 38 = .ok (.getfield 17, 3) := by decide +kernel
theorem d_Md_place_41 : decode b_Md_place 41 = .ok (.aload_n 0, 1) := by decide +kernel
theorem d_Md_place_42 : decode b_Md_place 42 = .ok (.getfield 120, 3) := by decide +kernel
theorem d_Md_place_45 : decode b_Md_place 45 = .ok (.iload_n 1, 1) := by decide +kernel
theorem d_Md_place_46 : decode b_Md_place 46 = .ok (.iastore, 1) := by decide +kernel
theorem d_Md_place_47 : decode b_Md_place 47 = .ok (.aload_n 0, 1) := by decide +kernel
theorem d_Md_place_48 : decode b_Md_place 48 = .ok (.getfield 20, 3) := by decide +kernel
theorem d_Md_place_51 : decode b_Md_place 51 = .ok (.aload_n 0, 1) := by decide +kernel
theorem d_Md_place_52 : decode b_Md_place 52 = .ok (.getfield 120, 3) := by decide +kernel
theorem d_Md_place_55 : decode b_Md_place 55 = .ok (.iload_n 2, 1) := by decide +kernel
theorem d_Md_place_56 : decode b_Md_place 56 = .ok (.iastore, 1) := by decide +kernel
theorem d_Md_place_57 : decode b_Md_place 57 = .ok (.aload_n 0, 1) := by decide +kernel
theorem d_Md_place_58 : decode b_Md_place 58 = .ok (.getfield 26, 3) := by decide +kernel
theorem d_Md_place_61 : decode b_Md_place 61 = .ok (.aload_n 0, 1) := by decide +kernel
theorem d_Md_place_62 : decode b_Md_place 62 = .ok (.getfield 120, 3) := by decide +kernel
theorem d_Md_place_65 : decode b_Md_place 65 = .ok (.iconst (-1), 1) := by decide +kernel
theorem d_Md_place_66 : decode b_Md_place 66 = .ok (.iastore, 1) := by decide +kernel
theorem d_Md_place_67 : decode b_Md_place 67 = .ok (.aload_n 0, 1) := by decide +kernel
theorem d_Md_place_68 : decode b_Md_place 68 = .ok (.dup, 1) := by decide +kernel
theorem d_Md_place_69 : decode b_Md_place 69 = .ok (.getfield 120, 3) := by decide +kernel
theorem d_Md_place_72 : decode b_Md_place 72 = .ok (.iconst 1, 1) := by decide +kernel
theorem d_Md_place_73 : decode b_Md_place 73 = .ok (.iadd, 1) := by decide +kernel
theorem d_Md_place_74 : decode b_Md_place 74 = .ok (.putfield 120, 3) := by decide +kernel
theorem d_Md_place_77 : decode b_Md_place 77 = .ok (.aload_n 0, 1) := by decide +kernel
theorem d_Md_place_78 : decode b_Md_place 78 = .ok (.getfield 120, 3) := by decide +kernel
theorem d_Md_place_81 : decode b_Md_place 81 = .ok (.iconst 1, 1) := by decide +kernel
theorem d_Md_place_82 : decode b_Md_place 82 = .ok (.isub, 1) := by decide +kernel
theorem d_Md_place_83 : decode b_Md_place 83 = .ok (.ireturn, 1) := by decide +kernel
theorem d_Md_content_0 : decode b_Md_content 0 = .ok (.aload_n 0, 1) := by decide +kernel
theorem d_Md_content_1 : decode b_Md_content 1 = .ok (.iconst 0, 1) := by decide +kernel
theorem d_Md_content_2 : decode b_Md_content 2 = .ok (.putfield 117, 3) := by decide +kernel
theorem d_Md_content_5 : decode b_Md_content 5 = .ok (.aload_n 0, 1) := by decide +kernel
theorem d_Md_content_6 : decode b_Md_content 6 = .ok (.iload_n 1, 1) := by decide +kernel
theorem d_Md_content_7 : decode b_Md_content 7 = .ok (.invokevirtual 126, 3) := by decide +kernel
theorem d_Md_content_10 : decode b_Md_content 10 = .ok (.ifCond .eq 30, 3) := by decide +kernel
theorem d_Md_content_13 : decode b_Md_content 13 = .ok (.iload 4, 2) := by decide +kernel
theorem d_Md_content_15 : decode b_Md_content 15 = .ok (.iconst 1, 1) := by decide +kernel
theorem d_Md_content_16 : decode b_Md_content 16 = .ok (.if_icmp .lt 24, 3) := by decide +kernel
theorem d_Md_content_19 : decode b_Md_content 19 = .ok (.iload 4, 2) := by decide +kernel
theorem d_Md_content_21 : decode b_Md_content 21 = .ok (.bipush 8, 2) := by decide +kernel
theorem d_Md_content_23 : decode b_Md_content 23 = .ok (.if_icmp .gt 17, 3) := by decide +kernel
theorem d_Md_content_26 : decode b_Md_content 26 = .ok (.aload_n 0, 1) := by decide +kernel
theorem d_Md_content_27 : decode b_Md_content 27 = .ok (.getfield 23, 3) := by decide +kernel
theorem d_Md_content_30 : decode b_Md_content 30 = .ok (.iload_n 1, 1) := by decide +kernel
theorem d_Md_content_31 : decode b_Md_content 31 = .ok (.iaload, 1) := by decide +kernel
theorem d_Md_content_32 : decode b_Md_content 32 = .ok (.iload 4, 2) := by decide +kernel
theorem d_Md_content_34 : decode b_Md_content 34 = .ok (.iadd, 1) := by decide +kernel
theorem d_Md_content_35 : decode b_Md_content 35 = .ok (.bipush 100, 2) := by decide +kernel
theorem d_Md_content_37 : decode b_Md_content 37 = .ok (.if_icmp .le 5, 3) := by decide +kernel
theorem d_Md_content_40 : decode b_Md_content 40 = .ok (.iconst 0, 1) := by decide +kernel
theorem d_Md_content_41 : decode b_Md_content 41 = .ok (.ireturn, 1) := by decide +kernel
theorem d_Md_content_42 : decode b_Md_content 42 = .ok (.iload 4, 2) := by decide +kernel
theorem d_Md_content_44 : decode b_Md_content 44 = .ok (.iconst 1, 1) := by decide +kernel
theorem d_Md_content_45 : decode b_Md_content 45 = .ok (.isub, 1) := by decide +kernel
theorem d_Md_content_46 : decode b_Md_content 46 = .ok (.istore 5, 2) := by decide +kernel
theorem d_Md_content_48 : decode b_Md_content 48 = .ok (.iload 5, 2) := by decide +kernel
theorem d_Md_content_50 : decode b_Md_content 50 = .ok (.ifCond .lt 47, 3) := by decide +kernel
theorem d_Md_content_53 : decode b_Md_content 53 = .ok (.aload_n 0, 1) := by decide +kernel
theorem d_Md_content_54 : decode b_Md_content 54 = .ok (.getfield 35, 3) := by decide +kernel
theorem d_Md_content_57 : decode b_Md_content 57 = .ok (.bipush 100, 2) := by decide +kernel
theorem d_Md_content_59 : decode b_Md_content 59 = .ok (.iload_n 1, 1) := by decide +kernel
theorem d_Md_content_60 : decode b_Md_content 60 = .ok (.imul, 1) := by decide +kernel
theorem d_Md_content_61 : decode b_Md_content 61 = .ok (.aload_n 0, 1) := by decide +kernel
theorem d_Md_content_62 : decode b_Md_content 62 = .ok (.getfield 23, 3) := by decide +kernel
theorem d_Md_content_65 : decode b_Md_content 65 = .ok (.iload_n 1, 1) := by decide +kernel
theorem d_Md_content_66 : decode b_Md_content 66 = .ok (.iaload, 1) := by decide +kernel
theorem d_Md_content_67 : decode b_Md_content 67 = .ok (.iadd, 1) := by decide +kernel
theorem d_Md_content_68 : decode b_Md_content 68 = .ok (.lload_n 2, 1) := by decide +kernel
theorem d_Md_content_69 : decode b_Md_content 69 = .ok (.bipush 8, 2) := by decide +kernel
theorem d_Md_content_71 : decode b_Md_content 71 = .ok (.iload 5, 2) := by decide +kernel
theorem d_Md_content_73 : decode b_Md_content 73 = .ok (.imul, 1) := by decide +kernel
theorem d_Md_content_74 : decode b_Md_content 74 = .ok (.lshr, 1) := by decide +kernel
theorem d_Md_content_75 : decode b_Md_content 75 = .ok (.ldc2_w 130, 3) := by decide +kernel
theorem d_Md_content_78 : decode b_Md_content 78 = .ok (.land, 1) := by decide +kernel
theorem d_Md_content_79 : decode b_Md_content 79 = .ok (.l2i, 1) := by decide +kernel
theorem d_Md_content_80 : decode b_Md_content 80 = .ok (.iastore, 1) := by decide +kernel
theorem d_Md_content_81 : decode b_Md_content 81 = .ok (.aload_n 0, 1) := by decide +kernel
theorem d_Md_content_82 : decode b_Md_content 82 = .ok (.getfield 23, 3) := by decide +kernel
theorem d_Md_content_85 : decode b_Md_content 85 = .ok (.iload_n 1, 1) := by decide +kernel
theorem d_Md_content_86 : decode b_Md_content 86 = .ok (.dup2, 1) := by decide +kernel
theorem d_Md_content_87 : decode b_Md_content 87 = .ok (.iaload, 1) := by decide +kernel
theorem d_Md_content_88 : decode b_Md_content 88 = .ok (.iconst 1, 1) := by decide +kernel
theorem d_Md_content_89 : decode b_Md_content 89 = .ok (.iadd, 1) := by decide +kernel
theorem d_Md_content_90 : decode b_Md_content 90 = .ok (.iastore, 1) := by decide +kernel
theorem d_Md_content_91 : decode b_Md_content 91 = .ok (.iinc 5 (-1), 3) := by decide +kernel
theorem d_Md_content_94 : decode b_Md_content 94 = .ok (.goto (-46), 3) := by decide +kernel
theorem d_Md_content_97 : decode b_Md_content 97 = .ok (.iconst 1, 1) := by decide +kernel
theorem d_Md_content_98 : decode b_Md_content 98 = .ok (.ireturn, 1) := by decide +kernel
theorem d_Md_does_0 : decode b_Md_does 0 = .ok (.aload_n 0, 1) := by decide +kernel
theorem d_Md_does_1 : decode b_Md_does 1 = .ok (.iconst 0, 1) := by decide +kernel
theorem d_Md_does_2 : decode b_Md_does 2 = .ok (.putfield 117, 3) := by decide +kernel
theorem d_Md_does_5 : decode b_Md_does 5 = .ok (.aload_n 0, 1) := by decide +kernel
theorem d_Md_does_6 : decode b_Md_does 6 = .ok (.iload_n 1, 1) := by decide +kernel
theorem d_Md_does_7 : decode b_Md_does 7 = .ok (.invokevirtual 126, 3) := by decide +kernel
theorem d_Md_does_10 : decode b_Md_does 10 = .ok (.ifCond .eq 30, 3) := by decide +kernel
theorem d_Md_does_13 : decode b_Md_does 13 = .ok (.iload_n 2, 1) := by decide +kernel
theorem d_Md_does_14 : decode b_Md_does 14 = .ok (.ifCond .lt 26, 3) := by decide +kernel
theorem d_Md_does_17 : decode b_Md_does 17 = .ok (.iload_n 2, 1) := by decide +kernel
theorem d_Md_does_18 : decode b_Md_does 18 = .ok (.iconst 3, 1) := by decide +kernel
theorem d_Md_does_19 : decode b_Md_does 19 = .ok (.if_icmp .gt 21, 3) := by decide +kernel
theorem d_Md_does_22 : decode b_Md_does 22 = .ok (.iload_n 2, 1) := by decide +kernel
theorem d_Md_does_23 : decode b_Md_does 23 = .ok (.iconst 1, 1) := by decide +kernel
theorem d_Md_does_24 : decode b_Md_does 24 = .ok (.if_icmp .ne 18, 3) := by decide +kernel
theorem d_Md_does_27 : decode b_Md_does 27 = .ok (.iload_n 3, 1) := by decide +kernel
theorem d_Md_does_28 : decode b_Md_does 28 = .ok (.iconst (-1), 1) := by decide +kernel
theorem d_Md_does_29 : decode b_Md_does 29 = .ok (.if_icmp .eq 13, 3) := by decide +kernel
theorem d_Md_does_32 : decode b_Md_does 32 = .ok (.aload_n 0, 1) := by decide +kernel
theorem d_Md_does_33 : decode b_Md_does 33 = .ok (.iload_n 3, 1) := by decide +kernel
theorem d_Md_does_34 : decode b_Md_does 34 = .ok (.invokevirtual 126, 3) := by decide +kernel
theorem d_Md_does_37 : decode b_Md_does 37 = .ok (.ifCond .ne 5, 3) := by decide +kernel
theorem d_Md_does_40 : decode b_Md_does 40 = .ok (.iconst 0, 1) := by decide +kernel
theorem d_Md_does_41 : decode b_Md_does 41 = .ok (.ireturn, 1) := by decide +kernel
theorem d_Md_does_42 : decode b_Md_does 42 = .ok (.iload_n 2, 1) := by decide +kernel
theorem d_Md_does_43 : decode b_Md_does 43 = .ok (.ifCond .ne 18, 3) := by decide +kernel
theorem d_Md_does_46 : decode b_Md_does 46 = .ok (.aload_n 0, 1) := by decide +kernel
theorem d_Md_does_47 : decode b_Md_does 47 = .ok (.getfield 38, 3) := by decide +kernel
theorem d_Md_does_50 : decode b_Md_does 50 = .ok (.iload_n 1, 1) := by decide +kernel
theorem d_Md_does_51 : decode b_Md_does 51 = .ok (.iload_n 3, 1) := by decide +kernel
theorem d_Md_does_52 : decode b_Md_does 52 = .ok (.ifCond .eq 7, 3) := by decide +kernel
theorem d_Md_does_55 : decode b_Md_does 55 = .ok (.iconst 1, 1) := by decide +kernel
theorem d_Md_does_56 : decode b_Md_does 56 = .ok (.goto 4, 3) := by decide +kernel
theorem d_Md_does_59 : decode b_Md_does 59 = .ok (.iconst 0, 1) := by decide +kernel
theorem d_Md_does_60 : decode b_Md_does 60 = .ok (.bastore, 1) := by decide +kernel
theorem d_Md_does_61 : decode b_Md_does 61 = .ok (.iload_n 2, 1) := by decide +kernel
theorem d_Md_does_62 : decode b_Md_does 62 = .ok (.iconst 1, 1) := by decide +kernel
theorem d_Md_does_63 : decode b_Md_does 63 = .ok (.if_icmp .ne 10, 3) := by decide +kernel
theorem d_Md_does_66 : decode b_Md_does 66 = .ok (.aload_n 0, 1) := by decide +kernel
theorem d_Md_does_67 : decode b_Md_does 67 = .ok (.getfield 26, 3) := by decide +kernel
theorem d_Md_does_70 : decode b_Md_does 70 = .ok (.iload_n 1, 1) := by decide +kernel
theorem d_Md_does_71 : decode b_Md_does 71 = .ok (.iload_n 3, 1) := by decide +kernel
theorem d_Md_does_72 : decode b_Md_does 72 = .ok (.iastore, 1) := by decide +kernel
theorem d_Md_does_73 : decode b_Md_does 73 = .ok (.iload_n 2, 1) := by decide +kernel
theorem d_Md_does_74 : decode b_Md_does 74 = .ok (.iconst 2, 1) := by decide +kernel
theorem d_Md_does_75 : decode b_Md_does 75 = .ok (.if_icmp .ne 18, 3) := by decide +kernel
theorem d_Md_does_78 : decode b_Md_does 78 = .ok (.aload_n 0, 1) := by decide +kernel
theorem d_Md_does_79 : decode b_Md_does 79 = .ok (.getfield 41, 3) := by decide +kernel
theorem d_Md_does_82 : decode b_Md_does 82 = .ok (.iload_n 1, 1) := by decide +kernel
theorem d_Md_does_83 : decode b_Md_does 83 = .ok (.iload_n 3, 1) := by decide +kernel
theorem d_Md_does_84 : decode b_Md_does 84 = .ok (.ifCond .eq 7, 3) := by decide +kernel
theorem d_Md_does_87 : decode b_Md_does 87 = .ok (.iconst 1, 1) := by decide +kernel
theorem d_Md_does_88 : decode b_Md_does 88 = .ok (.goto 4, 3) := by decide +kernel
theorem d_Md_does_91 : decode b_Md_does 91 = .ok (.iconst 0, 1) := by decide +kernel
theorem d_Md_does_92 : decode b_Md_does 92 = .ok (.bastore, 1) := by decide +kernel
theorem d_Md_does_93 : decode b_Md_does 93 = .ok (.iload_n 2, 1) := by decide +kernel
theorem d_Md_does_94 : decode b_Md_does 94 = .ok (.iconst 3, 1) := by decide +kernel
theorem d_Md_does_95 : decode b_Md_does 95 = .ok (.if_icmp .ne 18, 3) := by decide +kernel
theorem d_Md_does_98 : decode b_Md_does 98 = .ok (.aload_n 0, 1) := by decide +kernel
theorem d_Md_does_99 : decode b_Md_does 99 = .ok (.getfield 44, 3) := by decide +kernel
theorem d_Md_does_102 : decode b_Md_does 102 = .ok (.iload_n 1, 1) := by decide +kernel
theorem d_Md_does_103 : decode b_Md_does 103 = .ok (.iload_n 3, 1) := by decide +kernel
theorem d_Md_does_104 : decode b_Md_does 104 = .ok (.ifCond .eq 7, 3) := by decide +kernel
theorem d_Md_does_107 : decode b_Md_does 107 = .ok (.iconst 1, 1) := by decide +kernel
theorem d_Md_does_108 : decode b_Md_does 108 = .ok (.goto 4, 3) := by decide +kernel
theorem d_Md_does_111 : decode b_Md_does 111 = .ok (.iconst 0, 1) := by decide +kernel
theorem d_Md_does_112 : decode b_Md_does 112 = .ok (.bastore, 1) := by decide +kernel
theorem d_Md_does_113 : decode b_Md_does 113 = .ok (.iconst 1, 1) := by decide +kernel
theorem d_Md_does_114 : decode b_Md_does 114 = .ok (.ireturn, 1) := by decide +kernel
theorem d_Md_cut_0 : decode b_Md_cut 0 = .ok (.aload_n 0, 1) := by decide +kernel
theorem d_Md_cut_1 : decode b_Md_cut 1 = .ok (.iconst 0, 1) := by decide +kernel
theorem d_Md_cut_2 : decode b_Md_cut 2 = .ok (.putfield 117, 3) := by decide +kernel
theorem d_Md_cut_5 : decode b_Md_cut 5 = .ok (.aload_n 0, 1) := by decide +kernel
theorem d_Md_cut_6 : decode b_Md_cut 6 = .ok (.iload_n 1, 1) := by decide +kernel
theorem d_Md_cut_7 : decode b_Md_cut 7 = .ok (.invokevirtual 126, 3) := by decide +kernel
theorem d_Md_cut_10 : decode b_Md_cut 10 = .ok (.ifCond .eq 23, 3) := by decide +kernel
theorem d_Md_cut_13 : decode b_Md_cut 13 = .ok (.iload_n 2, 1) := by decide +kernel
theorem d_Md_cut_14 : decode b_Md_cut 14 = .ok (.ifCond .lt 19, 3) := by decide +kernel
theorem d_Md_cut_17 : decode b_Md_cut 17 = .ok (.iload_n 2, 1) := by decide +kernel
theorem d_Md_cut_18 : decode b_Md_cut 18 = .ok (.bipush 9, 2) := by decide +kernel
theorem d_Md_cut_20 : decode b_Md_cut 20 = .ok (.if_icmp .gt 13, 3) := by decide +kernel
theorem d_Md_cut_23 : decode b_Md_cut 23 = .ok (.iload_n 3, 1) := by decide +kernel
theorem d_Md_cut_24 : decode b_Md_cut 24 = .ok (.ifCond .lt 9, 3) := by decide +kernel
theorem d_Md_cut_27 : decode b_Md_cut 27 = .ok (.iload_n 3, 1) := by decide +kernel
theorem d_Md_cut_28 : decode b_Md_cut 28 = .ok (.bipush 100, 2) := by decide +kernel
theorem d_Md_cut_30 : decode b_Md_cut 30 = .ok (.if_icmp .le 5, 3) := by decide +kernel
theorem d_Md_cut_33 : decode b_Md_cut 33 = .ok (.iconst 0, 1) := by decide +kernel
theorem d_Md_cut_34 : decode b_Md_cut 34 = .ok (.ireturn, 1) := by decide +kernel
theorem d_Md_cut_35 : decode b_Md_cut 35 = .ok (.aload_n 0, 1) := by decide +kernel
theorem d_Md_cut_36 : decode b_Md_cut 36 = .ok (.getfield 29, 3) := by decide +kernel
theorem d_Md_cut_39 : decode b_Md_cut 39 = .ok (.iload_n 1, 1) := by decide +kernel
theorem d_Md_cut_40 : decode b_Md_cut 40 = .ok (.iload_n 2, 1) := by decide +kernel
theorem d_Md_cut_41 : decode b_Md_cut 41 = .ok (.iastore, 1) := by decide +kernel
theorem d_Md_cut_42 : decode b_Md_cut 42 = .ok (.aload_n 0, 1) := by decide +kernel
theorem d_Md_cut_43 : decode b_Md_cut 43 = .ok (.getfield 32, 3) := by decide +kernel
theorem d_Md_cut_46 : decode b_Md_cut 46 = .ok (.iload_n 1, 1) := by decide +kernel
theorem d_Md_cut_47 : decode b_Md_cut 47 = .ok (.iload_n 3, 1) := by decide +kernel
theorem d_Md_cut_48 : decode b_Md_cut 48 = .ok (.iastore, 1) := by decide +kernel
theorem d_Md_cut_49 : decode b_Md_cut 49 = .ok (.iconst 1, 1) := by decide +kernel
theorem d_Md_cut_50 : decode b_Md_cut 50 = .ok (.ireturn, 1) := by decide +kernel
theorem d_Md_next_0 : decode b_Md_next 0 = .ok (.iload_n 0, 1) := by decide +kernel
theorem d_Md_next_1 : decode b_Md_next 1 = .ok (.iload_n 1, 1) := by decide +kernel
theorem d_Md_next_2 : decode b_Md_next 2 = .ok (.ixor, 1) := by decide +kernel
theorem d_Md_next_3 : decode b_Md_next 3 = .ok (.istore_n 2, 1) := by decide +kernel
theorem d_Md_next_4 : decode b_Md_next 4 = .ok (.iload_n 2, 1) := by decide +kernel
theorem d_Md_next_5 : decode b_Md_next 5 = .ok (.iconst 5, 1) := by decide +kernel
theorem d_Md_next_6 : decode b_Md_next 6 = .ok (.ishl, 1) := by decide +kernel
theorem d_Md_next_7 : decode b_Md_next 7 = .ok (.iload_n 2, 1) := by decide +kernel
theorem d_Md_next_8 : decode b_Md_next 8 = .ok (.bipush 27, 2) := by decide +kernel
theorem d_Md_next_10 : decode b_Md_next 10 = .ok (.iushr, 1) := by decide +kernel
theorem d_Md_next_11 : decode b_Md_next 11 = .ok (.ior, 1) := by decide +kernel
theorem d_Md_next_12 : decode b_Md_next 12 = .ok (.ldc 132, 2) := by decide +kernel
theorem d_Md_next_14 : decode b_Md_next 14 = .ok (.imul, 1) := by decide +kernel
theorem d_Md_next_15 : decode b_Md_next 15 = .ok (.ireturn, 1) := by decide +kernel
theorem d_Md_digest_0 : decode b_Md_digest 0 = .ok (.aload_n 0, 1) := by decide +kernel
theorem d_Md_digest_1 : decode b_Md_digest 1 = .ok (.iconst 0, 1) := by decide +kernel
theorem d_Md_digest_2 : decode b_Md_digest 2 = .ok (.putfield 117, 3) := by decide +kernel
theorem d_Md_digest_5 : decode b_Md_digest 5 = .ok (.iconst 0, 1) := by decide +kernel
theorem d_Md_digest_6 : decode b_Md_digest 6 = .ok (.istore_n 2, 1) := by decide +kernel
theorem d_Md_digest_7 : decode b_Md_digest 7 = .ok (.iconst 0, 1) := by decide +kernel
theorem d_Md_digest_8 : decode b_Md_digest 8 = .ok (.istore_n 3, 1) := by decide +kernel
theorem d_Md_digest_9 : decode b_Md_digest 9 = .ok (.aload_n 0, 1) := by decide +kernel
theorem d_Md_digest_10 : decode b_Md_digest 10 = .ok (.iload_n 1, 1) := by decide +kernel
theorem d_Md_digest_11 : decode b_Md_digest 11 = .ok (.invokevirtual 126, 3) := by decide +kernel
theorem d_Md_digest_14 : decode b_Md_digest 14 = .ok (.ifCond .eq 35, 3) := by decide +kernel
theorem d_Md_digest_17 : decode b_Md_digest 17 = .ok (.iload_n 3, 1) := by decide +kernel
theorem d_Md_digest_18 : decode b_Md_digest 18 = .ok (.aload_n 0, 1) := by decide +kernel
theorem d_Md_digest_19 : decode b_Md_digest 19 = .ok (.getfield 23, 3) := by decide +kernel
theorem d_Md_digest_22 : decode b_Md_digest 22 = .ok (.iload_n 1, 1) := by decide +kernel
theorem d_Md_digest_23 : decode b_Md_digest 23 = .ok (.iaload, 1) := by decide +kernel
theorem d_Md_digest_24 : decode b_Md_digest 24 = .ok (.if_icmp .ge 25, 3) := by decide +kernel
theorem d_Md_digest_27 : decode b_Md_digest 27 = .ok (.iload_n 2, 1) := by decide +kernel
theorem d_Md_digest_28 : decode b_Md_digest 28 = .ok (.aload_n 0, 1) := by decide +kernel
theorem d_Md_digest_29 : decode b_Md_digest 29 = .ok (.getfield 35, 3) := by decide +kernel
theorem d_Md_digest_32 : decode b_Md_digest 32 = .ok (.bipush 100, 2) := by decide +kernel
theorem d_Md_digest_34 : decode b_Md_digest 34 = .ok (.iload_n 1, 1) := by decide +kernel
theorem d_Md_digest_35 : decode b_Md_digest 35 = .ok (.imul, 1) := by decide +kernel
theorem d_Md_digest_36 : decode b_Md_digest 36 = .ok (.iload_n 3, 1) := by decide +kernel
theorem d_Md_digest_37 : decode b_Md_digest 37 = .ok (.iadd, 1) := by decide +kernel
theorem d_Md_digest_38 : decode b_Md_digest 38 = .ok (.iaload, 1) := by decide +kernel
theorem d_Md_digest_39 : decode b_Md_digest 39 = .ok (.invokestatic 133, 3) := by decide +kernel
theorem d_Md_digest_42 : decode b_Md_digest 42 = .ok (.istore_n 2, 1) := by decide +kernel
theorem d_Md_digest_43 : decode b_Md_digest 43 = .ok (.iinc 3 1, 3) := by decide +kernel
theorem d_Md_digest_46 : decode b_Md_digest 46 = .ok (.goto (-37), 3) := by decide +kernel
theorem d_Md_digest_49 : decode b_Md_digest 49 = .ok (.iload_n 2, 1) := by decide +kernel
theorem d_Md_digest_50 : decode b_Md_digest 50 = .ok (.ireturn, 1) := by decide +kernel
theorem d_Md_want_0 : decode b_Md_want 0 = .ok (.aload_n 0, 1) := by decide +kernel
theorem d_Md_want_1 : decode b_Md_want 1 = .ok (.iconst 0, 1) := by decide +kernel
theorem d_Md_want_2 : decode b_Md_want 2 = .ok (.putfield 117, 3) := by decide +kernel
theorem d_Md_want_5 : decode b_Md_want 5 = .ok (.aload_n 0, 1) := by decide +kernel
theorem d_Md_want_6 : decode b_Md_want 6 = .ok (.getfield 123, 3) := by decide +kernel
theorem d_Md_want_9 : decode b_Md_want 9 = .ok (.bipush 10, 2) := by decide +kernel
theorem d_Md_want_11 : decode b_Md_want 11 = .ok (.if_icmp .ne 5, 3) := by decide +kernel
theorem d_Md_want_14 : decode b_Md_want 14 = .ok (.iconst (-1), 1) := by decide +kernel
theorem d_Md_want_15 : decode b_Md_want 15 = .ok (.ireturn, 1) := by decide +kernel
theorem d_Md_want_16 : decode b_Md_want 16 = .ok (.aload_n 0, 1) := by decide +kernel
theorem d_Md_want_17 : decode b_Md_want 17 = .ok (.getfield 50, 3) := by decide +kernel
theorem d_Md_want_20 : decode b_Md_want 20 = .ok (.aload_n 0, 1) := by decide +kernel
theorem d_Md_want_21 : decode b_Md_want 21 = .ok (.getfield 123, 3) := by decide +kernel
theorem d_Md_want_24 : decode b_Md_want 24 = .ok (.iload_n 1, 1) := by decide +kernel
theorem d_Md_want_25 : decode b_Md_want 25 = .ok (.iastore, 1) := by decide +kernel
theorem d_Md_want_26 : decode b_Md_want 26 = .ok (.aload_n 0, 1) := by decide +kernel
theorem d_Md_want_27 : decode b_Md_want 27 = .ok (.dup, 1) := by decide +kernel
theorem d_Md_want_28 : decode b_Md_want 28 = .ok (.getfield 123, 3) := by decide +kernel
theorem d_Md_want_31 : decode b_Md_want 31 = .ok (.iconst 1, 1) := by decide +kernel
theorem d_Md_want_32 : decode b_Md_want 32 = .ok (.iadd, 1) := by decide +kernel
theorem d_Md_want_33 : decode b_Md_want 33 = .ok (.putfield 123, 3) := by decide +kernel
theorem d_Md_want_36 : decode b_Md_want 36 = .ok (.aload_n 0, 1) := by decide +kernel
theorem d_Md_want_37 : decode b_Md_want 37 = .ok (.getfield 123, 3) := by decide +kernel
theorem d_Md_want_40 : decode b_Md_want 40 = .ok (.iconst 1, 1) := by decide +kernel
theorem d_Md_want_41 : decode b_Md_want 41 = .ok (.isub, 1) := by decide +kernel
theorem d_Md_want_42 : decode b_Md_want 42 = .ok (.ireturn, 1) := by decide +kernel
theorem d_Md_from_0 : decode b_Md_from 0 = .ok (.aload_n 0, 1) := by decide +kernel
theorem d_Md_from_1 : decode b_Md_from 1 = .ok (.iconst 0, 1) := by decide +kernel
theorem d_Md_from_2 : decode b_Md_from 2 = .ok (.putfield 117, 3) := by decide +kernel
theorem d_Md_from_5 : decode b_Md_from 5 = .ok (.aload_n 0, 1) := by decide +kernel
theorem d_Md_from_6 : decode b_Md_from 6 = .ok (.iload_n 1, 1) := by decide +kernel
theorem d_Md_from_7 : decode b_Md_from 7 = .ok (.invokevirtual 137, 3) := by decide +kernel
theorem d_Md_from_10 : decode b_Md_from 10 = .ok (.ifCond .eq 31, 3) := by decide +kernel
theorem d_Md_from_13 : decode b_Md_from 13 = .ok (.aload_n 0, 1) := by decide +kernel
theorem d_Md_from_14 : decode b_Md_from 14 = .ok (.iload_n 2, 1) := by decide +kernel
theorem d_Md_from_15 : decode b_Md_from 15 = .ok (.invokevirtual 126, 3) := by decide +kernel
theorem d_Md_from_18 : decode b_Md_from 18 = .ok (.ifCond .eq 23, 3) := by decide +kernel
theorem d_Md_from_21 : decode b_Md_from 21 = .ok (.aload_n 0, 1) := by decide +kernel
theorem d_Md_from_22 : decode b_Md_from 22 = .ok (.getfield 59, 3) := by decide +kernel
theorem d_Md_from_25 : decode b_Md_from 25 = .ok (.iload_n 1, 1) := by decide +kernel
theorem d_Md_from_26 : decode b_Md_from 26 = .ok (.iaload, 1) := by decide +kernel
theorem d_Md_from_27 : decode b_Md_from 27 = .ok (.ifCond .ne 14, 3) := by decide +kernel
theorem d_Md_from_30 : decode b_Md_from 30 = .ok (.aload_n 0, 1) := by decide +kernel
theorem d_Md_from_31 : decode b_Md_from 31 = .ok (.getfield 53, 3) := by decide +kernel
theorem d_Md_from_34 : decode b_Md_from 34 = .ok (.iload_n 1, 1) := by decide +kernel
theorem d_Md_from_35 : decode b_Md_from 35 = .ok (.iaload, 1) := by decide +kernel
theorem d_Md_from_36 : decode b_Md_from 36 = .ok (.bipush 6, 2) := by decide +kernel
theorem d_Md_from_38 : decode b_Md_from 38 = .ok (.if_icmp .ne 5, 3) := by decide +kernel
theorem d_Md_from_41 : decode b_Md_from 41 = .ok (.iconst 0, 1) := by decide +kernel
theorem d_Md_from_42 : decode b_Md_from 42 = .ok (.ireturn, 1) := by decide +kernel
theorem d_Md_from_43 : decode b_Md_from 43 = .ok (.iconst 0, 1) := by decide +kernel
theorem d_Md_from_44 : decode b_Md_from 44 = .ok (.istore_n 3, 1) := by decide +kernel
theorem d_Md_from_45 : decode b_Md_from 45 = .ok (.iload_n 3, 1) := by decide +kernel
theorem d_Md_from_46 : decode b_Md_from 46 = .ok (.aload_n 0, 1) := by decide +kernel
theorem d_Md_from_47 : decode b_Md_from 47 = .ok (.getfield 53, 3) := by decide +kernel
theorem d_Md_from_50 : decode b_Md_from 50 = .ok (.iload_n 1, 1) := by decide +kernel
theorem d_Md_from_51 : decode b_Md_from 51 = .ok (.iaload, 1) := by decide +kernel
