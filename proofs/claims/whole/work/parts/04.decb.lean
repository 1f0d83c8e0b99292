theorem dX8_init_0 : decode cX8_init 0 = .ok (.aload_n 0, 1) := by decide +kernel
theorem dX8_init_1 : decode cX8_init 1 = .ok (.invokespecial 1, 3) := by decide +kernel
theorem dX8_init_4 : decode cX8_init 4 = .ok (.aload_n 0, 1) := by decide +kernel
theorem dX8_init_5 : decode cX8_init 5 = .ok (.bipush 6, 2) := by decide +kernel
theorem dX8_init_7 : decode cX8_init 7 = .ok (.newarray .int, 2) := by decide +kernel
theorem dX8_init_9 : decode cX8_init 9 = .ok (.putfield 7, 3) := by decide +kernel
theorem dX8_init_12 : decode cX8_init 12 = .ok (.aload_n 0, 1) := by decide +kernel
theorem dX8_init_13 : decode cX8_init 13 = .ok (.sipush 240, 3) := by decide +kernel
theorem dX8_init_16 : decode cX8_init 16 = .ok (.newarray .int, 2) := by decide +kernel
theorem dX8_init_18 : decode cX8_init 18 = .ok (.putfield 13, 3) := by decide +kernel
theorem dX8_init_21 : decode cX8_init 21 = .ok (.aload_n 0, 1) := by decide +kernel
theorem dX8_init_22 : decode cX8_init 22 = .ok (.iconst 4, 1) := by decide +kernel
theorem dX8_init_23 : decode cX8_init 23 = .ok (.newarray .int, 2) := by decide +kernel
theorem dX8_init_25 : decode cX8_init 25 = .ok (.putfield 16, 3) := by decide +kernel
theorem dX8_init_28 : decode cX8_init 28 = .ok (.aload_n 0, 1) := by decide +kernel
theorem dX8_init_29 : decode cX8_init 29 = .ok (.sipush 320, 3) := by decide +kernel
theorem dX8_init_32 : decode cX8_init 32 = .ok (.newarray .int, 2) := by decide +kernel
theorem dX8_init_34 : decode cX8_init 34 = .ok (.putfield 19, 3) := by decide +kernel
theorem dX8_init_37 : decode cX8_init 37 = .ok (.aload_n 0, 1) := by decide +kernel
theorem dX8_init_38 : decode cX8_init 38 = .ok (.bipush 9, 2) := by decide +kernel
theorem dX8_init_40 : decode cX8_init 40 = .ok (.newarray .int, 2) := by decide +kernel
theorem dX8_init_42 : decode cX8_init 42 = .ok (.putfield 22, 3) := by decide +kernel
theorem dX8_init_45 : decode cX8_init 45 = .ok (.aload_n 0, 1) := by decide +kernel
theorem dX8_init_46 : decode cX8_init 46 = .ok (.bipush 9, 2) := by decide +kernel
theorem dX8_init_48 : decode cX8_init 48 = .ok (.newarray .int, 2) := by decide +kernel
theorem dX8_init_50 : decode cX8_init 50 = .ok (.putfield 25, 3) := by decide +kernel
theorem dX8_init_53 : decode cX8_init 53 = .ok (.aload_n 0, 1) := by decide +kernel
theorem dX8_init_54 : decode cX8_init 54 = .ok (.bipush 14, 2) := by decide +kernel
theorem dX8_init_56 : decode cX8_init 56 = .ok (.newarray .int, 2) := by decide +kernel
theorem dX8_init_58 : decode cX8_init 58 = .ok (.putfield 28, 3) := by decide +kernel
theorem dX8_init_61 : decode cX8_init 61 = .ok (.aload_n 0, 1) := by decide +kernel
theorem dX8_init_62 : decode cX8_init 62 = .ok (.bipush 14, 2) := by decide +kernel
theorem dX8_init_64 : decode cX8_init 64 = .ok (.newarray .int, 2) := by decide +kernel
theorem dX8_init_66 : decode cX8_init 66 = .ok (.putfield 31, 3) := by decide +kernel
theorem dX8_init_69 : decode cX8_init 69 = .ok (.aload_n 0, 1) := by decide +kernel
theorem dX8_init_70 : decode cX8_init 70 = .ok (.bipush 14, 2) := by decide +kernel
theorem dX8_init_72 : decode cX8_init 72 = .ok (.newarray .int, 2) := by decide +kernel
theorem dX8_init_74 : decode cX8_init 74 = .ok (.putfield 34, 3) := by decide +kernel
theorem dX8_init_77 : decode cX8_init 77 = .ok (.aload_n 0, 1) := by decide +kernel
theorem dX8_init_78 : decode cX8_init 78 = .ok (.iconst 4, 1) := by decide +kernel
theorem dX8_init_79 : decode cX8_init 79 = .ok (.newarray .int, 2) := by decide +kernel
theorem dX8_init_81 : decode cX8_init 81 = .ok (.putfield 37, 3) := by decide +kernel
theorem dX8_init_84 : decode cX8_init 84 = .ok (.aload_n 0, 1) := by decide +kernel
theorem dX8_init_85 : decode cX8_init 85 = .ok (.iconst 4, 1) := by decide +kernel
theorem dX8_init_86 : decode cX8_init 86 = .ok (.newarray .int, 2) := by decide +kernel
theorem dX8_init_88 : decode cX8_init 88 = .ok (.putfield 40, 3) := by decide +kernel
theorem dX8_init_91 : decode cX8_init 91 = .ok (.aload_n 0, 1) := by decide +kernel
theorem dX8_init_92 : decode cX8_init 92 = .ok (.iconst 4, 1) := by decide +kernel
theorem dX8_init_93 : decode cX8_init 93 = .ok (.newarray .int, 2) := by decide +kernel
theorem dX8_init_95 : decode cX8_init 95 = .ok (.putfield 43, 3) := by decide +kernel
theorem dX8_init_98 : decode cX8_init 98 = .ok (.aload_n 0, 1) := by decide +kernel
theorem dX8_init_99 : decode cX8_init 99 = .ok (.iconst 4, 1) := by decide +kernel
theorem dX8_init_100 : decode cX8_init 100 = .ok (.newarray .int, 2) := by decide +kernel
theorem dX8_init_102 : decode cX8_init 102 = .ok (.putfield 46, 3) := by decide +kernel
theorem dX8_init_105 : decode cX8_init 105 = .ok (.aload_n 0, 1) := by decide +kernel
theorem dX8_init_106 : decode cX8_init 106 = .ok (.bipush 8, 2) := by decide +kernel
theorem dX8_init_108 : decode cX8_init 108 = .ok (.newarray .int, 2) := by decide +kernel
theorem dX8_init_110 : decode cX8_init 110 = .ok (.putfield 49, 3) := by decide +kernel
theorem dX8_init_113 : decode cX8_init 113 = .ok (.aload_n 0, 1) := by decide +kernel
theorem dX8_init_114 : decode cX8_init 114 = .ok (.bipush 8, 2) := by decide +kernel
theorem dX8_init_116 : decode cX8_init 116 = .ok (.newarray .int, 2) := by decide +kernel
theorem dX8_init_118 : decode cX8_init 118 = .ok (.putfield 52, 3) := by decide +kernel
theorem dX8_init_121 : decode cX8_init 121 = .ok (.aload_n 0, 1) := by decide +kernel
theorem dX8_init_122 : decode cX8_init 122 = .ok (.lconst 1, 1) := by decide +kernel
theorem dX8_init_123 : decode cX8_init 123 = .ok (.putfield 55, 3) := by decide +kernel
theorem dX8_init_126 : decode cX8_init 126 = .ok (.aload_n 0, 1) := by decide +kernel
theorem dX8_init_127 : decode cX8_init 127 = .ok (.bipush 6, 2) := by decide +kernel
theorem dX8_init_129 : decode cX8_init 129 = .ok (.newarray .int, 2) := by decide +kernel
theorem dX8_init_131 : decode cX8_init 131 = .ok (.putfield 59, 3) := by decide +kernel
theorem dX8_init_134 : decode cX8_init 134 = .ok (.aload_n 0, 1) := by decide +kernel
theorem dX8_init_135 : decode cX8_init 135 = .ok (.bipush 40, 2) := by decide +kernel
theorem dX8_init_137 : decode cX8_init 137 = .ok (.newarray .int, 2) := by decide +kernel
theorem dX8_init_139 : decode cX8_init 139 = .ok (.putfield 62, 3) := by decide +kernel
theorem dX8_init_142 : decode cX8_init 142 = .ok (.aload_n 0, 1) := by decide +kernel
theorem dX8_init_143 : decode cX8_init 143 = .ok (.bipush 9, 2) := by decide +kernel
theorem dX8_init_145 : decode cX8_init 145 = .ok (.newarray .int, 2) := by decide +kernel
theorem dX8_init_147 : decode cX8_init 147 = .ok (.putfield 65, 3) := by decide +kernel
theorem dX8_init_150 : decode cX8_init 150 = .ok (.aload_n 0, 1) := by decide +kernel
theorem dX8_init_151 : decode cX8_init 151 = .ok (.bipush 9, 2) := by decide +kernel
theorem dX8_init_153 : decode cX8_init 153 = .ok (.newarray .int, 2) := by decide +kernel
theorem dX8_init_155 : decode cX8_init 155 = .ok (.putfield 68, 3) := by decide +kernel
theorem dX8_init_158 : decode cX8_init 158 = .ok (.aload_n 0, 1) := by decide +kernel
theorem dX8_init_159 : decode cX8_init 159 = .ok (.bipush 42, 2) := by decide +kernel
theorem dX8_init_161 : decode cX8_init 161 = .ok (.newarray .int, 2) := by decide +kernel
theorem dX8_init_163 : decode cX8_init 163 = .ok (.putfield 71, 3) := by decide +kernel
theorem dX8_init_166 : decode cX8_init 166 = .ok (.aload_n 0, 1) := by decide +kernel
theorem dX8_init_167 : decode cX8_init 167 = .ok (.bipush 16, 2) := by decide +kernel
theorem dX8_init_169 : decode cX8_init 169 = .ok (.newarray .int, 2) := by decide +kernel
theorem dX8_init_171 : decode cX8_init 171 = .ok (.putfield 74, 3) := by decide +kernel
theorem dX8_init_174 : decode cX8_init 174 = .ok (.aload_n 0, 1) := by decide +kernel
theorem dX8_init_175 : decode cX8_init 175 = .ok (.bipush 9, 2) := by decide +kernel
theorem dX8_init_177 : decode cX8_init 177 = .ok (.newarray .int, 2) := by decide +kernel
theorem dX8_init_179 : decode cX8_init 179 = .ok (.putfield 77, 3) := by decide +kernel
theorem dX8_init_182 : decode cX8_init 182 = .ok (.aload_n 0, 1) := by decide +kernel
theorem dX8_init_183 : decode cX8_init 183 = .ok (.bipush 9, 2) := by decide +kernel
theorem dX8_init_185 : decode cX8_init 185 = .ok (.newarray .int, 2) := by decide +kernel
theorem dX8_init_187 : decode cX8_init 187 = .ok (.putfield 80, 3) := by decide +kernel
theorem dX8_init_190 : decode cX8_init 190 = .ok (.aload_n 0, 1) := by decide +kernel
theorem dX8_init_191 : decode cX8_init 191 = .ok (.iconst 3, 1) := by decide +kernel
theorem dX8_init_192 : decode cX8_init 192 = .ok (.newarray .boolean, 2) := by decide +kernel
theorem dX8_init_194 : decode cX8_init 194 = .ok (.putfield 83, 3) := by decide +kernel
theorem dX8_init_197 : decode cX8_init 197 = .ok (.aload_n 0, 1) := by decide +kernel
theorem dX8_init_198 : decode cX8_init 198 = .ok (.bipush 54, 2) := by decide +kernel
theorem dX8_init_200 : decode cX8_init 200 = .ok (.newarray .int, 2) := by decide +kernel
theorem dX8_init_202 : decode cX8_init 202 = .ok (.putfield 87, 3) := by decide +kernel
theorem dX8_init_205 : decode cX8_init 205 = .ok (.aload_n 0, 1) := by decide +kernel
theorem dX8_init_206 : decode cX8_init 206 = .ok (.bipush 9, 2) := by decide +kernel
theorem dX8_init_208 : decode cX8_init 208 = .ok (.newarray .long, 2) := by decide +kernel
theorem dX8_init_210 : decode cX8_init 210 = .ok (.putfield 90, 3) := by decide +kernel
theorem dX8_init_213 : decode cX8_init 213 = .ok (.aload_n 0, 1) := by decide +kernel
theorem dX8_init_214 : decode cX8_init 214 = .ok (.bipush 9, 2) := by decide +kernel
theorem dX8_init_216 : decode cX8_init 216 = .ok (.newarray .int, 2) := by decide +kernel
theorem dX8_init_218 : decode cX8_init 218 = .ok (.putfield 94, 3) := by decide +kernel
theorem dX8_init_221 : decode cX8_init 221 = .ok (.aload_n 0, 1) := by decide +kernel
theorem dX8_init_222 : decode cX8_init 222 = .ok (.bipush 9, 2) := by decide +kernel
theorem dX8_init_224 : decode cX8_init 224 = .ok (.newarray .int, 2) := by decide +kernel
theorem dX8_init_226 : decode cX8_init 226 = .ok (.putfield 97, 3) := by decide +kernel
theorem dX8_init_229 : decode cX8_init 229 = .ok (.aload_n 0, 1) := by decide +kernel
theorem dX8_init_230 : decode cX8_init 230 = .ok (.bipush 81, 2) := by decide +kernel
theorem dX8_init_232 : decode cX8_init 232 = .ok (.newarray .int, 2) := by decide +kernel
theorem dX8_init_234 : decode cX8_init 234 = .ok (.putfield 100, 3) := by decide +kernel
theorem dX8_init_237 : decode cX8_init 237 = .ok (.aload_n 0, 1) := by decide +kernel
theorem dX8_init_238 : decode cX8_init 238 = .ok (.sipush 13824, 3) := by decide +kernel
theorem dX8_init_241 : decode cX8_init 241 = .ok (.newarray .int, 2) := by decide +kernel
theorem dX8_init_243 : decode cX8_init 243 = .ok (.putfield 103, 3) := by decide +kernel
theorem dX8_init_246 : decode cX8_init 246 = .ok (.aload_n 0, 1) := by decide +kernel
theorem dX8_init_247 : decode cX8_init 247 = .ok (.sipush 13824, 3) := by decide +kernel
theorem dX8_init_250 : decode cX8_init 250 = .ok (.newarray .long, 2) := by decide +kernel
theorem dX8_init_252 : decode cX8_init 252 = .ok (.putfield 106, 3) := by decide +kernel
theorem dX8_init_255 : decode cX8_init 255 = .ok (.aload_n 0, 1) := by decide +kernel
theorem dX8_init_256 : decode cX8_init 256 = .ok (.sipush 13824, 3) := by decide +kernel
theorem dX8_init_259 : decode cX8_init 259 = .ok (.newarray .int, 2) := by decide +kernel
theorem dX8_init_261 : decode cX8_init 261 = .ok (.putfield 109, 3) := by decide +kernel
theorem dX8_init_264 : decode cX8_init 264 = .ok (.aload_n 0, 1) := by decide +kernel
theorem dX8_init_265 : decode cX8_init 265 = .ok (.sipush 1536, 3) := by decide +kernel
theorem dX8_init_268 : decode cX8_init 268 = .ok (.newarray .boolean, 2) := by decide +kernel
theorem dX8_init_270 : decode cX8_init 270 = .ok (.putfield 112, 3) := by decide +kernel
theorem dX8_init_273 : decode cX8_init 273 = .ok (.aload_n 0, 1) := by decide +kernel
theorem dX8_init_274 : decode cX8_init 274 = .ok (.sipush 1536, 3) := by decide +kernel
theorem dX8_init_277 : decode cX8_init 277 = .ok (.newarray .boolean, 2) := by decide +kernel
theorem dX8_init_279 : decode cX8_init 279 = .ok (.putfield 115, 3) := by decide +kernel
theorem dX8_init_282 : decode cX8_init 282 = .ok (.aload_n 0, 1) := by decide +kernel
theorem dX8_init_283 : decode cX8_init 283 = .ok (.bipush 8, 2) := by decide +kernel
theorem dX8_init_285 : decode cX8_init 285 = .ok (.newarray .int, 2) := by decide +kernel
theorem dX8_init_287 : decode cX8_init 287 = .ok (.putfield 118, 3) := by decide +kernel
theorem dX8_init_290 : decode cX8_init 290 = .ok (.aload_n 0, 1) := by decide +kernel
theorem dX8_init_291 : decode cX8_init 291 = .ok (.sipush 256, 3) := by decide +kernel
theorem dX8_init_294 : decode cX8_init 294 = .ok (.newarray .boolean, 2) := by decide +kernel
theorem dX8_init_296 : decode cX8_init 296 = .ok (.putfield 121, 3) := by decide +kernel
theorem dX8_init_299 : decode cX8_init 299 = .ok (.iconst 0, 1) := by decide +kernel
theorem dX8_init_300 : decode cX8_init 300 = .ok (.istore_n 1, 1) := by decide +kernel
theorem dX8_init_301 : decode cX8_init 301 = .ok (.iload_n 1, 1) := by decide +kernel
theorem dX8_init_302 : decode cX8_init 302 = .ok (.bipush 6, 2) := by decide +kernel
theorem dX8_init_304 : decode cX8_init 304 = .ok (.if_icmp .ge 16, 3) := by decide +kernel
theorem dX8_init_307 : decode cX8_init 307 = .ok (.aload_n 0, 1) := by decide +kernel
theorem dX8_init_308 : decode cX8_init 308 = .ok (.getfield 7, 3) := by decide +kernel
theorem dX8_init_311 : decode cX8_init 311 = .ok (.iload_n 1, 1) := by decide +kernel
theorem dX8_init_312 : decode cX8_init 312 = .ok (.iconst (-1), 1) := by decide +kernel
theorem dX8_init_313 : decode cX8_init 313 = .ok (.iastore, 1) := by decide +kernel
theorem dX8_init_314 : decode cX8_init 314 = .ok (.iinc 1 1, 3) := by decide +kernel
theorem dX8_init_317 : decode cX8_init 317 = .ok (.goto (-16), 3) := by decide +kernel
theorem dX8_init_320 : decode cX8_init 320 = .ok (.iconst 0, 1) := by decide +kernel
theorem dX8_init_321 : decode cX8_init 321 = .ok (.istore_n 1, 1) := by decide +kernel
theorem dX8_init_322 : decode cX8_init 322 = .ok (.iload_n 1, 1) := by decide +kernel
theorem dX8_init_323 : decode cX8_init 323 = .ok (.iconst 4, 1) := by decide +kernel
theorem dX8_init_324 : decode cX8_init 324 = .ok (.if_icmp .ge 16, 3) := by decide +kernel
theorem dX8_init_327 : decode cX8_init 327 = .ok (.aload_n 0, 1) := by decide +kernel
theorem dX8_init_328 : decode cX8_init 328 = .ok (.getfield 16, 3) := by decide +kernel
theorem dX8_init_331 : decode cX8_init 331 = .ok (.iload_n 1, 1) := by decide +kernel
theorem dX8_init_332 : decode cX8_init 332 = .ok (.iconst (-1), 1) := by decide +kernel
theorem dX8_init_333 : decode cX8_init 333 = .ok (.iastore, 1) := by decide +kernel
theorem dX8_init_334 : decode cX8_init 334 = .ok (.iinc 1 1, 3) := by decide +kernel
theorem dX8_init_337 : decode cX8_init 337 = .ok (.goto (-15), 3) := by decide +kernel
theorem dX8_init_340 : decode cX8_init 340 = .ok (.return_, 1) := by decide +kernel
theorem dX8_in_0 : decode cX8_in 0 = .ok (.lload_n 0, 1) := by decide +kernel
theorem dX8_in_1 : decode cX8_in 1 = .ok (.lload_n 2, 1) := by decide +kernel
theorem dX8_in_2 : decode cX8_in 2 = .ok (.lcmp, 1) := by decide +kernel
theorem dX8_in_3 : decode cX8_in 3 = .ok (.ifCond .lt 14, 3) := by decide +kernel
theorem dX8_in_6 : decode cX8_in 6 = .ok (.lload_n 0, 1) := by decide +kernel
theorem dX8_in_7 : decode cX8_in 7 = .ok (.lload 4, 2) := by decide +kernel
theorem dX8_in_9 : decode cX8_in 9 = .ok (.lcmp, 1) := by decide +kernel
theorem dX8_in_10 : decode cX8_in 10 = .ok (.ifCond .gt 7, 3) := by decide +kernel
theorem dX8_in_13 : decode cX8_in 13 = .ok (.iconst 1, 1) := by decide +kernel
theorem dX8_in_14 : decode cX8_in 14 = .ok (.goto 4, 3) := by decide +kernel
theorem dX8_in_17 : decode cX8_in 17 = .ok (.iconst 0, 1) := by decide +kernel
theorem dX8_in_18 : decode cX8_in 18 = .ok (.ireturn, 1) := by decide +kernel
theorem dX8_ones_0 : decode cX8_ones 0 = .ok (.iconst 0, 1) := by decide +kernel
theorem dX8_ones_1 : decode cX8_ones 1 = .ok (.istore_n 1, 1) := by decide +kernel
theorem dX8_ones_2 : decode cX8_ones 2 = .ok (.iload_n 0, 1) := by decide +kernel
theorem dX8_ones_3 : decode cX8_ones 3 = .ok (.istore_n 2, 1) := by decide +kernel
theorem dX8_ones_4 : decode cX8_ones 4 = .ok (.iload_n 2, 1) := by decide +kernel
theorem dX8_ones_5 : decode cX8_ones 5 = .ok (.ifCond .eq 15, 3) := by decide +kernel
theorem dX8_ones_8 : decode cX8_ones 8 = .ok (.iinc 1 1, 3) := by decide +kernel
theorem dX8_ones_11 : decode cX8_ones 11 = .ok (.iload_n 2, 1) := by decide +kernel
theorem dX8_ones_12 : decode cX8_ones 12 = .ok (.iload_n 2, 1) := by decide +kernel
theorem dX8_ones_13 : decode cX8_ones 13 = .ok (.iconst 1, 1) := by decide +kernel
theorem dX8_ones_14 : decode cX8_ones 14 = .ok (.isub, 1) := by decide +kernel
theorem dX8_ones_15 : decode cX8_ones 15 = .ok (.iand, 1) := by decide +kernel
theorem dX8_ones_16 : decode cX8_ones 16 = .ok (.istore_n 2, 1) := by decide +kernel
theorem dX8_ones_17 : decode cX8_ones 17 = .ok (.goto (-13), 3) := by decide +kernel
theorem dX8_ones_20 : decode cX8_ones 20 = .ok (.iload_n 1, 1) := by decide +kernel
theorem dX8_ones_21 : decode cX8_ones 21 = .ok (.ireturn, 1) := by decide +kernel
theorem dX8_find_0 : decode cX8_find 0 = .ok (.aload_n 0, 1) := by decide +kernel
theorem dX8_find_1 : decode cX8_find 1 = .ok (.iload_n 1, 1) := by decide +kernel
theorem dX8_find_2 : decode cX8_find 2 = .ok (.putfield 124, 3) := by decide +kernel
theorem dX8_find_5 : decode cX8_find 5 = .ok (.aload_n 0, 1) := by decide +kernel
theorem dX8_find_6 : decode cX8_find 6 = .ok (.getfield 59, 3) := by decide +kernel
theorem dX8_find_9 : decode cX8_find 9 = .ok (.iload_n 1, 1) := by decide +kernel
theorem dX8_find_10 : decode cX8_find 10 = .ok (.dup2, 1) := by decide +kernel
theorem dX8_find_11 : decode cX8_find 11 = .ok (.iaload, 1) := by decide +kernel
theorem dX8_find_12 : decode cX8_find 12 = .ok (.iconst 1, 1) := by decide +kernel
theorem dX8_find_13 : decode cX8_find 13 = .ok (.iadd, 1) := by decide +kernel
theorem dX8_find_14 : decode cX8_find 14 = .ok (.iastore, 1) := by decide +kernel
theorem dX8_find_15 : decode cX8_find 15 = .ok (.bipush (-3), 2) := by decide +kernel
theorem dX8_find_17 : decode cX8_find 17 = .ok (.ireturn, 1) := by decide +kernel
theorem dX8_answer_0 : decode cX8_answer 0 = .ok (.aload_n 0, 1) := by decide +kernel
theorem dX8_answer_1 : decode cX8_answer 1 = .ok (.iload_n 2, 1) := by decide +kernel
theorem dX8_answer_2 : decode cX8_answer 2 = .ok (.putfield 128, 3) := by decide +kernel
theorem dX8_answer_5 : decode cX8_answer 5 = .ok (.iload_n 1, 1) := by decide +kernel
theorem dX8_answer_6 : decode cX8_answer 6 = .ok (.ireturn, 1) := by decide +kernel
theorem dX8_isRow_0 : decode cX8_isRow 0 = .ok (.iload_n 0, 1) := by decide +kernel
theorem dX8_isRow_1 : decode cX8_isRow 1 = .ok (.i2l, 1) := by decide +kernel
theorem dX8_isRow_2 : decode cX8_isRow 2 = .ok (.lconst 0, 1) := by decide +kernel
theorem dX8_isRow_3 : decode cX8_isRow 3 = .ok (.ldc2_w 131, 3) := by decide +kernel
theorem dX8_isRow_6 : decode cX8_isRow 6 = .ok (.invokestatic 133, 3) := by decide +kernel
theorem dX8_isRow_9 : decode cX8_isRow 9 = .ok (.ireturn, 1) := by decide +kernel
theorem dX8_isText_0 : decode cX8_isText 0 = .ok (.iload_n 0, 1) := by decide +kernel
theorem dX8_isText_1 : decode cX8_isText 1 = .ok (.i2l, 1) := by decide +kernel
theorem dX8_isText_2 : decode cX8_isText 2 = .ok (.lconst 0, 1) := by decide +kernel
theorem dX8_isText_3 : decode cX8_isText 3 = .ok (.ldc2_w 137, 3) := by decide +kernel
theorem dX8_isText_6 : decode cX8_isText 6 = .ok (.invokestatic 133, 3) := by decide +kernel
theorem dX8_isText_9 : decode cX8_isText 9 = .ok (.ireturn, 1) := by decide +kernel
theorem dX8_row_0 : decode cX8_row 0 = .ok (.iload_n 1, 1) := by decide +kernel
theorem dX8_row_1 : decode cX8_row 1 = .ok (.invokestatic 139, 3) := by decide +kernel
theorem dX8_row_4 : decode cX8_row 4 = .ok (.ifCond .eq 9, 3) := by decide +kernel
theorem dX8_row_7 : decode cX8_row 7 = .ok (.iload_n 2, 1) := by decide +kernel
theorem dX8_row_8 : decode cX8_row 8 = .ok (.bipush 40, 2) := by decide +kernel
theorem dX8_row_10 : decode cX8_row 10 = .ok (.if_icmp .le 5, 3) := by decide +kernel
theorem dX8_row_13 : decode cX8_row 13 = .ok (.iconst (-1), 1) := by decide +kernel
theorem dX8_row_14 : decode cX8_row 14 = .ok (.ireturn, 1) := by decide +kernel
theorem dX8_row_15 : decode cX8_row 15 = .ok (.iload_n 2, 1) := by decide +kernel
theorem dX8_row_16 : decode cX8_row 16 = .ok (.ifCond .ge 9, 3) := by decide +kernel
theorem dX8_row_19 : decode cX8_row 19 = .ok (.aload_n 0, 1) := by decide +kernel
theorem dX8_row_20 : decode cX8_row 20 = .ok (.iconst 5, 1) := by decide +kernel
theorem dX8_row_21 : decode cX8_row 21 = .ok (.invokevirtual 143, 3) := by decide +kernel
theorem dX8_row_24 : decode cX8_row 24 = .ok (.ireturn, 1) := by decide +kernel
theorem dX8_row_25 : decode cX8_row 25 = .ok (.aload_n 0, 1) := by decide +kernel
theorem dX8_row_26 : decode cX8_row 26 = .ok (.getfield 7, 3) := by decide +kernel
theorem dX8_row_29 : decode cX8_row 29 = .ok (.iload_n 1, 1) := by decide +kernel
theorem dX8_row_30 : decode cX8_row 30 = .ok (.iload_n 2, 1) := by decide +kernel
theorem dX8_row_31 : decode cX8_row 31 = .ok (.iastore, 1) := by decide +kernel
theorem dX8_row_32 : decode cX8_row 32 = .ok (.iconst 0, 1) := by decide +kernel
theorem dX8_row_33 : decode cX8_row 33 = .ok (.istore_n 3, 1) := by decide +kernel
theorem dX8_row_34 : decode cX8_row 34 = .ok (.iload_n 3, 1) := by decide +kernel
theorem dX8_row_35 : decode cX8_row 35 = .ok (.bipush 40, 2) := by decide +kernel
theorem dX8_row_37 : decode cX8_row 37 = .ok (.if_icmp .ge 21, 3) := by decide +kernel
theorem dX8_row_40 : decode cX8_row 40 = .ok (.aload_n 0, 1) := by decide +kernel
theorem dX8_row_41 : decode cX8_row 41 = .ok (.getfield 13, 3) := by decide +kernel
theorem dX8_row_44 : decode cX8_row 44 = .ok (.bipush 40, 2) := by decide +kernel
theorem dX8_row_46 : decode cX8_row 46 = .ok (.iload_n 1, 1) := by decide +kernel
theorem dX8_row_47 : decode cX8_row 47 = .ok (.imul, 1) := by decide +kernel
theorem dX8_row_48 : decode cX8_row 48 = .ok (.iload_n 3, 1) := by decide +kernel
theorem dX8_row_49 : decode cX8_row 49 = .ok (.iadd, 1) := by decide +kernel
theorem dX8_row_50 : decode cX8_row 50 = .ok (.iconst 0, 1) := by decide +kernel
theorem dX8_row_51 : decode cX8_row 51 = .ok (.iastore, 1) := by decide +kernel
theorem dX8_row_52 : decode cX8_row 52 = .ok (.iinc 3 1, 3) := by decide +kernel
theorem dX8_row_55 : decode cX8_row 55 = .ok (.goto (-21), 3) := by decide +kernel
theorem dX8_row_58 : decode cX8_row 58 = .ok (.iload_n 2, 1) := by decide +kernel
theorem dX8_row_59 : decode cX8_row 59 = .ok (.ireturn, 1) := by decide +kernel
theorem dX8_lacksPlace_0 : decode cX8_lacksPlace 0 = .ok (.iload_n 1, 1) := by decide +kernel
theorem dX8_lacksPlace_1 : decode cX8_lacksPlace 1 = .ok (.invokestatic 139, 3) := by decide +kernel
theorem dX8_lacksPlace_4 : decode cX8_lacksPlace 4 = .ok (.ifCond .ne 5, 3) := by decide +kernel
theorem dX8_lacksPlace_7 : decode cX8_lacksPlace 7 = .ok (.iconst (-1), 1) := by decide +kernel
theorem dX8_lacksPlace_8 : decode cX8_lacksPlace 8 = .ok (.ireturn, 1) := by decide +kernel
theorem dX8_lacksPlace_9 : decode cX8_lacksPlace 9 = .ok (.aload_n 0, 1) := by decide +kernel
theorem dX8_lacksPlace_10 : decode cX8_lacksPlace 10 = .ok (.getfield 7, 3) := by decide +kernel
theorem dX8_lacksPlace_13 : decode cX8_lacksPlace 13 = .ok (.iload_n 1, 1) := by decide +kernel
theorem dX8_lacksPlace_14 : decode cX8_lacksPlace 14 = .ok (.iaload, 1) := by decide +kernel
theorem dX8_lacksPlace_15 : decode cX8_lacksPlace 15 = .ok (.ifCond .ge 9, 3) := by decide +kernel
theorem dX8_lacksPlace_18 : decode cX8_lacksPlace 18 = .ok (.aload_n 0, 1) := by decide +kernel
theorem dX8_lacksPlace_19 : decode cX8_lacksPlace 19 = .ok (.iconst 1, 1) := by decide +kernel
theorem dX8_lacksPlace_20 : decode cX8_lacksPlace 20 = .ok (.invokevirtual 143, 3) := by decide +kernel
theorem dX8_lacksPlace_23 : decode cX8_lacksPlace 23 = .ok (.ireturn, 1) := by decide +kernel
theorem dX8_lacksPlace_24 : decode cX8_lacksPlace 24 = .ok (.iload_n 2, 1) := by decide +kernel
theorem dX8_lacksPlace_25 : decode cX8_lacksPlace 25 = .ok (.i2l, 1) := by decide +kernel
theorem dX8_lacksPlace_26 : decode cX8_lacksPlace 26 = .ok (.lconst 0, 1) := by decide +kernel
theorem dX8_lacksPlace_27 : decode cX8_lacksPlace 27 = .ok (.aload_n 0, 1) := by decide +kernel
theorem dX8_lacksPlace_28 : decode cX8_lacksPlace 28 = .ok (.getfield 7, 3) := by decide +kernel
theorem dX8_lacksPlace_31 : decode cX8_lacksPlace 31 = .ok (.iload_n 1, 1) := by decide +kernel
theorem dX8_lacksPlace_32 : decode cX8_lacksPlace 32 = .ok (.iaload, 1) := by decide +kernel
theorem dX8_lacksPlace_33 : decode cX8_lacksPlace 33 = .ok (.iconst 1, 1) := by decide +kernel
theorem dX8_lacksPlace_34 : decode cX8_lacksPlace 34 = .ok (.isub, 1) := by decide +kernel
theorem dX8_lacksPlace_35 : decode cX8_lacksPlace 35 = .ok (.i2l, 1) := by decide +kernel
theorem dX8_lacksPlace_36 : decode cX8_lacksPlace 36 = .ok (.invokestatic 133, 3) := by decide +kernel
theorem dX8_lacksPlace_39 : decode cX8_lacksPlace 39 = .ok (.ifCond .eq 7, 3) := by decide +kernel
theorem dX8_lacksPlace_42 : decode cX8_lacksPlace 42 = .ok (.iconst 0, 1) := by decide +kernel
theorem dX8_lacksPlace_43 : decode cX8_lacksPlace 43 = .ok (.goto 8, 3) := by decide +kernel
theorem dX8_lacksPlace_46 : decode cX8_lacksPlace 46 = .ok (.aload_n 0, 1) := by decide +kernel
theorem dX8_lacksPlace_47 : decode cX8_lacksPlace 47 = .ok (.iconst 2, 1) := by decide +kernel
theorem dX8_lacksPlace_48 : decode cX8_lacksPlace 48 = .ok (.invokevirtual 143, 3) := by decide +kernel
theorem dX8_lacksPlace_51 : decode cX8_lacksPlace 51 = .ok (.ireturn, 1) := by decide +kernel
theorem dX8_lay_0 : decode cX8_lay 0 = .ok (.aload_n 0, 1) := by decide +kernel
theorem dX8_lay_1 : decode cX8_lay 1 = .ok (.iload_n 1, 1) := by decide +kernel
theorem dX8_lay_2 : decode cX8_lay 2 = .ok (.iload_n 2, 1) := by decide +kernel
theorem dX8_lay_3 : decode cX8_lay 3 = .ok (.invokevirtual 147, 3) := by decide +kernel
theorem dX8_lay_6 : decode cX8_lay 6 = .ok (.istore 4, 2) := by decide +kernel
theorem dX8_lay_8 : decode cX8_lay 8 = .ok (.iload 4, 2) := by decide +kernel
theorem dX8_lay_10 : decode cX8_lay 10 = .ok (.ifCond .ge 6, 3) := by decide +kernel
theorem dX8_lay_13 : decode cX8_lay 13 = .ok (.iload 4, 2) := by decide +kernel
theorem dX8_lay_15 : decode cX8_lay 15 = .ok (.ireturn, 1) := by decide +kernel
theorem dX8_lay_16 : decode cX8_lay 16 = .ok (.aload_n 0, 1) := by decide +kernel
theorem dX8_lay_17 : decode cX8_lay 17 = .ok (.getfield 13, 3) := by decide +kernel
theorem dX8_lay_20 : decode cX8_lay 20 = .ok (.bipush 40, 2) := by decide +kernel
theorem dX8_lay_22 : decode cX8_lay 22 = .ok (.iload_n 1, 1) := by decide +kernel
theorem dX8_lay_23 : decode cX8_lay 23 = .ok (.imul, 1) := by decide +kernel
theorem dX8_lay_24 : decode cX8_lay 24 = .ok (.iload_n 2, 1) := by decide +kernel
theorem dX8_lay_25 : decode cX8_lay 25 = .ok (.iadd, 1) := by decide +kernel
theorem dX8_lay_26 : decode cX8_lay 26 = .ok (.iaload, 1) := by decide +kernel
theorem dX8_lay_27 : decode cX8_lay 27 = .ok (.istore 5, 2) := by decide +kernel
theorem dX8_lay_29 : decode cX8_lay 29 = .ok (.aload_n 0, 1) := by decide +kernel
theorem dX8_lay_30 : decode cX8_lay 30 = .ok (.getfield 13, 3) := by decide +kernel
theorem dX8_lay_33 : decode cX8_lay 33 = .ok (.bipush 40, 2) := by decide +kernel
theorem dX8_lay_35 : decode cX8_lay 35 = .ok (.iload_n 1, 1) := by decide +kernel
theorem dX8_lay_36 : decode cX8_lay 36 = .ok (.imul, 1) := by decide +kernel
theorem dX8_lay_37 : decode cX8_lay 37 = .ok (.iload_n 2, 1) := by decide +kernel
theorem dX8_lay_38 : decode cX8_lay 38 = .ok (.iadd, 1) := by decide +kernel
theorem dX8_lay_39 : decode cX8_lay 39 = .ok (.iload_n 3, 1) := by decide +kernel
theorem dX8_lay_40 : decode cX8_lay 40 = .ok (.iastore, 1) := by decide +kernel
theorem dX8_lay_41 : decode cX8_lay 41 = .ok (.aload_n 0, 1) := by decide +kernel
theorem dX8_lay_42 : decode cX8_lay 42 = .ok (.iconst 1, 1) := by decide +kernel
theorem dX8_lay_43 : decode cX8_lay 43 = .ok (.iload 5, 2) := by decide +kernel
theorem dX8_lay_45 : decode cX8_lay 45 = .ok (.invokevirtual 151, 3) := by decide +kernel
theorem dX8_lay_48 : decode cX8_lay 48 = .ok (.ireturn, 1) := by decide +kernel
theorem dX8_at_0 : decode cX8_at 0 = .ok (.aload_n 0, 1) := by decide +kernel
theorem dX8_at_1 : decode cX8_at 1 = .ok (.iload_n 1, 1) := by decide +kernel
theorem dX8_at_2 : decode cX8_at 2 = .ok (.iload_n 2, 1) := by decide +kernel
theorem dX8_at_3 : decode cX8_at 3 = .ok (.invokevirtual 147, 3) := by decide +kernel
theorem dX8_at_6 : decode cX8_at 6 = .ok (.istore_n 3, 1) := by decide +kernel
theorem dX8_at_7 : decode cX8_at 7 = .ok (.iload_n 3, 1) := by decide +kernel
theorem dX8_at_8 : decode cX8_at 8 = .ok (.ifCond .ge 7, 3) := by decide +kernel
theorem dX8_at_11 : decode cX8_at 11 = .ok (.iload_n 3, 1) := by decide +kernel
theorem dX8_at_12 : decode cX8_at 12 = .ok (.goto 19, 3) := by decide +kernel
theorem dX8_at_15 : decode cX8_at 15 = .ok (.aload_n 0, 1) := by decide +kernel
theorem dX8_at_16 : decode cX8_at 16 = .ok (.iconst 1, 1) := by decide +kernel
theorem dX8_at_17 : decode cX8_at 17 = .ok (.aload_n 0, 1) := by decide +kernel
theorem dX8_at_18 : decode cX8_at 18 = .ok (.getfield 13, 3) := by decide +kernel
theorem dX8_at_21 : decode cX8_at 21 = .ok (.bipush 40, 2) := by decide +kernel
theorem dX8_at_23 : decode cX8_at 23 = .ok (.iload_n 1, 1) := by decide +kernel
theorem dX8_at_24 : decode cX8_at 24 = .ok (.imul, 1) := by decide +kernel
theorem dX8_at_25 : decode cX8_at 25 = .ok (.iload_n 2, 1) := by decide +kernel
theorem dX8_at_26 : decode cX8_at 26 = .ok (.iadd, 1) := by decide +kernel
theorem dX8_at_27 : decode cX8_at 27 = .ok (.iaload, 1) := by decide +kernel
theorem dX8_at_28 : decode cX8_at 28 = .ok (.invokevirtual 151, 3) := by decide +kernel
theorem dX8_at_31 : decode cX8_at 31 = .ok (.ireturn, 1) := by decide +kernel
theorem dX8_tear_0 : decode cX8_tear 0 = .ok (.iload_n 1, 1) := by decide +kernel
theorem dX8_tear_1 : decode cX8_tear 1 = .ok (.invokestatic 139, 3) := by decide +kernel
theorem dX8_tear_4 : decode cX8_tear 4 = .ok (.ifCond .ne 5, 3) := by decide +kernel
theorem dX8_tear_7 : decode cX8_tear 7 = .ok (.iconst (-1), 1) := by decide +kernel
theorem dX8_tear_8 : decode cX8_tear 8 = .ok (.ireturn, 1) := by decide +kernel
theorem dX8_tear_9 : decode cX8_tear 9 = .ok (.aload_n 0, 1) := by decide +kernel
theorem dX8_tear_10 : decode cX8_tear 10 = .ok (.getfield 7, 3) := by decide +kernel
theorem dX8_tear_13 : decode cX8_tear 13 = .ok (.iload_n 1, 1) := by decide +kernel
theorem dX8_tear_14 : decode cX8_tear 14 = .ok (.iaload, 1) := by decide +kernel
theorem dX8_tear_15 : decode cX8_tear 15 = .ok (.ifCond .ge 9, 3) := by decide +kernel
theorem dX8_tear_18 : decode cX8_tear 18 = .ok (.aload_n 0, 1) := by decide +kernel
theorem dX8_tear_19 : decode cX8_tear 19 = .ok (.iconst 1, 1) := by decide +kernel
theorem dX8_tear_20 : decode cX8_tear 20 = .ok (.invokevirtual 143, 3) := by decide +kernel
theorem dX8_tear_23 : decode cX8_tear 23 = .ok (.ireturn, 1) := by decide +kernel
theorem dX8_tear_24 : decode cX8_tear 24 = .ok (.aload_n 0, 1) := by decide +kernel
theorem dX8_tear_25 : decode cX8_tear 25 = .ok (.getfield 7, 3) := by decide +kernel
theorem dX8_tear_28 : decode cX8_tear 28 = .ok (.iload_n 1, 1) := by decide +kernel
theorem dX8_tear_29 : decode cX8_tear 29 = .ok (.iconst (-1), 1) := by decide +kernel
theorem dX8_tear_30 : decode cX8_tear 30 = .ok (.iastore, 1) := by decide +kernel
theorem dX8_tear_31 : decode cX8_tear 31 = .ok (.iconst 1, 1) := by decide +kernel
theorem dX8_tear_32 : decode cX8_tear 32 = .ok (.ireturn, 1) := by decide +kernel
theorem dX8_copy_0 : decode cX8_copy 0 = .ok (.iload_n 1, 1) := by decide +kernel
theorem dX8_copy_1 : decode cX8_copy 1 = .ok (.invokestatic 139, 3) := by decide +kernel
theorem dX8_copy_4 : decode cX8_copy 4 = .ok (.ifCond .eq 10, 3) := by decide +kernel
theorem dX8_copy_7 : decode cX8_copy 7 = .ok (.iload_n 3, 1) := by decide +kernel
theorem dX8_copy_8 : decode cX8_copy 8 = .ok (.invokestatic 139, 3) := by decide +kernel
theorem dX8_copy_11 : decode cX8_copy 11 = .ok (.ifCond .ne 5, 3) := by decide +kernel
theorem dX8_copy_14 : decode cX8_copy 14 = .ok (.iconst (-1), 1) := by decide +kernel
theorem dX8_copy_15 : decode cX8_copy 15 = .ok (.ireturn, 1) := by decide +kernel
theorem dX8_copy_16 : decode cX8_copy 16 = .ok (.iload 5, 2) := by decide +kernel
theorem dX8_copy_18 : decode cX8_copy 18 = .ok (.ifCond .ge 9, 3) := by decide +kernel
theorem dX8_copy_21 : decode cX8_copy 21 = .ok (.aload_n 0, 1) := by decide +kernel
theorem dX8_copy_22 : decode cX8_copy 22 = .ok (.iconst 5, 1) := by decide +kernel
theorem dX8_copy_23 : decode cX8_copy 23 = .ok (.invokevirtual 143, 3) := by decide +kernel
theorem dX8_copy_26 : decode cX8_copy 26 = .ok (.ireturn, 1) := by decide +kernel
theorem dX8_copy_27 : decode cX8_copy 27 = .ok (.aload_n 0, 1) := by decide +kernel
theorem dX8_copy_28 : decode cX8_copy 28 = .ok (.getfield 7, 3) := by decide +kernel
theorem dX8_copy_31 : decode cX8_copy 31 = .ok (.iload_n 1, 1) := by decide +kernel
theorem dX8_copy_32 : decode cX8_copy 32 = .ok (.iaload, 1) := by decide +kernel
theorem dX8_copy_33 : decode cX8_copy 33 = .ok (.ifCond .lt 12, 3) := by decide +kernel
theorem dX8_copy_36 : decode cX8_copy 36 = .ok (.aload_n 0, 1) := by decide +kernel
theorem dX8_copy_37 : decode cX8_copy 37 = .ok (.getfield 7, 3) := by decide +kernel
theorem dX8_copy_40 : decode cX8_copy 40 = .ok (.iload_n 3, 1) := by decide +kernel
theorem dX8_copy_41 : decode cX8_copy 41 = .ok (.iaload, 1) := by decide +kernel
theorem dX8_copy_42 : decode cX8_copy 42 = .ok (.ifCond .ge 9, 3) := by decide +kernel
theorem dX8_copy_45 : decode cX8_copy 45 = .ok (.aload_n 0, 1) := by decide +kernel
theorem dX8_copy_46 : decode cX8_copy 46 = .ok (.iconst 1, 1) := by decide +kernel
theorem dX8_copy_47 : decode cX8_copy 47 = .ok (.invokevirtual 143, 3) := by decide +kernel
theorem dX8_copy_50 : decode cX8_copy 50 = .ok (.ireturn, 1) := by decide +kernel
theorem dX8_copy_51 : decode cX8_copy 51 = .ok (.iload_n 2, 1) := by decide +kernel
theorem dX8_copy_52 : decode cX8_copy 52 = .ok (.i2l, 1) := by decide +kernel
theorem dX8_copy_53 : decode cX8_copy 53 = .ok (.lconst 0, 1) := by decide +kernel
theorem dX8_copy_54 : decode cX8_copy 54 = .ok (.aload_n 0, 1) := by decide +kernel
theorem dX8_copy_55 : decode cX8_copy 55 = .ok (.getfield 7, 3) := by decide +kernel
theorem dX8_copy_58 : decode cX8_copy 58 = .ok (.iload_n 1, 1) := by decide +kernel
theorem dX8_copy_59 : decode cX8_copy 59 = .ok (.iaload, 1) := by decide +kernel
theorem dX8_copy_60 : decode cX8_copy 60 = .ok (.i2l, 1) := by decide +kernel
theorem dX8_copy_61 : decode cX8_copy 61 = .ok (.iload 5, 2) := by decide +kernel
theorem dX8_copy_63 : decode cX8_copy 63 = .ok (.i2l, 1) := by decide +kernel
theorem dX8_copy_64 : decode cX8_copy 64 = .ok (.lsub, 1) := by decide +kernel
theorem dX8_copy_65 : decode cX8_copy 65 = .ok (.invokestatic 133, 3) := by decide +kernel
theorem dX8_copy_68 : decode cX8_copy 68 = .ok (.ifCond .eq 24, 3) := by decide +kernel
theorem dX8_copy_71 : decode cX8_copy 71 = .ok (.iload 4, 2) := by decide +kernel
theorem dX8_copy_73 : decode cX8_copy 73 = .ok (.i2l, 1) := by decide +kernel
theorem dX8_copy_74 : decode cX8_copy 74 = .ok (.lconst 0, 1) := by decide +kernel
theorem dX8_copy_75 : decode cX8_copy 75 = .ok (.aload_n 0, 1) := by decide +kernel
theorem dX8_copy_76 : decode cX8_copy 76 = .ok (.getfield 7, 3) := by decide +kernel
theorem dX8_copy_79 : decode cX8_copy 79 = .ok (.iload_n 3, 1) := by decide +kernel
theorem dX8_copy_80 : decode cX8_copy 80 = .ok (.iaload, 1) := by decide +kernel
theorem dX8_copy_81 : decode cX8_copy 81 = .ok (.i2l, 1) := by decide +kernel
theorem dX8_copy_82 : decode cX8_copy 82 = .ok (.iload 5, 2) := by decide +kernel
theorem dX8_copy_84 : decode cX8_copy 84 = .ok (.i2l, 1) := by decide +kernel
theorem dX8_copy_85 : decode cX8_copy 85 = .ok (.lsub, 1) := by decide +kernel
theorem dX8_copy_86 : decode cX8_copy 86 = .ok (.invokestatic 133, 3) := by decide +kernel
theorem dX8_copy_89 : decode cX8_copy 89 = .ok (.ifCond .ne 9, 3) := by decide +kernel
theorem dX8_copy_92 : decode cX8_copy 92 = .ok (.aload_n 0, 1) := by decide +kernel
theorem dX8_copy_93 : decode cX8_copy 93 = .ok (.iconst 2, 1) := by decide +kernel
theorem dX8_copy_94 : decode cX8_copy 94 = .ok (.invokevirtual 143, 3) := by decide +kernel
theorem dX8_copy_97 : decode cX8_copy 97 = .ok (.ireturn, 1) := by decide +kernel
theorem dX8_copy_98 : decode cX8_copy 98 = .ok (.iconst 0, 1) := by decide +kernel
theorem dX8_copy_99 : decode cX8_copy 99 = .ok (.istore 6, 2) := by decide +kernel
theorem dX8_copy_101 : decode cX8_copy 101 = .ok (.iload 6, 2) := by decide +kernel
theorem dX8_copy_103 : decode cX8_copy 103 = .ok (.iload 5, 2) := by decide +kernel
theorem dX8_copy_105 : decode cX8_copy 105 = .ok (.if_icmp .ge 30, 3) := by decide +kernel
theorem dX8_copy_108 : decode cX8_copy 108 = .ok (.aload_n 0, 1) := by decide +kernel
theorem dX8_copy_109 : decode cX8_copy 109 = .ok (.getfield 62, 3) := by decide +kernel
theorem dX8_copy_112 : decode cX8_copy 112 = .ok (.iload 6, 2) := by decide +kernel
theorem dX8_copy_114 : decode cX8_copy 114 = .ok (.aload_n 0, 1) := by decide +kernel
theorem dX8_copy_115 : decode cX8_copy 115 = .ok (.getfield 13, 3) := by decide +kernel
theorem dX8_copy_118 : decode cX8_copy 118 = .ok (.bipush 40, 2) := by decide +kernel
theorem dX8_copy_120 : decode cX8_copy 120 = .ok (.iload_n 1, 1) := by decide +kernel
theorem dX8_copy_121 : decode cX8_copy 121 = .ok (.imul, 1) := by decide +kernel
theorem dX8_copy_122 : decode cX8_copy 122 = .ok (.iload_n 2, 1) := by decide +kernel
theorem dX8_copy_123 : decode cX8_copy 123 = .ok (.iadd, 1) := by decide +kernel
theorem dX8_copy_124 : decode cX8_copy 124 = .ok (.iload 6, 2) := by decide +kernel
theorem dX8_copy_126 : decode cX8_copy 126 = .ok (.iadd, 1) := by decide +kernel
theorem dX8_copy_127 : decode cX8_copy 127 = .ok (.iaload, 1) := by decide +kernel
theorem dX8_copy_128 : decode cX8_copy 128 = .ok (.iastore, 1) := by decide +kernel
theorem dX8_copy_129 : decode cX8_copy 129 = .ok (.iinc 6 1, 3) := by decide +kernel
theorem dX8_copy_132 : decode cX8_copy 132 = .ok (.goto (-31), 3) := by decide +kernel
theorem dX8_copy_135 : decode cX8_copy 135 = .ok (.iconst 0, 1) := by decide +kernel
theorem dX8_copy_136 : decode cX8_copy 136 = .ok (.istore 6, 2) := by decide +kernel
theorem dX8_copy_138 : decode cX8_copy 138 = .ok (.iload 6, 2) := by decide +kernel
theorem dX8_copy_140 : decode cX8_copy 140 = .ok (.iload 5, 2) := by decide +kernel
theorem dX8_copy_142 : decode cX8_copy 142 = .ok (.if_icmp .ge 31, 3) := by decide +kernel
theorem dX8_copy_145 : decode cX8_copy 145 = .ok (.aload_n 0, 1) := by decide +kernel
theorem dX8_copy_146 : decode cX8_copy 146 = .ok (.getfield 13, 3) := by decide +kernel
theorem dX8_copy_149 : decode cX8_copy 149 = .ok (.bipush 40, 2) := by decide +kernel
theorem dX8_copy_151 : decode cX8_copy 151 = .ok (.iload_n 3, 1) := by decide +kernel
theorem dX8_copy_152 : decode cX8_copy 152 = .ok (.imul, 1) := by decide +kernel
theorem dX8_copy_153 : decode cX8_copy 153 = .ok (.iload 4, 2) := by decide +kernel
theorem dX8_copy_155 : decode cX8_copy 155 = .ok (.iadd, 1) := by decide +kernel
theorem dX8_copy_156 : decode cX8_copy 156 = .ok (.iload 6, 2) := by decide +kernel
theorem dX8_copy_158 : decode cX8_copy 158 = .ok (.iadd, 1) := by decide +kernel
theorem dX8_copy_159 : decode cX8_copy 159 = .ok (.aload_n 0, 1) := by decide +kernel
theorem dX8_copy_160 : decode cX8_copy 160 = .ok (.getfield 62, 3) := by decide +kernel
theorem dX8_copy_163 : decode cX8_copy 163 = .ok (.iload 6, 2) := by decide +kernel
theorem dX8_copy_165 : decode cX8_copy 165 = .ok (.iaload, 1) := by decide +kernel
theorem dX8_copy_166 : decode cX8_copy 166 = .ok (.iastore, 1) := by decide +kernel
theorem dX8_copy_167 : decode cX8_copy 167 = .ok (.iinc 6 1, 3) := by decide +kernel
theorem dX8_copy_170 : decode cX8_copy 170 = .ok (.goto (-32), 3) := by decide +kernel
theorem dX8_copy_173 : decode cX8_copy 173 = .ok (.iconst 1, 1) := by decide +kernel
theorem dX8_copy_174 : decode cX8_copy 174 = .ok (.ireturn, 1) := by decide +kernel
theorem dX8_mean_0 : decode cX8_mean 0 = .ok (.iload_n 1, 1) := by decide +kernel
theorem dX8_mean_1 : decode cX8_mean 1 = .ok (.invokestatic 139, 3) := by decide +kernel
theorem dX8_mean_4 : decode cX8_mean 4 = .ok (.ifCond .ne 5, 3) := by decide +kernel
theorem dX8_mean_7 : decode cX8_mean 7 = .ok (.iconst (-1), 1) := by decide +kernel
theorem dX8_mean_8 : decode cX8_mean 8 = .ok (.ireturn, 1) := by decide +kernel
theorem dX8_mean_9 : decode cX8_mean 9 = .ok (.aload_n 0, 1) := by decide +kernel
theorem dX8_mean_10 : decode cX8_mean 10 = .ok (.getfield 7, 3) := by decide +kernel
theorem dX8_mean_13 : decode cX8_mean 13 = .ok (.iload_n 1, 1) := by decide +kernel
theorem dX8_mean_14 : decode cX8_mean 14 = .ok (.iaload, 1) := by decide +kernel
theorem dX8_mean_15 : decode cX8_mean 15 = .ok (.ifCond .ge 9, 3) := by decide +kernel
theorem dX8_mean_18 : decode cX8_mean 18 = .ok (.aload_n 0, 1) := by decide +kernel
theorem dX8_mean_19 : decode cX8_mean 19 = .ok (.iconst 1, 1) := by decide +kernel
theorem dX8_mean_20 : decode cX8_mean 20 = .ok (.invokevirtual 143, 3) := by decide +kernel
theorem dX8_mean_23 : decode cX8_mean 23 = .ok (.ireturn, 1) := by decide +kernel
theorem dX8_mean_24 : decode cX8_mean 24 = .ok (.aload_n 0, 1) := by decide +kernel
theorem dX8_mean_25 : decode cX8_mean 25 = .ok (.getfield 7, 3) := by decide +kernel
theorem dX8_mean_28 : decode cX8_mean 28 = .ok (.iload_n 1, 1) := by decide +kernel
theorem dX8_mean_29 : decode cX8_mean 29 = .ok (.iaload, 1) := by decide +kernel
theorem dX8_mean_30 : decode cX8_mean 30 = .ok (.ifCond .ne 9, 3) := by decide +kernel
theorem dX8_mean_33 : decode cX8_mean 33 = .ok (.aload_n 0, 1) := by decide +kernel
theorem dX8_mean_34 : decode cX8_mean 34 = .ok (.iconst 4, 1) := by decide +kernel
theorem dX8_mean_35 : decode cX8_mean 35 = .ok (.invokevirtual 143, 3) := by decide +kernel
theorem dX8_mean_38 : decode cX8_mean 38 = .ok (.ireturn, 1) := by decide +kernel
theorem dX8_mean_39 : decode cX8_mean 39 = .ok (.lconst 0, 1) := by decide +kernel
theorem dX8_mean_40 : decode cX8_mean 40 = .ok (.lstore_n 2, 1) := by decide +kernel
theorem dX8_mean_41 : decode cX8_mean 41 = .ok (.iconst 0, 1) := by decide +kernel
theorem dX8_mean_42 : decode cX8_mean 42 = .ok (.istore 4, 2) := by decide +kernel
theorem dX8_mean_44 : decode cX8_mean 44 = .ok (.iload 4, 2) := by decide +kernel
theorem dX8_mean_46 : decode cX8_mean 46 = .ok (.aload_n 0, 1) := by decide +kernel
theorem dX8_mean_47 : decode cX8_mean 47 = .ok (.getfield 7, 3) := by decide +kernel
theorem dX8_mean_50 : decode cX8_mean 50 = .ok (.iload_n 1, 1) := by decide +kernel
theorem dX8_mean_51 : decode cX8_mean 51 = .ok (.iaload, 1) := by decide +kernel
theorem dX8_mean_52 : decode cX8_mean 52 = .ok (.if_icmp .ge 25, 3) := by decide +kernel
theorem dX8_mean_55 : decode cX8_mean 55 = .ok (.lload_n 2, 1) := by decide +kernel
theorem dX8_mean_56 : decode cX8_mean 56 = .ok (.aload_n 0, 1) := by decide +kernel
theorem dX8_mean_57 : decode cX8_mean 57 = .ok (.getfield 13, 3) := by decide +kernel
theorem dX8_mean_60 : decode cX8_mean 60 = .ok (.bipush 40, 2) := by decide +kernel
theorem dX8_mean_62 : decode cX8_mean 62 = .ok (.iload_n 1, 1) := by decide +kernel
theorem dX8_mean_63 : decode cX8_mean 63 = .ok (.imul, 1) := by decide +kernel
theorem dX8_mean_64 : decode cX8_mean 64 = .ok (.iload 4, 2) := by decide +kernel
theorem dX8_mean_66 : decode cX8_mean 66 = .ok (.iadd, 1) := by decide +kernel
theorem dX8_mean_67 : decode cX8_mean 67 = .ok (.iaload, 1) := by decide +kernel
theorem dX8_mean_68 : decode cX8_mean 68 = .ok (.i2l, 1) := by decide +kernel
theorem dX8_mean_69 : decode cX8_mean 69 = .ok (.ladd, 1) := by decide +kernel
theorem dX8_mean_70 : decode cX8_mean 70 = .ok (.lstore_n 2, 1) := by decide +kernel
theorem dX8_mean_71 : decode cX8_mean 71 = .ok (.iinc 4 1, 3) := by decide +kernel
theorem dX8_mean_74 : decode cX8_mean 74 = .ok (.goto (-30), 3) := by decide +kernel
theorem dX8_mean_77 : decode cX8_mean 77 = .ok (.aload_n 0, 1) := by decide +kernel
theorem dX8_mean_78 : decode cX8_mean 78 = .ok (.iconst 1, 1) := by decide +kernel
theorem dX8_mean_79 : decode cX8_mean 79 = .ok (.lload_n 2, 1) := by decide +kernel
theorem dX8_mean_80 : decode cX8_mean 80 = .ok (.aload_n 0, 1) := by decide +kernel
theorem dX8_mean_81 : decode cX8_mean 81 = .ok (.getfield 7, 3) := by decide +kernel
theorem dX8_mean_84 : decode cX8_mean 84 = .ok (.iload_n 1, 1) := by decide +kernel
theorem dX8_mean_85 : decode cX8_mean 85 = .ok (.iaload, 1) := by decide +kernel
theorem dX8_mean_86 : decode cX8_mean 86 = .ok (.i2l, 1) := by decide +kernel
theorem dX8_mean_87 : decode cX8_mean 87 = .ok (.ldiv, 1) := by decide +kernel
theorem dX8_mean_88 : decode cX8_mean 88 = .ok (.l2i, 1) := by decide +kernel
theorem dX8_mean_89 : decode cX8_mean 89 = .ok (.invokevirtual 151, 3) := by decide +kernel
theorem dX8_mean_92 : decode cX8_mean 92 = .ok (.ireturn, 1) := by decide +kernel
theorem dX8_text_0 : decode cX8_text 0 = .ok (.iload_n 1, 1) := by decide +kernel
theorem dX8_text_1 : decode cX8_text 1 = .ok (.invokestatic 154, 3) := by decide +kernel
theorem dX8_text_4 : decode cX8_text 4 = .ok (.ifCond .eq 9, 3) := by decide +kernel
theorem dX8_text_7 : decode cX8_text 7 = .ok (.iload_n 2, 1) := by decide +kernel
theorem dX8_text_8 : decode cX8_text 8 = .ok (.bipush 80, 2) := by decide +kernel
theorem dX8_text_10 : decode cX8_text 10 = .ok (.if_icmp .le 5, 3) := by decide +kernel
theorem dX8_text_13 : decode cX8_text 13 = .ok (.iconst (-1), 1) := by decide +kernel
theorem dX8_text_14 : decode cX8_text 14 = .ok (.ireturn, 1) := by decide +kernel
theorem dX8_text_15 : decode cX8_text 15 = .ok (.iload_n 2, 1) := by decide +kernel
theorem dX8_text_16 : decode cX8_text 16 = .ok (.ifCond .ge 9, 3) := by decide +kernel
theorem dX8_text_19 : decode cX8_text 19 = .ok (.aload_n 0, 1) := by decide +kernel
theorem dX8_text_20 : decode cX8_text 20 = .ok (.iconst 5, 1) := by decide +kernel
theorem dX8_text_21 : decode cX8_text 21 = .ok (.invokevirtual 143, 3) := by decide +kernel
theorem dX8_text_24 : decode cX8_text 24 = .ok (.ireturn, 1) := by decide +kernel
theorem dX8_text_25 : decode cX8_text 25 = .ok (.aload_n 0, 1) := by decide +kernel
theorem dX8_text_26 : decode cX8_text 26 = .ok (.getfield 16, 3) := by decide +kernel
theorem dX8_text_29 : decode cX8_text 29 = .ok (.iload_n 1, 1) := by decide +kernel
theorem dX8_text_30 : decode cX8_text 30 = .ok (.iload_n 2, 1) := by decide +kernel
theorem dX8_text_31 : decode cX8_text 31 = .ok (.iastore, 1) := by decide +kernel
theorem dX8_text_32 : decode cX8_text 32 = .ok (.iconst 0, 1) := by decide +kernel
theorem dX8_text_33 : decode cX8_text 33 = .ok (.istore_n 3, 1) := by decide +kernel
theorem dX8_text_34 : decode cX8_text 34 = .ok (.iload_n 3, 1) := by decide +kernel
theorem dX8_text_35 : decode cX8_text 35 = .ok (.bipush 80, 2) := by decide +kernel
theorem dX8_text_37 : decode cX8_text 37 = .ok (.if_icmp .ge 22, 3) := by decide +kernel
theorem dX8_text_40 : decode cX8_text 40 = .ok (.aload_n 0, 1) := by decide +kernel
theorem dX8_text_41 : decode cX8_text 41 = .ok (.getfield 19, 3) := by decide +kernel
theorem dX8_text_44 : decode cX8_text 44 = .ok (.bipush 80, 2) := by decide +kernel
theorem dX8_text_46 : decode cX8_text 46 = .ok (.iload_n 1, 1) := by decide +kernel
theorem dX8_text_47 : decode cX8_text 47 = .ok (.imul, 1) := by decide +kernel
theorem dX8_text_48 : decode cX8_text 48 = .ok (.iload_n 3, 1) := by decide +kernel
theorem dX8_text_49 : decode cX8_text 49 = .ok (.iadd, 1) := by decide +kernel
theorem dX8_text_50 : decode cX8_text 50 = .ok (.bipush 32, 2) := by decide +kernel
theorem dX8_text_52 : decode cX8_text 52 = .ok (.iastore, 1) := by decide +kernel
theorem dX8_text_53 : decode cX8_text 53 = .ok (.iinc 3 1, 3) := by decide +kernel
theorem dX8_text_56 : decode cX8_text 56 = .ok (.goto (-22), 3) := by decide +kernel
theorem dX8_text_59 : decode cX8_text 59 = .ok (.iload_n 2, 1) := by decide +kernel
theorem dX8_text_60 : decode cX8_text 60 = .ok (.ireturn, 1) := by decide +kernel
theorem dX8_put_0 : decode cX8_put 0 = .ok (.iload_n 1, 1) := by decide +kernel
theorem dX8_put_1 : decode cX8_put 1 = .ok (.invokestatic 154, 3) := by decide +kernel
theorem dX8_put_4 : decode cX8_put 4 = .ok (.ifCond .ne 5, 3) := by decide +kernel
theorem dX8_put_7 : decode cX8_put 7 = .ok (.iconst (-1), 1) := by decide +kernel
theorem dX8_put_8 : decode cX8_put 8 = .ok (.ireturn, 1) := by decide +kernel
theorem dX8_put_9 : decode cX8_put 9 = .ok (.aload_n 0, 1) := by decide +kernel
theorem dX8_put_10 : decode cX8_put 10 = .ok (.getfield 16, 3) := by decide +kernel
theorem dX8_put_13 : decode cX8_put 13 = .ok (.iload_n 1, 1) := by decide +kernel
theorem dX8_put_14 : decode cX8_put 14 = .ok (.iaload, 1) := by decide +kernel
theorem dX8_put_15 : decode cX8_put 15 = .ok (.ifCond .ge 9, 3) := by decide +kernel
theorem dX8_put_18 : decode cX8_put 18 = .ok (.aload_n 0, 1) := by decide +kernel
theorem dX8_put_19 : decode cX8_put 19 = .ok (.iconst 1, 1) := by decide +kernel
theorem dX8_put_20 : decode cX8_put 20 = .ok (.invokevirtual 143, 3) := by decide +kernel
theorem dX8_put_23 : decode cX8_put 23 = .ok (.ireturn, 1) := by decide +kernel
theorem dX8_put_24 : decode cX8_put 24 = .ok (.iload_n 2, 1) := by decide +kernel
theorem dX8_put_25 : decode cX8_put 25 = .ok (.i2l, 1) := by decide +kernel
theorem dX8_put_26 : decode cX8_put 26 = .ok (.lconst 0, 1) := by decide +kernel
theorem dX8_put_27 : decode cX8_put 27 = .ok (.aload_n 0, 1) := by decide +kernel
theorem dX8_put_28 : decode cX8_put 28 = .ok (.getfield 16, 3) := by decide +kernel
theorem dX8_put_31 : decode cX8_put 31 = .ok (.iload_n 1, 1) := by decide +kernel
theorem dX8_put_32 : decode cX8_put 32 = .ok (.iaload, 1) := by decide +kernel
theorem dX8_put_33 : decode cX8_put 33 = .ok (.iconst 1, 1) := by decide +kernel
theorem dX8_put_34 : decode cX8_put 34 = .ok (.isub, 1) := by decide +kernel
theorem dX8_put_35 : decode cX8_put 35 = .ok (.i2l, 1) := by decide +kernel
theorem dX8_put_36 : decode cX8_put 36 = .ok (.invokestatic 133, 3) := by decide +kernel
theorem dX8_put_39 : decode cX8_put 39 = .ok (.ifCond .ne 9, 3) := by decide +kernel
theorem dX8_put_42 : decode cX8_put 42 = .ok (.aload_n 0, 1) := by decide +kernel
theorem dX8_put_43 : decode cX8_put 43 = .ok (.iconst 2, 1) := by decide +kernel
theorem dX8_put_44 : decode cX8_put 44 = .ok (.invokevirtual 143, 3) := by decide +kernel
theorem dX8_put_47 : decode cX8_put 47 = .ok (.ireturn, 1) := by decide +kernel
theorem dX8_put_48 : decode cX8_put 48 = .ok (.aload_n 0, 1) := by decide +kernel
theorem dX8_put_49 : decode cX8_put 49 = .ok (.getfield 19, 3) := by decide +kernel
theorem dX8_put_52 : decode cX8_put 52 = .ok (.bipush 80, 2) := by decide +kernel
theorem dX8_put_54 : decode cX8_put 54 = .ok (.iload_n 1, 1) := by decide +kernel
theorem dX8_put_55 : decode cX8_put 55 = .ok (.imul, 1) := by decide +kernel
theorem dX8_put_56 : decode cX8_put 56 = .ok (.iload_n 2, 1) := by decide +kernel
theorem dX8_put_57 : decode cX8_put 57 = .ok (.iadd, 1) := by decide +kernel
theorem dX8_put_58 : decode cX8_put 58 = .ok (.iaload, 1) := by decide +kernel
theorem dX8_put_59 : decode cX8_put 59 = .ok (.istore 4, 2) := by decide +kernel
theorem dX8_put_61 : decode cX8_put 61 = .ok (.aload_n 0, 1) := by decide +kernel
theorem dX8_put_62 : decode cX8_put 62 = .ok (.getfield 19, 3) := by decide +kernel
theorem dX8_put_65 : decode cX8_put 65 = .ok (.bipush 80, 2) := by decide +kernel
theorem dX8_put_67 : decode cX8_put 67 = .ok (.iload_n 1, 1) := by decide +kernel
theorem dX8_put_68 : decode cX8_put 68 = .ok (.imul, 1) := by decide +kernel
theorem dX8_put_69 : decode cX8_put 69 = .ok (.iload_n 2, 1) := by decide +kernel
theorem dX8_put_70 : decode cX8_put 70 = .ok (.iadd, 1) := by decide +kernel
theorem dX8_put_71 : decode cX8_put 71 = .ok (.iload_n 3, 1) := by decide +kernel
theorem dX8_put_72 : decode cX8_put 72 = .ok (.bipush 24, 2) := by decide +kernel
theorem dX8_put_74 : decode cX8_put 74 = .ok (.ishl, 1) := by decide +kernel
theorem dX8_put_75 : decode cX8_put 75 = .ok (.bipush 24, 2) := by decide +kernel
theorem dX8_put_77 : decode cX8_put 77 = .ok (.ishr, 1) := by decide +kernel
theorem dX8_put_78 : decode cX8_put 78 = .ok (.iastore, 1) := by decide +kernel
theorem dX8_put_79 : decode cX8_put 79 = .ok (.iload 4, 2) := by decide +kernel
theorem dX8_put_81 : decode cX8_put 81 = .ok (.sipush 1000, 3) := by decide +kernel
theorem dX8_put_84 : decode cX8_put 84 = .ok (.iadd, 1) := by decide +kernel
theorem dX8_put_85 : decode cX8_put 85 = .ok (.ireturn, 1) := by decide +kernel
theorem dX8_isEnd_0 : decode cX8_isEnd 0 = .ok (.aload_n 0, 1) := by decide +kernel
theorem dX8_isEnd_1 : decode cX8_isEnd 1 = .ok (.getfield 157, 3) := by decide +kernel
theorem dX8_isEnd_4 : decode cX8_isEnd 4 = .ok (.aload_n 0, 1) := by decide +kernel
theorem dX8_isEnd_5 : decode cX8_isEnd 5 = .ok (.getfield 16, 3) := by decide +kernel
theorem dX8_isEnd_8 : decode cX8_isEnd 8 = .ok (.iload_n 1, 1) := by decide +kernel
theorem dX8_isEnd_9 : decode cX8_isEnd 9 = .ok (.iaload, 1) := by decide +kernel
theorem dX8_isEnd_10 : decode cX8_isEnd 10 = .ok (.if_icmp .lt 7, 3) := by decide +kernel
theorem dX8_isEnd_13 : decode cX8_isEnd 13 = .ok (.iconst 1, 1) := by decide +kernel
theorem dX8_isEnd_14 : decode cX8_isEnd 14 = .ok (.goto 4, 3) := by decide +kernel
theorem dX8_isEnd_17 : decode cX8_isEnd 17 = .ok (.iconst 0, 1) := by decide +kernel
theorem dX8_isEnd_18 : decode cX8_isEnd 18 = .ok (.ireturn, 1) := by decide +kernel
theorem dX8_byteAt_0 : decode cX8_byteAt 0 = .ok (.aload_n 0, 1) := by decide +kernel
theorem dX8_byteAt_1 : decode cX8_byteAt 1 = .ok (.iload_n 1, 1) := by decide +kernel
theorem dX8_byteAt_2 : decode cX8_byteAt 2 = .ok (.invokevirtual 160, 3) := by decide +kernel
theorem dX8_byteAt_5 : decode cX8_byteAt 5 = .ok (.ifCond .eq 7, 3) := by decide +kernel
theorem dX8_byteAt_8 : decode cX8_byteAt 8 = .ok (.iconst 0, 1) := by decide +kernel
theorem dX8_byteAt_9 : decode cX8_byteAt 9 = .ok (.goto 17, 3) := by decide +kernel
theorem dX8_byteAt_12 : decode cX8_byteAt 12 = .ok (.aload_n 0, 1) := by decide +kernel
theorem dX8_byteAt_13 : decode cX8_byteAt 13 = .ok (.getfield 19, 3) := by decide +kernel
theorem dX8_byteAt_16 : decode cX8_byteAt 16 = .ok (.bipush 80, 2) := by decide +kernel
theorem dX8_byteAt_18 : decode cX8_byteAt 18 = .ok (.iload_n 1, 1) := by decide +kernel
theorem dX8_byteAt_19 : decode cX8_byteAt 19 = .ok (.imul, 1) := by decide +kernel
theorem dX8_byteAt_20 : decode cX8_byteAt 20 = .ok (.aload_n 0, 1) := by decide +kernel
theorem dX8_byteAt_21 : decode cX8_byteAt 21 = .ok (.getfield 157, 3) := by decide +kernel
theorem dX8_byteAt_24 : decode cX8_byteAt 24 = .ok (.iadd, 1) := by decide +kernel
theorem dX8_byteAt_25 : decode cX8_byteAt 25 = .ok (.iaload, 1) := by decide +kernel
theorem dX8_byteAt_26 : decode cX8_byteAt 26 = .ok (.ireturn, 1) := by decide +kernel
theorem dX8_skipBlanks_0 : decode cX8_skipBlanks 0 = .ok (.aload_n 0, 1) := by decide +kernel
theorem dX8_skipBlanks_1 : decode cX8_skipBlanks 1 = .ok (.iload_n 1, 1) := by decide +kernel
theorem dX8_skipBlanks_2 : decode cX8_skipBlanks 2 = .ok (.invokevirtual 160, 3) := by decide +kernel
theorem dX8_skipBlanks_5 : decode cX8_skipBlanks 5 = .ok (.ifCond .ne 26, 3) := by decide +kernel
theorem dX8_skipBlanks_8 : decode cX8_skipBlanks 8 = .ok (.aload_n 0, 1) := by decide +kernel
theorem dX8_skipBlanks_9 : decode cX8_skipBlanks 9 = .ok (.iload_n 1, 1) := by decide +kernel
theorem dX8_skipBlanks_10 : decode cX8_skipBlanks 10 = .ok (.invokevirtual 163, 3) := by decide +kernel
theorem dX8_skipBlanks_13 : decode cX8_skipBlanks 13 = .ok (.bipush 32, 2) := by decide +kernel
theorem dX8_skipBlanks_15 : decode cX8_skipBlanks 15 = .ok (.if_icmp .ne 16, 3) := by decide +kernel
theorem dX8_skipBlanks_18 : decode cX8_skipBlanks 18 = .ok (.aload_n 0, 1) := by decide +kernel
theorem dX8_skipBlanks_19 : decode cX8_skipBlanks 19 = .ok (.dup, 1) := by decide +kernel
theorem dX8_skipBlanks_20 : decode cX8_skipBlanks 20 = .ok (.getfield 157, 3) := by decide +kernel
theorem dX8_skipBlanks_23 : decode cX8_skipBlanks 23 = .ok (.iconst 1, 1) := by decide +kernel
theorem dX8_skipBlanks_24 : decode cX8_skipBlanks 24 = .ok (.iadd, 1) := by decide +kernel
theorem dX8_skipBlanks_25 : decode cX8_skipBlanks 25 = .ok (.putfield 157, 3) := by decide +kernel
theorem dX8_skipBlanks_28 : decode cX8_skipBlanks 28 = .ok (.goto (-28), 3) := by decide +kernel
theorem dX8_skipBlanks_31 : decode cX8_skipBlanks 31 = .ok (.return_, 1) := by decide +kernel
theorem dX8_kindBy_0 : decode cX8_kindBy 0 = .ok (.iload_n 0, 1) := by decide +kernel
theorem dX8_kindBy_1 : decode cX8_kindBy 1 = .ok (.bipush 110, 2) := by decide +kernel
theorem dX8_kindBy_3 : decode cX8_kindBy 3 = .ok (.if_icmp .ne 7, 3) := by decide +kernel
theorem dX8_kindBy_6 : decode cX8_kindBy 6 = .ok (.iconst 0, 1) := by decide +kernel
theorem dX8_kindBy_7 : decode cX8_kindBy 7 = .ok (.goto 54, 3) := by decide +kernel
theorem dX8_kindBy_10 : decode cX8_kindBy 10 = .ok (.iload_n 0, 1) := by decide +kernel
theorem dX8_kindBy_11 : decode cX8_kindBy 11 = .ok (.bipush 101, 2) := by decide +kernel
theorem dX8_kindBy_13 : decode cX8_kindBy 13 = .ok (.if_icmp .ne 7, 3) := by decide +kernel
theorem dX8_kindBy_16 : decode cX8_kindBy 16 = .ok (.iconst 1, 1) := by decide +kernel
theorem dX8_kindBy_17 : decode cX8_kindBy 17 = .ok (.goto 44, 3) := by decide +kernel
theorem dX8_kindBy_20 : decode cX8_kindBy 20 = .ok (.iload_n 0, 1) := by decide +kernel
theorem dX8_kindBy_21 : decode cX8_kindBy 21 = .ok (.bipush 99, 2) := by decide +kernel
theorem dX8_kindBy_23 : decode cX8_kindBy 23 = .ok (.if_icmp .ne 7, 3) := by decide +kernel
theorem dX8_kindBy_26 : decode cX8_kindBy 26 = .ok (.iconst 2, 1) := by decide +kernel
theorem dX8_kindBy_27 : decode cX8_kindBy 27 = .ok (.goto 34, 3) := by decide +kernel
theorem dX8_kindBy_30 : decode cX8_kindBy 30 = .ok (.iload_n 0, 1) := by decide +kernel
theorem dX8_kindBy_31 : decode cX8_kindBy 31 = .ok (.bipush 119, 2) := by decide +kernel
theorem dX8_kindBy_33 : decode cX8_kindBy 33 = .ok (.if_icmp .ne 7, 3) := by decide +kernel
theorem dX8_kindBy_36 : decode cX8_kindBy 36 = .ok (.iconst 3, 1) := by decide +kernel
theorem dX8_kindBy_37 : decode cX8_kindBy 37 = .ok (.goto 24, 3) := by decide +kernel
theorem dX8_kindBy_40 : decode cX8_kindBy 40 = .ok (.iload_n 0, 1) := by decide +kernel
theorem dX8_kindBy_41 : decode cX8_kindBy 41 = .ok (.bipush 111, 2) := by decide +kernel
theorem dX8_kindBy_43 : decode cX8_kindBy 43 = .ok (.if_icmp .ne 7, 3) := by decide +kernel
theorem dX8_kindBy_46 : decode cX8_kindBy 46 = .ok (.iconst 4, 1) := by decide +kernel
theorem dX8_kindBy_47 : decode cX8_kindBy 47 = .ok (.goto 14, 3) := by decide +kernel
theorem dX8_kindBy_50 : decode cX8_kindBy 50 = .ok (.iload_n 0, 1) := by decide +kernel
theorem dX8_kindBy_51 : decode cX8_kindBy 51 = .ok (.bipush 108, 2) := by decide +kernel
theorem dX8_kindBy_53 : decode cX8_kindBy 53 = .ok (.if_icmp .ne 7, 3) := by decide +kernel
theorem dX8_kindBy_56 : decode cX8_kindBy 56 = .ok (.iconst 5, 1) := by decide +kernel
theorem dX8_kindBy_57 : decode cX8_kindBy 57 = .ok (.goto 4, 3) := by decide +kernel
theorem dX8_kindBy_60 : decode cX8_kindBy 60 = .ok (.iconst (-1), 1) := by decide +kernel
theorem dX8_kindBy_61 : decode cX8_kindBy 61 = .ok (.ireturn, 1) := by decide +kernel
theorem dX8_figure_0 : decode cX8_figure 0 = .ok (.aload_n 0, 1) := by decide +kernel
theorem dX8_figure_1 : decode cX8_figure 1 = .ok (.iload_n 1, 1) := by decide +kernel
theorem dX8_figure_2 : decode cX8_figure 2 = .ok (.invokevirtual 163, 3) := by decide +kernel
theorem dX8_figure_5 : decode cX8_figure 5 = .ok (.bipush 48, 2) := by decide +kernel
theorem dX8_figure_7 : decode cX8_figure 7 = .ok (.isub, 1) := by decide +kernel
theorem dX8_figure_8 : decode cX8_figure 8 = .ok (.istore 4, 2) := by decide +kernel
theorem dX8_figure_10 : decode cX8_figure 10 = .ok (.aload_n 0, 1) := by decide +kernel
theorem dX8_figure_11 : decode cX8_figure 11 = .ok (.iload_n 1, 1) := by decide +kernel
theorem dX8_figure_12 : decode cX8_figure 12 = .ok (.invokevirtual 160, 3) := by decide +kernel
theorem dX8_figure_15 : decode cX8_figure 15 = .ok (.ifCond .ne 16, 3) := by decide +kernel
theorem dX8_figure_18 : decode cX8_figure 18 = .ok (.iload 4, 2) := by decide +kernel
theorem dX8_figure_20 : decode cX8_figure 20 = .ok (.i2l, 1) := by decide +kernel
theorem dX8_figure_21 : decode cX8_figure 21 = .ok (.iload_n 2, 1) := by decide +kernel
theorem dX8_figure_22 : decode cX8_figure 22 = .ok (.i2l, 1) := by decide +kernel
theorem dX8_figure_23 : decode cX8_figure 23 = .ok (.iload_n 3, 1) := by decide +kernel
theorem dX8_figure_24 : decode cX8_figure 24 = .ok (.i2l, 1) := by decide +kernel
theorem dX8_figure_25 : decode cX8_figure 25 = .ok (.invokestatic 133, 3) := by decide +kernel
theorem dX8_figure_28 : decode cX8_figure 28 = .ok (.ifCond .ne 5, 3) := by decide +kernel
theorem dX8_figure_31 : decode cX8_figure 31 = .ok (.iconst (-1), 1) := by decide +kernel
theorem dX8_figure_32 : decode cX8_figure 32 = .ok (.ireturn, 1) := by decide +kernel
theorem dX8_figure_33 : decode cX8_figure 33 = .ok (.aload_n 0, 1) := by decide +kernel
theorem dX8_figure_34 : decode cX8_figure 34 = .ok (.dup, 1) := by decide +kernel
theorem dX8_figure_35 : decode cX8_figure 35 = .ok (.getfield 157, 3) := by decide +kernel
theorem dX8_figure_38 : decode cX8_figure 38 = .ok (.iconst 1, 1) := by decide +kernel
theorem dX8_figure_39 : decode cX8_figure 39 = .ok (.iadd, 1) := by decide +kernel
theorem dX8_figure_40 : decode cX8_figure 40 = .ok (.putfield 157, 3) := by decide +kernel
theorem dX8_figure_43 : decode cX8_figure 43 = .ok (.iload 4, 2) := by decide +kernel
theorem dX8_figure_45 : decode cX8_figure 45 = .ok (.ireturn, 1) := by decide +kernel
theorem dX8_isFinal_0 : decode cX8_isFinal 0 = .ok (.iload_n 0, 1) := by decide +kernel
theorem dX8_isFinal_1 : decode cX8_isFinal 1 = .ok (.iconst 1, 1) := by decide +kernel
theorem dX8_isFinal_2 : decode cX8_isFinal 2 = .ok (.if_icmp .eq 8, 3) := by decide +kernel
theorem dX8_isFinal_5 : decode cX8_isFinal 5 = .ok (.iload_n 0, 1) := by decide +kernel
theorem dX8_isFinal_6 : decode cX8_isFinal 6 = .ok (.iconst 4, 1) := by decide +kernel
theorem dX8_isFinal_7 : decode cX8_isFinal 7 = .ok (.if_icmp .ne 7, 3) := by decide +kernel
theorem dX8_isFinal_10 : decode cX8_isFinal 10 = .ok (.iconst 1, 1) := by decide +kernel
theorem dX8_isFinal_11 : decode cX8_isFinal 11 = .ok (.goto 4, 3) := by decide +kernel
theorem dX8_isFinal_14 : decode cX8_isFinal 14 = .ok (.iconst 0, 1) := by decide +kernel
theorem dX8_isFinal_15 : decode cX8_isFinal 15 = .ok (.ireturn, 1) := by decide +kernel
theorem dX8_readNode_0 : decode cX8_readNode 0 = .ok (.aload_n 0, 1) := by decide +kernel
theorem dX8_readNode_1 : decode cX8_readNode 1 = .ok (.getfield 166, 3) := by decide +kernel
theorem dX8_readNode_4 : decode cX8_readNode 4 = .ok (.bipush 9, 2) := by decide +kernel
theorem dX8_readNode_6 : decode cX8_readNode 6 = .ok (.if_icmp .ne 5, 3) := by decide +kernel
theorem dX8_readNode_9 : decode cX8_readNode 9 = .ok (.iconst 0, 1) := by decide +kernel
theorem dX8_readNode_10 : decode cX8_readNode 10 = .ok (.ireturn, 1) := by decide +kernel
theorem dX8_readNode_11 : decode cX8_readNode 11 = .ok (.aload_n 0, 1) := by decide +kernel
theorem dX8_readNode_12 : decode cX8_readNode 12 = .ok (.dup, 1) := by decide +kernel
theorem dX8_readNode_13 : decode cX8_readNode 13 = .ok (.getfield 157, 3) := by decide +kernel
theorem dX8_readNode_16 : decode cX8_readNode 16 = .ok (.iconst 1, 1) := by decide +kernel
theorem dX8_readNode_17 : decode cX8_readNode 17 = .ok (.iadd, 1) := by decide +kernel
theorem dX8_readNode_18 : decode cX8_readNode 18 = .ok (.putfield 157, 3) := by decide +kernel
theorem dX8_readNode_21 : decode cX8_readNode 21 = .ok (.iload_n 2, 1) := by decide +kernel
theorem dX8_readNode_22 : decode cX8_readNode 22 = .ok (.invokestatic 169, 3) := by decide +kernel
theorem dX8_readNode_25 : decode cX8_readNode 25 = .ok (.ifCond .eq 13, 3) := by decide +kernel
theorem dX8_readNode_28 : decode cX8_readNode 28 = .ok (.aload_n 0, 1) := by decide +kernel
theorem dX8_readNode_29 : decode cX8_readNode 29 = .ok (.iload_n 1, 1) := by decide +kernel
theorem dX8_readNode_30 : decode cX8_readNode 30 = .ok (.iconst 0, 1) := by decide +kernel
theorem dX8_readNode_31 : decode cX8_readNode 31 = .ok (.iconst 5, 1) := by decide +kernel
theorem dX8_readNode_32 : decode cX8_readNode 32 = .ok (.invokevirtual 172, 3) := by decide +kernel
theorem dX8_readNode_35 : decode cX8_readNode 35 = .ok (.goto 4, 3) := by decide +kernel
theorem dX8_readNode_38 : decode cX8_readNode 38 = .ok (.iconst 0, 1) := by decide +kernel
theorem dX8_readNode_39 : decode cX8_readNode 39 = .ok (.istore_n 3, 1) := by decide +kernel
theorem dX8_readNode_40 : decode cX8_readNode 40 = .ok (.iload_n 3, 1) := by decide +kernel
theorem dX8_readNode_41 : decode cX8_readNode 41 = .ok (.ifCond .ge 5, 3) := by decide +kernel
theorem dX8_readNode_44 : decode cX8_readNode 44 = .ok (.iconst 0, 1) := by decide +kernel
theorem dX8_readNode_45 : decode cX8_readNode 45 = .ok (.ireturn, 1) := by decide +kernel
theorem dX8_readNode_46 : decode cX8_readNode 46 = .ok (.aload_n 0, 1) := by decide +kernel
theorem dX8_readNode_47 : decode cX8_readNode 47 = .ok (.getfield 65, 3) := by decide +kernel
theorem dX8_readNode_50 : decode cX8_readNode 50 = .ok (.aload_n 0, 1) := by decide +kernel
theorem dX8_readNode_51 : decode cX8_readNode 51 = .ok (.getfield 166, 3) := by decide +kernel
theorem dX8_readNode_54 : decode cX8_readNode 54 = .ok (.iload_n 2, 1) := by decide +kernel
theorem dX8_readNode_55 : decode cX8_readNode 55 = .ok (.iastore, 1) := by decide +kernel
theorem dX8_readNode_56 : decode cX8_readNode 56 = .ok (.aload_n 0, 1) := by decide +kernel
theorem dX8_readNode_57 : decode cX8_readNode 57 = .ok (.getfield 68, 3) := by decide +kernel
theorem dX8_readNode_60 : decode cX8_readNode 60 = .ok (.aload_n 0, 1) := by decide +kernel
theorem dX8_readNode_61 : decode cX8_readNode 61 = .ok (.getfield 166, 3) := by decide +kernel
theorem dX8_readNode_64 : decode cX8_readNode 64 = .ok (.iload_n 3, 1) := by decide +kernel
theorem dX8_readNode_65 : decode cX8_readNode 65 = .ok (.iastore, 1) := by decide +kernel
theorem dX8_readNode_66 : decode cX8_readNode 66 = .ok (.aload_n 0, 1) := by decide +kernel
theorem dX8_readNode_67 : decode cX8_readNode 67 = .ok (.dup, 1) := by decide +kernel
theorem dX8_readNode_68 : decode cX8_readNode 68 = .ok (.getfield 166, 3) := by decide +kernel
theorem dX8_readNode_71 : decode cX8_readNode 71 = .ok (.iconst 1, 1) := by decide +kernel
theorem dX8_readNode_72 : decode cX8_readNode 72 = .ok (.iadd, 1) := by decide +kernel
theorem dX8_readNode_73 : decode cX8_readNode 73 = .ok (.putfield 166, 3) := by decide +kernel
theorem dX8_readNode_76 : decode cX8_readNode 76 = .ok (.iconst 1, 1) := by decide +kernel
theorem dX8_readNode_77 : decode cX8_readNode 77 = .ok (.ireturn, 1) := by decide +kernel
theorem dX8_readFrom_0 : decode cX8_readFrom 0 = .ok (.iconst 0, 1) := by decide +kernel
theorem dX8_readFrom_1 : decode cX8_readFrom 1 = .ok (.istore_n 3, 1) := by decide +kernel
theorem dX8_readFrom_2 : decode cX8_readFrom 2 = .ok (.iconst 0, 1) := by decide +kernel
theorem dX8_readFrom_3 : decode cX8_readFrom 3 = .ok (.istore 4, 2) := by decide +kernel
theorem dX8_readFrom_5 : decode cX8_readFrom 5 = .ok (.iload 4, 2) := by decide +kernel
theorem dX8_readFrom_7 : decode cX8_readFrom 7 = .ok (.aload_n 0, 1) := by decide +kernel
theorem dX8_readFrom_8 : decode cX8_readFrom 8 = .ok (.getfield 176, 3) := by decide +kernel
theorem dX8_readFrom_11 : decode cX8_readFrom 11 = .ok (.if_icmp .ge 51, 3) := by decide +kernel
theorem dX8_readFrom_14 : decode cX8_readFrom 14 = .ok (.iload_n 3, 1) := by decide +kernel
theorem dX8_readFrom_15 : decode cX8_readFrom 15 = .ok (.aload_n 0, 1) := by decide +kernel
theorem dX8_readFrom_16 : decode cX8_readFrom 16 = .ok (.getfield 71, 3) := by decide +kernel
theorem dX8_readFrom_19 : decode cX8_readFrom 19 = .ok (.iconst 3, 1) := by decide +kernel
theorem dX8_readFrom_20 : decode cX8_readFrom 20 = .ok (.iload 4, 2) := by decide +kernel
theorem dX8_readFrom_22 : decode cX8_readFrom 22 = .ok (.imul, 1) := by decide +kernel
theorem dX8_readFrom_23 : decode cX8_readFrom 23 = .ok (.iaload, 1) := by decide +kernel
theorem dX8_readFrom_24 : decode cX8_readFrom 24 = .ok (.iload_n 1, 1) := by decide +kernel
theorem dX8_readFrom_25 : decode cX8_readFrom 25 = .ok (.if_icmp .ne 28, 3) := by decide +kernel
theorem dX8_readFrom_28 : decode cX8_readFrom 28 = .ok (.iload_n 2, 1) := by decide +kernel
theorem dX8_readFrom_29 : decode cX8_readFrom 29 = .ok (.bipush 10, 2) := by decide +kernel
theorem dX8_readFrom_31 : decode cX8_readFrom 31 = .ok (.if_icmp .eq 18, 3) := by decide +kernel
theorem dX8_readFrom_34 : decode cX8_readFrom 34 = .ok (.aload_n 0, 1) := by decide +kernel
theorem dX8_readFrom_35 : decode cX8_readFrom 35 = .ok (.getfield 71, 3) := by decide +kernel
theorem dX8_readFrom_38 : decode cX8_readFrom 38 = .ok (.iconst 3, 1) := by decide +kernel
theorem dX8_readFrom_39 : decode cX8_readFrom 39 = .ok (.iload 4, 2) := by decide +kernel
theorem dX8_readFrom_41 : decode cX8_readFrom 41 = .ok (.imul, 1) := by decide +kernel
theorem dX8_readFrom_42 : decode cX8_readFrom 42 = .ok (.iconst 2, 1) := by decide +kernel
theorem dX8_readFrom_43 : decode cX8_readFrom 43 = .ok (.iadd, 1) := by decide +kernel
theorem dX8_readFrom_44 : decode cX8_readFrom 44 = .ok (.iaload, 1) := by decide +kernel
theorem dX8_readFrom_45 : decode cX8_readFrom 45 = .ok (.iload_n 2, 1) := by decide +kernel
theorem dX8_readFrom_46 : decode cX8_readFrom 46 = .ok (.if_icmp .ne 7, 3) := by decide +kernel
theorem dX8_readFrom_49 : decode cX8_readFrom 49 = .ok (.iconst 1, 1) := by decide +kernel
theorem dX8_readFrom_50 : decode cX8_readFrom 50 = .ok (.goto 4, 3) := by decide +kernel
theorem dX8_readFrom_53 : decode cX8_readFrom 53 = .ok (.iconst 0, 1) := by decide +kernel
theorem dX8_readFrom_54 : decode cX8_readFrom 54 = .ok (.iadd, 1) := by decide +kernel
theorem dX8_readFrom_55 : decode cX8_readFrom 55 = .ok (.istore_n 3, 1) := by decide +kernel
theorem dX8_readFrom_56 : decode cX8_readFrom 56 = .ok (.iinc 4 1, 3) := by decide +kernel
theorem dX8_readFrom_59 : decode cX8_readFrom 59 = .ok (.goto (-54), 3) := by decide +kernel
theorem dX8_readFrom_62 : decode cX8_readFrom 62 = .ok (.iload_n 3, 1) := by decide +kernel
theorem dX8_readFrom_63 : decode cX8_readFrom 63 = .ok (.ireturn, 1) := by decide +kernel
theorem dX8_readWord_0 : decode cX8_readWord 0 = .ok (.aload_n 0, 1) := by decide +kernel
theorem dX8_readWord_1 : decode cX8_readWord 1 = .ok (.getfield 176, 3) := by decide +kernel
theorem dX8_readWord_4 : decode cX8_readWord 4 = .ok (.bipush 14, 2) := by decide +kernel
theorem dX8_readWord_6 : decode cX8_readWord 6 = .ok (.if_icmp .ne 5, 3) := by decide +kernel
theorem dX8_readWord_9 : decode cX8_readWord 9 = .ok (.iconst 0, 1) := by decide +kernel
theorem dX8_readWord_10 : decode cX8_readWord 10 = .ok (.ireturn, 1) := by decide +kernel
theorem dX8_readWord_11 : decode cX8_readWord 11 = .ok (.aload_n 0, 1) := by decide +kernel
theorem dX8_readWord_12 : decode cX8_readWord 12 = .ok (.dup, 1) := by decide +kernel
theorem dX8_readWord_13 : decode cX8_readWord 13 = .ok (.getfield 157, 3) := by decide +kernel
theorem dX8_readWord_16 : decode cX8_readWord 16 = .ok (.iconst 1, 1) := by decide +kernel
theorem dX8_readWord_17 : decode cX8_readWord 17 = .ok (.iadd, 1) := by decide +kernel
theorem dX8_readWord_18 : decode cX8_readWord 18 = .ok (.putfield 157, 3) := by decide +kernel
theorem dX8_readWord_21 : decode cX8_readWord 21 = .ok (.aload_n 0, 1) := by decide +kernel
theorem dX8_readWord_22 : decode cX8_readWord 22 = .ok (.iload_n 1, 1) := by decide +kernel
theorem dX8_readWord_23 : decode cX8_readWord 23 = .ok (.invokevirtual 163, 3) := by decide +kernel
theorem dX8_readWord_26 : decode cX8_readWord 26 = .ok (.bipush 48, 2) := by decide +kernel
theorem dX8_readWord_28 : decode cX8_readWord 28 = .ok (.isub, 1) := by decide +kernel
theorem dX8_readWord_29 : decode cX8_readWord 29 = .ok (.istore_n 2, 1) := by decide +kernel
theorem dX8_readWord_30 : decode cX8_readWord 30 = .ok (.aload_n 0, 1) := by decide +kernel
theorem dX8_readWord_31 : decode cX8_readWord 31 = .ok (.iload_n 1, 1) := by decide +kernel
theorem dX8_readWord_32 : decode cX8_readWord 32 = .ok (.invokevirtual 160, 3) := by decide +kernel
theorem dX8_readWord_35 : decode cX8_readWord 35 = .ok (.ifCond .ne 42, 3) := by decide +kernel
theorem dX8_readWord_38 : decode cX8_readWord 38 = .ok (.iload_n 2, 1) := by decide +kernel
theorem dX8_readWord_39 : decode cX8_readWord 39 = .ok (.i2l, 1) := by decide +kernel
theorem dX8_readWord_40 : decode cX8_readWord 40 = .ok (.lconst 0, 1) := by decide +kernel
theorem dX8_readWord_41 : decode cX8_readWord 41 = .ok (.aload_n 0, 1) := by decide +kernel
theorem dX8_readWord_42 : decode cX8_readWord 42 = .ok (.getfield 166, 3) := by decide +kernel
theorem dX8_readWord_45 : decode cX8_readWord 45 = .ok (.iconst 1, 1) := by decide +kernel
theorem dX8_readWord_46 : decode cX8_readWord 46 = .ok (.isub, 1) := by decide +kernel
theorem dX8_readWord_47 : decode cX8_readWord 47 = .ok (.i2l, 1) := by decide +kernel
theorem dX8_readWord_48 : decode cX8_readWord 48 = .ok (.invokestatic 133, 3) := by decide +kernel
theorem dX8_readWord_51 : decode cX8_readWord 51 = .ok (.ifCond .eq 26, 3) := by decide +kernel
theorem dX8_readWord_54 : decode cX8_readWord 54 = .ok (.aload_n 0, 1) := by decide +kernel
theorem dX8_readWord_55 : decode cX8_readWord 55 = .ok (.getfield 65, 3) := by decide +kernel
theorem dX8_readWord_58 : decode cX8_readWord 58 = .ok (.iload_n 2, 1) := by decide +kernel
theorem dX8_readWord_59 : decode cX8_readWord 59 = .ok (.iaload, 1) := by decide +kernel
theorem dX8_readWord_60 : decode cX8_readWord 60 = .ok (.invokestatic 169, 3) := by decide +kernel
theorem dX8_readWord_63 : decode cX8_readWord 63 = .ok (.ifCond .ne 14, 3) := by decide +kernel
theorem dX8_readWord_66 : decode cX8_readWord 66 = .ok (.aload_n 0, 1) := by decide +kernel
theorem dX8_readWord_67 : decode cX8_readWord 67 = .ok (.iload_n 2, 1) := by decide +kernel
theorem dX8_readWord_68 : decode cX8_readWord 68 = .ok (.bipush 10, 2) := by decide +kernel
theorem dX8_readWord_70 : decode cX8_readWord 70 = .ok (.invokevirtual 179, 3) := by decide +kernel
theorem dX8_readWord_73 : decode cX8_readWord 73 = .ok (.iconst 4, 1) := by decide +kernel
theorem dX8_readWord_74 : decode cX8_readWord 74 = .ok (.if_icmp .ne 5, 3) := by decide +kernel
theorem dX8_readWord_77 : decode cX8_readWord 77 = .ok (.iconst 0, 1) := by decide +kernel
theorem dX8_readWord_78 : decode cX8_readWord 78 = .ok (.ireturn, 1) := by decide +kernel
theorem dX8_readWord_79 : decode cX8_readWord 79 = .ok (.aload_n 0, 1) := by decide +kernel
theorem dX8_readWord_80 : decode cX8_readWord 80 = .ok (.dup, 1) := by decide +kernel
theorem dX8_readWord_81 : decode cX8_readWord 81 = .ok (.getfield 157, 3) := by decide +kernel
theorem dX8_readWord_84 : decode cX8_readWord 84 = .ok (.iconst 1, 1) := by decide +kernel
theorem dX8_readWord_85 : decode cX8_readWord 85 = .ok (.iadd, 1) := by decide +kernel
theorem dX8_readWord_86 : decode cX8_readWord 86 = .ok (.putfield 157, 3) := by decide +kernel
theorem dX8_readWord_89 : decode cX8_readWord 89 = .ok (.aload_n 0, 1) := by decide +kernel
theorem dX8_readWord_90 : decode cX8_readWord 90 = .ok (.iload_n 1, 1) := by decide +kernel
theorem dX8_readWord_91 : decode cX8_readWord 91 = .ok (.iload_n 2, 1) := by decide +kernel
theorem dX8_readWord_92 : decode cX8_readWord 92 = .ok (.iconst 1, 1) := by decide +kernel
theorem dX8_readWord_93 : decode cX8_readWord 93 = .ok (.iadd, 1) := by decide +kernel
theorem dX8_readWord_94 : decode cX8_readWord 94 = .ok (.aload_n 0, 1) := by decide +kernel
theorem dX8_readWord_95 : decode cX8_readWord 95 = .ok (.getfield 166, 3) := by decide +kernel
theorem dX8_readWord_98 : decode cX8_readWord 98 = .ok (.iconst 1, 1) := by decide +kernel
theorem dX8_readWord_99 : decode cX8_readWord 99 = .ok (.isub, 1) := by decide +kernel
theorem dX8_readWord_100 : decode cX8_readWord 100 = .ok (.invokevirtual 172, 3) := by decide +kernel
theorem dX8_readWord_103 : decode cX8_readWord 103 = .ok (.istore_n 3, 1) := by decide +kernel
theorem dX8_readWord_104 : decode cX8_readWord 104 = .ok (.iload_n 3, 1) := by decide +kernel
theorem dX8_readWord_105 : decode cX8_readWord 105 = .ok (.ifCond .ge 5, 3) := by decide +kernel
theorem dX8_readWord_108 : decode cX8_readWord 108 = .ok (.iconst 0, 1) := by decide +kernel
theorem dX8_readWord_109 : decode cX8_readWord 109 = .ok (.ireturn, 1) := by decide +kernel
theorem dX8_readWord_110 : decode cX8_readWord 110 = .ok (.aload_n 0, 1) := by decide +kernel
theorem dX8_readWord_111 : decode cX8_readWord 111 = .ok (.iload_n 1, 1) := by decide +kernel
theorem dX8_readWord_112 : decode cX8_readWord 112 = .ok (.invokevirtual 163, 3) := by decide +kernel
theorem dX8_readWord_115 : decode cX8_readWord 115 = .ok (.bipush 48, 2) := by decide +kernel
theorem dX8_readWord_117 : decode cX8_readWord 117 = .ok (.isub, 1) := by decide +kernel
theorem dX8_readWord_118 : decode cX8_readWord 118 = .ok (.istore 4, 2) := by decide +kernel
theorem dX8_readWord_120 : decode cX8_readWord 120 = .ok (.aload_n 0, 1) := by decide +kernel
theorem dX8_readWord_121 : decode cX8_readWord 121 = .ok (.iload_n 1, 1) := by decide +kernel
theorem dX8_readWord_122 : decode cX8_readWord 122 = .ok (.invokevirtual 160, 3) := by decide +kernel
theorem dX8_readWord_125 : decode cX8_readWord 125 = .ok (.ifCond .ne 26, 3) := by decide +kernel
theorem dX8_readWord_128 : decode cX8_readWord 128 = .ok (.iload 4, 2) := by decide +kernel
theorem dX8_readWord_130 : decode cX8_readWord 130 = .ok (.i2l, 1) := by decide +kernel
theorem dX8_readWord_131 : decode cX8_readWord 131 = .ok (.lconst 0, 1) := by decide +kernel
theorem dX8_readWord_132 : decode cX8_readWord 132 = .ok (.ldc2_w 182, 3) := by decide +kernel
theorem dX8_readWord_135 : decode cX8_readWord 135 = .ok (.invokestatic 133, 3) := by decide +kernel
theorem dX8_readWord_138 : decode cX8_readWord 138 = .ok (.ifCond .eq 13, 3) := by decide +kernel
theorem dX8_readWord_141 : decode cX8_readWord 141 = .ok (.aload_n 0, 1) := by decide +kernel
theorem dX8_readWord_142 : decode cX8_readWord 142 = .ok (.iload_n 2, 1) := by decide +kernel
theorem dX8_readWord_143 : decode cX8_readWord 143 = .ok (.iload 4, 2) := by decide +kernel
theorem dX8_readWord_145 : decode cX8_readWord 145 = .ok (.invokevirtual 179, 3) := by decide +kernel
theorem dX8_readWord_148 : decode cX8_readWord 148 = .ok (.ifCond .le 5, 3) := by decide +kernel
theorem dX8_readWord_151 : decode cX8_readWord 151 = .ok (.iconst 0, 1) := by decide +kernel
theorem dX8_readWord_152 : decode cX8_readWord 152 = .ok (.ireturn, 1) := by decide +kernel
theorem dX8_readWord_153 : decode cX8_readWord 153 = .ok (.aload_n 0, 1) := by decide +kernel
theorem dX8_readWord_154 : decode cX8_readWord 154 = .ok (.dup, 1) := by decide +kernel
theorem dX8_readWord_155 : decode cX8_readWord 155 = .ok (.getfield 157, 3) := by decide +kernel
theorem dX8_readWord_158 : decode cX8_readWord 158 = .ok (.iconst 1, 1) := by decide +kernel
theorem dX8_readWord_159 : decode cX8_readWord 159 = .ok (.iadd, 1) := by decide +kernel
theorem dX8_readWord_160 : decode cX8_readWord 160 = .ok (.putfield 157, 3) := by decide +kernel
theorem dX8_readWord_163 : decode cX8_readWord 163 = .ok (.aload_n 0, 1) := by decide +kernel
theorem dX8_readWord_164 : decode cX8_readWord 164 = .ok (.getfield 71, 3) := by decide +kernel
theorem dX8_readWord_167 : decode cX8_readWord 167 = .ok (.iconst 3, 1) := by decide +kernel
theorem dX8_readWord_168 : decode cX8_readWord 168 = .ok (.aload_n 0, 1) := by decide +kernel
theorem dX8_readWord_169 : decode cX8_readWord 169 = .ok (.getfield 176, 3) := by decide +kernel
theorem dX8_readWord_172 : decode cX8_readWord 172 = .ok (.imul, 1) := by decide +kernel
theorem dX8_readWord_173 : decode cX8_readWord 173 = .ok (.iload_n 2, 1) := by decide +kernel
theorem dX8_readWord_174 : decode cX8_readWord 174 = .ok (.iastore, 1) := by decide +kernel
theorem dX8_readWord_175 : decode cX8_readWord 175 = .ok (.aload_n 0, 1) := by decide +kernel
theorem dX8_readWord_176 : decode cX8_readWord 176 = .ok (.getfield 71, 3) := by decide +kernel
theorem dX8_readWord_179 : decode cX8_readWord 179 = .ok (.iconst 3, 1) := by decide +kernel
theorem dX8_readWord_180 : decode cX8_readWord 180 = .ok (.aload_n 0, 1) := by decide +kernel
theorem dX8_readWord_181 : decode cX8_readWord 181 = .ok (.getfield 176, 3) := by decide +kernel
theorem dX8_readWord_184 : decode cX8_readWord 184 = .ok (.imul, 1) := by decide +kernel
theorem dX8_readWord_185 : decode cX8_readWord 185 = .ok (.iconst 1, 1) := by decide +kernel
theorem dX8_readWord_186 : decode cX8_readWord 186 = .ok (.iadd, 1) := by decide +kernel
theorem dX8_readWord_187 : decode cX8_readWord 187 = .ok (.iload_n 3, 1) := by decide +kernel
theorem dX8_readWord_188 : decode cX8_readWord 188 = .ok (.iastore, 1) := by decide +kernel
theorem dX8_readWord_189 : decode cX8_readWord 189 = .ok (.aload_n 0, 1) := by decide +kernel
theorem dX8_readWord_190 : decode cX8_readWord 190 = .ok (.getfield 71, 3) := by decide +kernel
theorem dX8_readWord_193 : decode cX8_readWord 193 = .ok (.iconst 3, 1) := by decide +kernel
theorem dX8_readWord_194 : decode cX8_readWord 194 = .ok (.aload_n 0, 1) := by decide +kernel
theorem dX8_readWord_195 : decode cX8_readWord 195 = .ok (.getfield 176, 3) := by decide +kernel
theorem dX8_readWord_198 : decode cX8_readWord 198 = .ok (.imul, 1) := by decide +kernel
theorem dX8_readWord_199 : decode cX8_readWord 199 = .ok (.iconst 2, 1) := by decide +kernel
theorem dX8_readWord_200 : decode cX8_readWord 200 = .ok (.iadd, 1) := by decide +kernel
theorem dX8_readWord_201 : decode cX8_readWord 201 = .ok (.iload 4, 2) := by decide +kernel
theorem dX8_readWord_203 : decode cX8_readWord 203 = .ok (.iastore, 1) := by decide +kernel
theorem dX8_readWord_204 : decode cX8_readWord 204 = .ok (.aload_n 0, 1) := by decide +kernel
theorem dX8_readWord_205 : decode cX8_readWord 205 = .ok (.dup, 1) := by decide +kernel
theorem dX8_readWord_206 : decode cX8_readWord 206 = .ok (.getfield 176, 3) := by decide +kernel
theorem dX8_readWord_209 : decode cX8_readWord 209 = .ok (.iconst 1, 1) := by decide +kernel
theorem dX8_readWord_210 : decode cX8_readWord 210 = .ok (.iadd, 1) := by decide +kernel
theorem dX8_readWord_211 : decode cX8_readWord 211 = .ok (.putfield 176, 3) := by decide +kernel
theorem dX8_readWord_214 : decode cX8_readWord 214 = .ok (.iconst 1, 1) := by decide +kernel
theorem dX8_readWord_215 : decode cX8_readWord 215 = .ok (.ireturn, 1) := by decide +kernel
theorem dX8_readDeed_0 : decode cX8_readDeed 0 = .ok (.aload_n 0, 1) := by decide +kernel
theorem dX8_readDeed_1 : decode cX8_readDeed 1 = .ok (.getfield 184, 3) := by decide +kernel
theorem dX8_readDeed_4 : decode cX8_readDeed 4 = .ok (.iconst 4, 1) := by decide +kernel
theorem dX8_readDeed_5 : decode cX8_readDeed 5 = .ok (.if_icmp .ne 5, 3) := by decide +kernel
theorem dX8_readDeed_8 : decode cX8_readDeed 8 = .ok (.iconst 0, 1) := by decide +kernel
theorem dX8_readDeed_9 : decode cX8_readDeed 9 = .ok (.ireturn, 1) := by decide +kernel
theorem dX8_readDeed_10 : decode cX8_readDeed 10 = .ok (.aload_n 0, 1) := by decide +kernel
theorem dX8_readDeed_11 : decode cX8_readDeed 11 = .ok (.dup, 1) := by decide +kernel
theorem dX8_readDeed_12 : decode cX8_readDeed 12 = .ok (.getfield 157, 3) := by decide +kernel
theorem dX8_readDeed_15 : decode cX8_readDeed 15 = .ok (.iconst 1, 1) := by decide +kernel
theorem dX8_readDeed_16 : decode cX8_readDeed 16 = .ok (.iadd, 1) := by decide +kernel
theorem dX8_readDeed_17 : decode cX8_readDeed 17 = .ok (.putfield 157, 3) := by decide +kernel
theorem dX8_readDeed_20 : decode cX8_readDeed 20 = .ok (.iconst 0, 1) := by decide +kernel
theorem dX8_readDeed_21 : decode cX8_readDeed 21 = .ok (.istore_n 2, 1) := by decide +kernel
theorem dX8_readDeed_22 : decode cX8_readDeed 22 = .ok (.iload_n 2, 1) := by decide +kernel
theorem dX8_readDeed_23 : decode cX8_readDeed 23 = .ok (.iconst 4, 1) := by decide +kernel
theorem dX8_readDeed_24 : decode cX8_readDeed 24 = .ok (.if_icmp .ge 59, 3) := by decide +kernel
theorem dX8_readDeed_27 : decode cX8_readDeed 27 = .ok (.aload_n 0, 1) := by decide +kernel
theorem dX8_readDeed_28 : decode cX8_readDeed 28 = .ok (.iload_n 1, 1) := by decide +kernel
theorem dX8_readDeed_29 : decode cX8_readDeed 29 = .ok (.iload_n 2, 1) := by decide +kernel
theorem dX8_readDeed_30 : decode cX8_readDeed 30 = .ok (.ifCond .ne 7, 3) := by decide +kernel
theorem dX8_readDeed_33 : decode cX8_readDeed 33 = .ok (.iconst 1, 1) := by decide +kernel
theorem dX8_readDeed_34 : decode cX8_readDeed 34 = .ok (.goto 4, 3) := by decide +kernel
theorem dX8_readDeed_37 : decode cX8_readDeed 37 = .ok (.iconst 0, 1) := by decide +kernel
theorem dX8_readDeed_38 : decode cX8_readDeed 38 = .ok (.iload_n 2, 1) := by decide +kernel
theorem dX8_readDeed_39 : decode cX8_readDeed 39 = .ok (.ifCond .eq 8, 3) := by decide +kernel
theorem dX8_readDeed_42 : decode cX8_readDeed 42 = .ok (.iload_n 2, 1) := by decide +kernel
theorem dX8_readDeed_43 : decode cX8_readDeed 43 = .ok (.iconst 2, 1) := by decide +kernel
theorem dX8_readDeed_44 : decode cX8_readDeed 44 = .ok (.if_icmp .ne 7, 3) := by decide +kernel
theorem dX8_readDeed_47 : decode cX8_readDeed 47 = .ok (.iconst 5, 1) := by decide +kernel
theorem dX8_readDeed_48 : decode cX8_readDeed 48 = .ok (.goto 5, 3) := by decide +kernel
theorem dX8_readDeed_51 : decode cX8_readDeed 51 = .ok (.bipush 9, 2) := by decide +kernel
theorem dX8_readDeed_53 : decode cX8_readDeed 53 = .ok (.invokevirtual 172, 3) := by decide +kernel
theorem dX8_readDeed_56 : decode cX8_readDeed 56 = .ok (.istore_n 3, 1) := by decide +kernel
theorem dX8_readDeed_57 : decode cX8_readDeed 57 = .ok (.iload_n 3, 1) := by decide +kernel
theorem dX8_readDeed_58 : decode cX8_readDeed 58 = .ok (.ifCond .ge 5, 3) := by decide +kernel
theorem dX8_readDeed_61 : decode cX8_readDeed 61 = .ok (.iconst 0, 1) := by decide +kernel
theorem dX8_readDeed_62 : decode cX8_readDeed 62 = .ok (.ireturn, 1) := by decide +kernel
theorem dX8_readDeed_63 : decode cX8_readDeed 63 = .ok (.aload_n 0, 1) := by decide +kernel
theorem dX8_readDeed_64 : decode cX8_readDeed 64 = .ok (.getfield 74, 3) := by decide +kernel
theorem dX8_readDeed_67 : decode cX8_readDeed 67 = .ok (.iconst 4, 1) := by decide +kernel
theorem dX8_readDeed_68 : decode cX8_readDeed 68 = .ok (.aload_n 0, 1) := by decide +kernel
theorem dX8_readDeed_69 : decode cX8_readDeed 69 = .ok (.getfield 184, 3) := by decide +kernel
theorem dX8_readDeed_72 : decode cX8_readDeed 72 = .ok (.imul, 1) := by decide +kernel
theorem dX8_readDeed_73 : decode cX8_readDeed 73 = .ok (.iload_n 2, 1) := by decide +kernel
theorem dX8_readDeed_74 : decode cX8_readDeed 74 = .ok (.iadd, 1) := by decide +kernel
theorem dX8_readDeed_75 : decode cX8_readDeed 75 = .ok (.iload_n 3, 1) := by decide +kernel
theorem dX8_readDeed_76 : decode cX8_readDeed 76 = .ok (.iastore, 1) := by decide +kernel
theorem dX8_readDeed_77 : decode cX8_readDeed 77 = .ok (.iinc 2 1, 3) := by decide +kernel
theorem dX8_readDeed_80 : decode cX8_readDeed 80 = .ok (.goto (-58), 3) := by decide +kernel
theorem dX8_readDeed_83 : decode cX8_readDeed 83 = .ok (.aload_n 0, 1) := by decide +kernel
theorem dX8_readDeed_84 : decode cX8_readDeed 84 = .ok (.dup, 1) := by decide +kernel
theorem dX8_readDeed_85 : decode cX8_readDeed 85 = .ok (.getfield 184, 3) := by decide +kernel
theorem dX8_readDeed_88 : decode cX8_readDeed 88 = .ok (.iconst 1, 1) := by decide +kernel
theorem dX8_readDeed_89 : decode cX8_readDeed 89 = .ok (.iadd, 1) := by decide +kernel
theorem dX8_readDeed_90 : decode cX8_readDeed 90 = .ok (.putfield 184, 3) := by decide +kernel
theorem dX8_readDeed_93 : decode cX8_readDeed 93 = .ok (.iconst 1, 1) := by decide +kernel
theorem dX8_readDeed_94 : decode cX8_readDeed 94 = .ok (.ireturn, 1) := by decide +kernel
theorem dX8_readSpeech_0 : decode cX8_readSpeech 0 = .ok (.aload_n 0, 1) := by decide +kernel
theorem dX8_readSpeech_1 : decode cX8_readSpeech 1 = .ok (.iconst 0, 1) := by decide +kernel
theorem dX8_readSpeech_2 : decode cX8_readSpeech 2 = .ok (.putfield 157, 3) := by decide +kernel
theorem dX8_readSpeech_5 : decode cX8_readSpeech 5 = .ok (.aload_n 0, 1) := by decide +kernel
theorem dX8_readSpeech_6 : decode cX8_readSpeech 6 = .ok (.iconst 0, 1) := by decide +kernel
theorem dX8_readSpeech_7 : decode cX8_readSpeech 7 = .ok (.putfield 166, 3) := by decide +kernel
theorem dX8_readSpeech_10 : decode cX8_readSpeech 10 = .ok (.aload_n 0, 1) := by decide +kernel
theorem dX8_readSpeech_11 : decode cX8_readSpeech 11 = .ok (.iconst 0, 1) := by decide +kernel
theorem dX8_readSpeech_12 : decode cX8_readSpeech 12 = .ok (.putfield 176, 3) := by decide +kernel
theorem dX8_readSpeech_15 : decode cX8_readSpeech 15 = .ok (.aload_n 0, 1) := by decide +kernel
theorem dX8_readSpeech_16 : decode cX8_readSpeech 16 = .ok (.iconst 0, 1) := by decide +kernel
theorem dX8_readSpeech_17 : decode cX8_readSpeech 17 = .ok (.putfield 184, 3) := by decide +kernel
theorem dX8_readSpeech_20 : decode cX8_readSpeech 20 = .ok (.aload_n 0, 1) := by decide +kernel
theorem dX8_readSpeech_21 : decode cX8_readSpeech 21 = .ok (.iload_n 1, 1) := by decide +kernel
theorem dX8_readSpeech_22 : decode cX8_readSpeech 22 = .ok (.invokevirtual 187, 3) := by decide +kernel
theorem dX8_readSpeech_25 : decode cX8_readSpeech 25 = .ok (.aload_n 0, 1) := by decide +kernel
theorem dX8_readSpeech_26 : decode cX8_readSpeech 26 = .ok (.iload_n 1, 1) := by decide +kernel
theorem dX8_readSpeech_27 : decode cX8_readSpeech 27 = .ok (.invokevirtual 160, 3) := by decide +kernel
theorem dX8_readSpeech_30 : decode cX8_readSpeech 30 = .ok (.ifCond .ne 137, 3) := by decide +kernel
theorem dX8_readSpeech_33 : decode cX8_readSpeech 33 = .ok (.aload_n 0, 1) := by decide +kernel
theorem dX8_readSpeech_34 : decode cX8_readSpeech 34 = .ok (.iload_n 1, 1) := by decide +kernel
theorem dX8_readSpeech_35 : decode cX8_readSpeech 35 = .ok (.invokevirtual 163, 3) := by decide +kernel
theorem dX8_readSpeech_38 : decode cX8_readSpeech 38 = .ok (.istore_n 2, 1) := by decide +kernel
theorem dX8_readSpeech_39 : decode cX8_readSpeech 39 = .ok (.iload_n 2, 1) := by decide +kernel
theorem dX8_readSpeech_40 : decode cX8_readSpeech 40 = .ok (.invokestatic 191, 3) := by decide +kernel
theorem dX8_readSpeech_43 : decode cX8_readSpeech 43 = .ok (.istore_n 3, 1) := by decide +kernel
theorem dX8_readSpeech_44 : decode cX8_readSpeech 44 = .ok (.iconst 0, 1) := by decide +kernel
theorem dX8_readSpeech_45 : decode cX8_readSpeech 45 = .ok (.istore 4, 2) := by decide +kernel
theorem dX8_readSpeech_47 : decode cX8_readSpeech 47 = .ok (.iload_n 3, 1) := by decide +kernel
theorem dX8_readSpeech_48 : decode cX8_readSpeech 48 = .ok (.ifCond .lt 36, 3) := by decide +kernel
theorem dX8_readSpeech_51 : decode cX8_readSpeech 51 = .ok (.aload_n 0, 1) := by decide +kernel
theorem dX8_readSpeech_52 : decode cX8_readSpeech 52 = .ok (.getfield 176, 3) := by decide +kernel
theorem dX8_readSpeech_55 : decode cX8_readSpeech 55 = .ok (.ifCond .ne 23, 3) := by decide +kernel
theorem dX8_readSpeech_58 : decode cX8_readSpeech 58 = .ok (.aload_n 0, 1) := by decide +kernel
theorem dX8_readSpeech_59 : decode cX8_readSpeech 59 = .ok (.getfield 184, 3) := by decide +kernel
theorem dX8_readSpeech_62 : decode cX8_readSpeech 62 = .ok (.ifCond .ne 16, 3) := by decide +kernel
theorem dX8_readSpeech_65 : decode cX8_readSpeech 65 = .ok (.aload_n 0, 1) := by decide +kernel
theorem dX8_readSpeech_66 : decode cX8_readSpeech 66 = .ok (.iload_n 1, 1) := by decide +kernel
theorem dX8_readSpeech_67 : decode cX8_readSpeech 67 = .ok (.iload_n 3, 1) := by decide +kernel
theorem dX8_readSpeech_68 : decode cX8_readSpeech 68 = .ok (.invokevirtual 194, 3) := by decide +kernel
theorem dX8_readSpeech_71 : decode cX8_readSpeech 71 = .ok (.ifCond .eq 7, 3) := by decide +kernel
theorem dX8_readSpeech_74 : decode cX8_readSpeech 74 = .ok (.iconst 1, 1) := by decide +kernel
theorem dX8_readSpeech_75 : decode cX8_readSpeech 75 = .ok (.goto 4, 3) := by decide +kernel
theorem dX8_readSpeech_78 : decode cX8_readSpeech 78 = .ok (.iconst 0, 1) := by decide +kernel
theorem dX8_readSpeech_79 : decode cX8_readSpeech 79 = .ok (.istore 4, 2) := by decide +kernel
theorem dX8_readSpeech_81 : decode cX8_readSpeech 81 = .ok (.goto 71, 3) := by decide +kernel
theorem dX8_readSpeech_84 : decode cX8_readSpeech 84 = .ok (.iload_n 2, 1) := by decide +kernel
theorem dX8_readSpeech_85 : decode cX8_readSpeech 85 = .ok (.bipush 120, 2) := by decide +kernel
theorem dX8_readSpeech_87 : decode cX8_readSpeech 87 = .ok (.if_icmp .ne 36, 3) := by decide +kernel
theorem dX8_readSpeech_90 : decode cX8_readSpeech 90 = .ok (.aload_n 0, 1) := by decide +kernel
theorem dX8_readSpeech_91 : decode cX8_readSpeech 91 = .ok (.getfield 166, 3) := by decide +kernel
theorem dX8_readSpeech_94 : decode cX8_readSpeech 94 = .ok (.iconst 1, 1) := by decide +kernel
theorem dX8_readSpeech_95 : decode cX8_readSpeech 95 = .ok (.if_icmp .le 22, 3) := by decide +kernel
theorem dX8_readSpeech_98 : decode cX8_readSpeech 98 = .ok (.aload_n 0, 1) := by decide +kernel
theorem dX8_readSpeech_99 : decode cX8_readSpeech 99 = .ok (.getfield 184, 3) := by decide +kernel
theorem dX8_readSpeech_102 : decode cX8_readSpeech 102 = .ok (.ifCond .ne 15, 3) := by decide +kernel
theorem dX8_readSpeech_105 : decode cX8_readSpeech 105 = .ok (.aload_n 0, 1) := by decide +kernel
theorem dX8_readSpeech_106 : decode cX8_readSpeech 106 = .ok (.iload_n 1, 1) := by decide +kernel
theorem dX8_readSpeech_107 : decode cX8_readSpeech 107 = .ok (.invokevirtual 198, 3) := by decide +kernel
theorem dX8_readSpeech_110 : decode cX8_readSpeech 110 = .ok (.ifCond .eq 7, 3) := by decide +kernel
theorem dX8_readSpeech_113 : decode cX8_readSpeech 113 = .ok (.iconst 1, 1) := by decide +kernel
theorem dX8_readSpeech_114 : decode cX8_readSpeech 114 = .ok (.goto 4, 3) := by decide +kernel
theorem dX8_readSpeech_117 : decode cX8_readSpeech 117 = .ok (.iconst 0, 1) := by decide +kernel
theorem dX8_readSpeech_118 : decode cX8_readSpeech 118 = .ok (.istore 4, 2) := by decide +kernel
theorem dX8_readSpeech_120 : decode cX8_readSpeech 120 = .ok (.goto 32, 3) := by decide +kernel
theorem dX8_readSpeech_123 : decode cX8_readSpeech 123 = .ok (.iload_n 2, 1) := by decide +kernel
theorem dX8_readSpeech_124 : decode cX8_readSpeech 124 = .ok (.bipush 100, 2) := by decide +kernel
theorem dX8_readSpeech_126 : decode cX8_readSpeech 126 = .ok (.if_icmp .ne 26, 3) := by decide +kernel
theorem dX8_readSpeech_129 : decode cX8_readSpeech 129 = .ok (.aload_n 0, 1) := by decide +kernel
theorem dX8_readSpeech_130 : decode cX8_readSpeech 130 = .ok (.getfield 166, 3) := by decide +kernel
theorem dX8_readSpeech_133 : decode cX8_readSpeech 133 = .ok (.iconst 1, 1) := by decide +kernel
theorem dX8_readSpeech_134 : decode cX8_readSpeech 134 = .ok (.if_icmp .le 15, 3) := by decide +kernel
theorem dX8_readSpeech_137 : decode cX8_readSpeech 137 = .ok (.aload_n 0, 1) := by decide +kernel
theorem dX8_readSpeech_138 : decode cX8_readSpeech 138 = .ok (.iload_n 1, 1) := by decide +kernel
theorem dX8_readSpeech_139 : decode cX8_readSpeech 139 = .ok (.invokevirtual 201, 3) := by decide +kernel
theorem dX8_readSpeech_142 : decode cX8_readSpeech 142 = .ok (.ifCond .eq 7, 3) := by decide +kernel
theorem dX8_readSpeech_145 : decode cX8_readSpeech 145 = .ok (.iconst 1, 1) := by decide +kernel
theorem dX8_readSpeech_146 : decode cX8_readSpeech 146 = .ok (.goto 4, 3) := by decide +kernel
theorem dX8_readSpeech_149 : decode cX8_readSpeech 149 = .ok (.iconst 0, 1) := by decide +kernel
theorem dX8_readSpeech_150 : decode cX8_readSpeech 150 = .ok (.istore 4, 2) := by decide +kernel
theorem dX8_readSpeech_152 : decode cX8_readSpeech 152 = .ok (.iload 4, 2) := by decide +kernel
theorem dX8_readSpeech_154 : decode cX8_readSpeech 154 = .ok (.ifCond .ne 5, 3) := by decide +kernel
theorem dX8_readSpeech_157 : decode cX8_readSpeech 157 = .ok (.iconst 0, 1) := by decide +kernel
theorem dX8_readSpeech_158 : decode cX8_readSpeech 158 = .ok (.ireturn, 1) := by decide +kernel
theorem dX8_readSpeech_159 : decode cX8_readSpeech 159 = .ok (.aload_n 0, 1) := by decide +kernel
theorem dX8_readSpeech_160 : decode cX8_readSpeech 160 = .ok (.iload_n 1, 1) := by decide +kernel
theorem dX8_readSpeech_161 : decode cX8_readSpeech 161 = .ok (.invokevirtual 187, 3) := by decide +kernel
theorem dX8_readSpeech_164 : decode cX8_readSpeech 164 = .ok (.goto (-139), 3) := by decide +kernel
theorem dX8_readSpeech_167 : decode cX8_readSpeech 167 = .ok (.aload_n 0, 1) := by decide +kernel
theorem dX8_readSpeech_168 : decode cX8_readSpeech 168 = .ok (.getfield 166, 3) := by decide +kernel
theorem dX8_readSpeech_171 : decode cX8_readSpeech 171 = .ok (.iconst 1, 1) := by decide +kernel
theorem dX8_readSpeech_172 : decode cX8_readSpeech 172 = .ok (.if_icmp .le 7, 3) := by decide +kernel
theorem dX8_readSpeech_175 : decode cX8_readSpeech 175 = .ok (.iconst 1, 1) := by decide +kernel
theorem dX8_readSpeech_176 : decode cX8_readSpeech 176 = .ok (.goto 4, 3) := by decide +kernel
theorem dX8_readSpeech_179 : decode cX8_readSpeech 179 = .ok (.iconst 0, 1) := by decide +kernel
theorem dX8_readSpeech_180 : decode cX8_readSpeech 180 = .ok (.ireturn, 1) := by decide +kernel
theorem dX8_fault_0 : decode cX8_fault 0 = .ok (.iload_n 1, 1) := by decide +kernel
theorem dX8_fault_1 : decode cX8_fault 1 = .ok (.invokestatic 154, 3) := by decide +kernel
theorem dX8_fault_4 : decode cX8_fault 4 = .ok (.ifCond .ne 5, 3) := by decide +kernel
theorem dX8_fault_7 : decode cX8_fault 7 = .ok (.iconst (-1), 1) := by decide +kernel
theorem dX8_fault_8 : decode cX8_fault 8 = .ok (.ireturn, 1) := by decide +kernel
theorem dX8_fault_9 : decode cX8_fault 9 = .ok (.aload_n 0, 1) := by decide +kernel
theorem dX8_fault_10 : decode cX8_fault 10 = .ok (.getfield 16, 3) := by decide +kernel
theorem dX8_fault_13 : decode cX8_fault 13 = .ok (.iload_n 1, 1) := by decide +kernel
theorem dX8_fault_14 : decode cX8_fault 14 = .ok (.iaload, 1) := by decide +kernel
theorem dX8_fault_15 : decode cX8_fault 15 = .ok (.ifCond .ge 9, 3) := by decide +kernel
theorem dX8_fault_18 : decode cX8_fault 18 = .ok (.aload_n 0, 1) := by decide +kernel
theorem dX8_fault_19 : decode cX8_fault 19 = .ok (.iconst 1, 1) := by decide +kernel
theorem dX8_fault_20 : decode cX8_fault 20 = .ok (.invokevirtual 143, 3) := by decide +kernel
theorem dX8_fault_23 : decode cX8_fault 23 = .ok (.ireturn, 1) := by decide +kernel
theorem dX8_fault_24 : decode cX8_fault 24 = .ok (.aload_n 0, 1) := by decide +kernel
theorem dX8_fault_25 : decode cX8_fault 25 = .ok (.iload_n 1, 1) := by decide +kernel
theorem dX8_fault_26 : decode cX8_fault 26 = .ok (.invokevirtual 204, 3) := by decide +kernel
theorem dX8_fault_29 : decode cX8_fault 29 = .ok (.ifCond .eq 8, 3) := by decide +kernel
theorem dX8_fault_32 : decode cX8_fault 32 = .ok (.bipush (-9), 2) := by decide +kernel
theorem dX8_fault_34 : decode cX8_fault 34 = .ok (.goto 7, 3) := by decide +kernel
theorem dX8_fault_37 : decode cX8_fault 37 = .ok (.aload_n 0, 1) := by decide +kernel
theorem dX8_fault_38 : decode cX8_fault 38 = .ok (.getfield 157, 3) := by decide +kernel
theorem dX8_fault_41 : decode cX8_fault 41 = .ok (.ireturn, 1) := by decide +kernel
theorem dX8_speech_0 : decode cX8_speech 0 = .ok (.iload_n 1, 1) := by decide +kernel
theorem dX8_speech_1 : decode cX8_speech 1 = .ok (.invokestatic 154, 3) := by decide +kernel
theorem dX8_speech_4 : decode cX8_speech 4 = .ok (.ifCond .ne 5, 3) := by decide +kernel
theorem dX8_speech_7 : decode cX8_speech 7 = .ok (.iconst (-1), 1) := by decide +kernel
theorem dX8_speech_8 : decode cX8_speech 8 = .ok (.ireturn, 1) := by decide +kernel
theorem dX8_speech_9 : decode cX8_speech 9 = .ok (.aload_n 0, 1) := by decide +kernel
theorem dX8_speech_10 : decode cX8_speech 10 = .ok (.getfield 16, 3) := by decide +kernel
theorem dX8_speech_13 : decode cX8_speech 13 = .ok (.iload_n 1, 1) := by decide +kernel
theorem dX8_speech_14 : decode cX8_speech 14 = .ok (.iaload, 1) := by decide +kernel
theorem dX8_speech_15 : decode cX8_speech 15 = .ok (.ifCond .ge 9, 3) := by decide +kernel
theorem dX8_speech_18 : decode cX8_speech 18 = .ok (.aload_n 0, 1) := by decide +kernel
theorem dX8_speech_19 : decode cX8_speech 19 = .ok (.iconst 1, 1) := by decide +kernel
theorem dX8_speech_20 : decode cX8_speech 20 = .ok (.invokevirtual 143, 3) := by decide +kernel
theorem dX8_speech_23 : decode cX8_speech 23 = .ok (.ireturn, 1) := by decide +kernel
theorem dX8_speech_24 : decode cX8_speech 24 = .ok (.aload_n 0, 1) := by decide +kernel
theorem dX8_speech_25 : decode cX8_speech 25 = .ok (.iload_n 1, 1) := by decide +kernel
theorem dX8_speech_26 : decode cX8_speech 26 = .ok (.invokevirtual 204, 3) := by decide +kernel
theorem dX8_speech_29 : decode cX8_speech 29 = .ok (.ifCond .ne 6, 3) := by decide +kernel
theorem dX8_speech_32 : decode cX8_speech 32 = .ok (.bipush (-4), 2) := by decide +kernel
theorem dX8_speech_34 : decode cX8_speech 34 = .ok (.ireturn, 1) := by decide +kernel
theorem dX8_speech_35 : decode cX8_speech 35 = .ok (.aload_n 0, 1) := by decide +kernel
theorem dX8_speech_36 : decode cX8_speech 36 = .ok (.aload_n 0, 1) := by decide +kernel
theorem dX8_speech_37 : decode cX8_speech 37 = .ok (.getfield 166, 3) := by decide +kernel
theorem dX8_speech_40 : decode cX8_speech 40 = .ok (.putfield 207, 3) := by decide +kernel
theorem dX8_speech_43 : decode cX8_speech 43 = .ok (.aload_n 0, 1) := by decide +kernel
theorem dX8_speech_44 : decode cX8_speech 44 = .ok (.aload_n 0, 1) := by decide +kernel
theorem dX8_speech_45 : decode cX8_speech 45 = .ok (.getfield 176, 3) := by decide +kernel
theorem dX8_speech_48 : decode cX8_speech 48 = .ok (.putfield 210, 3) := by decide +kernel
theorem dX8_speech_51 : decode cX8_speech 51 = .ok (.aload_n 0, 1) := by decide +kernel
theorem dX8_speech_52 : decode cX8_speech 52 = .ok (.aload_n 0, 1) := by decide +kernel
theorem dX8_speech_53 : decode cX8_speech 53 = .ok (.getfield 184, 3) := by decide +kernel
theorem dX8_speech_56 : decode cX8_speech 56 = .ok (.putfield 213, 3) := by decide +kernel
theorem dX8_speech_59 : decode cX8_speech 59 = .ok (.iconst 0, 1) := by decide +kernel
theorem dX8_speech_60 : decode cX8_speech 60 = .ok (.istore_n 2, 1) := by decide +kernel
theorem dX8_speech_61 : decode cX8_speech 61 = .ok (.iload_n 2, 1) := by decide +kernel
theorem dX8_speech_62 : decode cX8_speech 62 = .ok (.aload_n 0, 1) := by decide +kernel
theorem dX8_speech_63 : decode cX8_speech 63 = .ok (.getfield 207, 3) := by decide +kernel
theorem dX8_speech_66 : decode cX8_speech 66 = .ok (.if_icmp .ge 33, 3) := by decide +kernel
theorem dX8_speech_69 : decode cX8_speech 69 = .ok (.aload_n 0, 1) := by decide +kernel
theorem dX8_speech_70 : decode cX8_speech 70 = .ok (.getfield 22, 3) := by decide +kernel
theorem dX8_speech_73 : decode cX8_speech 73 = .ok (.iload_n 2, 1) := by decide +kernel
theorem dX8_speech_74 : decode cX8_speech 74 = .ok (.aload_n 0, 1) := by decide +kernel
theorem dX8_speech_75 : decode cX8_speech 75 = .ok (.getfield 65, 3) := by decide +kernel
theorem dX8_speech_78 : decode cX8_speech 78 = .ok (.iload_n 2, 1) := by decide +kernel
theorem dX8_speech_79 : decode cX8_speech 79 = .ok (.iaload, 1) := by decide +kernel
theorem dX8_speech_80 : decode cX8_speech 80 = .ok (.iastore, 1) := by decide +kernel
theorem dX8_speech_81 : decode cX8_speech 81 = .ok (.aload_n 0, 1) := by decide +kernel
theorem dX8_speech_82 : decode cX8_speech 82 = .ok (.getfield 25, 3) := by decide +kernel
theorem dX8_speech_85 : decode cX8_speech 85 = .ok (.iload_n 2, 1) := by decide +kernel
theorem dX8_speech_86 : decode cX8_speech 86 = .ok (.aload_n 0, 1) := by decide +kernel
theorem dX8_speech_87 : decode cX8_speech 87 = .ok (.getfield 68, 3) := by decide +kernel
theorem dX8_speech_90 : decode cX8_speech 90 = .ok (.iload_n 2, 1) := by decide +kernel
theorem dX8_speech_91 : decode cX8_speech 91 = .ok (.iaload, 1) := by decide +kernel
theorem dX8_speech_92 : decode cX8_speech 92 = .ok (.iastore, 1) := by decide +kernel
theorem dX8_speech_93 : decode cX8_speech 93 = .ok (.iinc 2 1, 3) := by decide +kernel
theorem dX8_speech_96 : decode cX8_speech 96 = .ok (.goto (-35), 3) := by decide +kernel
theorem dX8_speech_99 : decode cX8_speech 99 = .ok (.iconst 0, 1) := by decide +kernel
theorem dX8_speech_100 : decode cX8_speech 100 = .ok (.istore_n 2, 1) := by decide +kernel
theorem dX8_speech_101 : decode cX8_speech 101 = .ok (.iload_n 2, 1) := by decide +kernel
theorem dX8_speech_102 : decode cX8_speech 102 = .ok (.aload_n 0, 1) := by decide +kernel
theorem dX8_speech_103 : decode cX8_speech 103 = .ok (.getfield 210, 3) := by decide +kernel
theorem dX8_speech_106 : decode cX8_speech 106 = .ok (.if_icmp .ge 55, 3) := by decide +kernel
theorem dX8_speech_109 : decode cX8_speech 109 = .ok (.aload_n 0, 1) := by decide +kernel
theorem dX8_speech_110 : decode cX8_speech 110 = .ok (.getfield 28, 3) := by decide +kernel
theorem dX8_speech_113 : decode cX8_speech 113 = .ok (.iload_n 2, 1) := by decide +kernel
theorem dX8_speech_114 : decode cX8_speech 114 = .ok (.aload_n 0, 1) := by decide +kernel
theorem dX8_speech_115 : decode cX8_speech 115 = .ok (.getfield 71, 3) := by decide +kernel
theorem dX8_speech_118 : decode cX8_speech 118 = .ok (.iconst 3, 1) := by decide +kernel
theorem dX8_speech_119 : decode cX8_speech 119 = .ok (.iload_n 2, 1) := by decide +kernel
theorem dX8_speech_120 : decode cX8_speech 120 = .ok (.imul, 1) := by decide +kernel
theorem dX8_speech_121 : decode cX8_speech 121 = .ok (.iaload, 1) := by decide +kernel
theorem dX8_speech_122 : decode cX8_speech 122 = .ok (.iastore, 1) := by decide +kernel
theorem dX8_speech_123 : decode cX8_speech 123 = .ok (.aload_n 0, 1) := by decide +kernel
theorem dX8_speech_124 : decode cX8_speech 124 = .ok (.getfield 31, 3) := by decide +kernel
theorem dX8_speech_127 : decode cX8_speech 127 = .ok (.iload_n 2, 1) := by decide +kernel
theorem dX8_speech_128 : decode cX8_speech 128 = .ok (.aload_n 0, 1) := by decide +kernel
theorem dX8_speech_129 : decode cX8_speech 129 = .ok (.getfield 71, 3) := by decide +kernel
theorem dX8_speech_132 : decode cX8_speech 132 = .ok (.iconst 3, 1) := by decide +kernel
theorem dX8_speech_133 : decode cX8_speech 133 = .ok (.iload_n 2, 1) := by decide +kernel
theorem dX8_speech_134 : decode cX8_speech 134 = .ok (.imul, 1) := by decide +kernel
theorem dX8_speech_135 : decode cX8_speech 135 = .ok (.iconst 1, 1) := by decide +kernel
theorem dX8_speech_136 : decode cX8_speech 136 = .ok (.iadd, 1) := by decide +kernel
theorem dX8_speech_137 : decode cX8_speech 137 = .ok (.iaload, 1) := by decide +kernel
theorem dX8_speech_138 : decode cX8_speech 138 = .ok (.iastore, 1) := by decide +kernel
theorem dX8_speech_139 : decode cX8_speech 139 = .ok (.aload_n 0, 1) := by decide +kernel
theorem dX8_speech_140 : decode cX8_speech 140 = .ok (.getfield 34, 3) := by decide +kernel
theorem dX8_speech_143 : decode cX8_speech 143 = .ok (.iload_n 2, 1) := by decide +kernel
theorem dX8_speech_144 : decode cX8_speech 144 = .ok (.aload_n 0, 1) := by decide +kernel
theorem dX8_speech_145 : decode cX8_speech 145 = .ok (.getfield 71, 3) := by decide +kernel
theorem dX8_speech_148 : decode cX8_speech 148 = .ok (.iconst 3, 1) := by decide +kernel
theorem dX8_speech_149 : decode cX8_speech 149 = .ok (.iload_n 2, 1) := by decide +kernel
theorem dX8_speech_150 : decode cX8_speech 150 = .ok (.imul, 1) := by decide +kernel
theorem dX8_speech_151 : decode cX8_speech 151 = .ok (.iconst 2, 1) := by decide +kernel
theorem dX8_speech_152 : decode cX8_speech 152 = .ok (.iadd, 1) := by decide +kernel
theorem dX8_speech_153 : decode cX8_speech 153 = .ok (.iaload, 1) := by decide +kernel
theorem dX8_speech_154 : decode cX8_speech 154 = .ok (.iastore, 1) := by decide +kernel
theorem dX8_speech_155 : decode cX8_speech 155 = .ok (.iinc 2 1, 3) := by decide +kernel
theorem dX8_speech_158 : decode cX8_speech 158 = .ok (.goto (-57), 3) := by decide +kernel
theorem dX8_speech_161 : decode cX8_speech 161 = .ok (.iconst 0, 1) := by decide +kernel
theorem dX8_speech_162 : decode cX8_speech 162 = .ok (.istore_n 2, 1) := by decide +kernel
theorem dX8_speech_163 : decode cX8_speech 163 = .ok (.iload_n 2, 1) := by decide +kernel
theorem dX8_speech_164 : decode cX8_speech 164 = .ok (.aload_n 0, 1) := by decide +kernel
theorem dX8_speech_165 : decode cX8_speech 165 = .ok (.getfield 213, 3) := by decide +kernel
theorem dX8_speech_168 : decode cX8_speech 168 = .ok (.if_icmp .ge 71, 3) := by decide +kernel
theorem dX8_speech_171 : decode cX8_speech 171 = .ok (.aload_n 0, 1) := by decide +kernel
theorem dX8_speech_172 : decode cX8_speech 172 = .ok (.getfield 37, 3) := by decide +kernel
theorem dX8_speech_175 : decode cX8_speech 175 = .ok (.iload_n 2, 1) := by decide +kernel
theorem dX8_speech_176 : decode cX8_speech 176 = .ok (.aload_n 0, 1) := by decide +kernel
theorem dX8_speech_177 : decode cX8_speech 177 = .ok (.getfield 74, 3) := by decide +kernel
theorem dX8_speech_180 : decode cX8_speech 180 = .ok (.iconst 4, 1) := by decide +kernel
theorem dX8_speech_181 : decode cX8_speech 181 = .ok (.iload_n 2, 1) := by decide +kernel
theorem dX8_speech_182 : decode cX8_speech 182 = .ok (.imul, 1) := by decide +kernel
theorem dX8_speech_183 : decode cX8_speech 183 = .ok (.iaload, 1) := by decide +kernel
theorem dX8_speech_184 : decode cX8_speech 184 = .ok (.iastore, 1) := by decide +kernel
theorem dX8_speech_185 : decode cX8_speech 185 = .ok (.aload_n 0, 1) := by decide +kernel
theorem dX8_speech_186 : decode cX8_speech 186 = .ok (.getfield 40, 3) := by decide +kernel
theorem dX8_speech_189 : decode cX8_speech 189 = .ok (.iload_n 2, 1) := by decide +kernel
theorem dX8_speech_190 : decode cX8_speech 190 = .ok (.aload_n 0, 1) := by decide +kernel
theorem dX8_speech_191 : decode cX8_speech 191 = .ok (.getfield 74, 3) := by decide +kernel
theorem dX8_speech_194 : decode cX8_speech 194 = .ok (.iconst 4, 1) := by decide +kernel
theorem dX8_speech_195 : decode cX8_speech 195 = .ok (.iload_n 2, 1) := by decide +kernel
theorem dX8_speech_196 : decode cX8_speech 196 = .ok (.imul, 1) := by decide +kernel
theorem dX8_speech_197 : decode cX8_speech 197 = .ok (.iconst 1, 1) := by decide +kernel
theorem dX8_speech_198 : decode cX8_speech 198 = .ok (.iadd, 1) := by decide +kernel
theorem dX8_speech_199 : decode cX8_speech 199 = .ok (.iaload, 1) := by decide +kernel
theorem dX8_speech_200 : decode cX8_speech 200 = .ok (.iastore, 1) := by decide +kernel
theorem dX8_speech_201 : decode cX8_speech 201 = .ok (.aload_n 0, 1) := by decide +kernel
theorem dX8_speech_202 : decode cX8_speech 202 = .ok (.getfield 43, 3) := by decide +kernel
theorem dX8_speech_205 : decode cX8_speech 205 = .ok (.iload_n 2, 1) := by decide +kernel
theorem dX8_speech_206 : decode cX8_speech 206 = .ok (.aload_n 0, 1) := by decide +kernel
theorem dX8_speech_207 : decode cX8_speech 207 = .ok (.getfield 74, 3) := by decide +kernel
theorem dX8_speech_210 : decode cX8_speech 210 = .ok (.iconst 4, 1) := by decide +kernel
theorem dX8_speech_211 : decode cX8_speech 211 = .ok (.iload_n 2, 1) := by decide +kernel
theorem dX8_speech_212 : decode cX8_speech 212 = .ok (.imul, 1) := by decide +kernel
theorem dX8_speech_213 : decode cX8_speech 213 = .ok (.iconst 2, 1) := by decide +kernel
theorem dX8_speech_214 : decode cX8_speech 214 = .ok (.iadd, 1) := by decide +kernel
theorem dX8_speech_215 : decode cX8_speech 215 = .ok (.iaload, 1) := by decide +kernel
theorem dX8_speech_216 : decode cX8_speech 216 = .ok (.iastore, 1) := by decide +kernel
theorem dX8_speech_217 : decode cX8_speech 217 = .ok (.aload_n 0, 1) := by decide +kernel
theorem dX8_speech_218 : decode cX8_speech 218 = .ok (.getfield 46, 3) := by decide +kernel
theorem dX8_speech_221 : decode cX8_speech 221 = .ok (.iload_n 2, 1) := by decide +kernel
theorem dX8_speech_222 : decode cX8_speech 222 = .ok (.aload_n 0, 1) := by decide +kernel
theorem dX8_speech_223 : decode cX8_speech 223 = .ok (.getfield 74, 3) := by decide +kernel
theorem dX8_speech_226 : decode cX8_speech 226 = .ok (.iconst 4, 1) := by decide +kernel
theorem dX8_speech_227 : decode cX8_speech 227 = .ok (.iload_n 2, 1) := by decide +kernel
theorem dX8_speech_228 : decode cX8_speech 228 = .ok (.imul, 1) := by decide +kernel
theorem dX8_speech_229 : decode cX8_speech 229 = .ok (.iconst 3, 1) := by decide +kernel
theorem dX8_speech_230 : decode cX8_speech 230 = .ok (.iadd, 1) := by decide +kernel
theorem dX8_speech_231 : decode cX8_speech 231 = .ok (.iaload, 1) := by decide +kernel
theorem dX8_speech_232 : decode cX8_speech 232 = .ok (.iastore, 1) := by decide +kernel
theorem dX8_speech_233 : decode cX8_speech 233 = .ok (.iinc 2 1, 3) := by decide +kernel
theorem dX8_speech_236 : decode cX8_speech 236 = .ok (.goto (-73), 3) := by decide +kernel
theorem dX8_speech_239 : decode cX8_speech 239 = .ok (.aload_n 0, 1) := by decide +kernel
theorem dX8_speech_240 : decode cX8_speech 240 = .ok (.iconst 0, 1) := by decide +kernel
theorem dX8_speech_241 : decode cX8_speech 241 = .ok (.putfield 216, 3) := by decide +kernel
theorem dX8_speech_244 : decode cX8_speech 244 = .ok (.aload_n 0, 1) := by decide +kernel
theorem dX8_speech_245 : decode cX8_speech 245 = .ok (.iconst 0, 1) := by decide +kernel
theorem dX8_speech_246 : decode cX8_speech 246 = .ok (.putfield 219, 3) := by decide +kernel
theorem dX8_speech_249 : decode cX8_speech 249 = .ok (.iconst 0, 1) := by decide +kernel
theorem dX8_speech_250 : decode cX8_speech 250 = .ok (.istore_n 2, 1) := by decide +kernel
theorem dX8_speech_251 : decode cX8_speech 251 = .ok (.iload_n 2, 1) := by decide +kernel
theorem dX8_speech_252 : decode cX8_speech 252 = .ok (.iconst 3, 1) := by decide +kernel
theorem dX8_speech_253 : decode cX8_speech 253 = .ok (.if_icmp .ge 16, 3) := by decide +kernel
theorem dX8_speech_256 : decode cX8_speech 256 = .ok (.aload_n 0, 1) := by decide +kernel
theorem dX8_speech_257 : decode cX8_speech 257 = .ok (.getfield 83, 3) := by decide +kernel
theorem dX8_speech_260 : decode cX8_speech 260 = .ok (.iload_n 2, 1) := by decide +kernel
theorem dX8_speech_261 : decode cX8_speech 261 = .ok (.iconst 0, 1) := by decide +kernel
theorem dX8_speech_262 : decode cX8_speech 262 = .ok (.bastore, 1) := by decide +kernel
theorem dX8_speech_263 : decode cX8_speech 263 = .ok (.iinc 2 1, 3) := by decide +kernel
theorem dX8_speech_266 : decode cX8_speech 266 = .ok (.goto (-15), 3) := by decide +kernel
theorem dX8_speech_269 : decode cX8_speech 269 = .ok (.aload_n 0, 1) := by decide +kernel
theorem dX8_speech_270 : decode cX8_speech 270 = .ok (.getfield 207, 3) := by decide +kernel
theorem dX8_speech_273 : decode cX8_speech 273 = .ok (.ireturn, 1) := by decide +kernel
theorem dX8_isNode_0 : decode cX8_isNode 0 = .ok (.iload_n 1, 1) := by decide +kernel
theorem dX8_isNode_1 : decode cX8_isNode 1 = .ok (.i2l, 1) := by decide +kernel
theorem dX8_isNode_2 : decode cX8_isNode 2 = .ok (.lconst 0, 1) := by decide +kernel
theorem dX8_isNode_3 : decode cX8_isNode 3 = .ok (.aload_n 0, 1) := by decide +kernel
theorem dX8_isNode_4 : decode cX8_isNode 4 = .ok (.getfield 207, 3) := by decide +kernel
theorem dX8_isNode_7 : decode cX8_isNode 7 = .ok (.iconst 1, 1) := by decide +kernel
theorem dX8_isNode_8 : decode cX8_isNode 8 = .ok (.isub, 1) := by decide +kernel
theorem dX8_isNode_9 : decode cX8_isNode 9 = .ok (.i2l, 1) := by decide +kernel
theorem dX8_isNode_10 : decode cX8_isNode 10 = .ok (.invokestatic 133, 3) := by decide +kernel
theorem dX8_isNode_13 : decode cX8_isNode 13 = .ok (.ireturn, 1) := by decide +kernel
theorem dX8_isWord_0 : decode cX8_isWord 0 = .ok (.iload_n 1, 1) := by decide +kernel
theorem dX8_isWord_1 : decode cX8_isWord 1 = .ok (.i2l, 1) := by decide +kernel
theorem dX8_isWord_2 : decode cX8_isWord 2 = .ok (.lconst 0, 1) := by decide +kernel
theorem dX8_isWord_3 : decode cX8_isWord 3 = .ok (.aload_n 0, 1) := by decide +kernel
theorem dX8_isWord_4 : decode cX8_isWord 4 = .ok (.getfield 210, 3) := by decide +kernel
theorem dX8_isWord_7 : decode cX8_isWord 7 = .ok (.iconst 1, 1) := by decide +kernel
theorem dX8_isWord_8 : decode cX8_isWord 8 = .ok (.isub, 1) := by decide +kernel
theorem dX8_isWord_9 : decode cX8_isWord 9 = .ok (.i2l, 1) := by decide +kernel
theorem dX8_isWord_10 : decode cX8_isWord 10 = .ok (.invokestatic 133, 3) := by decide +kernel
theorem dX8_isWord_13 : decode cX8_isWord 13 = .ok (.ireturn, 1) := by decide +kernel
theorem dX8_isDeed_0 : decode cX8_isDeed 0 = .ok (.iload_n 1, 1) := by decide +kernel
theorem dX8_isDeed_1 : decode cX8_isDeed 1 = .ok (.i2l, 1) := by decide +kernel
theorem dX8_isDeed_2 : decode cX8_isDeed 2 = .ok (.lconst 0, 1) := by decide +kernel
theorem dX8_isDeed_3 : decode cX8_isDeed 3 = .ok (.aload_n 0, 1) := by decide +kernel
theorem dX8_isDeed_4 : decode cX8_isDeed 4 = .ok (.getfield 213, 3) := by decide +kernel
theorem dX8_isDeed_7 : decode cX8_isDeed 7 = .ok (.iconst 1, 1) := by decide +kernel
theorem dX8_isDeed_8 : decode cX8_isDeed 8 = .ok (.isub, 1) := by decide +kernel
theorem dX8_isDeed_9 : decode cX8_isDeed 9 = .ok (.i2l, 1) := by decide +kernel
theorem dX8_isDeed_10 : decode cX8_isDeed 10 = .ok (.invokestatic 133, 3) := by decide +kernel
theorem dX8_isDeed_13 : decode cX8_isDeed 13 = .ok (.ireturn, 1) := by decide +kernel
theorem dX8_wordsFrom_0 : decode cX8_wordsFrom 0 = .ok (.iconst 0, 1) := by decide +kernel
theorem dX8_wordsFrom_1 : decode cX8_wordsFrom 1 = .ok (.istore_n 2, 1) := by decide +kernel
theorem dX8_wordsFrom_2 : decode cX8_wordsFrom 2 = .ok (.iconst 0, 1) := by decide +kernel
theorem dX8_wordsFrom_3 : decode cX8_wordsFrom 3 = .ok (.istore_n 3, 1) := by decide +kernel
theorem dX8_wordsFrom_4 : decode cX8_wordsFrom 4 = .ok (.iload_n 3, 1) := by decide +kernel
theorem dX8_wordsFrom_5 : decode cX8_wordsFrom 5 = .ok (.aload_n 0, 1) := by decide +kernel
theorem dX8_wordsFrom_6 : decode cX8_wordsFrom 6 = .ok (.getfield 210, 3) := by decide +kernel
theorem dX8_wordsFrom_9 : decode cX8_wordsFrom 9 = .ok (.if_icmp .ge 29, 3) := by decide +kernel
theorem dX8_wordsFrom_12 : decode cX8_wordsFrom 12 = .ok (.iload_n 2, 1) := by decide +kernel
theorem dX8_wordsFrom_13 : decode cX8_wordsFrom 13 = .ok (.aload_n 0, 1) := by decide +kernel
theorem dX8_wordsFrom_14 : decode cX8_wordsFrom 14 = .ok (.getfield 28, 3) := by decide +kernel
theorem dX8_wordsFrom_17 : decode cX8_wordsFrom 17 = .ok (.iload_n 3, 1) := by decide +kernel
theorem dX8_wordsFrom_18 : decode cX8_wordsFrom 18 = .ok (.iaload, 1) := by decide +kernel
theorem dX8_wordsFrom_19 : decode cX8_wordsFrom 19 = .ok (.iload_n 1, 1) := by decide +kernel
theorem dX8_wordsFrom_20 : decode cX8_wordsFrom 20 = .ok (.if_icmp .ne 9, 3) := by decide +kernel
theorem dX8_wordsFrom_23 : decode cX8_wordsFrom 23 = .ok (.iconst 1, 1) := by decide +kernel
theorem dX8_wordsFrom_24 : decode cX8_wordsFrom 24 = .ok (.iload_n 3, 1) := by decide +kernel
theorem dX8_wordsFrom_25 : decode cX8_wordsFrom 25 = .ok (.ishl, 1) := by decide +kernel
theorem dX8_wordsFrom_26 : decode cX8_wordsFrom 26 = .ok (.goto 4, 3) := by decide +kernel
theorem dX8_wordsFrom_29 : decode cX8_wordsFrom 29 = .ok (.iconst 0, 1) := by decide +kernel
theorem dX8_wordsFrom_30 : decode cX8_wordsFrom 30 = .ok (.ior, 1) := by decide +kernel
theorem dX8_wordsFrom_31 : decode cX8_wordsFrom 31 = .ok (.istore_n 2, 1) := by decide +kernel
theorem dX8_wordsFrom_32 : decode cX8_wordsFrom 32 = .ok (.iinc 3 1, 3) := by decide +kernel
theorem dX8_wordsFrom_35 : decode cX8_wordsFrom 35 = .ok (.goto (-31), 3) := by decide +kernel
theorem dX8_wordsFrom_38 : decode cX8_wordsFrom 38 = .ok (.iload_n 2, 1) := by decide +kernel
theorem dX8_wordsFrom_39 : decode cX8_wordsFrom 39 = .ok (.ireturn, 1) := by decide +kernel
theorem dX8_isOver_0 : decode cX8_isOver 0 = .ok (.aload_n 0, 1) := by decide +kernel
theorem dX8_isOver_1 : decode cX8_isOver 1 = .ok (.iload_n 1, 1) := by decide +kernel
theorem dX8_isOver_2 : decode cX8_isOver 2 = .ok (.invokevirtual 222, 3) := by decide +kernel
theorem dX8_isOver_5 : decode cX8_isOver 5 = .ok (.ifCond .ne 7, 3) := by decide +kernel
theorem dX8_isOver_8 : decode cX8_isOver 8 = .ok (.iconst 1, 1) := by decide +kernel
theorem dX8_isOver_9 : decode cX8_isOver 9 = .ok (.goto 4, 3) := by decide +kernel
theorem dX8_isOver_12 : decode cX8_isOver 12 = .ok (.iconst 0, 1) := by decide +kernel
theorem dX8_isOver_13 : decode cX8_isOver 13 = .ok (.ireturn, 1) := by decide +kernel
theorem dX8_whereNow_0 : decode cX8_whereNow 0 = .ok (.aload_n 0, 1) := by decide +kernel
theorem dX8_whereNow_1 : decode cX8_whereNow 1 = .ok (.getfield 216, 3) := by decide +kernel
theorem dX8_whereNow_4 : decode cX8_whereNow 4 = .ok (.ifCond .ne 7, 3) := by decide +kernel
theorem dX8_whereNow_7 : decode cX8_whereNow 7 = .ok (.iconst 0, 1) := by decide +kernel
theorem dX8_whereNow_8 : decode cX8_whereNow 8 = .ok (.goto 19, 3) := by decide +kernel
theorem dX8_whereNow_11 : decode cX8_whereNow 11 = .ok (.aload_n 0, 1) := by decide +kernel
theorem dX8_whereNow_12 : decode cX8_whereNow 12 = .ok (.getfield 31, 3) := by decide +kernel
theorem dX8_whereNow_15 : decode cX8_whereNow 15 = .ok (.aload_n 0, 1) := by decide +kernel
theorem dX8_whereNow_16 : decode cX8_whereNow 16 = .ok (.getfield 49, 3) := by decide +kernel
theorem dX8_whereNow_19 : decode cX8_whereNow 19 = .ok (.aload_n 0, 1) := by decide +kernel
theorem dX8_whereNow_20 : decode cX8_whereNow 20 = .ok (.getfield 216, 3) := by decide +kernel
theorem dX8_whereNow_23 : decode cX8_whereNow 23 = .ok (.iconst 1, 1) := by decide +kernel
theorem dX8_whereNow_24 : decode cX8_whereNow 24 = .ok (.isub, 1) := by decide +kernel
theorem dX8_whereNow_25 : decode cX8_whereNow 25 = .ok (.iaload, 1) := by decide +kernel
theorem dX8_whereNow_26 : decode cX8_whereNow 26 = .ok (.iaload, 1) := by decide +kernel
theorem dX8_whereNow_27 : decode cX8_whereNow 27 = .ok (.ireturn, 1) := by decide +kernel
theorem dX8_findOutcomes_0 : decode cX8_findOutcomes 0 = .ok (.aload_n 0, 1) := by decide +kernel
theorem dX8_findOutcomes_1 : decode cX8_findOutcomes 1 = .ok (.getfield 207, 3) := by decide +kernel
theorem dX8_findOutcomes_4 : decode cX8_findOutcomes 4 = .ok (.iconst 1, 1) := by decide +kernel
theorem dX8_findOutcomes_5 : decode cX8_findOutcomes 5 = .ok (.isub, 1) := by decide +kernel
theorem dX8_findOutcomes_6 : decode cX8_findOutcomes 6 = .ok (.istore_n 1, 1) := by decide +kernel
theorem dX8_findOutcomes_7 : decode cX8_findOutcomes 7 = .ok (.iload_n 1, 1) := by decide +kernel
theorem dX8_findOutcomes_8 : decode cX8_findOutcomes 8 = .ok (.ifCond .lt 153, 3) := by decide +kernel
theorem dX8_findOutcomes_11 : decode cX8_findOutcomes 11 = .ok (.aload_n 0, 1) := by decide +kernel
theorem dX8_findOutcomes_12 : decode cX8_findOutcomes 12 = .ok (.getfield 22, 3) := by decide +kernel
theorem dX8_findOutcomes_15 : decode cX8_findOutcomes 15 = .ok (.iload_n 1, 1) := by decide +kernel
theorem dX8_findOutcomes_16 : decode cX8_findOutcomes 16 = .ok (.iaload, 1) := by decide +kernel
theorem dX8_findOutcomes_17 : decode cX8_findOutcomes 17 = .ok (.invokestatic 169, 3) := by decide +kernel
theorem dX8_findOutcomes_20 : decode cX8_findOutcomes 20 = .ok (.istore_n 2, 1) := by decide +kernel
theorem dX8_findOutcomes_21 : decode cX8_findOutcomes 21 = .ok (.aload_n 0, 1) := by decide +kernel
theorem dX8_findOutcomes_22 : decode cX8_findOutcomes 22 = .ok (.getfield 77, 3) := by decide +kernel
theorem dX8_findOutcomes_25 : decode cX8_findOutcomes 25 = .ok (.iload_n 1, 1) := by decide +kernel
theorem dX8_findOutcomes_26 : decode cX8_findOutcomes 26 = .ok (.iload_n 2, 1) := by decide +kernel
theorem dX8_findOutcomes_27 : decode cX8_findOutcomes 27 = .ok (.ifCond .eq 7, 3) := by decide +kernel
theorem dX8_findOutcomes_30 : decode cX8_findOutcomes 30 = .ok (.iconst 1, 1) := by decide +kernel
theorem dX8_findOutcomes_31 : decode cX8_findOutcomes 31 = .ok (.goto 4, 3) := by decide +kernel
theorem dX8_findOutcomes_34 : decode cX8_findOutcomes 34 = .ok (.iconst 0, 1) := by decide +kernel
theorem dX8_findOutcomes_35 : decode cX8_findOutcomes 35 = .ok (.iastore, 1) := by decide +kernel
theorem dX8_findOutcomes_36 : decode cX8_findOutcomes 36 = .ok (.aload_n 0, 1) := by decide +kernel
theorem dX8_findOutcomes_37 : decode cX8_findOutcomes 37 = .ok (.getfield 80, 3) := by decide +kernel
theorem dX8_findOutcomes_40 : decode cX8_findOutcomes 40 = .ok (.iload_n 1, 1) := by decide +kernel
theorem dX8_findOutcomes_41 : decode cX8_findOutcomes 41 = .ok (.iload_n 2, 1) := by decide +kernel
theorem dX8_findOutcomes_42 : decode cX8_findOutcomes 42 = .ok (.ifCond .eq 14, 3) := by decide +kernel
theorem dX8_findOutcomes_45 : decode cX8_findOutcomes 45 = .ok (.iconst 1, 1) := by decide +kernel
theorem dX8_findOutcomes_46 : decode cX8_findOutcomes 46 = .ok (.aload_n 0, 1) := by decide +kernel
theorem dX8_findOutcomes_47 : decode cX8_findOutcomes 47 = .ok (.getfield 25, 3) := by decide +kernel
theorem dX8_findOutcomes_50 : decode cX8_findOutcomes 50 = .ok (.iload_n 1, 1) := by decide +kernel
theorem dX8_findOutcomes_51 : decode cX8_findOutcomes 51 = .ok (.iaload, 1) := by decide +kernel
theorem dX8_findOutcomes_52 : decode cX8_findOutcomes 52 = .ok (.ishl, 1) := by decide +kernel
theorem dX8_findOutcomes_53 : decode cX8_findOutcomes 53 = .ok (.goto 17, 3) := by decide +kernel
theorem dX8_findOutcomes_56 : decode cX8_findOutcomes 56 = .ok (.aload_n 0, 1) := by decide +kernel
theorem dX8_findOutcomes_57 : decode cX8_findOutcomes 57 = .ok (.iload_n 1, 1) := by decide +kernel
theorem dX8_findOutcomes_58 : decode cX8_findOutcomes 58 = .ok (.invokevirtual 225, 3) := by decide +kernel
theorem dX8_findOutcomes_61 : decode cX8_findOutcomes 61 = .ok (.ifCond .eq 8, 3) := by decide +kernel
theorem dX8_findOutcomes_64 : decode cX8_findOutcomes 64 = .ok (.bipush 64, 2) := by decide +kernel
theorem dX8_findOutcomes_66 : decode cX8_findOutcomes 66 = .ok (.goto 4, 3) := by decide +kernel
theorem dX8_findOutcomes_69 : decode cX8_findOutcomes 69 = .ok (.iconst 0, 1) := by decide +kernel
theorem dX8_findOutcomes_70 : decode cX8_findOutcomes 70 = .ok (.iastore, 1) := by decide +kernel
theorem dX8_findOutcomes_71 : decode cX8_findOutcomes 71 = .ok (.iconst 0, 1) := by decide +kernel
theorem dX8_findOutcomes_72 : decode cX8_findOutcomes 72 = .ok (.istore_n 3, 1) := by decide +kernel
theorem dX8_findOutcomes_73 : decode cX8_findOutcomes 73 = .ok (.iload_n 3, 1) := by decide +kernel
theorem dX8_findOutcomes_74 : decode cX8_findOutcomes 74 = .ok (.aload_n 0, 1) := by decide +kernel
theorem dX8_findOutcomes_75 : decode cX8_findOutcomes 75 = .ok (.getfield 210, 3) := by decide +kernel
theorem dX8_findOutcomes_78 : decode cX8_findOutcomes 78 = .ok (.if_icmp .ge 77, 3) := by decide +kernel
theorem dX8_findOutcomes_81 : decode cX8_findOutcomes 81 = .ok (.aload_n 0, 1) := by decide +kernel
theorem dX8_findOutcomes_82 : decode cX8_findOutcomes 82 = .ok (.getfield 77, 3) := by decide +kernel
theorem dX8_findOutcomes_85 : decode cX8_findOutcomes 85 = .ok (.iload_n 1, 1) := by decide +kernel
theorem dX8_findOutcomes_86 : decode cX8_findOutcomes 86 = .ok (.dup2, 1) := by decide +kernel
theorem dX8_findOutcomes_87 : decode cX8_findOutcomes 87 = .ok (.iaload, 1) := by decide +kernel
theorem dX8_findOutcomes_88 : decode cX8_findOutcomes 88 = .ok (.aload_n 0, 1) := by decide +kernel
theorem dX8_findOutcomes_89 : decode cX8_findOutcomes 89 = .ok (.getfield 28, 3) := by decide +kernel
theorem dX8_findOutcomes_92 : decode cX8_findOutcomes 92 = .ok (.iload_n 3, 1) := by decide +kernel
theorem dX8_findOutcomes_93 : decode cX8_findOutcomes 93 = .ok (.iaload, 1) := by decide +kernel
theorem dX8_findOutcomes_94 : decode cX8_findOutcomes 94 = .ok (.iload_n 1, 1) := by decide +kernel
theorem dX8_findOutcomes_95 : decode cX8_findOutcomes 95 = .ok (.if_icmp .ne 17, 3) := by decide +kernel
theorem dX8_findOutcomes_98 : decode cX8_findOutcomes 98 = .ok (.aload_n 0, 1) := by decide +kernel
theorem dX8_findOutcomes_99 : decode cX8_findOutcomes 99 = .ok (.getfield 77, 3) := by decide +kernel
theorem dX8_findOutcomes_102 : decode cX8_findOutcomes 102 = .ok (.aload_n 0, 1) := by decide +kernel
theorem dX8_findOutcomes_103 : decode cX8_findOutcomes 103 = .ok (.getfield 31, 3) := by decide +kernel
theorem dX8_findOutcomes_106 : decode cX8_findOutcomes 106 = .ok (.iload_n 3, 1) := by decide +kernel
theorem dX8_findOutcomes_107 : decode cX8_findOutcomes 107 = .ok (.iaload, 1) := by decide +kernel
theorem dX8_findOutcomes_108 : decode cX8_findOutcomes 108 = .ok (.iaload, 1) := by decide +kernel
theorem dX8_findOutcomes_109 : decode cX8_findOutcomes 109 = .ok (.goto 4, 3) := by decide +kernel
theorem dX8_findOutcomes_112 : decode cX8_findOutcomes 112 = .ok (.iconst 0, 1) := by decide +kernel
theorem dX8_findOutcomes_113 : decode cX8_findOutcomes 113 = .ok (.iadd, 1) := by decide +kernel
theorem dX8_findOutcomes_114 : decode cX8_findOutcomes 114 = .ok (.iastore, 1) := by decide +kernel
theorem dX8_findOutcomes_115 : decode cX8_findOutcomes 115 = .ok (.aload_n 0, 1) := by decide +kernel
theorem dX8_findOutcomes_116 : decode cX8_findOutcomes 116 = .ok (.getfield 80, 3) := by decide +kernel
theorem dX8_findOutcomes_119 : decode cX8_findOutcomes 119 = .ok (.iload_n 1, 1) := by decide +kernel
theorem dX8_findOutcomes_120 : decode cX8_findOutcomes 120 = .ok (.dup2, 1) := by decide +kernel
theorem dX8_findOutcomes_121 : decode cX8_findOutcomes 121 = .ok (.iaload, 1) := by decide +kernel
theorem dX8_findOutcomes_122 : decode cX8_findOutcomes 122 = .ok (.aload_n 0, 1) := by decide +kernel
theorem dX8_findOutcomes_123 : decode cX8_findOutcomes 123 = .ok (.getfield 28, 3) := by decide +kernel
theorem dX8_findOutcomes_126 : decode cX8_findOutcomes 126 = .ok (.iload_n 3, 1) := by decide +kernel
theorem dX8_findOutcomes_127 : decode cX8_findOutcomes 127 = .ok (.iaload, 1) := by decide +kernel
theorem dX8_findOutcomes_128 : decode cX8_findOutcomes 128 = .ok (.iload_n 1, 1) := by decide +kernel
theorem dX8_findOutcomes_129 : decode cX8_findOutcomes 129 = .ok (.if_icmp .ne 17, 3) := by decide +kernel
theorem dX8_findOutcomes_132 : decode cX8_findOutcomes 132 = .ok (.aload_n 0, 1) := by decide +kernel
theorem dX8_findOutcomes_133 : decode cX8_findOutcomes 133 = .ok (.getfield 80, 3) := by decide +kernel
theorem dX8_findOutcomes_136 : decode cX8_findOutcomes 136 = .ok (.aload_n 0, 1) := by decide +kernel
theorem dX8_findOutcomes_137 : decode cX8_findOutcomes 137 = .ok (.getfield 31, 3) := by decide +kernel
theorem dX8_findOutcomes_140 : decode cX8_findOutcomes 140 = .ok (.iload_n 3, 1) := by decide +kernel
theorem dX8_findOutcomes_141 : decode cX8_findOutcomes 141 = .ok (.iaload, 1) := by decide +kernel
theorem dX8_findOutcomes_142 : decode cX8_findOutcomes 142 = .ok (.iaload, 1) := by decide +kernel
theorem dX8_findOutcomes_143 : decode cX8_findOutcomes 143 = .ok (.goto 4, 3) := by decide +kernel
theorem dX8_findOutcomes_146 : decode cX8_findOutcomes 146 = .ok (.iconst 0, 1) := by decide +kernel
theorem dX8_findOutcomes_147 : decode cX8_findOutcomes 147 = .ok (.ior, 1) := by decide +kernel
theorem dX8_findOutcomes_148 : decode cX8_findOutcomes 148 = .ok (.iastore, 1) := by decide +kernel
theorem dX8_findOutcomes_149 : decode cX8_findOutcomes 149 = .ok (.iinc 3 1, 3) := by decide +kernel
theorem dX8_findOutcomes_152 : decode cX8_findOutcomes 152 = .ok (.goto (-79), 3) := by decide +kernel
theorem dX8_findOutcomes_155 : decode cX8_findOutcomes 155 = .ok (.iinc 1 (-1), 3) := by decide +kernel
theorem dX8_findOutcomes_158 : decode cX8_findOutcomes 158 = .ok (.goto (-151), 3) := by decide +kernel
theorem dX8_findOutcomes_161 : decode cX8_findOutcomes 161 = .ok (.return_, 1) := by decide +kernel
theorem dX8_nodeOf_0 : decode cX8_nodeOf 0 = .ok (.aload_n 0, 1) := by decide +kernel
theorem dX8_nodeOf_1 : decode cX8_nodeOf 1 = .ok (.invokevirtual 228, 3) := by decide +kernel
theorem dX8_nodeOf_4 : decode cX8_nodeOf 4 = .ok (.iload_n 2, 1) := by decide +kernel
theorem dX8_nodeOf_5 : decode cX8_nodeOf 5 = .ok (.ifCond .ne 12, 3) := by decide +kernel
theorem dX8_nodeOf_8 : decode cX8_nodeOf 8 = .ok (.aload_n 0, 1) := by decide +kernel
theorem dX8_nodeOf_9 : decode cX8_nodeOf 9 = .ok (.getfield 22, 3) := by decide +kernel
theorem dX8_nodeOf_12 : decode cX8_nodeOf 12 = .ok (.iload_n 1, 1) := by decide +kernel
theorem dX8_nodeOf_13 : decode cX8_nodeOf 13 = .ok (.iaload, 1) := by decide +kernel
theorem dX8_nodeOf_14 : decode cX8_nodeOf 14 = .ok (.goto 39, 3) := by decide +kernel
theorem dX8_nodeOf_17 : decode cX8_nodeOf 17 = .ok (.iload_n 2, 1) := by decide +kernel
theorem dX8_nodeOf_18 : decode cX8_nodeOf 18 = .ok (.iconst 1, 1) := by decide +kernel
theorem dX8_nodeOf_19 : decode cX8_nodeOf 19 = .ok (.if_icmp .ne 11, 3) := by decide +kernel
theorem dX8_nodeOf_22 : decode cX8_nodeOf 22 = .ok (.aload_n 0, 1) := by decide +kernel
theorem dX8_nodeOf_23 : decode cX8_nodeOf 23 = .ok (.iload_n 1, 1) := by decide +kernel
theorem dX8_nodeOf_24 : decode cX8_nodeOf 24 = .ok (.invokevirtual 222, 3) := by decide +kernel
theorem dX8_nodeOf_27 : decode cX8_nodeOf 27 = .ok (.goto 26, 3) := by decide +kernel
theorem dX8_nodeOf_30 : decode cX8_nodeOf 30 = .ok (.iload_n 2, 1) := by decide +kernel
theorem dX8_nodeOf_31 : decode cX8_nodeOf 31 = .ok (.iconst 2, 1) := by decide +kernel
theorem dX8_nodeOf_32 : decode cX8_nodeOf 32 = .ok (.if_icmp .ne 12, 3) := by decide +kernel
theorem dX8_nodeOf_35 : decode cX8_nodeOf 35 = .ok (.aload_n 0, 1) := by decide +kernel
theorem dX8_nodeOf_36 : decode cX8_nodeOf 36 = .ok (.getfield 77, 3) := by decide +kernel
theorem dX8_nodeOf_39 : decode cX8_nodeOf 39 = .ok (.iload_n 1, 1) := by decide +kernel
theorem dX8_nodeOf_40 : decode cX8_nodeOf 40 = .ok (.iaload, 1) := by decide +kernel
theorem dX8_nodeOf_41 : decode cX8_nodeOf 41 = .ok (.goto 12, 3) := by decide +kernel
theorem dX8_nodeOf_44 : decode cX8_nodeOf 44 = .ok (.aload_n 0, 1) := by decide +kernel
theorem dX8_nodeOf_45 : decode cX8_nodeOf 45 = .ok (.getfield 80, 3) := by decide +kernel
theorem dX8_nodeOf_48 : decode cX8_nodeOf 48 = .ok (.iload_n 1, 1) := by decide +kernel
theorem dX8_nodeOf_49 : decode cX8_nodeOf 49 = .ok (.iaload, 1) := by decide +kernel
theorem dX8_nodeOf_50 : decode cX8_nodeOf 50 = .ok (.bipush 63, 2) := by decide +kernel
theorem dX8_nodeOf_52 : decode cX8_nodeOf 52 = .ok (.iand, 1) := by decide +kernel
theorem dX8_nodeOf_53 : decode cX8_nodeOf 53 = .ok (.ireturn, 1) := by decide +kernel
theorem dX8_node_0 : decode cX8_node 0 = .ok (.aload_n 0, 1) := by decide +kernel
theorem dX8_node_1 : decode cX8_node 1 = .ok (.iload_n 1, 1) := by decide +kernel
theorem dX8_node_2 : decode cX8_node 2 = .ok (.invokevirtual 231, 3) := by decide +kernel
theorem dX8_node_5 : decode cX8_node 5 = .ok (.ifCond .eq 15, 3) := by decide +kernel
theorem dX8_node_8 : decode cX8_node 8 = .ok (.iload_n 2, 1) := by decide +kernel
theorem dX8_node_9 : decode cX8_node 9 = .ok (.i2l, 1) := by decide +kernel
theorem dX8_node_10 : decode cX8_node 10 = .ok (.lconst 0, 1) := by decide +kernel
theorem dX8_node_11 : decode cX8_node 11 = .ok (.ldc2_w 137, 3) := by decide +kernel
theorem dX8_node_14 : decode cX8_node 14 = .ok (.invokestatic 133, 3) := by decide +kernel
theorem dX8_node_17 : decode cX8_node 17 = .ok (.ifCond .ne 5, 3) := by decide +kernel
theorem dX8_node_20 : decode cX8_node 20 = .ok (.iconst (-1), 1) := by decide +kernel
theorem dX8_node_21 : decode cX8_node 21 = .ok (.ireturn, 1) := by decide +kernel
theorem dX8_node_22 : decode cX8_node 22 = .ok (.aload_n 0, 1) := by decide +kernel
theorem dX8_node_23 : decode cX8_node 23 = .ok (.iconst 1, 1) := by decide +kernel
theorem dX8_node_24 : decode cX8_node 24 = .ok (.aload_n 0, 1) := by decide +kernel
theorem dX8_node_25 : decode cX8_node 25 = .ok (.iload_n 1, 1) := by decide +kernel
theorem dX8_node_26 : decode cX8_node 26 = .ok (.iload_n 2, 1) := by decide +kernel
theorem dX8_node_27 : decode cX8_node 27 = .ok (.invokevirtual 234, 3) := by decide +kernel
theorem dX8_node_30 : decode cX8_node 30 = .ok (.invokevirtual 151, 3) := by decide +kernel
theorem dX8_node_33 : decode cX8_node 33 = .ok (.ireturn, 1) := by decide +kernel
theorem dX8_wordOf_0 : decode cX8_wordOf 0 = .ok (.iload_n 2, 1) := by decide +kernel
theorem dX8_wordOf_1 : decode cX8_wordOf 1 = .ok (.ifCond .ne 12, 3) := by decide +kernel
theorem dX8_wordOf_4 : decode cX8_wordOf 4 = .ok (.aload_n 0, 1) := by decide +kernel
theorem dX8_wordOf_5 : decode cX8_wordOf 5 = .ok (.getfield 28, 3) := by decide +kernel
theorem dX8_wordOf_8 : decode cX8_wordOf 8 = .ok (.iload_n 1, 1) := by decide +kernel
theorem dX8_wordOf_9 : decode cX8_wordOf 9 = .ok (.iaload, 1) := by decide +kernel
theorem dX8_wordOf_10 : decode cX8_wordOf 10 = .ok (.goto 23, 3) := by decide +kernel
theorem dX8_wordOf_13 : decode cX8_wordOf 13 = .ok (.iload_n 2, 1) := by decide +kernel
theorem dX8_wordOf_14 : decode cX8_wordOf 14 = .ok (.iconst 1, 1) := by decide +kernel
theorem dX8_wordOf_15 : decode cX8_wordOf 15 = .ok (.if_icmp .ne 12, 3) := by decide +kernel
theorem dX8_wordOf_18 : decode cX8_wordOf 18 = .ok (.aload_n 0, 1) := by decide +kernel
theorem dX8_wordOf_19 : decode cX8_wordOf 19 = .ok (.getfield 31, 3) := by decide +kernel
theorem dX8_wordOf_22 : decode cX8_wordOf 22 = .ok (.iload_n 1, 1) := by decide +kernel
theorem dX8_wordOf_23 : decode cX8_wordOf 23 = .ok (.iaload, 1) := by decide +kernel
theorem dX8_wordOf_24 : decode cX8_wordOf 24 = .ok (.goto 9, 3) := by decide +kernel
theorem dX8_wordOf_27 : decode cX8_wordOf 27 = .ok (.aload_n 0, 1) := by decide +kernel
theorem dX8_wordOf_28 : decode cX8_wordOf 28 = .ok (.getfield 34, 3) := by decide +kernel
theorem dX8_wordOf_31 : decode cX8_wordOf 31 = .ok (.iload_n 1, 1) := by decide +kernel
theorem dX8_wordOf_32 : decode cX8_wordOf 32 = .ok (.iaload, 1) := by decide +kernel
theorem dX8_wordOf_33 : decode cX8_wordOf 33 = .ok (.ireturn, 1) := by decide +kernel
theorem dX8_word_0 : decode cX8_word 0 = .ok (.aload_n 0, 1) := by decide +kernel
theorem dX8_word_1 : decode cX8_word 1 = .ok (.iload_n 1, 1) := by decide +kernel
theorem dX8_word_2 : decode cX8_word 2 = .ok (.invokevirtual 237, 3) := by decide +kernel
theorem dX8_word_5 : decode cX8_word 5 = .ok (.ifCond .eq 15, 3) := by decide +kernel
theorem dX8_word_8 : decode cX8_word 8 = .ok (.iload_n 2, 1) := by decide +kernel
theorem dX8_word_9 : decode cX8_word 9 = .ok (.i2l, 1) := by decide +kernel
theorem dX8_word_10 : decode cX8_word 10 = .ok (.lconst 0, 1) := by decide +kernel
theorem dX8_word_11 : decode cX8_word 11 = .ok (.ldc2_w 240, 3) := by decide +kernel
theorem dX8_word_14 : decode cX8_word 14 = .ok (.invokestatic 133, 3) := by decide +kernel
theorem dX8_word_17 : decode cX8_word 17 = .ok (.ifCond .ne 5, 3) := by decide +kernel
theorem dX8_word_20 : decode cX8_word 20 = .ok (.iconst (-1), 1) := by decide +kernel
theorem dX8_word_21 : decode cX8_word 21 = .ok (.ireturn, 1) := by decide +kernel
theorem dX8_word_22 : decode cX8_word 22 = .ok (.aload_n 0, 1) := by decide +kernel
theorem dX8_word_23 : decode cX8_word 23 = .ok (.iconst 1, 1) := by decide +kernel
theorem dX8_word_24 : decode cX8_word 24 = .ok (.aload_n 0, 1) := by decide +kernel
theorem dX8_word_25 : decode cX8_word 25 = .ok (.iload_n 1, 1) := by decide +kernel
theorem dX8_word_26 : decode cX8_word 26 = .ok (.iload_n 2, 1) := by decide +kernel
theorem dX8_word_27 : decode cX8_word 27 = .ok (.invokevirtual 242, 3) := by decide +kernel
theorem dX8_word_30 : decode cX8_word 30 = .ok (.invokevirtual 151, 3) := by decide +kernel
theorem dX8_word_33 : decode cX8_word 33 = .ok (.ireturn, 1) := by decide +kernel
theorem dX8_howOf_0 : decode cX8_howOf 0 = .ok (.iload_n 0, 1) := by decide +kernel
theorem dX8_howOf_1 : decode cX8_howOf 1 = .ok (.iconst 2, 1) := by decide +kernel
theorem dX8_howOf_2 : decode cX8_howOf 2 = .ok (.iload_n 1, 1) := by decide +kernel
theorem dX8_howOf_3 : decode cX8_howOf 3 = .ok (.imul, 1) := by decide +kernel
theorem dX8_howOf_4 : decode cX8_howOf 4 = .ok (.ishr, 1) := by decide +kernel
theorem dX8_howOf_5 : decode cX8_howOf 5 = .ok (.iconst 3, 1) := by decide +kernel
theorem dX8_howOf_6 : decode cX8_howOf 6 = .ok (.iand, 1) := by decide +kernel
theorem dX8_howOf_7 : decode cX8_howOf 7 = .ok (.ireturn, 1) := by decide +kernel
theorem dX8_deedOf_0 : decode cX8_deedOf 0 = .ok (.iload_n 2, 1) := by decide +kernel
theorem dX8_deedOf_1 : decode cX8_deedOf 1 = .ok (.ifCond .ne 12, 3) := by decide +kernel
theorem dX8_deedOf_4 : decode cX8_deedOf 4 = .ok (.aload_n 0, 1) := by decide +kernel
theorem dX8_deedOf_5 : decode cX8_deedOf 5 = .ok (.getfield 37, 3) := by decide +kernel
theorem dX8_deedOf_8 : decode cX8_deedOf 8 = .ok (.iload_n 1, 1) := by decide +kernel
theorem dX8_deedOf_9 : decode cX8_deedOf 9 = .ok (.iaload, 1) := by decide +kernel
theorem dX8_deedOf_10 : decode cX8_deedOf 10 = .ok (.goto 53, 3) := by decide +kernel
theorem dX8_deedOf_13 : decode cX8_deedOf 13 = .ok (.iload_n 2, 1) := by decide +kernel
theorem dX8_deedOf_14 : decode cX8_deedOf 14 = .ok (.iconst 1, 1) := by decide +kernel
theorem dX8_deedOf_15 : decode cX8_deedOf 15 = .ok (.if_icmp .ne 12, 3) := by decide +kernel
theorem dX8_deedOf_18 : decode cX8_deedOf 18 = .ok (.aload_n 0, 1) := by decide +kernel
theorem dX8_deedOf_19 : decode cX8_deedOf 19 = .ok (.getfield 40, 3) := by decide +kernel
theorem dX8_deedOf_22 : decode cX8_deedOf 22 = .ok (.iload_n 1, 1) := by decide +kernel
theorem dX8_deedOf_23 : decode cX8_deedOf 23 = .ok (.iaload, 1) := by decide +kernel
theorem dX8_deedOf_24 : decode cX8_deedOf 24 = .ok (.goto 39, 3) := by decide +kernel
theorem dX8_deedOf_27 : decode cX8_deedOf 27 = .ok (.iload_n 2, 1) := by decide +kernel
theorem dX8_deedOf_28 : decode cX8_deedOf 28 = .ok (.iconst 2, 1) := by decide +kernel
theorem dX8_deedOf_29 : decode cX8_deedOf 29 = .ok (.if_icmp .ne 12, 3) := by decide +kernel
theorem dX8_deedOf_32 : decode cX8_deedOf 32 = .ok (.aload_n 0, 1) := by decide +kernel
theorem dX8_deedOf_33 : decode cX8_deedOf 33 = .ok (.getfield 43, 3) := by decide +kernel
theorem dX8_deedOf_36 : decode cX8_deedOf 36 = .ok (.iload_n 1, 1) := by decide +kernel
theorem dX8_deedOf_37 : decode cX8_deedOf 37 = .ok (.iaload, 1) := by decide +kernel
theorem dX8_deedOf_38 : decode cX8_deedOf 38 = .ok (.goto 25, 3) := by decide +kernel
theorem dX8_deedOf_41 : decode cX8_deedOf 41 = .ok (.iload_n 2, 1) := by decide +kernel
theorem dX8_deedOf_42 : decode cX8_deedOf 42 = .ok (.iconst 3, 1) := by decide +kernel
theorem dX8_deedOf_43 : decode cX8_deedOf 43 = .ok (.if_icmp .ne 12, 3) := by decide +kernel
theorem dX8_deedOf_46 : decode cX8_deedOf 46 = .ok (.aload_n 0, 1) := by decide +kernel
theorem dX8_deedOf_47 : decode cX8_deedOf 47 = .ok (.getfield 46, 3) := by decide +kernel
theorem dX8_deedOf_50 : decode cX8_deedOf 50 = .ok (.iload_n 1, 1) := by decide +kernel
theorem dX8_deedOf_51 : decode cX8_deedOf 51 = .ok (.iaload, 1) := by decide +kernel
theorem dX8_deedOf_52 : decode cX8_deedOf 52 = .ok (.goto 11, 3) := by decide +kernel
theorem dX8_deedOf_55 : decode cX8_deedOf 55 = .ok (.aload_n 0, 1) := by decide +kernel
theorem dX8_deedOf_56 : decode cX8_deedOf 56 = .ok (.getfield 219, 3) := by decide +kernel
theorem dX8_deedOf_59 : decode cX8_deedOf 59 = .ok (.iload_n 1, 1) := by decide +kernel
theorem dX8_deedOf_60 : decode cX8_deedOf 60 = .ok (.invokestatic 245, 3) := by decide +kernel
theorem dX8_deedOf_63 : decode cX8_deedOf 63 = .ok (.ireturn, 1) := by decide +kernel
theorem dX8_deed_0 : decode cX8_deed 0 = .ok (.aload_n 0, 1) := by decide +kernel
theorem dX8_deed_1 : decode cX8_deed 1 = .ok (.iload_n 1, 1) := by decide +kernel
theorem dX8_deed_2 : decode cX8_deed 2 = .ok (.invokevirtual 248, 3) := by decide +kernel
theorem dX8_deed_5 : decode cX8_deed 5 = .ok (.ifCond .eq 15, 3) := by decide +kernel
theorem dX8_deed_8 : decode cX8_deed 8 = .ok (.iload_n 2, 1) := by decide +kernel
theorem dX8_deed_9 : decode cX8_deed 9 = .ok (.i2l, 1) := by decide +kernel
theorem dX8_deed_10 : decode cX8_deed 10 = .ok (.lconst 0, 1) := by decide +kernel
theorem dX8_deed_11 : decode cX8_deed 11 = .ok (.ldc2_w 251, 3) := by decide +kernel
theorem dX8_deed_14 : decode cX8_deed 14 = .ok (.invokestatic 133, 3) := by decide +kernel
theorem dX8_deed_17 : decode cX8_deed 17 = .ok (.ifCond .ne 5, 3) := by decide +kernel
theorem dX8_deed_20 : decode cX8_deed 20 = .ok (.iconst (-1), 1) := by decide +kernel
theorem dX8_deed_21 : decode cX8_deed 21 = .ok (.ireturn, 1) := by decide +kernel
theorem dX8_deed_22 : decode cX8_deed 22 = .ok (.aload_n 0, 1) := by decide +kernel
theorem dX8_deed_23 : decode cX8_deed 23 = .ok (.iconst 1, 1) := by decide +kernel
theorem dX8_deed_24 : decode cX8_deed 24 = .ok (.aload_n 0, 1) := by decide +kernel
theorem dX8_deed_25 : decode cX8_deed 25 = .ok (.iload_n 1, 1) := by decide +kernel
theorem dX8_deed_26 : decode cX8_deed 26 = .ok (.iload_n 2, 1) := by decide +kernel
theorem dX8_deed_27 : decode cX8_deed 27 = .ok (.invokevirtual 253, 3) := by decide +kernel
theorem dX8_deed_30 : decode cX8_deed 30 = .ok (.invokevirtual 151, 3) := by decide +kernel
theorem dX8_deed_33 : decode cX8_deed 33 = .ok (.ireturn, 1) := by decide +kernel
theorem dX8_isKind_0 : decode cX8_isKind 0 = .ok (.iload_n 0, 1) := by decide +kernel
theorem dX8_isKind_1 : decode cX8_isKind 1 = .ok (.iload_n 1, 1) := by decide +kernel
theorem dX8_isKind_2 : decode cX8_isKind 2 = .ok (.if_icmp .eq 23, 3) := by decide +kernel
theorem dX8_isKind_5 : decode cX8_isKind 5 = .ok (.iload_n 0, 1) := by decide +kernel
theorem dX8_isKind_6 : decode cX8_isKind 6 = .ok (.iconst 4, 1) := by decide +kernel
theorem dX8_isKind_7 : decode cX8_isKind 7 = .ok (.if_icmp .ne 8, 3) := by decide +kernel
theorem dX8_isKind_10 : decode cX8_isKind 10 = .ok (.iload_n 1, 1) := by decide +kernel
theorem dX8_isKind_11 : decode cX8_isKind 11 = .ok (.iconst 1, 1) := by decide +kernel
theorem dX8_isKind_12 : decode cX8_isKind 12 = .ok (.if_icmp .eq 13, 3) := by decide +kernel
theorem dX8_isKind_15 : decode cX8_isKind 15 = .ok (.iload_n 0, 1) := by decide +kernel
theorem dX8_isKind_16 : decode cX8_isKind 16 = .ok (.iconst 5, 1) := by decide +kernel
theorem dX8_isKind_17 : decode cX8_isKind 17 = .ok (.if_icmp .ne 12, 3) := by decide +kernel
theorem dX8_isKind_20 : decode cX8_isKind 20 = .ok (.iload_n 1, 1) := by decide +kernel
theorem dX8_isKind_21 : decode cX8_isKind 21 = .ok (.iconst 2, 1) := by decide +kernel
theorem dX8_isKind_22 : decode cX8_isKind 22 = .ok (.if_icmp .ne 7, 3) := by decide +kernel
theorem dX8_isKind_25 : decode cX8_isKind 25 = .ok (.iconst 1, 1) := by decide +kernel
theorem dX8_isKind_26 : decode cX8_isKind 26 = .ok (.goto 4, 3) := by decide +kernel
theorem dX8_isKind_29 : decode cX8_isKind 29 = .ok (.iconst 0, 1) := by decide +kernel
theorem dX8_isKind_30 : decode cX8_isKind 30 = .ok (.ireturn, 1) := by decide +kernel
theorem dX8_wordsTo_0 : decode cX8_wordsTo 0 = .ok (.iconst 0, 1) := by decide +kernel
theorem dX8_wordsTo_1 : decode cX8_wordsTo 1 = .ok (.istore_n 2, 1) := by decide +kernel
theorem dX8_wordsTo_2 : decode cX8_wordsTo 2 = .ok (.iconst 0, 1) := by decide +kernel
theorem dX8_wordsTo_3 : decode cX8_wordsTo 3 = .ok (.istore_n 3, 1) := by decide +kernel
theorem dX8_wordsTo_4 : decode cX8_wordsTo 4 = .ok (.iload_n 3, 1) := by decide +kernel
theorem dX8_wordsTo_5 : decode cX8_wordsTo 5 = .ok (.aload_n 0, 1) := by decide +kernel
theorem dX8_wordsTo_6 : decode cX8_wordsTo 6 = .ok (.getfield 210, 3) := by decide +kernel
theorem dX8_wordsTo_9 : decode cX8_wordsTo 9 = .ok (.if_icmp .ge 27, 3) := by decide +kernel
theorem dX8_wordsTo_12 : decode cX8_wordsTo 12 = .ok (.iload_n 2, 1) := by decide +kernel
theorem dX8_wordsTo_13 : decode cX8_wordsTo 13 = .ok (.aload_n 0, 1) := by decide +kernel
theorem dX8_wordsTo_14 : decode cX8_wordsTo 14 = .ok (.getfield 31, 3) := by decide +kernel
theorem dX8_wordsTo_17 : decode cX8_wordsTo 17 = .ok (.iload_n 3, 1) := by decide +kernel
theorem dX8_wordsTo_18 : decode cX8_wordsTo 18 = .ok (.iaload, 1) := by decide +kernel
theorem dX8_wordsTo_19 : decode cX8_wordsTo 19 = .ok (.iload_n 1, 1) := by decide +kernel
theorem dX8_wordsTo_20 : decode cX8_wordsTo 20 = .ok (.if_icmp .ne 7, 3) := by decide +kernel
theorem dX8_wordsTo_23 : decode cX8_wordsTo 23 = .ok (.iconst 1, 1) := by decide +kernel
theorem dX8_wordsTo_24 : decode cX8_wordsTo 24 = .ok (.goto 4, 3) := by decide +kernel
theorem dX8_wordsTo_27 : decode cX8_wordsTo 27 = .ok (.iconst 0, 1) := by decide +kernel
theorem dX8_wordsTo_28 : decode cX8_wordsTo 28 = .ok (.iadd, 1) := by decide +kernel
theorem dX8_wordsTo_29 : decode cX8_wordsTo 29 = .ok (.istore_n 2, 1) := by decide +kernel
theorem dX8_wordsTo_30 : decode cX8_wordsTo 30 = .ok (.iinc 3 1, 3) := by decide +kernel
theorem dX8_wordsTo_33 : decode cX8_wordsTo 33 = .ok (.goto (-29), 3) := by decide +kernel
theorem dX8_wordsTo_36 : decode cX8_wordsTo 36 = .ok (.iload_n 2, 1) := by decide +kernel
theorem dX8_wordsTo_37 : decode cX8_wordsTo 37 = .ok (.ireturn, 1) := by decide +kernel
theorem dX8_endsFrom_0 : decode cX8_endsFrom 0 = .ok (.iconst 0, 1) := by decide +kernel
theorem dX8_endsFrom_1 : decode cX8_endsFrom 1 = .ok (.istore_n 2, 1) := by decide +kernel
theorem dX8_endsFrom_2 : decode cX8_endsFrom 2 = .ok (.iconst 0, 1) := by decide +kernel
theorem dX8_endsFrom_3 : decode cX8_endsFrom 3 = .ok (.istore_n 3, 1) := by decide +kernel
theorem dX8_endsFrom_4 : decode cX8_endsFrom 4 = .ok (.iload_n 3, 1) := by decide +kernel
theorem dX8_endsFrom_5 : decode cX8_endsFrom 5 = .ok (.aload_n 0, 1) := by decide +kernel
theorem dX8_endsFrom_6 : decode cX8_endsFrom 6 = .ok (.getfield 210, 3) := by decide +kernel
theorem dX8_endsFrom_9 : decode cX8_endsFrom 9 = .ok (.if_icmp .ge 51, 3) := by decide +kernel
theorem dX8_endsFrom_12 : decode cX8_endsFrom 12 = .ok (.iload_n 2, 1) := by decide +kernel
theorem dX8_endsFrom_13 : decode cX8_endsFrom 13 = .ok (.aload_n 0, 1) := by decide +kernel
theorem dX8_endsFrom_14 : decode cX8_endsFrom 14 = .ok (.getfield 28, 3) := by decide +kernel
theorem dX8_endsFrom_17 : decode cX8_endsFrom 17 = .ok (.iload_n 3, 1) := by decide +kernel
theorem dX8_endsFrom_18 : decode cX8_endsFrom 18 = .ok (.iaload, 1) := by decide +kernel
theorem dX8_endsFrom_19 : decode cX8_endsFrom 19 = .ok (.iload_n 1, 1) := by decide +kernel
theorem dX8_endsFrom_20 : decode cX8_endsFrom 20 = .ok (.if_icmp .ne 31, 3) := by decide +kernel
theorem dX8_endsFrom_23 : decode cX8_endsFrom 23 = .ok (.aload_n 0, 1) := by decide +kernel
theorem dX8_endsFrom_24 : decode cX8_endsFrom 24 = .ok (.getfield 22, 3) := by decide +kernel
theorem dX8_endsFrom_27 : decode cX8_endsFrom 27 = .ok (.aload_n 0, 1) := by decide +kernel
theorem dX8_endsFrom_28 : decode cX8_endsFrom 28 = .ok (.getfield 31, 3) := by decide +kernel
theorem dX8_endsFrom_31 : decode cX8_endsFrom 31 = .ok (.iload_n 3, 1) := by decide +kernel
theorem dX8_endsFrom_32 : decode cX8_endsFrom 32 = .ok (.iaload, 1) := by decide +kernel
theorem dX8_endsFrom_33 : decode cX8_endsFrom 33 = .ok (.iaload, 1) := by decide +kernel
theorem dX8_endsFrom_34 : decode cX8_endsFrom 34 = .ok (.invokestatic 169, 3) := by decide +kernel
theorem dX8_endsFrom_37 : decode cX8_endsFrom 37 = .ok (.ifCond .eq 14, 3) := by decide +kernel
theorem dX8_endsFrom_40 : decode cX8_endsFrom 40 = .ok (.iconst 1, 1) := by decide +kernel
theorem dX8_endsFrom_41 : decode cX8_endsFrom 41 = .ok (.aload_n 0, 1) := by decide +kernel
theorem dX8_endsFrom_42 : decode cX8_endsFrom 42 = .ok (.getfield 31, 3) := by decide +kernel
theorem dX8_endsFrom_45 : decode cX8_endsFrom 45 = .ok (.iload_n 3, 1) := by decide +kernel
theorem dX8_endsFrom_46 : decode cX8_endsFrom 46 = .ok (.iaload, 1) := by decide +kernel
theorem dX8_endsFrom_47 : decode cX8_endsFrom 47 = .ok (.ishl, 1) := by decide +kernel
theorem dX8_endsFrom_48 : decode cX8_endsFrom 48 = .ok (.goto 4, 3) := by decide +kernel
theorem dX8_endsFrom_51 : decode cX8_endsFrom 51 = .ok (.iconst 0, 1) := by decide +kernel
theorem dX8_endsFrom_52 : decode cX8_endsFrom 52 = .ok (.ior, 1) := by decide +kernel
theorem dX8_endsFrom_53 : decode cX8_endsFrom 53 = .ok (.istore_n 2, 1) := by decide +kernel
theorem dX8_endsFrom_54 : decode cX8_endsFrom 54 = .ok (.iinc 3 1, 3) := by decide +kernel
theorem dX8_endsFrom_57 : decode cX8_endsFrom 57 = .ok (.goto (-53), 3) := by decide +kernel
theorem dX8_endsFrom_60 : decode cX8_endsFrom 60 = .ok (.iload_n 2, 1) := by decide +kernel
theorem dX8_endsFrom_61 : decode cX8_endsFrom 61 = .ok (.invokestatic 256, 3) := by decide +kernel
theorem dX8_endsFrom_64 : decode cX8_endsFrom 64 = .ok (.ireturn, 1) := by decide +kernel
theorem dX8_mark_0 : decode cX8_mark 0 = .ok (.aload_n 0, 1) := by decide +kernel
theorem dX8_mark_1 : decode cX8_mark 1 = .ok (.iload_n 1, 1) := by decide +kernel
theorem dX8_mark_2 : decode cX8_mark 2 = .ok (.invokevirtual 231, 3) := by decide +kernel
theorem dX8_mark_5 : decode cX8_mark 5 = .ok (.ifCond .eq 15, 3) := by decide +kernel
theorem dX8_mark_8 : decode cX8_mark 8 = .ok (.iload_n 2, 1) := by decide +kernel
theorem dX8_mark_9 : decode cX8_mark 9 = .ok (.i2l, 1) := by decide +kernel
theorem dX8_mark_10 : decode cX8_mark 10 = .ok (.lconst 1, 1) := by decide +kernel
theorem dX8_mark_11 : decode cX8_mark 11 = .ok (.ldc2_w 131, 3) := by decide +kernel
theorem dX8_mark_14 : decode cX8_mark 14 = .ok (.invokestatic 133, 3) := by decide +kernel
theorem dX8_mark_17 : decode cX8_mark 17 = .ok (.ifCond .ne 5, 3) := by decide +kernel
theorem dX8_mark_20 : decode cX8_mark 20 = .ok (.iconst (-1), 1) := by decide +kernel
theorem dX8_mark_21 : decode cX8_mark 21 = .ok (.ireturn, 1) := by decide +kernel
theorem dX8_mark_22 : decode cX8_mark 22 = .ok (.aload_n 0, 1) := by decide +kernel
theorem dX8_mark_23 : decode cX8_mark 23 = .ok (.getfield 22, 3) := by decide +kernel
theorem dX8_mark_26 : decode cX8_mark 26 = .ok (.iload_n 1, 1) := by decide +kernel
theorem dX8_mark_27 : decode cX8_mark 27 = .ok (.iaload, 1) := by decide +kernel
theorem dX8_mark_28 : decode cX8_mark 28 = .ok (.iload_n 2, 1) := by decide +kernel
theorem dX8_mark_29 : decode cX8_mark 29 = .ok (.invokestatic 259, 3) := by decide +kernel
theorem dX8_mark_32 : decode cX8_mark 32 = .ok (.ifCond .ne 9, 3) := by decide +kernel
theorem dX8_mark_35 : decode cX8_mark 35 = .ok (.aload_n 0, 1) := by decide +kernel
theorem dX8_mark_36 : decode cX8_mark 36 = .ok (.iconst 3, 1) := by decide +kernel
theorem dX8_mark_37 : decode cX8_mark 37 = .ok (.invokevirtual 143, 3) := by decide +kernel
theorem dX8_mark_40 : decode cX8_mark 40 = .ok (.ireturn, 1) := by decide +kernel
theorem dX8_mark_41 : decode cX8_mark 41 = .ok (.iload_n 2, 1) := by decide +kernel
theorem dX8_mark_42 : decode cX8_mark 42 = .ok (.iconst 1, 1) := by decide +kernel
theorem dX8_mark_43 : decode cX8_mark 43 = .ok (.if_icmp .ne 10, 3) := by decide +kernel
theorem dX8_mark_46 : decode cX8_mark 46 = .ok (.aload_n 0, 1) := by decide +kernel
theorem dX8_mark_47 : decode cX8_mark 47 = .ok (.getfield 25, 3) := by decide +kernel
theorem dX8_mark_50 : decode cX8_mark 50 = .ok (.iload_n 1, 1) := by decide +kernel
theorem dX8_mark_51 : decode cX8_mark 51 = .ok (.iaload, 1) := by decide +kernel
theorem dX8_mark_52 : decode cX8_mark 52 = .ok (.ireturn, 1) := by decide +kernel
theorem dX8_mark_53 : decode cX8_mark 53 = .ok (.iload_n 2, 1) := by decide +kernel
theorem dX8_mark_54 : decode cX8_mark 54 = .ok (.iconst 2, 1) := by decide +kernel
theorem dX8_mark_55 : decode cX8_mark 55 = .ok (.if_icmp .eq 8, 3) := by decide +kernel
theorem dX8_mark_58 : decode cX8_mark 58 = .ok (.iload_n 2, 1) := by decide +kernel
theorem dX8_mark_59 : decode cX8_mark 59 = .ok (.iconst 3, 1) := by decide +kernel
theorem dX8_mark_60 : decode cX8_mark 60 = .ok (.if_icmp .ne 22, 3) := by decide +kernel
theorem dX8_mark_63 : decode cX8_mark 63 = .ok (.iload_n 2, 1) := by decide +kernel
theorem dX8_mark_64 : decode cX8_mark 64 = .ok (.iconst 2, 1) := by decide +kernel
theorem dX8_mark_65 : decode cX8_mark 65 = .ok (.if_icmp .ne 11, 3) := by decide +kernel
theorem dX8_mark_68 : decode cX8_mark 68 = .ok (.aload_n 0, 1) := by decide +kernel
theorem dX8_mark_69 : decode cX8_mark 69 = .ok (.iload_n 1, 1) := by decide +kernel
theorem dX8_mark_70 : decode cX8_mark 70 = .ok (.invokevirtual 262, 3) := by decide +kernel
theorem dX8_mark_73 : decode cX8_mark 73 = .ok (.goto 8, 3) := by decide +kernel
theorem dX8_mark_76 : decode cX8_mark 76 = .ok (.aload_n 0, 1) := by decide +kernel
theorem dX8_mark_77 : decode cX8_mark 77 = .ok (.iload_n 1, 1) := by decide +kernel
theorem dX8_mark_78 : decode cX8_mark 78 = .ok (.invokevirtual 265, 3) := by decide +kernel
theorem dX8_mark_81 : decode cX8_mark 81 = .ok (.ireturn, 1) := by decide +kernel
theorem dX8_mark_82 : decode cX8_mark 82 = .ok (.iconst 0, 1) := by decide +kernel
theorem dX8_mark_83 : decode cX8_mark 83 = .ok (.istore_n 3, 1) := by decide +kernel
theorem dX8_mark_84 : decode cX8_mark 84 = .ok (.iconst 0, 1) := by decide +kernel
theorem dX8_mark_85 : decode cX8_mark 85 = .ok (.istore 4, 2) := by decide +kernel
theorem dX8_mark_87 : decode cX8_mark 87 = .ok (.iconst 0, 1) := by decide +kernel
theorem dX8_mark_88 : decode cX8_mark 88 = .ok (.istore 5, 2) := by decide +kernel
theorem dX8_mark_90 : decode cX8_mark 90 = .ok (.iload 5, 2) := by decide +kernel
theorem dX8_mark_92 : decode cX8_mark 92 = .ok (.aload_n 0, 1) := by decide +kernel
theorem dX8_mark_93 : decode cX8_mark 93 = .ok (.getfield 213, 3) := by decide +kernel
theorem dX8_mark_96 : decode cX8_mark 96 = .ok (.if_icmp .ge 72, 3) := by decide +kernel
theorem dX8_mark_99 : decode cX8_mark 99 = .ok (.iload_n 3, 1) := by decide +kernel
theorem dX8_mark_100 : decode cX8_mark 100 = .ok (.aload_n 0, 1) := by decide +kernel
theorem dX8_mark_101 : decode cX8_mark 101 = .ok (.getfield 43, 3) := by decide +kernel
theorem dX8_mark_104 : decode cX8_mark 104 = .ok (.iload 5, 2) := by decide +kernel
theorem dX8_mark_106 : decode cX8_mark 106 = .ok (.iaload, 1) := by decide +kernel
theorem dX8_mark_107 : decode cX8_mark 107 = .ok (.aload_n 0, 1) := by decide +kernel
theorem dX8_mark_108 : decode cX8_mark 108 = .ok (.getfield 25, 3) := by decide +kernel
theorem dX8_mark_111 : decode cX8_mark 111 = .ok (.iload_n 1, 1) := by decide +kernel
theorem dX8_mark_112 : decode cX8_mark 112 = .ok (.iaload, 1) := by decide +kernel
theorem dX8_mark_113 : decode cX8_mark 113 = .ok (.if_icmp .ne 7, 3) := by decide +kernel
theorem dX8_mark_116 : decode cX8_mark 116 = .ok (.iconst 1, 1) := by decide +kernel
theorem dX8_mark_117 : decode cX8_mark 117 = .ok (.goto 4, 3) := by decide +kernel
theorem dX8_mark_120 : decode cX8_mark 120 = .ok (.iconst 0, 1) := by decide +kernel
theorem dX8_mark_121 : decode cX8_mark 121 = .ok (.iadd, 1) := by decide +kernel
theorem dX8_mark_122 : decode cX8_mark 122 = .ok (.istore_n 3, 1) := by decide +kernel
theorem dX8_mark_123 : decode cX8_mark 123 = .ok (.aload_n 0, 1) := by decide +kernel
theorem dX8_mark_124 : decode cX8_mark 124 = .ok (.getfield 219, 3) := by decide +kernel
theorem dX8_mark_127 : decode cX8_mark 127 = .ok (.iload 5, 2) := by decide +kernel
theorem dX8_mark_129 : decode cX8_mark 129 = .ok (.invokestatic 245, 3) := by decide +kernel
theorem dX8_mark_132 : decode cX8_mark 132 = .ok (.iconst 2, 1) := by decide +kernel
theorem dX8_mark_133 : decode cX8_mark 133 = .ok (.if_icmp .ge 25, 3) := by decide +kernel
theorem dX8_mark_136 : decode cX8_mark 136 = .ok (.aload_n 0, 1) := by decide +kernel
theorem dX8_mark_137 : decode cX8_mark 137 = .ok (.getfield 37, 3) := by decide +kernel
theorem dX8_mark_140 : decode cX8_mark 140 = .ok (.iload 5, 2) := by decide +kernel
theorem dX8_mark_142 : decode cX8_mark 142 = .ok (.iaload, 1) := by decide +kernel
theorem dX8_mark_143 : decode cX8_mark 143 = .ok (.iload 4, 2) := by decide +kernel
theorem dX8_mark_145 : decode cX8_mark 145 = .ok (.if_icmp .le 13, 3) := by decide +kernel
theorem dX8_mark_148 : decode cX8_mark 148 = .ok (.aload_n 0, 1) := by decide +kernel
theorem dX8_mark_149 : decode cX8_mark 149 = .ok (.getfield 37, 3) := by decide +kernel
theorem dX8_mark_152 : decode cX8_mark 152 = .ok (.iload 5, 2) := by decide +kernel
theorem dX8_mark_154 : decode cX8_mark 154 = .ok (.iaload, 1) := by decide +kernel
theorem dX8_mark_155 : decode cX8_mark 155 = .ok (.goto 5, 3) := by decide +kernel
theorem dX8_mark_158 : decode cX8_mark 158 = .ok (.iload 4, 2) := by decide +kernel
theorem dX8_mark_160 : decode cX8_mark 160 = .ok (.istore 4, 2) := by decide +kernel
theorem dX8_mark_162 : decode cX8_mark 162 = .ok (.iinc 5 1, 3) := by decide +kernel
theorem dX8_mark_165 : decode cX8_mark 165 = .ok (.goto (-75), 3) := by decide +kernel
theorem dX8_mark_168 : decode cX8_mark 168 = .ok (.iload_n 2, 1) := by decide +kernel
theorem dX8_mark_169 : decode cX8_mark 169 = .ok (.iconst 4, 1) := by decide +kernel
theorem dX8_mark_170 : decode cX8_mark 170 = .ok (.if_icmp .ne 7, 3) := by decide +kernel
theorem dX8_mark_173 : decode cX8_mark 173 = .ok (.iload_n 3, 1) := by decide +kernel
theorem dX8_mark_174 : decode cX8_mark 174 = .ok (.goto 5, 3) := by decide +kernel
theorem dX8_mark_177 : decode cX8_mark 177 = .ok (.iload 4, 2) := by decide +kernel
theorem dX8_mark_179 : decode cX8_mark 179 = .ok (.ireturn, 1) := by decide +kernel
theorem dX8_prize_0 : decode cX8_prize 0 = .ok (.aload_n 0, 1) := by decide +kernel
theorem dX8_prize_1 : decode cX8_prize 1 = .ok (.iload_n 1, 1) := by decide +kernel
theorem dX8_prize_2 : decode cX8_prize 2 = .ok (.invokevirtual 248, 3) := by decide +kernel
theorem dX8_prize_5 : decode cX8_prize 5 = .ok (.ifCond .eq 15, 3) := by decide +kernel
theorem dX8_prize_8 : decode cX8_prize 8 = .ok (.iload_n 2, 1) := by decide +kernel
theorem dX8_prize_9 : decode cX8_prize 9 = .ok (.i2l, 1) := by decide +kernel
theorem dX8_prize_10 : decode cX8_prize 10 = .ok (.lconst 0, 1) := by decide +kernel
theorem dX8_prize_11 : decode cX8_prize 11 = .ok (.ldc2_w 182, 3) := by decide +kernel
theorem dX8_prize_14 : decode cX8_prize 14 = .ok (.invokestatic 133, 3) := by decide +kernel
theorem dX8_prize_17 : decode cX8_prize 17 = .ok (.ifCond .ne 5, 3) := by decide +kernel
theorem dX8_prize_20 : decode cX8_prize 20 = .ok (.iconst (-1), 1) := by decide +kernel
theorem dX8_prize_21 : decode cX8_prize 21 = .ok (.ireturn, 1) := by decide +kernel
theorem dX8_prize_22 : decode cX8_prize 22 = .ok (.aload_n 0, 1) := by decide +kernel
theorem dX8_prize_23 : decode cX8_prize 23 = .ok (.getfield 46, 3) := by decide +kernel
theorem dX8_prize_26 : decode cX8_prize 26 = .ok (.iload_n 1, 1) := by decide +kernel
theorem dX8_prize_27 : decode cX8_prize 27 = .ok (.iaload, 1) := by decide +kernel
theorem dX8_prize_28 : decode cX8_prize 28 = .ok (.istore_n 3, 1) := by decide +kernel
theorem dX8_prize_29 : decode cX8_prize 29 = .ok (.aload_n 0, 1) := by decide +kernel
theorem dX8_prize_30 : decode cX8_prize 30 = .ok (.getfield 46, 3) := by decide +kernel
theorem dX8_prize_33 : decode cX8_prize 33 = .ok (.iload_n 1, 1) := by decide +kernel
theorem dX8_prize_34 : decode cX8_prize 34 = .ok (.iload_n 2, 1) := by decide +kernel
theorem dX8_prize_35 : decode cX8_prize 35 = .ok (.iastore, 1) := by decide +kernel
theorem dX8_prize_36 : decode cX8_prize 36 = .ok (.iload_n 3, 1) := by decide +kernel
theorem dX8_prize_37 : decode cX8_prize 37 = .ok (.ireturn, 1) := by decide +kernel
theorem dX8_goneOn_0 : decode cX8_goneOn 0 = .ok (.iload_n 2, 1) := by decide +kernel
theorem dX8_goneOn_1 : decode cX8_goneOn 1 = .ok (.invokestatic 268, 3) := by decide +kernel
theorem dX8_goneOn_4 : decode cX8_goneOn 4 = .ok (.istore_n 3, 1) := by decide +kernel
theorem dX8_goneOn_5 : decode cX8_goneOn 5 = .ok (.iload_n 3, 1) := by decide +kernel
theorem dX8_goneOn_6 : decode cX8_goneOn 6 = .ok (.ifCond .lt 23, 3) := by decide +kernel
theorem dX8_goneOn_9 : decode cX8_goneOn 9 = .ok (.aload_n 0, 1) := by decide +kernel
theorem dX8_goneOn_10 : decode cX8_goneOn 10 = .ok (.getfield 22, 3) := by decide +kernel
theorem dX8_goneOn_13 : decode cX8_goneOn 13 = .ok (.iload_n 1, 1) := by decide +kernel
theorem dX8_goneOn_14 : decode cX8_goneOn 14 = .ok (.iaload, 1) := by decide +kernel
theorem dX8_goneOn_15 : decode cX8_goneOn 15 = .ok (.iconst 3, 1) := by decide +kernel
theorem dX8_goneOn_16 : decode cX8_goneOn 16 = .ok (.if_icmp .eq 13, 3) := by decide +kernel
theorem dX8_goneOn_19 : decode cX8_goneOn 19 = .ok (.aload_n 0, 1) := by decide +kernel
theorem dX8_goneOn_20 : decode cX8_goneOn 20 = .ok (.getfield 22, 3) := by decide +kernel
theorem dX8_goneOn_23 : decode cX8_goneOn 23 = .ok (.iload_n 1, 1) := by decide +kernel
theorem dX8_goneOn_24 : decode cX8_goneOn 24 = .ok (.iaload, 1) := by decide +kernel
theorem dX8_goneOn_25 : decode cX8_goneOn 25 = .ok (.iconst 2, 1) := by decide +kernel
theorem dX8_goneOn_26 : decode cX8_goneOn 26 = .ok (.if_icmp .ne 5, 3) := by decide +kernel
theorem dX8_goneOn_29 : decode cX8_goneOn 29 = .ok (.iload_n 2, 1) := by decide +kernel
theorem dX8_goneOn_30 : decode cX8_goneOn 30 = .ok (.ireturn, 1) := by decide +kernel
theorem dX8_goneOn_31 : decode cX8_goneOn 31 = .ok (.iload_n 2, 1) := by decide +kernel
theorem dX8_goneOn_32 : decode cX8_goneOn 32 = .ok (.bipush 8, 2) := by decide +kernel
theorem dX8_goneOn_34 : decode cX8_goneOn 34 = .ok (.ishr, 1) := by decide +kernel
theorem dX8_goneOn_35 : decode cX8_goneOn 35 = .ok (.istore 4, 2) := by decide +kernel
theorem dX8_goneOn_37 : decode cX8_goneOn 37 = .ok (.iload_n 2, 1) := by decide +kernel
theorem dX8_goneOn_38 : decode cX8_goneOn 38 = .ok (.sipush 255, 3) := by decide +kernel
theorem dX8_goneOn_41 : decode cX8_goneOn 41 = .ok (.iand, 1) := by decide +kernel
theorem dX8_goneOn_42 : decode cX8_goneOn 42 = .ok (.iconst 3, 1) := by decide +kernel
theorem dX8_goneOn_43 : decode cX8_goneOn 43 = .ok (.iconst 2, 1) := by decide +kernel
theorem dX8_goneOn_44 : decode cX8_goneOn 44 = .ok (.iload_n 3, 1) := by decide +kernel
theorem dX8_goneOn_45 : decode cX8_goneOn 45 = .ok (.imul, 1) := by decide +kernel
theorem dX8_goneOn_46 : decode cX8_goneOn 46 = .ok (.ishl, 1) := by decide +kernel
theorem dX8_goneOn_47 : decode cX8_goneOn 47 = .ok (.iconst (-1), 1) := by decide +kernel
theorem dX8_goneOn_48 : decode cX8_goneOn 48 = .ok (.ixor, 1) := by decide +kernel
theorem dX8_goneOn_49 : decode cX8_goneOn 49 = .ok (.iand, 1) := by decide +kernel
theorem dX8_goneOn_50 : decode cX8_goneOn 50 = .ok (.istore 5, 2) := by decide +kernel
theorem dX8_goneOn_52 : decode cX8_goneOn 52 = .ok (.aload_n 0, 1) := by decide +kernel
theorem dX8_goneOn_53 : decode cX8_goneOn 53 = .ok (.getfield 22, 3) := by decide +kernel
theorem dX8_goneOn_56 : decode cX8_goneOn 56 = .ok (.iload_n 1, 1) := by decide +kernel
theorem dX8_goneOn_57 : decode cX8_goneOn 57 = .ok (.iaload, 1) := by decide +kernel
theorem dX8_goneOn_58 : decode cX8_goneOn 58 = .ok (.iconst 5, 1) := by decide +kernel
theorem dX8_goneOn_59 : decode cX8_goneOn 59 = .ok (.if_icmp .ne 12, 3) := by decide +kernel
theorem dX8_goneOn_62 : decode cX8_goneOn 62 = .ok (.iload 5, 2) := by decide +kernel
theorem dX8_goneOn_64 : decode cX8_goneOn 64 = .ok (.iconst 3, 1) := by decide +kernel
theorem dX8_goneOn_65 : decode cX8_goneOn 65 = .ok (.iconst 2, 1) := by decide +kernel
theorem dX8_goneOn_66 : decode cX8_goneOn 66 = .ok (.iload_n 3, 1) := by decide +kernel
theorem dX8_goneOn_67 : decode cX8_goneOn 67 = .ok (.imul, 1) := by decide +kernel
theorem dX8_goneOn_68 : decode cX8_goneOn 68 = .ok (.ishl, 1) := by decide +kernel
theorem dX8_goneOn_69 : decode cX8_goneOn 69 = .ok (.ior, 1) := by decide +kernel
theorem dX8_goneOn_70 : decode cX8_goneOn 70 = .ok (.ireturn, 1) := by decide +kernel
theorem dX8_goneOn_71 : decode cX8_goneOn 71 = .ok (.iload 4, 2) := by decide +kernel
theorem dX8_goneOn_73 : decode cX8_goneOn 73 = .ok (.iconst 1, 1) := by decide +kernel
theorem dX8_goneOn_74 : decode cX8_goneOn 74 = .ok (.if_icmp .ne 14, 3) := by decide +kernel
theorem dX8_goneOn_77 : decode cX8_goneOn 77 = .ok (.iload 5, 2) := by decide +kernel
theorem dX8_goneOn_79 : decode cX8_goneOn 79 = .ok (.iconst 2, 1) := by decide +kernel
theorem dX8_goneOn_80 : decode cX8_goneOn 80 = .ok (.iconst 2, 1) := by decide +kernel
theorem dX8_goneOn_81 : decode cX8_goneOn 81 = .ok (.iload_n 3, 1) := by decide +kernel
theorem dX8_goneOn_82 : decode cX8_goneOn 82 = .ok (.imul, 1) := by decide +kernel
theorem dX8_goneOn_83 : decode cX8_goneOn 83 = .ok (.ishl, 1) := by decide +kernel
theorem dX8_goneOn_84 : decode cX8_goneOn 84 = .ok (.ior, 1) := by decide +kernel
theorem dX8_goneOn_85 : decode cX8_goneOn 85 = .ok (.goto 19, 3) := by decide +kernel
theorem dX8_goneOn_88 : decode cX8_goneOn 88 = .ok (.iload 5, 2) := by decide +kernel
theorem dX8_goneOn_90 : decode cX8_goneOn 90 = .ok (.iconst 1, 1) := by decide +kernel
theorem dX8_goneOn_91 : decode cX8_goneOn 91 = .ok (.iconst 2, 1) := by decide +kernel
theorem dX8_goneOn_92 : decode cX8_goneOn 92 = .ok (.iload_n 3, 1) := by decide +kernel
theorem dX8_goneOn_93 : decode cX8_goneOn 93 = .ok (.imul, 1) := by decide +kernel
theorem dX8_goneOn_94 : decode cX8_goneOn 94 = .ok (.ishl, 1) := by decide +kernel
theorem dX8_goneOn_95 : decode cX8_goneOn 95 = .ok (.ior, 1) := by decide +kernel
theorem dX8_goneOn_96 : decode cX8_goneOn 96 = .ok (.iload 4, 2) := by decide +kernel
theorem dX8_goneOn_98 : decode cX8_goneOn 98 = .ok (.iconst 1, 1) := by decide +kernel
theorem dX8_goneOn_99 : decode cX8_goneOn 99 = .ok (.isub, 1) := by decide +kernel
theorem dX8_goneOn_100 : decode cX8_goneOn 100 = .ok (.bipush 8, 2) := by decide +kernel
theorem dX8_goneOn_102 : decode cX8_goneOn 102 = .ok (.ishl, 1) := by decide +kernel
theorem dX8_goneOn_103 : decode cX8_goneOn 103 = .ok (.ior, 1) := by decide +kernel
theorem dX8_goneOn_104 : decode cX8_goneOn 104 = .ok (.ireturn, 1) := by decide +kernel
theorem dX8_begunOf_0 : decode cX8_begunOf 0 = .ok (.bipush (-9), 2) := by decide +kernel
theorem dX8_begunOf_2 : decode cX8_begunOf 2 = .ok (.istore_n 1, 1) := by decide +kernel
theorem dX8_begunOf_3 : decode cX8_begunOf 3 = .ok (.iconst 0, 1) := by decide +kernel
theorem dX8_begunOf_4 : decode cX8_begunOf 4 = .ok (.istore_n 2, 1) := by decide +kernel
theorem dX8_begunOf_5 : decode cX8_begunOf 5 = .ok (.iload_n 2, 1) := by decide +kernel
theorem dX8_begunOf_6 : decode cX8_begunOf 6 = .ok (.iconst 4, 1) := by decide +kernel
theorem dX8_begunOf_7 : decode cX8_begunOf 7 = .ok (.if_icmp .ge 24, 3) := by decide +kernel
theorem dX8_begunOf_10 : decode cX8_begunOf 10 = .ok (.iload_n 0, 1) := by decide +kernel
theorem dX8_begunOf_11 : decode cX8_begunOf 11 = .ok (.iload_n 2, 1) := by decide +kernel
theorem dX8_begunOf_12 : decode cX8_begunOf 12 = .ok (.invokestatic 245, 3) := by decide +kernel
theorem dX8_begunOf_15 : decode cX8_begunOf 15 = .ok (.iconst 1, 1) := by decide +kernel
theorem dX8_begunOf_16 : decode cX8_begunOf 16 = .ok (.if_icmp .ne 7, 3) := by decide +kernel
theorem dX8_begunOf_19 : decode cX8_begunOf 19 = .ok (.iload_n 2, 1) := by decide +kernel
theorem dX8_begunOf_20 : decode cX8_begunOf 20 = .ok (.goto 4, 3) := by decide +kernel
theorem dX8_begunOf_23 : decode cX8_begunOf 23 = .ok (.iload_n 1, 1) := by decide +kernel
theorem dX8_begunOf_24 : decode cX8_begunOf 24 = .ok (.istore_n 1, 1) := by decide +kernel
theorem dX8_begunOf_25 : decode cX8_begunOf 25 = .ok (.iinc 2 1, 3) := by decide +kernel
theorem dX8_begunOf_28 : decode cX8_begunOf 28 = .ok (.goto (-23), 3) := by decide +kernel
theorem dX8_begunOf_31 : decode cX8_begunOf 31 = .ok (.iload_n 1, 1) := by decide +kernel
theorem dX8_begunOf_32 : decode cX8_begunOf 32 = .ok (.ireturn, 1) := by decide +kernel
theorem dX8_begunWith_0 : decode cX8_begunWith 0 = .ok (.iload_n 1, 1) := by decide +kernel
theorem dX8_begunWith_1 : decode cX8_begunWith 1 = .ok (.iconst 1, 1) := by decide +kernel
theorem dX8_begunWith_2 : decode cX8_begunWith 2 = .ok (.iconst 2, 1) := by decide +kernel
theorem dX8_begunWith_3 : decode cX8_begunWith 3 = .ok (.iload_n 2, 1) := by decide +kernel
theorem dX8_begunWith_4 : decode cX8_begunWith 4 = .ok (.imul, 1) := by decide +kernel
theorem dX8_begunWith_5 : decode cX8_begunWith 5 = .ok (.ishl, 1) := by decide +kernel
theorem dX8_begunWith_6 : decode cX8_begunWith 6 = .ok (.ior, 1) := by decide +kernel
theorem dX8_begunWith_7 : decode cX8_begunWith 7 = .ok (.aload_n 0, 1) := by decide +kernel
theorem dX8_begunWith_8 : decode cX8_begunWith 8 = .ok (.getfield 37, 3) := by decide +kernel
theorem dX8_begunWith_11 : decode cX8_begunWith 11 = .ok (.iload_n 2, 1) := by decide +kernel
theorem dX8_begunWith_12 : decode cX8_begunWith 12 = .ok (.iaload, 1) := by decide +kernel
theorem dX8_begunWith_13 : decode cX8_begunWith 13 = .ok (.bipush 8, 2) := by decide +kernel
theorem dX8_begunWith_15 : decode cX8_begunWith 15 = .ok (.ishl, 1) := by decide +kernel
theorem dX8_begunWith_16 : decode cX8_begunWith 16 = .ok (.ior, 1) := by decide +kernel
theorem dX8_begunWith_17 : decode cX8_begunWith 17 = .ok (.ireturn, 1) := by decide +kernel
theorem dX8_canBegin_0 : decode cX8_canBegin 0 = .ok (.iload_n 1, 1) := by decide +kernel
theorem dX8_canBegin_1 : decode cX8_canBegin 1 = .ok (.invokestatic 268, 3) := by decide +kernel
theorem dX8_canBegin_4 : decode cX8_canBegin 4 = .ok (.ifCond .ge 15, 3) := by decide +kernel
theorem dX8_canBegin_7 : decode cX8_canBegin 7 = .ok (.iload_n 1, 1) := by decide +kernel
theorem dX8_canBegin_8 : decode cX8_canBegin 8 = .ok (.iload_n 2, 1) := by decide +kernel
theorem dX8_canBegin_9 : decode cX8_canBegin 9 = .ok (.invokestatic 245, 3) := by decide +kernel
theorem dX8_canBegin_12 : decode cX8_canBegin 12 = .ok (.ifCond .ne 7, 3) := by decide +kernel
theorem dX8_canBegin_15 : decode cX8_canBegin 15 = .ok (.iconst 1, 1) := by decide +kernel
theorem dX8_canBegin_16 : decode cX8_canBegin 16 = .ok (.goto 4, 3) := by decide +kernel
theorem dX8_canBegin_19 : decode cX8_canBegin 19 = .ok (.iconst 0, 1) := by decide +kernel
theorem dX8_canBegin_20 : decode cX8_canBegin 20 = .ok (.ireturn, 1) := by decide +kernel
theorem dX8_gainOf_0 : decode cX8_gainOf 0 = .ok (.iconst 0, 1) := by decide +kernel
theorem dX8_gainOf_1 : decode cX8_gainOf 1 = .ok (.istore_n 3, 1) := by decide +kernel
theorem dX8_gainOf_2 : decode cX8_gainOf 2 = .ok (.iconst 0, 1) := by decide +kernel
theorem dX8_gainOf_3 : decode cX8_gainOf 3 = .ok (.istore 4, 2) := by decide +kernel
theorem dX8_gainOf_5 : decode cX8_gainOf 5 = .ok (.iload 4, 2) := by decide +kernel
theorem dX8_gainOf_7 : decode cX8_gainOf 7 = .ok (.aload_n 0, 1) := by decide +kernel
theorem dX8_gainOf_8 : decode cX8_gainOf 8 = .ok (.getfield 213, 3) := by decide +kernel
theorem dX8_gainOf_11 : decode cX8_gainOf 11 = .ok (.if_icmp .ge 111, 3) := by decide +kernel
theorem dX8_gainOf_14 : decode cX8_gainOf 14 = .ok (.aload_n 0, 1) := by decide +kernel
theorem dX8_gainOf_15 : decode cX8_gainOf 15 = .ok (.getfield 22, 3) := by decide +kernel
theorem dX8_gainOf_18 : decode cX8_gainOf 18 = .ok (.iload_n 1, 1) := by decide +kernel
theorem dX8_gainOf_19 : decode cX8_gainOf 19 = .ok (.iaload, 1) := by decide +kernel
theorem dX8_gainOf_20 : decode cX8_gainOf 20 = .ok (.invokestatic 169, 3) := by decide +kernel
theorem dX8_gainOf_23 : decode cX8_gainOf 23 = .ok (.ifCond .eq 23, 3) := by decide +kernel
theorem dX8_gainOf_26 : decode cX8_gainOf 26 = .ok (.aload_n 0, 1) := by decide +kernel
theorem dX8_gainOf_27 : decode cX8_gainOf 27 = .ok (.getfield 43, 3) := by decide +kernel
theorem dX8_gainOf_30 : decode cX8_gainOf 30 = .ok (.iload 4, 2) := by decide +kernel
theorem dX8_gainOf_32 : decode cX8_gainOf 32 = .ok (.iaload, 1) := by decide +kernel
theorem dX8_gainOf_33 : decode cX8_gainOf 33 = .ok (.aload_n 0, 1) := by decide +kernel
theorem dX8_gainOf_34 : decode cX8_gainOf 34 = .ok (.getfield 25, 3) := by decide +kernel
theorem dX8_gainOf_37 : decode cX8_gainOf 37 = .ok (.iload_n 1, 1) := by decide +kernel
theorem dX8_gainOf_38 : decode cX8_gainOf 38 = .ok (.iaload, 1) := by decide +kernel
theorem dX8_gainOf_39 : decode cX8_gainOf 39 = .ok (.if_icmp .ne 7, 3) := by decide +kernel
theorem dX8_gainOf_42 : decode cX8_gainOf 42 = .ok (.iconst 1, 1) := by decide +kernel
theorem dX8_gainOf_43 : decode cX8_gainOf 43 = .ok (.goto 4, 3) := by decide +kernel
theorem dX8_gainOf_46 : decode cX8_gainOf 46 = .ok (.iconst 0, 1) := by decide +kernel
theorem dX8_gainOf_47 : decode cX8_gainOf 47 = .ok (.istore 5, 2) := by decide +kernel
theorem dX8_gainOf_49 : decode cX8_gainOf 49 = .ok (.iload 5, 2) := by decide +kernel
theorem dX8_gainOf_51 : decode cX8_gainOf 51 = .ok (.ifCond .eq 35, 3) := by decide +kernel
theorem dX8_gainOf_54 : decode cX8_gainOf 54 = .ok (.aload_n 0, 1) := by decide +kernel
theorem dX8_gainOf_55 : decode cX8_gainOf 55 = .ok (.getfield 22, 3) := by decide +kernel
theorem dX8_gainOf_58 : decode cX8_gainOf 58 = .ok (.iload_n 1, 1) := by decide +kernel
theorem dX8_gainOf_59 : decode cX8_gainOf 59 = .ok (.iaload, 1) := by decide +kernel
theorem dX8_gainOf_60 : decode cX8_gainOf 60 = .ok (.iconst 4, 1) := by decide +kernel
theorem dX8_gainOf_61 : decode cX8_gainOf 61 = .ok (.if_icmp .ne 15, 3) := by decide +kernel
theorem dX8_gainOf_64 : decode cX8_gainOf 64 = .ok (.iconst 2, 1) := by decide +kernel
theorem dX8_gainOf_65 : decode cX8_gainOf 65 = .ok (.aload_n 0, 1) := by decide +kernel
theorem dX8_gainOf_66 : decode cX8_gainOf 66 = .ok (.getfield 46, 3) := by decide +kernel
theorem dX8_gainOf_69 : decode cX8_gainOf 69 = .ok (.iload 4, 2) := by decide +kernel
theorem dX8_gainOf_71 : decode cX8_gainOf 71 = .ok (.iaload, 1) := by decide +kernel
theorem dX8_gainOf_72 : decode cX8_gainOf 72 = .ok (.imul, 1) := by decide +kernel
theorem dX8_gainOf_73 : decode cX8_gainOf 73 = .ok (.goto 14, 3) := by decide +kernel
theorem dX8_gainOf_76 : decode cX8_gainOf 76 = .ok (.aload_n 0, 1) := by decide +kernel
theorem dX8_gainOf_77 : decode cX8_gainOf 77 = .ok (.getfield 46, 3) := by decide +kernel
theorem dX8_gainOf_80 : decode cX8_gainOf 80 = .ok (.iload 4, 2) := by decide +kernel
theorem dX8_gainOf_82 : decode cX8_gainOf 82 = .ok (.iaload, 1) := by decide +kernel
theorem dX8_gainOf_83 : decode cX8_gainOf 83 = .ok (.goto 4, 3) := by decide +kernel
theorem dX8_gainOf_86 : decode cX8_gainOf 86 = .ok (.iconst 0, 1) := by decide +kernel
theorem dX8_gainOf_87 : decode cX8_gainOf 87 = .ok (.istore 6, 2) := by decide +kernel
theorem dX8_gainOf_89 : decode cX8_gainOf 89 = .ok (.iload_n 3, 1) := by decide +kernel
theorem dX8_gainOf_90 : decode cX8_gainOf 90 = .ok (.iload_n 2, 1) := by decide +kernel
theorem dX8_gainOf_91 : decode cX8_gainOf 91 = .ok (.iload 4, 2) := by decide +kernel
theorem dX8_gainOf_93 : decode cX8_gainOf 93 = .ok (.invokestatic 245, 3) := by decide +kernel
theorem dX8_gainOf_96 : decode cX8_gainOf 96 = .ok (.iconst 2, 1) := by decide +kernel
theorem dX8_gainOf_97 : decode cX8_gainOf 97 = .ok (.if_icmp .ne 16, 3) := by decide +kernel
theorem dX8_gainOf_100 : decode cX8_gainOf 100 = .ok (.iload 6, 2) := by decide +kernel
theorem dX8_gainOf_102 : decode cX8_gainOf 102 = .ok (.aload_n 0, 1) := by decide +kernel
theorem dX8_gainOf_103 : decode cX8_gainOf 103 = .ok (.getfield 40, 3) := by decide +kernel
theorem dX8_gainOf_106 : decode cX8_gainOf 106 = .ok (.iload 4, 2) := by decide +kernel
theorem dX8_gainOf_108 : decode cX8_gainOf 108 = .ok (.iaload, 1) := by decide +kernel
theorem dX8_gainOf_109 : decode cX8_gainOf 109 = .ok (.isub, 1) := by decide +kernel
theorem dX8_gainOf_110 : decode cX8_gainOf 110 = .ok (.goto 4, 3) := by decide +kernel
theorem dX8_gainOf_113 : decode cX8_gainOf 113 = .ok (.iconst 0, 1) := by decide +kernel
theorem dX8_gainOf_114 : decode cX8_gainOf 114 = .ok (.iadd, 1) := by decide +kernel
theorem dX8_gainOf_115 : decode cX8_gainOf 115 = .ok (.istore_n 3, 1) := by decide +kernel
theorem dX8_gainOf_116 : decode cX8_gainOf 116 = .ok (.iinc 4 1, 3) := by decide +kernel
theorem dX8_gainOf_119 : decode cX8_gainOf 119 = .ok (.goto (-114), 3) := by decide +kernel
theorem dX8_gainOf_122 : decode cX8_gainOf 122 = .ok (.iload_n 3, 1) := by decide +kernel
theorem dX8_gainOf_123 : decode cX8_gainOf 123 = .ok (.ireturn, 1) := by decide +kernel
theorem dX8_sayNow_0 : decode cX8_sayNow 0 = .ok (.aload_n 0, 1) := by decide +kernel
theorem dX8_sayNow_1 : decode cX8_sayNow 1 = .ok (.getfield 49, 3) := by decide +kernel
theorem dX8_sayNow_4 : decode cX8_sayNow 4 = .ok (.aload_n 0, 1) := by decide +kernel
theorem dX8_sayNow_5 : decode cX8_sayNow 5 = .ok (.getfield 216, 3) := by decide +kernel
theorem dX8_sayNow_8 : decode cX8_sayNow 8 = .ok (.iload_n 1, 1) := by decide +kernel
theorem dX8_sayNow_9 : decode cX8_sayNow 9 = .ok (.iastore, 1) := by decide +kernel
theorem dX8_sayNow_10 : decode cX8_sayNow 10 = .ok (.aload_n 0, 1) := by decide +kernel
theorem dX8_sayNow_11 : decode cX8_sayNow 11 = .ok (.getfield 52, 3) := by decide +kernel
theorem dX8_sayNow_14 : decode cX8_sayNow 14 = .ok (.aload_n 0, 1) := by decide +kernel
theorem dX8_sayNow_15 : decode cX8_sayNow 15 = .ok (.getfield 216, 3) := by decide +kernel
theorem dX8_sayNow_18 : decode cX8_sayNow 18 = .ok (.aload_n 0, 1) := by decide +kernel
theorem dX8_sayNow_19 : decode cX8_sayNow 19 = .ok (.getfield 219, 3) := by decide +kernel
theorem dX8_sayNow_22 : decode cX8_sayNow 22 = .ok (.iastore, 1) := by decide +kernel
theorem dX8_sayNow_23 : decode cX8_sayNow 23 = .ok (.aload_n 0, 1) := by decide +kernel
theorem dX8_sayNow_24 : decode cX8_sayNow 24 = .ok (.aload_n 0, 1) := by decide +kernel
theorem dX8_sayNow_25 : decode cX8_sayNow 25 = .ok (.aload_n 0, 1) := by decide +kernel
theorem dX8_sayNow_26 : decode cX8_sayNow 26 = .ok (.getfield 28, 3) := by decide +kernel
theorem dX8_sayNow_29 : decode cX8_sayNow 29 = .ok (.iload_n 1, 1) := by decide +kernel
theorem dX8_sayNow_30 : decode cX8_sayNow 30 = .ok (.iaload, 1) := by decide +kernel
theorem dX8_sayNow_31 : decode cX8_sayNow 31 = .ok (.aload_n 0, 1) := by decide +kernel
theorem dX8_sayNow_32 : decode cX8_sayNow 32 = .ok (.getfield 219, 3) := by decide +kernel
theorem dX8_sayNow_35 : decode cX8_sayNow 35 = .ok (.invokevirtual 271, 3) := by decide +kernel
theorem dX8_sayNow_38 : decode cX8_sayNow 38 = .ok (.putfield 219, 3) := by decide +kernel
theorem dX8_sayNow_41 : decode cX8_sayNow 41 = .ok (.aload_n 0, 1) := by decide +kernel
theorem dX8_sayNow_42 : decode cX8_sayNow 42 = .ok (.dup, 1) := by decide +kernel
theorem dX8_sayNow_43 : decode cX8_sayNow 43 = .ok (.getfield 216, 3) := by decide +kernel
theorem dX8_sayNow_46 : decode cX8_sayNow 46 = .ok (.iconst 1, 1) := by decide +kernel
theorem dX8_sayNow_47 : decode cX8_sayNow 47 = .ok (.iadd, 1) := by decide +kernel
theorem dX8_sayNow_48 : decode cX8_sayNow 48 = .ok (.putfield 216, 3) := by decide +kernel
theorem dX8_sayNow_51 : decode cX8_sayNow 51 = .ok (.return_, 1) := by decide +kernel
theorem dX8_say_0 : decode cX8_say 0 = .ok (.aload_n 0, 1) := by decide +kernel
theorem dX8_say_1 : decode cX8_say 1 = .ok (.iload_n 1, 1) := by decide +kernel
theorem dX8_say_2 : decode cX8_say 2 = .ok (.invokevirtual 237, 3) := by decide +kernel
theorem dX8_say_5 : decode cX8_say 5 = .ok (.ifCond .ne 5, 3) := by decide +kernel
theorem dX8_say_8 : decode cX8_say 8 = .ok (.iconst (-1), 1) := by decide +kernel
theorem dX8_say_9 : decode cX8_say 9 = .ok (.ireturn, 1) := by decide +kernel
theorem dX8_say_10 : decode cX8_say 10 = .ok (.aload_n 0, 1) := by decide +kernel
theorem dX8_say_11 : decode cX8_say 11 = .ok (.getfield 28, 3) := by decide +kernel
theorem dX8_say_14 : decode cX8_say 14 = .ok (.iload_n 1, 1) := by decide +kernel
theorem dX8_say_15 : decode cX8_say 15 = .ok (.iaload, 1) := by decide +kernel
theorem dX8_say_16 : decode cX8_say 16 = .ok (.aload_n 0, 1) := by decide +kernel
theorem dX8_say_17 : decode cX8_say 17 = .ok (.invokevirtual 274, 3) := by decide +kernel
theorem dX8_say_20 : decode cX8_say 20 = .ok (.if_icmp .eq 6, 3) := by decide +kernel
theorem dX8_say_23 : decode cX8_say 23 = .ok (.bipush (-4), 2) := by decide +kernel
theorem dX8_say_25 : decode cX8_say 25 = .ok (.ireturn, 1) := by decide +kernel
theorem dX8_say_26 : decode cX8_say 26 = .ok (.aload_n 0, 1) := by decide +kernel
theorem dX8_say_27 : decode cX8_say 27 = .ok (.iload_n 1, 1) := by decide +kernel
theorem dX8_say_28 : decode cX8_say 28 = .ok (.invokevirtual 278, 3) := by decide +kernel
theorem dX8_say_31 : decode cX8_say 31 = .ok (.aload_n 0, 1) := by decide +kernel
theorem dX8_say_32 : decode cX8_say 32 = .ok (.getfield 31, 3) := by decide +kernel
theorem dX8_say_35 : decode cX8_say 35 = .ok (.iload_n 1, 1) := by decide +kernel
theorem dX8_say_36 : decode cX8_say 36 = .ok (.iaload, 1) := by decide +kernel
theorem dX8_say_37 : decode cX8_say 37 = .ok (.ireturn, 1) := by decide +kernel
theorem dX8_begin_0 : decode cX8_begin 0 = .ok (.aload_n 0, 1) := by decide +kernel
theorem dX8_begin_1 : decode cX8_begin 1 = .ok (.iload_n 1, 1) := by decide +kernel
theorem dX8_begin_2 : decode cX8_begin 2 = .ok (.invokevirtual 248, 3) := by decide +kernel
theorem dX8_begin_5 : decode cX8_begin 5 = .ok (.ifCond .ne 5, 3) := by decide +kernel
theorem dX8_begin_8 : decode cX8_begin 8 = .ok (.iconst (-1), 1) := by decide +kernel
theorem dX8_begin_9 : decode cX8_begin 9 = .ok (.ireturn, 1) := by decide +kernel
theorem dX8_begin_10 : decode cX8_begin 10 = .ok (.aload_n 0, 1) := by decide +kernel
theorem dX8_begin_11 : decode cX8_begin 11 = .ok (.aload_n 0, 1) := by decide +kernel
theorem dX8_begin_12 : decode cX8_begin 12 = .ok (.getfield 219, 3) := by decide +kernel
theorem dX8_begin_15 : decode cX8_begin 15 = .ok (.iload_n 1, 1) := by decide +kernel
theorem dX8_begin_16 : decode cX8_begin 16 = .ok (.invokevirtual 281, 3) := by decide +kernel
theorem dX8_begin_19 : decode cX8_begin 19 = .ok (.ifCond .eq 14, 3) := by decide +kernel
theorem dX8_begin_22 : decode cX8_begin 22 = .ok (.aload_n 0, 1) := by decide +kernel
theorem dX8_begin_23 : decode cX8_begin 23 = .ok (.aload_n 0, 1) := by decide +kernel
theorem dX8_begin_24 : decode cX8_begin 24 = .ok (.invokevirtual 274, 3) := by decide +kernel
theorem dX8_begin_27 : decode cX8_begin 27 = .ok (.invokevirtual 225, 3) := by decide +kernel
theorem dX8_begin_30 : decode cX8_begin 30 = .ok (.ifCond .eq 6, 3) := by decide +kernel
theorem dX8_begin_33 : decode cX8_begin 33 = .ok (.bipush (-4), 2) := by decide +kernel
theorem dX8_begin_35 : decode cX8_begin 35 = .ok (.ireturn, 1) := by decide +kernel
theorem dX8_begin_36 : decode cX8_begin 36 = .ok (.aload_n 0, 1) := by decide +kernel
theorem dX8_begin_37 : decode cX8_begin 37 = .ok (.aload_n 0, 1) := by decide +kernel
theorem dX8_begin_38 : decode cX8_begin 38 = .ok (.aload_n 0, 1) := by decide +kernel
theorem dX8_begin_39 : decode cX8_begin 39 = .ok (.getfield 219, 3) := by decide +kernel
theorem dX8_begin_42 : decode cX8_begin 42 = .ok (.iload_n 1, 1) := by decide +kernel
theorem dX8_begin_43 : decode cX8_begin 43 = .ok (.invokevirtual 284, 3) := by decide +kernel
theorem dX8_begin_46 : decode cX8_begin 46 = .ok (.putfield 219, 3) := by decide +kernel
theorem dX8_begin_49 : decode cX8_begin 49 = .ok (.aload_n 0, 1) := by decide +kernel
theorem dX8_begin_50 : decode cX8_begin 50 = .ok (.getfield 37, 3) := by decide +kernel
theorem dX8_begin_53 : decode cX8_begin 53 = .ok (.iload_n 1, 1) := by decide +kernel
theorem dX8_begin_54 : decode cX8_begin 54 = .ok (.iaload, 1) := by decide +kernel
theorem dX8_begin_55 : decode cX8_begin 55 = .ok (.ireturn, 1) := by decide +kernel
theorem dX8_undo_0 : decode cX8_undo 0 = .ok (.iload_n 1, 1) := by decide +kernel
theorem dX8_undo_1 : decode cX8_undo 1 = .ok (.i2l, 1) := by decide +kernel
theorem dX8_undo_2 : decode cX8_undo 2 = .ok (.lconst 0, 1) := by decide +kernel
theorem dX8_undo_3 : decode cX8_undo 3 = .ok (.aload_n 0, 1) := by decide +kernel
theorem dX8_undo_4 : decode cX8_undo 4 = .ok (.getfield 216, 3) := by decide +kernel
theorem dX8_undo_7 : decode cX8_undo 7 = .ok (.i2l, 1) := by decide +kernel
theorem dX8_undo_8 : decode cX8_undo 8 = .ok (.invokestatic 133, 3) := by decide +kernel
theorem dX8_undo_11 : decode cX8_undo 11 = .ok (.ifCond .ne 5, 3) := by decide +kernel
theorem dX8_undo_14 : decode cX8_undo 14 = .ok (.iconst (-1), 1) := by decide +kernel
theorem dX8_undo_15 : decode cX8_undo 15 = .ok (.ireturn, 1) := by decide +kernel
theorem dX8_undo_16 : decode cX8_undo 16 = .ok (.aload_n 0, 1) := by decide +kernel
theorem dX8_undo_17 : decode cX8_undo 17 = .ok (.getfield 216, 3) := by decide +kernel
theorem dX8_undo_20 : decode cX8_undo 20 = .ok (.iload_n 1, 1) := by decide +kernel
theorem dX8_undo_21 : decode cX8_undo 21 = .ok (.isub, 1) := by decide +kernel
theorem dX8_undo_22 : decode cX8_undo 22 = .ok (.istore_n 2, 1) := by decide +kernel
theorem dX8_undo_23 : decode cX8_undo 23 = .ok (.aload_n 0, 1) := by decide +kernel
theorem dX8_undo_24 : decode cX8_undo 24 = .ok (.iload_n 2, 1) := by decide +kernel
theorem dX8_undo_25 : decode cX8_undo 25 = .ok (.ifCond .le 12, 3) := by decide +kernel
theorem dX8_undo_28 : decode cX8_undo 28 = .ok (.aload_n 0, 1) := by decide +kernel
theorem dX8_undo_29 : decode cX8_undo 29 = .ok (.getfield 52, 3) := by decide +kernel
theorem dX8_undo_32 : decode cX8_undo 32 = .ok (.iload_n 1, 1) := by decide +kernel
theorem dX8_undo_33 : decode cX8_undo 33 = .ok (.iaload, 1) := by decide +kernel
theorem dX8_undo_34 : decode cX8_undo 34 = .ok (.goto 7, 3) := by decide +kernel
theorem dX8_undo_37 : decode cX8_undo 37 = .ok (.aload_n 0, 1) := by decide +kernel
theorem dX8_undo_38 : decode cX8_undo 38 = .ok (.getfield 219, 3) := by decide +kernel
theorem dX8_undo_41 : decode cX8_undo 41 = .ok (.putfield 219, 3) := by decide +kernel
theorem dX8_undo_44 : decode cX8_undo 44 = .ok (.aload_n 0, 1) := by decide +kernel
theorem dX8_undo_45 : decode cX8_undo 45 = .ok (.iload_n 1, 1) := by decide +kernel
theorem dX8_undo_46 : decode cX8_undo 46 = .ok (.putfield 216, 3) := by decide +kernel
theorem dX8_undo_49 : decode cX8_undo 49 = .ok (.iload_n 2, 1) := by decide +kernel
theorem dX8_undo_50 : decode cX8_undo 50 = .ok (.ireturn, 1) := by decide +kernel
theorem dX8_yearOf_0 : decode cX8_yearOf 0 = .ok (.aload_n 0, 1) := by decide +kernel
theorem dX8_yearOf_1 : decode cX8_yearOf 1 = .ok (.getfield 22, 3) := by decide +kernel
theorem dX8_yearOf_4 : decode cX8_yearOf 4 = .ok (.iload_n 1, 1) := by decide +kernel
theorem dX8_yearOf_5 : decode cX8_yearOf 5 = .ok (.iaload, 1) := by decide +kernel
theorem dX8_yearOf_6 : decode cX8_yearOf 6 = .ok (.iconst 3, 1) := by decide +kernel
theorem dX8_yearOf_7 : decode cX8_yearOf 7 = .ok (.if_icmp .ne 7, 3) := by decide +kernel
theorem dX8_yearOf_10 : decode cX8_yearOf 10 = .ok (.iconst 0, 1) := by decide +kernel
theorem dX8_yearOf_11 : decode cX8_yearOf 11 = .ok (.goto 4, 3) := by decide +kernel
theorem dX8_yearOf_14 : decode cX8_yearOf 14 = .ok (.iconst 1, 1) := by decide +kernel
theorem dX8_yearOf_15 : decode cX8_yearOf 15 = .ok (.ireturn, 1) := by decide +kernel
theorem dX8_here_0 : decode cX8_here 0 = .ok (.aload_n 0, 1) := by decide +kernel
theorem dX8_here_1 : decode cX8_here 1 = .ok (.getfield 207, 3) := by decide +kernel
theorem dX8_here_4 : decode cX8_here 4 = .ok (.ifCond .ne 6, 3) := by decide +kernel
theorem dX8_here_7 : decode cX8_here 7 = .ok (.bipush (-4), 2) := by decide +kernel
theorem dX8_here_9 : decode cX8_here 9 = .ok (.ireturn, 1) := by decide +kernel
theorem dX8_here_10 : decode cX8_here 10 = .ok (.iconst 0, 1) := by decide +kernel
theorem dX8_here_11 : decode cX8_here 11 = .ok (.istore_n 1, 1) := by decide +kernel
theorem dX8_here_12 : decode cX8_here 12 = .ok (.iconst 0, 1) := by decide +kernel
theorem dX8_here_13 : decode cX8_here 13 = .ok (.istore_n 2, 1) := by decide +kernel
theorem dX8_here_14 : decode cX8_here 14 = .ok (.iload_n 2, 1) := by decide +kernel
theorem dX8_here_15 : decode cX8_here 15 = .ok (.aload_n 0, 1) := by decide +kernel
theorem dX8_here_16 : decode cX8_here 16 = .ok (.getfield 216, 3) := by decide +kernel
theorem dX8_here_19 : decode cX8_here 19 = .ok (.if_icmp .ge 27, 3) := by decide +kernel
theorem dX8_here_22 : decode cX8_here 22 = .ok (.iload_n 1, 1) := by decide +kernel
theorem dX8_here_23 : decode cX8_here 23 = .ok (.aload_n 0, 1) := by decide +kernel
theorem dX8_here_24 : decode cX8_here 24 = .ok (.aload_n 0, 1) := by decide +kernel
theorem dX8_here_25 : decode cX8_here 25 = .ok (.getfield 28, 3) := by decide +kernel
theorem dX8_here_28 : decode cX8_here 28 = .ok (.aload_n 0, 1) := by decide +kernel
theorem dX8_here_29 : decode cX8_here 29 = .ok (.getfield 49, 3) := by decide +kernel
theorem dX8_here_32 : decode cX8_here 32 = .ok (.iload_n 2, 1) := by decide +kernel
theorem dX8_here_33 : decode cX8_here 33 = .ok (.iaload, 1) := by decide +kernel
theorem dX8_here_34 : decode cX8_here 34 = .ok (.iaload, 1) := by decide +kernel
theorem dX8_here_35 : decode cX8_here 35 = .ok (.invokevirtual 287, 3) := by decide +kernel
theorem dX8_here_38 : decode cX8_here 38 = .ok (.iadd, 1) := by decide +kernel
theorem dX8_here_39 : decode cX8_here 39 = .ok (.istore_n 1, 1) := by decide +kernel
theorem dX8_here_40 : decode cX8_here 40 = .ok (.iinc 2 1, 3) := by decide +kernel
theorem dX8_here_43 : decode cX8_here 43 = .ok (.goto (-29), 3) := by decide +kernel
theorem dX8_here_46 : decode cX8_here 46 = .ok (.aload_n 0, 1) := by decide +kernel
theorem dX8_here_47 : decode cX8_here 47 = .ok (.aload_n 0, 1) := by decide +kernel
theorem dX8_here_48 : decode cX8_here 48 = .ok (.invokevirtual 274, 3) := by decide +kernel
theorem dX8_here_51 : decode cX8_here 51 = .ok (.iload_n 1, 1) := by decide +kernel
theorem dX8_here_52 : decode cX8_here 52 = .ok (.invokevirtual 151, 3) := by decide +kernel
theorem dX8_here_55 : decode cX8_here 55 = .ok (.ireturn, 1) := by decide +kernel
theorem dX8_over_0 : decode cX8_over 0 = .ok (.aload_n 0, 1) := by decide +kernel
theorem dX8_over_1 : decode cX8_over 1 = .ok (.getfield 207, 3) := by decide +kernel
theorem dX8_over_4 : decode cX8_over 4 = .ok (.ifCond .ne 6, 3) := by decide +kernel
theorem dX8_over_7 : decode cX8_over 7 = .ok (.bipush (-4), 2) := by decide +kernel
theorem dX8_over_9 : decode cX8_over 9 = .ok (.ireturn, 1) := by decide +kernel
theorem dX8_over_10 : decode cX8_over 10 = .ok (.aload_n 0, 1) := by decide +kernel
theorem dX8_over_11 : decode cX8_over 11 = .ok (.aload_n 0, 1) := by decide +kernel
theorem dX8_over_12 : decode cX8_over 12 = .ok (.invokevirtual 274, 3) := by decide +kernel
theorem dX8_over_15 : decode cX8_over 15 = .ok (.invokevirtual 225, 3) := by decide +kernel
theorem dX8_over_18 : decode cX8_over 18 = .ok (.istore_n 1, 1) := by decide +kernel
theorem dX8_over_19 : decode cX8_over 19 = .ok (.aload_n 0, 1) := by decide +kernel
theorem dX8_over_20 : decode cX8_over 20 = .ok (.iload_n 1, 1) := by decide +kernel
theorem dX8_over_21 : decode cX8_over 21 = .ok (.ifCond .eq 7, 3) := by decide +kernel
theorem dX8_over_24 : decode cX8_over 24 = .ok (.iconst 1, 1) := by decide +kernel
theorem dX8_over_25 : decode cX8_over 25 = .ok (.goto 4, 3) := by decide +kernel
theorem dX8_over_28 : decode cX8_over 28 = .ok (.iconst 0, 1) := by decide +kernel
theorem dX8_over_29 : decode cX8_over 29 = .ok (.iload_n 1, 1) := by decide +kernel
theorem dX8_over_30 : decode cX8_over 30 = .ok (.ifCond .eq 18, 3) := by decide +kernel
theorem dX8_over_33 : decode cX8_over 33 = .ok (.aload_n 0, 1) := by decide +kernel
theorem dX8_over_34 : decode cX8_over 34 = .ok (.aload_n 0, 1) := by decide +kernel
theorem dX8_over_35 : decode cX8_over 35 = .ok (.invokevirtual 274, 3) := by decide +kernel
theorem dX8_over_38 : decode cX8_over 38 = .ok (.aload_n 0, 1) := by decide +kernel
theorem dX8_over_39 : decode cX8_over 39 = .ok (.getfield 219, 3) := by decide +kernel
theorem dX8_over_42 : decode cX8_over 42 = .ok (.invokevirtual 290, 3) := by decide +kernel
theorem dX8_over_45 : decode cX8_over 45 = .ok (.goto 4, 3) := by decide +kernel
theorem dX8_over_48 : decode cX8_over 48 = .ok (.iconst 0, 1) := by decide +kernel
theorem dX8_over_49 : decode cX8_over 49 = .ok (.invokevirtual 151, 3) := by decide +kernel
theorem dX8_over_52 : decode cX8_over 52 = .ok (.ireturn, 1) := by decide +kernel
theorem dX8_told_0 : decode cX8_told 0 = .ok (.iload_n 1, 1) := by decide +kernel
theorem dX8_told_1 : decode cX8_told 1 = .ok (.invokestatic 139, 3) := by decide +kernel
theorem dX8_told_4 : decode cX8_told 4 = .ok (.ifCond .ne 5, 3) := by decide +kernel
theorem dX8_told_7 : decode cX8_told 7 = .ok (.iconst (-1), 1) := by decide +kernel
theorem dX8_told_8 : decode cX8_told 8 = .ok (.ireturn, 1) := by decide +kernel
theorem dX8_told_9 : decode cX8_told 9 = .ok (.aload_n 0, 1) := by decide +kernel
theorem dX8_told_10 : decode cX8_told 10 = .ok (.iload_n 1, 1) := by decide +kernel
theorem dX8_told_11 : decode cX8_told 11 = .ok (.aload_n 0, 1) := by decide +kernel
theorem dX8_told_12 : decode cX8_told 12 = .ok (.getfield 216, 3) := by decide +kernel
theorem dX8_told_15 : decode cX8_told 15 = .ok (.invokevirtual 293, 3) := by decide +kernel
theorem dX8_told_18 : decode cX8_told 18 = .ok (.pop, 1) := by decide +kernel
theorem dX8_told_19 : decode cX8_told 19 = .ok (.iconst 0, 1) := by decide +kernel
theorem dX8_told_20 : decode cX8_told 20 = .ok (.istore_n 2, 1) := by decide +kernel
theorem dX8_told_21 : decode cX8_told 21 = .ok (.iload_n 2, 1) := by decide +kernel
theorem dX8_told_22 : decode cX8_told 22 = .ok (.aload_n 0, 1) := by decide +kernel
theorem dX8_told_23 : decode cX8_told 23 = .ok (.getfield 216, 3) := by decide +kernel
theorem dX8_told_26 : decode cX8_told 26 = .ok (.if_icmp .ge 26, 3) := by decide +kernel
theorem dX8_told_29 : decode cX8_told 29 = .ok (.aload_n 0, 1) := by decide +kernel
theorem dX8_told_30 : decode cX8_told 30 = .ok (.getfield 13, 3) := by decide +kernel
theorem dX8_told_33 : decode cX8_told 33 = .ok (.bipush 40, 2) := by decide +kernel
theorem dX8_told_35 : decode cX8_told 35 = .ok (.iload_n 1, 1) := by decide +kernel
theorem dX8_told_36 : decode cX8_told 36 = .ok (.imul, 1) := by decide +kernel
theorem dX8_told_37 : decode cX8_told 37 = .ok (.iload_n 2, 1) := by decide +kernel
theorem dX8_told_38 : decode cX8_told 38 = .ok (.iadd, 1) := by decide +kernel
theorem dX8_told_39 : decode cX8_told 39 = .ok (.aload_n 0, 1) := by decide +kernel
theorem dX8_told_40 : decode cX8_told 40 = .ok (.getfield 49, 3) := by decide +kernel
theorem dX8_told_43 : decode cX8_told 43 = .ok (.iload_n 2, 1) := by decide +kernel
theorem dX8_told_44 : decode cX8_told 44 = .ok (.iaload, 1) := by decide +kernel
theorem dX8_told_45 : decode cX8_told 45 = .ok (.iastore, 1) := by decide +kernel
theorem dX8_told_46 : decode cX8_told 46 = .ok (.iinc 2 1, 3) := by decide +kernel
theorem dX8_told_49 : decode cX8_told 49 = .ok (.goto (-28), 3) := by decide +kernel
theorem dX8_told_52 : decode cX8_told 52 = .ok (.aload_n 0, 1) := by decide +kernel
theorem dX8_told_53 : decode cX8_told 53 = .ok (.getfield 216, 3) := by decide +kernel
theorem dX8_told_56 : decode cX8_told 56 = .ok (.ireturn, 1) := by decide +kernel
theorem dX8_keep_0 : decode cX8_keep 0 = .ok (.iload_n 1, 1) := by decide +kernel
theorem dX8_keep_1 : decode cX8_keep 1 = .ok (.i2l, 1) := by decide +kernel
theorem dX8_keep_2 : decode cX8_keep 2 = .ok (.lconst 0, 1) := by decide +kernel
theorem dX8_keep_3 : decode cX8_keep 3 = .ok (.ldc2_w 240, 3) := by decide +kernel
theorem dX8_keep_6 : decode cX8_keep 6 = .ok (.invokestatic 133, 3) := by decide +kernel
theorem dX8_keep_9 : decode cX8_keep 9 = .ok (.ifCond .ne 5, 3) := by decide +kernel
theorem dX8_keep_12 : decode cX8_keep 12 = .ok (.iconst (-1), 1) := by decide +kernel
theorem dX8_keep_13 : decode cX8_keep 13 = .ok (.ireturn, 1) := by decide +kernel
theorem dX8_keep_14 : decode cX8_keep 14 = .ok (.aload_n 0, 1) := by decide +kernel
theorem dX8_keep_15 : decode cX8_keep 15 = .ok (.getfield 207, 3) := by decide +kernel
theorem dX8_keep_18 : decode cX8_keep 18 = .ok (.ifCond .ne 6, 3) := by decide +kernel
theorem dX8_keep_21 : decode cX8_keep 21 = .ok (.bipush (-4), 2) := by decide +kernel
theorem dX8_keep_23 : decode cX8_keep 23 = .ok (.ireturn, 1) := by decide +kernel
theorem dX8_keep_24 : decode cX8_keep 24 = .ok (.iconst 0, 1) := by decide +kernel
theorem dX8_keep_25 : decode cX8_keep 25 = .ok (.istore_n 2, 1) := by decide +kernel
theorem dX8_keep_26 : decode cX8_keep 26 = .ok (.iload_n 2, 1) := by decide +kernel
theorem dX8_keep_27 : decode cX8_keep 27 = .ok (.bipush 8, 2) := by decide +kernel
theorem dX8_keep_29 : decode cX8_keep 29 = .ok (.if_icmp .ge 46, 3) := by decide +kernel
theorem dX8_keep_32 : decode cX8_keep 32 = .ok (.aload_n 0, 1) := by decide +kernel
theorem dX8_keep_33 : decode cX8_keep 33 = .ok (.getfield 87, 3) := by decide +kernel
theorem dX8_keep_36 : decode cX8_keep 36 = .ok (.bipush 18, 2) := by decide +kernel
theorem dX8_keep_38 : decode cX8_keep 38 = .ok (.iload_n 1, 1) := by decide +kernel
theorem dX8_keep_39 : decode cX8_keep 39 = .ok (.imul, 1) := by decide +kernel
theorem dX8_keep_40 : decode cX8_keep 40 = .ok (.iload_n 2, 1) := by decide +kernel
theorem dX8_keep_41 : decode cX8_keep 41 = .ok (.iadd, 1) := by decide +kernel
theorem dX8_keep_42 : decode cX8_keep 42 = .ok (.aload_n 0, 1) := by decide +kernel
theorem dX8_keep_43 : decode cX8_keep 43 = .ok (.getfield 49, 3) := by decide +kernel
theorem dX8_keep_46 : decode cX8_keep 46 = .ok (.iload_n 2, 1) := by decide +kernel
theorem dX8_keep_47 : decode cX8_keep 47 = .ok (.iaload, 1) := by decide +kernel
theorem dX8_keep_48 : decode cX8_keep 48 = .ok (.iastore, 1) := by decide +kernel
theorem dX8_keep_49 : decode cX8_keep 49 = .ok (.aload_n 0, 1) := by decide +kernel
theorem dX8_keep_50 : decode cX8_keep 50 = .ok (.getfield 87, 3) := by decide +kernel
theorem dX8_keep_53 : decode cX8_keep 53 = .ok (.bipush 18, 2) := by decide +kernel
theorem dX8_keep_55 : decode cX8_keep 55 = .ok (.iload_n 1, 1) := by decide +kernel
theorem dX8_keep_56 : decode cX8_keep 56 = .ok (.imul, 1) := by decide +kernel
theorem dX8_keep_57 : decode cX8_keep 57 = .ok (.bipush 8, 2) := by decide +kernel
theorem dX8_keep_59 : decode cX8_keep 59 = .ok (.iadd, 1) := by decide +kernel
theorem dX8_keep_60 : decode cX8_keep 60 = .ok (.iload_n 2, 1) := by decide +kernel
theorem dX8_keep_61 : decode cX8_keep 61 = .ok (.iadd, 1) := by decide +kernel
theorem dX8_keep_62 : decode cX8_keep 62 = .ok (.aload_n 0, 1) := by decide +kernel
theorem dX8_keep_63 : decode cX8_keep 63 = .ok (.getfield 52, 3) := by decide +kernel
theorem dX8_keep_66 : decode cX8_keep 66 = .ok (.iload_n 2, 1) := by decide +kernel
theorem dX8_keep_67 : decode cX8_keep 67 = .ok (.iaload, 1) := by decide +kernel
theorem dX8_keep_68 : decode cX8_keep 68 = .ok (.iastore, 1) := by decide +kernel
theorem dX8_keep_69 : decode cX8_keep 69 = .ok (.iinc 2 1, 3) := by decide +kernel
theorem dX8_keep_72 : decode cX8_keep 72 = .ok (.goto (-46), 3) := by decide +kernel
theorem dX8_keep_75 : decode cX8_keep 75 = .ok (.aload_n 0, 1) := by decide +kernel
theorem dX8_keep_76 : decode cX8_keep 76 = .ok (.getfield 87, 3) := by decide +kernel
theorem dX8_keep_79 : decode cX8_keep 79 = .ok (.bipush 18, 2) := by decide +kernel
theorem dX8_keep_81 : decode cX8_keep 81 = .ok (.iload_n 1, 1) := by decide +kernel
theorem dX8_keep_82 : decode cX8_keep 82 = .ok (.imul, 1) := by decide +kernel
theorem dX8_keep_83 : decode cX8_keep 83 = .ok (.bipush 16, 2) := by decide +kernel
theorem dX8_keep_85 : decode cX8_keep 85 = .ok (.iadd, 1) := by decide +kernel
theorem dX8_keep_86 : decode cX8_keep 86 = .ok (.aload_n 0, 1) := by decide +kernel
theorem dX8_keep_87 : decode cX8_keep 87 = .ok (.getfield 216, 3) := by decide +kernel
theorem dX8_keep_90 : decode cX8_keep 90 = .ok (.iastore, 1) := by decide +kernel
theorem dX8_keep_91 : decode cX8_keep 91 = .ok (.aload_n 0, 1) := by decide +kernel
theorem dX8_keep_92 : decode cX8_keep 92 = .ok (.getfield 87, 3) := by decide +kernel
theorem dX8_keep_95 : decode cX8_keep 95 = .ok (.bipush 18, 2) := by decide +kernel
theorem dX8_keep_97 : decode cX8_keep 97 = .ok (.iload_n 1, 1) := by decide +kernel
theorem dX8_keep_98 : decode cX8_keep 98 = .ok (.imul, 1) := by decide +kernel
theorem dX8_keep_99 : decode cX8_keep 99 = .ok (.bipush 17, 2) := by decide +kernel
theorem dX8_keep_101 : decode cX8_keep 101 = .ok (.iadd, 1) := by decide +kernel
theorem dX8_keep_102 : decode cX8_keep 102 = .ok (.aload_n 0, 1) := by decide +kernel
theorem dX8_keep_103 : decode cX8_keep 103 = .ok (.getfield 219, 3) := by decide +kernel
theorem dX8_keep_106 : decode cX8_keep 106 = .ok (.iastore, 1) := by decide +kernel
theorem dX8_keep_107 : decode cX8_keep 107 = .ok (.aload_n 0, 1) := by decide +kernel
theorem dX8_keep_108 : decode cX8_keep 108 = .ok (.getfield 83, 3) := by decide +kernel
theorem dX8_keep_111 : decode cX8_keep 111 = .ok (.iload_n 1, 1) := by decide +kernel
theorem dX8_keep_112 : decode cX8_keep 112 = .ok (.iconst 1, 1) := by decide +kernel
theorem dX8_keep_113 : decode cX8_keep 113 = .ok (.bastore, 1) := by decide +kernel
theorem dX8_keep_114 : decode cX8_keep 114 = .ok (.aload_n 0, 1) := by decide +kernel
theorem dX8_keep_115 : decode cX8_keep 115 = .ok (.getfield 216, 3) := by decide +kernel
theorem dX8_keep_118 : decode cX8_keep 118 = .ok (.ireturn, 1) := by decide +kernel
theorem dX8_on_0 : decode cX8_on 0 = .ok (.iload_n 1, 1) := by decide +kernel
theorem dX8_on_1 : decode cX8_on 1 = .ok (.i2l, 1) := by decide +kernel
theorem dX8_on_2 : decode cX8_on 2 = .ok (.lconst 0, 1) := by decide +kernel
theorem dX8_on_3 : decode cX8_on 3 = .ok (.ldc2_w 240, 3) := by decide +kernel
theorem dX8_on_6 : decode cX8_on 6 = .ok (.invokestatic 133, 3) := by decide +kernel
theorem dX8_on_9 : decode cX8_on 9 = .ok (.ifCond .ne 5, 3) := by decide +kernel
theorem dX8_on_12 : decode cX8_on 12 = .ok (.iconst (-1), 1) := by decide +kernel
theorem dX8_on_13 : decode cX8_on 13 = .ok (.ireturn, 1) := by decide +kernel
theorem dX8_on_14 : decode cX8_on 14 = .ok (.aload_n 0, 1) := by decide +kernel
theorem dX8_on_15 : decode cX8_on 15 = .ok (.getfield 83, 3) := by decide +kernel
theorem dX8_on_18 : decode cX8_on 18 = .ok (.iload_n 1, 1) := by decide +kernel
theorem dX8_on_19 : decode cX8_on 19 = .ok (.baload, 1) := by decide +kernel
theorem dX8_on_20 : decode cX8_on 20 = .ok (.ifCond .ne 9, 3) := by decide +kernel
theorem dX8_on_23 : decode cX8_on 23 = .ok (.aload_n 0, 1) := by decide +kernel
theorem dX8_on_24 : decode cX8_on 24 = .ok (.iconst 1, 1) := by decide +kernel
theorem dX8_on_25 : decode cX8_on 25 = .ok (.invokevirtual 143, 3) := by decide +kernel
theorem dX8_on_28 : decode cX8_on 28 = .ok (.ireturn, 1) := by decide +kernel
theorem dX8_on_29 : decode cX8_on 29 = .ok (.iconst 0, 1) := by decide +kernel
theorem dX8_on_30 : decode cX8_on 30 = .ok (.istore_n 2, 1) := by decide +kernel
theorem dX8_on_31 : decode cX8_on 31 = .ok (.iload_n 2, 1) := by decide +kernel
theorem dX8_on_32 : decode cX8_on 32 = .ok (.bipush 8, 2) := by decide +kernel
theorem dX8_on_34 : decode cX8_on 34 = .ok (.if_icmp .ge 46, 3) := by decide +kernel
theorem dX8_on_37 : decode cX8_on 37 = .ok (.aload_n 0, 1) := by decide +kernel
theorem dX8_on_38 : decode cX8_on 38 = .ok (.getfield 49, 3) := by decide +kernel
theorem dX8_on_41 : decode cX8_on 41 = .ok (.iload_n 2, 1) := by decide +kernel
theorem dX8_on_42 : decode cX8_on 42 = .ok (.aload_n 0, 1) := by decide +kernel
theorem dX8_on_43 : decode cX8_on 43 = .ok (.getfield 87, 3) := by decide +kernel
theorem dX8_on_46 : decode cX8_on 46 = .ok (.bipush 18, 2) := by decide +kernel
theorem dX8_on_48 : decode cX8_on 48 = .ok (.iload_n 1, 1) := by decide +kernel
theorem dX8_on_49 : decode cX8_on 49 = .ok (.imul, 1) := by decide +kernel
theorem dX8_on_50 : decode cX8_on 50 = .ok (.iload_n 2, 1) := by decide +kernel
