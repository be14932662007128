/-! instructions, by program -/
theorem dX9_isIn_0 : decode cX9_isIn 0 = .ok (.lload_n 0, 1) := by decide +kernel
theorem dX9_isIn_1 : decode cX9_isIn 1 = .ok (.lload_n 2, 1) := by decide +kernel
theorem dX9_isIn_2 : decode cX9_isIn 2 = .ok (.lcmp, 1) := by decide +kernel
theorem dX9_isIn_3 : decode cX9_isIn 3 = .ok (.ifCond .lt 14, 3) := by decide +kernel
theorem dX9_isIn_6 : decode cX9_isIn 6 = .ok (.lload_n 0, 1) := by decide +kernel
theorem dX9_isIn_7 : decode cX9_isIn 7 = .ok (.lload 4, 2) := by decide +kernel
theorem dX9_isIn_9 : decode cX9_isIn 9 = .ok (.lcmp, 1) := by decide +kernel
theorem dX9_isIn_10 : decode cX9_isIn 10 = .ok (.ifCond .gt 7, 3) := by decide +kernel
theorem dX9_isIn_13 : decode cX9_isIn 13 = .ok (.iconst 1, 1) := by decide +kernel
theorem dX9_isIn_14 : decode cX9_isIn 14 = .ok (.goto 4, 3) := by decide +kernel
theorem dX9_isIn_17 : decode cX9_isIn 17 = .ok (.iconst 0, 1) := by decide +kernel
theorem dX9_isIn_18 : decode cX9_isIn 18 = .ok (.ireturn, 1) := by decide +kernel
theorem dX9_one_0 : decode cX9_one 0 = .ok (.iload_n 0, 1) := by decide +kernel
theorem dX9_one_1 : decode cX9_one 1 = .ok (.ifCond .eq 7, 3) := by decide +kernel
theorem dX9_one_4 : decode cX9_one 4 = .ok (.iconst 1, 1) := by decide +kernel
theorem dX9_one_5 : decode cX9_one 5 = .ok (.goto 4, 3) := by decide +kernel
theorem dX9_one_8 : decode cX9_one 8 = .ok (.iconst 0, 1) := by decide +kernel
theorem dX9_one_9 : decode cX9_one 9 = .ok (.ireturn, 1) := by decide +kernel
theorem dX9_bits_0 : decode cX9_bits 0 = .ok (.iconst 0, 1) := by decide +kernel
theorem dX9_bits_1 : decode cX9_bits 1 = .ok (.istore_n 1, 1) := by decide +kernel
theorem dX9_bits_2 : decode cX9_bits 2 = .ok (.iload_n 0, 1) := by decide +kernel
theorem dX9_bits_3 : decode cX9_bits 3 = .ok (.istore_n 2, 1) := by decide +kernel
theorem dX9_bits_4 : decode cX9_bits 4 = .ok (.iload_n 2, 1) := by decide +kernel
theorem dX9_bits_5 : decode cX9_bits 5 = .ok (.ifCond .eq 15, 3) := by decide +kernel
theorem dX9_bits_8 : decode cX9_bits 8 = .ok (.iinc 1 1, 3) := by decide +kernel
theorem dX9_bits_11 : decode cX9_bits 11 = .ok (.iload_n 2, 1) := by decide +kernel
theorem dX9_bits_12 : decode cX9_bits 12 = .ok (.iload_n 2, 1) := by decide +kernel
theorem dX9_bits_13 : decode cX9_bits 13 = .ok (.iconst 1, 1) := by decide +kernel
theorem dX9_bits_14 : decode cX9_bits 14 = .ok (.isub, 1) := by decide +kernel
theorem dX9_bits_15 : decode cX9_bits 15 = .ok (.iand, 1) := by decide +kernel
theorem dX9_bits_16 : decode cX9_bits 16 = .ok (.istore_n 2, 1) := by decide +kernel
theorem dX9_bits_17 : decode cX9_bits 17 = .ok (.goto (-13), 3) := by decide +kernel
theorem dX9_bits_20 : decode cX9_bits 20 = .ok (.iload_n 1, 1) := by decide +kernel
theorem dX9_bits_21 : decode cX9_bits 21 = .ok (.ireturn, 1) := by decide +kernel
theorem dX9_init_0 : decode cX9_init 0 = .ok (.aload_n 0, 1) := by decide +kernel
theorem dX9_init_1 : decode cX9_init 1 = .ok (.invokespecial 1, 3) := by decide +kernel
theorem dX9_init_4 : decode cX9_init 4 = .ok (.aload_n 0, 1) := by decide +kernel
theorem dX9_init_5 : decode cX9_init 5 = .ok (.bipush 66, 2) := by decide +kernel
theorem dX9_init_7 : decode cX9_init 7 = .ok (.newarray .int, 2) := by decide +kernel
theorem dX9_init_9 : decode cX9_init 9 = .ok (.putfield 7, 3) := by decide +kernel
theorem dX9_init_12 : decode cX9_init 12 = .ok (.aload_n 0, 1) := by decide +kernel
theorem dX9_init_13 : decode cX9_init 13 = .ok (.bipush 11, 2) := by decide +kernel
theorem dX9_init_15 : decode cX9_init 15 = .ok (.newarray .int, 2) := by decide +kernel
theorem dX9_init_17 : decode cX9_init 17 = .ok (.putfield 13, 3) := by decide +kernel
theorem dX9_init_20 : decode cX9_init 20 = .ok (.aload_n 0, 1) := by decide +kernel
theorem dX9_init_21 : decode cX9_init 21 = .ok (.bipush 11, 2) := by decide +kernel
theorem dX9_init_23 : decode cX9_init 23 = .ok (.newarray .int, 2) := by decide +kernel
theorem dX9_init_25 : decode cX9_init 25 = .ok (.putfield 16, 3) := by decide +kernel
theorem dX9_init_28 : decode cX9_init 28 = .ok (.aload_n 0, 1) := by decide +kernel
theorem dX9_init_29 : decode cX9_init 29 = .ok (.bipush 11, 2) := by decide +kernel
theorem dX9_init_31 : decode cX9_init 31 = .ok (.newarray .int, 2) := by decide +kernel
theorem dX9_init_33 : decode cX9_init 33 = .ok (.putfield 19, 3) := by decide +kernel
theorem dX9_init_36 : decode cX9_init 36 = .ok (.aload_n 0, 1) := by decide +kernel
theorem dX9_init_37 : decode cX9_init 37 = .ok (.bipush 11, 2) := by decide +kernel
theorem dX9_init_39 : decode cX9_init 39 = .ok (.newarray .boolean, 2) := by decide +kernel
theorem dX9_init_41 : decode cX9_init 41 = .ok (.putfield 22, 3) := by decide +kernel
theorem dX9_init_44 : decode cX9_init 44 = .ok (.aload_n 0, 1) := by decide +kernel
theorem dX9_init_45 : decode cX9_init 45 = .ok (.bipush 11, 2) := by decide +kernel
theorem dX9_init_47 : decode cX9_init 47 = .ok (.newarray .boolean, 2) := by decide +kernel
theorem dX9_init_49 : decode cX9_init 49 = .ok (.putfield 26, 3) := by decide +kernel
theorem dX9_init_52 : decode cX9_init 52 = .ok (.aload_n 0, 1) := by decide +kernel
theorem dX9_init_53 : decode cX9_init 53 = .ok (.bipush 11, 2) := by decide +kernel
theorem dX9_init_55 : decode cX9_init 55 = .ok (.newarray .int, 2) := by decide +kernel
theorem dX9_init_57 : decode cX9_init 57 = .ok (.putfield 29, 3) := by decide +kernel
theorem dX9_init_60 : decode cX9_init 60 = .ok (.aload_n 0, 1) := by decide +kernel
theorem dX9_init_61 : decode cX9_init 61 = .ok (.bipush 11, 2) := by decide +kernel
theorem dX9_init_63 : decode cX9_init 63 = .ok (.newarray .int, 2) := by decide +kernel
theorem dX9_init_65 : decode cX9_init 65 = .ok (.putfield 32, 3) := by decide +kernel
theorem dX9_init_68 : decode cX9_init 68 = .ok (.aload_n 0, 1) := by decide +kernel
theorem dX9_init_69 : decode cX9_init 69 = .ok (.bipush 6, 2) := by decide +kernel
theorem dX9_init_71 : decode cX9_init 71 = .ok (.newarray .int, 2) := by decide +kernel
theorem dX9_init_73 : decode cX9_init 73 = .ok (.putfield 35, 3) := by decide +kernel
theorem dX9_init_76 : decode cX9_init 76 = .ok (.aload_n 0, 1) := by decide +kernel
theorem dX9_init_77 : decode cX9_init 77 = .ok (.bipush 121, 2) := by decide +kernel
theorem dX9_init_79 : decode cX9_init 79 = .ok (.newarray .int, 2) := by decide +kernel
theorem dX9_init_81 : decode cX9_init 81 = .ok (.putfield 38, 3) := by decide +kernel
theorem dX9_init_84 : decode cX9_init 84 = .ok (.aload_n 0, 1) := by decide +kernel
theorem dX9_init_85 : decode cX9_init 85 = .ok (.bipush 11, 2) := by decide +kernel
theorem dX9_init_87 : decode cX9_init 87 = .ok (.newarray .int, 2) := by decide +kernel
theorem dX9_init_89 : decode cX9_init 89 = .ok (.putfield 41, 3) := by decide +kernel
theorem dX9_init_92 : decode cX9_init 92 = .ok (.aload_n 0, 1) := by decide +kernel
theorem dX9_init_93 : decode cX9_init 93 = .ok (.bipush 11, 2) := by decide +kernel
theorem dX9_init_95 : decode cX9_init 95 = .ok (.newarray .int, 2) := by decide +kernel
theorem dX9_init_97 : decode cX9_init 97 = .ok (.putfield 44, 3) := by decide +kernel
theorem dX9_init_100 : decode cX9_init 100 = .ok (.aload_n 0, 1) := by decide +kernel
theorem dX9_init_101 : decode cX9_init 101 = .ok (.bipush 11, 2) := by decide +kernel
theorem dX9_init_103 : decode cX9_init 103 = .ok (.newarray .int, 2) := by decide +kernel
theorem dX9_init_105 : decode cX9_init 105 = .ok (.putfield 47, 3) := by decide +kernel
theorem dX9_init_108 : decode cX9_init 108 = .ok (.aload_n 0, 1) := by decide +kernel
theorem dX9_init_109 : decode cX9_init 109 = .ok (.bipush 11, 2) := by decide +kernel
theorem dX9_init_111 : decode cX9_init 111 = .ok (.newarray .int, 2) := by decide +kernel
theorem dX9_init_113 : decode cX9_init 113 = .ok (.putfield 50, 3) := by decide +kernel
theorem dX9_init_116 : decode cX9_init 116 = .ok (.aload_n 0, 1) := by decide +kernel
theorem dX9_init_117 : decode cX9_init 117 = .ok (.bipush 11, 2) := by decide +kernel
theorem dX9_init_119 : decode cX9_init 119 = .ok (.newarray .int, 2) := by decide +kernel
theorem dX9_init_121 : decode cX9_init 121 = .ok (.putfield 53, 3) := by decide +kernel
theorem dX9_init_124 : decode cX9_init 124 = .ok (.aload_n 0, 1) := by decide +kernel
theorem dX9_init_125 : decode cX9_init 125 = .ok (.bipush 11, 2) := by decide +kernel
theorem dX9_init_127 : decode cX9_init 127 = .ok (.newarray .int, 2) := by decide +kernel
theorem dX9_init_129 : decode cX9_init 129 = .ok (.putfield 56, 3) := by decide +kernel
theorem dX9_init_132 : decode cX9_init 132 = .ok (.aload_n 0, 1) := by decide +kernel
theorem dX9_init_133 : decode cX9_init 133 = .ok (.sipush 456, 3) := by decide +kernel
theorem dX9_init_136 : decode cX9_init 136 = .ok (.newarray .int, 2) := by decide +kernel
theorem dX9_init_138 : decode cX9_init 138 = .ok (.putfield 59, 3) := by decide +kernel
theorem dX9_init_141 : decode cX9_init 141 = .ok (.aload_n 0, 1) := by decide +kernel
theorem dX9_init_142 : decode cX9_init 142 = .ok (.bipush 6, 2) := by decide +kernel
theorem dX9_init_144 : decode cX9_init 144 = .ok (.newarray .int, 2) := by decide +kernel
theorem dX9_init_146 : decode cX9_init 146 = .ok (.putfield 62, 3) := by decide +kernel
theorem dX9_init_149 : decode cX9_init 149 = .ok (.aload_n 0, 1) := by decide +kernel
theorem dX9_init_150 : decode cX9_init 150 = .ok (.ldc 65, 2) := by decide +kernel
theorem dX9_init_152 : decode cX9_init 152 = .ok (.newarray .int, 2) := by decide +kernel
theorem dX9_init_154 : decode cX9_init 154 = .ok (.putfield 66, 3) := by decide +kernel
theorem dX9_init_157 : decode cX9_init 157 = .ok (.aload_n 0, 1) := by decide +kernel
theorem dX9_init_158 : decode cX9_init 158 = .ok (.sipush 720, 3) := by decide +kernel
theorem dX9_init_161 : decode cX9_init 161 = .ok (.newarray .int, 2) := by decide +kernel
theorem dX9_init_163 : decode cX9_init 163 = .ok (.putfield 69, 3) := by decide +kernel
theorem dX9_init_166 : decode cX9_init 166 = .ok (.aload_n 0, 1) := by decide +kernel
theorem dX9_init_167 : decode cX9_init 167 = .ok (.sipush 12000, 3) := by decide +kernel
theorem dX9_init_170 : decode cX9_init 170 = .ok (.newarray .int, 2) := by decide +kernel
theorem dX9_init_172 : decode cX9_init 172 = .ok (.putfield 72, 3) := by decide +kernel
theorem dX9_init_175 : decode cX9_init 175 = .ok (.aload_n 0, 1) := by decide +kernel
theorem dX9_init_176 : decode cX9_init 176 = .ok (.sipush 12000, 3) := by decide +kernel
theorem dX9_init_179 : decode cX9_init 179 = .ok (.newarray .int, 2) := by decide +kernel
theorem dX9_init_181 : decode cX9_init 181 = .ok (.putfield 75, 3) := by decide +kernel
theorem dX9_init_184 : decode cX9_init 184 = .ok (.aload_n 0, 1) := by decide +kernel
theorem dX9_init_185 : decode cX9_init 185 = .ok (.bipush 6, 2) := by decide +kernel
theorem dX9_init_187 : decode cX9_init 187 = .ok (.newarray .int, 2) := by decide +kernel
theorem dX9_init_189 : decode cX9_init 189 = .ok (.putfield 78, 3) := by decide +kernel
theorem dX9_init_192 : decode cX9_init 192 = .ok (.aload_n 0, 1) := by decide +kernel
theorem dX9_init_193 : decode cX9_init 193 = .ok (.bipush 7, 2) := by decide +kernel
theorem dX9_init_195 : decode cX9_init 195 = .ok (.newarray .int, 2) := by decide +kernel
theorem dX9_init_197 : decode cX9_init 197 = .ok (.putfield 81, 3) := by decide +kernel
theorem dX9_init_200 : decode cX9_init 200 = .ok (.aload_n 0, 1) := by decide +kernel
theorem dX9_init_201 : decode cX9_init 201 = .ok (.bipush 7, 2) := by decide +kernel
theorem dX9_init_203 : decode cX9_init 203 = .ok (.newarray .int, 2) := by decide +kernel
theorem dX9_init_205 : decode cX9_init 205 = .ok (.putfield 84, 3) := by decide +kernel
theorem dX9_init_208 : decode cX9_init 208 = .ok (.aload_n 0, 1) := by decide +kernel
theorem dX9_init_209 : decode cX9_init 209 = .ok (.sipush 256, 3) := by decide +kernel
theorem dX9_init_212 : decode cX9_init 212 = .ok (.newarray .int, 2) := by decide +kernel
theorem dX9_init_214 : decode cX9_init 214 = .ok (.putfield 87, 3) := by decide +kernel
theorem dX9_init_217 : decode cX9_init 217 = .ok (.aload_n 0, 1) := by decide +kernel
theorem dX9_init_218 : decode cX9_init 218 = .ok (.sipush 2816, 3) := by decide +kernel
theorem dX9_init_221 : decode cX9_init 221 = .ok (.newarray .int, 2) := by decide +kernel
theorem dX9_init_223 : decode cX9_init 223 = .ok (.putfield 90, 3) := by decide +kernel
theorem dX9_init_226 : decode cX9_init 226 = .ok (.aload_n 0, 1) := by decide +kernel
theorem dX9_init_227 : decode cX9_init 227 = .ok (.bipush 11, 2) := by decide +kernel
theorem dX9_init_229 : decode cX9_init 229 = .ok (.newarray .int, 2) := by decide +kernel
theorem dX9_init_231 : decode cX9_init 231 = .ok (.putfield 93, 3) := by decide +kernel
theorem dX9_init_234 : decode cX9_init 234 = .ok (.aload_n 0, 1) := by decide +kernel
theorem dX9_init_235 : decode cX9_init 235 = .ok (.bipush 121, 2) := by decide +kernel
theorem dX9_init_237 : decode cX9_init 237 = .ok (.newarray .int, 2) := by decide +kernel
theorem dX9_init_239 : decode cX9_init 239 = .ok (.putfield 96, 3) := by decide +kernel
theorem dX9_init_242 : decode cX9_init 242 = .ok (.aload_n 0, 1) := by decide +kernel
theorem dX9_init_243 : decode cX9_init 243 = .ok (.bipush 121, 2) := by decide +kernel
theorem dX9_init_245 : decode cX9_init 245 = .ok (.newarray .int, 2) := by decide +kernel
theorem dX9_init_247 : decode cX9_init 247 = .ok (.putfield 99, 3) := by decide +kernel
theorem dX9_init_250 : decode cX9_init 250 = .ok (.aload_n 0, 1) := by decide +kernel
theorem dX9_init_251 : decode cX9_init 251 = .ok (.sipush 242, 3) := by decide +kernel
theorem dX9_init_254 : decode cX9_init 254 = .ok (.newarray .int, 2) := by decide +kernel
theorem dX9_init_256 : decode cX9_init 256 = .ok (.putfield 102, 3) := by decide +kernel
theorem dX9_init_259 : decode cX9_init 259 = .ok (.aload_n 0, 1) := by decide +kernel
theorem dX9_init_260 : decode cX9_init 260 = .ok (.bipush 121, 2) := by decide +kernel
theorem dX9_init_262 : decode cX9_init 262 = .ok (.newarray .int, 2) := by decide +kernel
theorem dX9_init_264 : decode cX9_init 264 = .ok (.putfield 105, 3) := by decide +kernel
theorem dX9_init_267 : decode cX9_init 267 = .ok (.aload_n 0, 1) := by decide +kernel
theorem dX9_init_268 : decode cX9_init 268 = .ok (.bipush 121, 2) := by decide +kernel
theorem dX9_init_270 : decode cX9_init 270 = .ok (.newarray .long, 2) := by decide +kernel
theorem dX9_init_272 : decode cX9_init 272 = .ok (.putfield 108, 3) := by decide +kernel
theorem dX9_init_275 : decode cX9_init 275 = .ok (.aload_n 0, 1) := by decide +kernel
theorem dX9_init_276 : decode cX9_init 276 = .ok (.bipush 11, 2) := by decide +kernel
theorem dX9_init_278 : decode cX9_init 278 = .ok (.newarray .int, 2) := by decide +kernel
theorem dX9_init_280 : decode cX9_init 280 = .ok (.putfield 112, 3) := by decide +kernel
theorem dX9_init_283 : decode cX9_init 283 = .ok (.aload_n 0, 1) := by decide +kernel
theorem dX9_init_284 : decode cX9_init 284 = .ok (.bipush 66, 2) := by decide +kernel
theorem dX9_init_286 : decode cX9_init 286 = .ok (.newarray .long, 2) := by decide +kernel
theorem dX9_init_288 : decode cX9_init 288 = .ok (.putfield 115, 3) := by decide +kernel
theorem dX9_init_291 : decode cX9_init 291 = .ok (.aload_n 0, 1) := by decide +kernel
theorem dX9_init_292 : decode cX9_init 292 = .ok (.bipush 11, 2) := by decide +kernel
theorem dX9_init_294 : decode cX9_init 294 = .ok (.newarray .long, 2) := by decide +kernel
theorem dX9_init_296 : decode cX9_init 296 = .ok (.putfield 118, 3) := by decide +kernel
theorem dX9_init_299 : decode cX9_init 299 = .ok (.aload_n 0, 1) := by decide +kernel
theorem dX9_init_300 : decode cX9_init 300 = .ok (.sipush 200, 3) := by decide +kernel
theorem dX9_init_303 : decode cX9_init 303 = .ok (.newarray .int, 2) := by decide +kernel
theorem dX9_init_305 : decode cX9_init 305 = .ok (.putfield 121, 3) := by decide +kernel
theorem dX9_init_308 : decode cX9_init 308 = .ok (.aload_n 0, 1) := by decide +kernel
theorem dX9_init_309 : decode cX9_init 309 = .ok (.iconst (-1), 1) := by decide +kernel
theorem dX9_init_310 : decode cX9_init 310 = .ok (.putfield 124, 3) := by decide +kernel
theorem dX9_init_313 : decode cX9_init 313 = .ok (.aload_n 0, 1) := by decide +kernel
theorem dX9_init_314 : decode cX9_init 314 = .ok (.bipush 20, 2) := by decide +kernel
theorem dX9_init_316 : decode cX9_init 316 = .ok (.newarray .int, 2) := by decide +kernel
theorem dX9_init_318 : decode cX9_init 318 = .ok (.putfield 128, 3) := by decide +kernel
theorem dX9_init_321 : decode cX9_init 321 = .ok (.aload_n 0, 1) := by decide +kernel
theorem dX9_init_322 : decode cX9_init 322 = .ok (.bipush 20, 2) := by decide +kernel
theorem dX9_init_324 : decode cX9_init 324 = .ok (.newarray .int, 2) := by decide +kernel
theorem dX9_init_326 : decode cX9_init 326 = .ok (.putfield 131, 3) := by decide +kernel
theorem dX9_init_329 : decode cX9_init 329 = .ok (.aload_n 0, 1) := by decide +kernel
theorem dX9_init_330 : decode cX9_init 330 = .ok (.bipush 55, 2) := by decide +kernel
theorem dX9_init_332 : decode cX9_init 332 = .ok (.newarray .long, 2) := by decide +kernel
theorem dX9_init_334 : decode cX9_init 334 = .ok (.putfield 134, 3) := by decide +kernel
theorem dX9_init_337 : decode cX9_init 337 = .ok (.aload_n 0, 1) := by decide +kernel
theorem dX9_init_338 : decode cX9_init 338 = .ok (.bipush 55, 2) := by decide +kernel
theorem dX9_init_340 : decode cX9_init 340 = .ok (.newarray .long, 2) := by decide +kernel
theorem dX9_init_342 : decode cX9_init 342 = .ok (.putfield 137, 3) := by decide +kernel
theorem dX9_init_345 : decode cX9_init 345 = .ok (.aload_n 0, 1) := by decide +kernel
theorem dX9_init_346 : decode cX9_init 346 = .ok (.bipush 11, 2) := by decide +kernel
theorem dX9_init_348 : decode cX9_init 348 = .ok (.newarray .long, 2) := by decide +kernel
theorem dX9_init_350 : decode cX9_init 350 = .ok (.putfield 140, 3) := by decide +kernel
theorem dX9_init_353 : decode cX9_init 353 = .ok (.aload_n 0, 1) := by decide +kernel
theorem dX9_init_354 : decode cX9_init 354 = .ok (.bipush 6, 2) := by decide +kernel
theorem dX9_init_356 : decode cX9_init 356 = .ok (.newarray .int, 2) := by decide +kernel
theorem dX9_init_358 : decode cX9_init 358 = .ok (.putfield 143, 3) := by decide +kernel
theorem dX9_init_361 : decode cX9_init 361 = .ok (.aload_n 0, 1) := by decide +kernel
theorem dX9_init_362 : decode cX9_init 362 = .ok (.bipush 6, 2) := by decide +kernel
theorem dX9_init_364 : decode cX9_init 364 = .ok (.newarray .int, 2) := by decide +kernel
theorem dX9_init_366 : decode cX9_init 366 = .ok (.putfield 146, 3) := by decide +kernel
theorem dX9_init_369 : decode cX9_init 369 = .ok (.aload_n 0, 1) := by decide +kernel
theorem dX9_init_370 : decode cX9_init 370 = .ok (.iconst 3, 1) := by decide +kernel
theorem dX9_init_371 : decode cX9_init 371 = .ok (.iconst 2, 1) := by decide +kernel
theorem dX9_init_372 : decode cX9_init 372 = .ok (.invokevirtual 149, 3) := by decide +kernel
theorem dX9_init_375 : decode cX9_init 375 = .ok (.return_, 1) := by decide +kernel
theorem dX9_grows_0 : decode cX9_grows 0 = .ok (.iload_n 2, 1) := by decide +kernel
theorem dX9_grows_1 : decode cX9_grows 1 = .ok (.ifCond .ne 72, 3) := by decide +kernel
theorem dX9_grows_4 : decode cX9_grows 4 = .ok (.iconst 0, 1) := by decide +kernel
theorem dX9_grows_5 : decode cX9_grows 5 = .ok (.istore 4, 2) := by decide +kernel
theorem dX9_grows_7 : decode cX9_grows 7 = .ok (.iload 4, 2) := by decide +kernel
theorem dX9_grows_9 : decode cX9_grows 9 = .ok (.bipush 6, 2) := by decide +kernel
theorem dX9_grows_11 : decode cX9_grows 11 = .ok (.if_icmp .ge 41, 3) := by decide +kernel
theorem dX9_grows_14 : decode cX9_grows 14 = .ok (.aload_n 0, 1) := by decide +kernel
theorem dX9_grows_15 : decode cX9_grows 15 = .ok (.getfield 7, 3) := by decide +kernel
theorem dX9_grows_18 : decode cX9_grows 18 = .ok (.bipush 6, 2) := by decide +kernel
theorem dX9_grows_20 : decode cX9_grows 20 = .ok (.aload_n 0, 1) := by decide +kernel
theorem dX9_grows_21 : decode cX9_grows 21 = .ok (.getfield 153, 3) := by decide +kernel
theorem dX9_grows_24 : decode cX9_grows 24 = .ok (.imul, 1) := by decide +kernel
theorem dX9_grows_25 : decode cX9_grows 25 = .ok (.iload 4, 2) := by decide +kernel
theorem dX9_grows_27 : decode cX9_grows 27 = .ok (.iadd, 1) := by decide +kernel
theorem dX9_grows_28 : decode cX9_grows 28 = .ok (.iload 4, 2) := by decide +kernel
theorem dX9_grows_30 : decode cX9_grows 30 = .ok (.iload_n 1, 1) := by decide +kernel
theorem dX9_grows_31 : decode cX9_grows 31 = .ok (.if_icmp .ge 13, 3) := by decide +kernel
theorem dX9_grows_34 : decode cX9_grows 34 = .ok (.aload_n 0, 1) := by decide +kernel
theorem dX9_grows_35 : decode cX9_grows 35 = .ok (.getfield 35, 3) := by decide +kernel
theorem dX9_grows_38 : decode cX9_grows 38 = .ok (.iload 4, 2) := by decide +kernel
theorem dX9_grows_40 : decode cX9_grows 40 = .ok (.iaload, 1) := by decide +kernel
theorem dX9_grows_41 : decode cX9_grows 41 = .ok (.goto 4, 3) := by decide +kernel
theorem dX9_grows_44 : decode cX9_grows 44 = .ok (.iconst 0, 1) := by decide +kernel
theorem dX9_grows_45 : decode cX9_grows 45 = .ok (.iastore, 1) := by decide +kernel
theorem dX9_grows_46 : decode cX9_grows 46 = .ok (.iinc 4 1, 3) := by decide +kernel
theorem dX9_grows_49 : decode cX9_grows 49 = .ok (.goto (-42), 3) := by decide +kernel
theorem dX9_grows_52 : decode cX9_grows 52 = .ok (.aload_n 0, 1) := by decide +kernel
theorem dX9_grows_53 : decode cX9_grows 53 = .ok (.getfield 13, 3) := by decide +kernel
theorem dX9_grows_56 : decode cX9_grows 56 = .ok (.aload_n 0, 1) := by decide +kernel
theorem dX9_grows_57 : decode cX9_grows 57 = .ok (.getfield 153, 3) := by decide +kernel
theorem dX9_grows_60 : decode cX9_grows 60 = .ok (.iload_n 1, 1) := by decide +kernel
theorem dX9_grows_61 : decode cX9_grows 61 = .ok (.iastore, 1) := by decide +kernel
theorem dX9_grows_62 : decode cX9_grows 62 = .ok (.aload_n 0, 1) := by decide +kernel
theorem dX9_grows_63 : decode cX9_grows 63 = .ok (.dup, 1) := by decide +kernel
theorem dX9_grows_64 : decode cX9_grows 64 = .ok (.getfield 153, 3) := by decide +kernel
theorem dX9_grows_67 : decode cX9_grows 67 = .ok (.iconst 1, 1) := by decide +kernel
theorem dX9_grows_68 : decode cX9_grows 68 = .ok (.iadd, 1) := by decide +kernel
theorem dX9_grows_69 : decode cX9_grows 69 = .ok (.putfield 153, 3) := by decide +kernel
theorem dX9_grows_72 : decode cX9_grows 72 = .ok (.return_, 1) := by decide +kernel
theorem dX9_grows_73 : decode cX9_grows 73 = .ok (.iload_n 2, 1) := by decide +kernel
theorem dX9_grows_74 : decode cX9_grows 74 = .ok (.iload_n 3, 1) := by decide +kernel
theorem dX9_grows_75 : decode cX9_grows 75 = .ok (.invokestatic 156, 3) := by decide +kernel
theorem dX9_grows_78 : decode cX9_grows 78 = .ok (.istore 4, 2) := by decide +kernel
theorem dX9_grows_80 : decode cX9_grows 80 = .ok (.iload 4, 2) := by decide +kernel
theorem dX9_grows_82 : decode cX9_grows 82 = .ok (.ifCond .le 30, 3) := by decide +kernel
theorem dX9_grows_85 : decode cX9_grows 85 = .ok (.aload_n 0, 1) := by decide +kernel
theorem dX9_grows_86 : decode cX9_grows 86 = .ok (.getfield 35, 3) := by decide +kernel
theorem dX9_grows_89 : decode cX9_grows 89 = .ok (.iload_n 1, 1) := by decide +kernel
theorem dX9_grows_90 : decode cX9_grows 90 = .ok (.iload 4, 2) := by decide +kernel
theorem dX9_grows_92 : decode cX9_grows 92 = .ok (.iastore, 1) := by decide +kernel
theorem dX9_grows_93 : decode cX9_grows 93 = .ok (.aload_n 0, 1) := by decide +kernel
theorem dX9_grows_94 : decode cX9_grows 94 = .ok (.iload_n 1, 1) := by decide +kernel
theorem dX9_grows_95 : decode cX9_grows 95 = .ok (.iconst 1, 1) := by decide +kernel
theorem dX9_grows_96 : decode cX9_grows 96 = .ok (.iadd, 1) := by decide +kernel
theorem dX9_grows_97 : decode cX9_grows 97 = .ok (.iload_n 2, 1) := by decide +kernel
theorem dX9_grows_98 : decode cX9_grows 98 = .ok (.iload 4, 2) := by decide +kernel
theorem dX9_grows_100 : decode cX9_grows 100 = .ok (.isub, 1) := by decide +kernel
theorem dX9_grows_101 : decode cX9_grows 101 = .ok (.iload 4, 2) := by decide +kernel
theorem dX9_grows_103 : decode cX9_grows 103 = .ok (.invokevirtual 162, 3) := by decide +kernel
theorem dX9_grows_106 : decode cX9_grows 106 = .ok (.iinc 4 (-1), 3) := by decide +kernel
theorem dX9_grows_109 : decode cX9_grows 109 = .ok (.goto (-29), 3) := by decide +kernel
theorem dX9_grows_112 : decode cX9_grows 112 = .ok (.return_, 1) := by decide +kernel
theorem dX9_partOf_0 : decode cX9_partOf 0 = .ok (.iload_n 2, 1) := by decide +kernel
theorem dX9_partOf_1 : decode cX9_partOf 1 = .ok (.bipush 6, 2) := by decide +kernel
theorem dX9_partOf_3 : decode cX9_partOf 3 = .ok (.if_icmp .ge 17, 3) := by decide +kernel
theorem dX9_partOf_6 : decode cX9_partOf 6 = .ok (.aload_n 0, 1) := by decide +kernel
theorem dX9_partOf_7 : decode cX9_partOf 7 = .ok (.getfield 7, 3) := by decide +kernel
theorem dX9_partOf_10 : decode cX9_partOf 10 = .ok (.bipush 6, 2) := by decide +kernel
theorem dX9_partOf_12 : decode cX9_partOf 12 = .ok (.iload_n 1, 1) := by decide +kernel
theorem dX9_partOf_13 : decode cX9_partOf 13 = .ok (.imul, 1) := by decide +kernel
theorem dX9_partOf_14 : decode cX9_partOf 14 = .ok (.iload_n 2, 1) := by decide +kernel
theorem dX9_partOf_15 : decode cX9_partOf 15 = .ok (.iadd, 1) := by decide +kernel
theorem dX9_partOf_16 : decode cX9_partOf 16 = .ok (.iaload, 1) := by decide +kernel
theorem dX9_partOf_17 : decode cX9_partOf 17 = .ok (.goto 4, 3) := by decide +kernel
theorem dX9_partOf_20 : decode cX9_partOf 20 = .ok (.iconst 0, 1) := by decide +kernel
theorem dX9_partOf_21 : decode cX9_partOf 21 = .ok (.ireturn, 1) := by decide +kernel
theorem dX9_gcd_0 : decode cX9_gcd 0 = .ok (.iload_n 0, 1) := by decide +kernel
theorem dX9_gcd_1 : decode cX9_gcd 1 = .ok (.istore_n 2, 1) := by decide +kernel
theorem dX9_gcd_2 : decode cX9_gcd 2 = .ok (.iload_n 1, 1) := by decide +kernel
theorem dX9_gcd_3 : decode cX9_gcd 3 = .ok (.istore_n 3, 1) := by decide +kernel
theorem dX9_gcd_4 : decode cX9_gcd 4 = .ok (.iload_n 3, 1) := by decide +kernel
theorem dX9_gcd_5 : decode cX9_gcd 5 = .ok (.ifCond .eq 16, 3) := by decide +kernel
theorem dX9_gcd_8 : decode cX9_gcd 8 = .ok (.iload_n 2, 1) := by decide +kernel
theorem dX9_gcd_9 : decode cX9_gcd 9 = .ok (.iload_n 3, 1) := by decide +kernel
theorem dX9_gcd_10 : decode cX9_gcd 10 = .ok (.irem, 1) := by decide +kernel
theorem dX9_gcd_11 : decode cX9_gcd 11 = .ok (.istore 4, 2) := by decide +kernel
theorem dX9_gcd_13 : decode cX9_gcd 13 = .ok (.iload_n 3, 1) := by decide +kernel
theorem dX9_gcd_14 : decode cX9_gcd 14 = .ok (.istore_n 2, 1) := by decide +kernel
theorem dX9_gcd_15 : decode cX9_gcd 15 = .ok (.iload 4, 2) := by decide +kernel
theorem dX9_gcd_17 : decode cX9_gcd 17 = .ok (.istore_n 3, 1) := by decide +kernel
theorem dX9_gcd_18 : decode cX9_gcd 18 = .ok (.goto (-14), 3) := by decide +kernel
theorem dX9_gcd_21 : decode cX9_gcd 21 = .ok (.iload_n 2, 1) := by decide +kernel
theorem dX9_gcd_22 : decode cX9_gcd 22 = .ok (.ireturn, 1) := by decide +kernel
theorem dX9_classes_0 : decode cX9_classes 0 = .ok (.aload_n 0, 1) := by decide +kernel
theorem dX9_classes_1 : decode cX9_classes 1 = .ok (.iconst 1, 1) := by decide +kernel
theorem dX9_classes_2 : decode cX9_classes 2 = .ok (.putfield 166, 3) := by decide +kernel
theorem dX9_classes_5 : decode cX9_classes 5 = .ok (.iconst 2, 1) := by decide +kernel
theorem dX9_classes_6 : decode cX9_classes 6 = .ok (.istore_n 1, 1) := by decide +kernel
theorem dX9_classes_7 : decode cX9_classes 7 = .ok (.iload_n 1, 1) := by decide +kernel
theorem dX9_classes_8 : decode cX9_classes 8 = .ok (.aload_n 0, 1) := by decide +kernel
theorem dX9_classes_9 : decode cX9_classes 9 = .ok (.getfield 169, 3) := by decide +kernel
theorem dX9_classes_12 : decode cX9_classes 12 = .ok (.if_icmp .gt 19, 3) := by decide +kernel
theorem dX9_classes_15 : decode cX9_classes 15 = .ok (.aload_n 0, 1) := by decide +kernel
theorem dX9_classes_16 : decode cX9_classes 16 = .ok (.dup, 1) := by decide +kernel
theorem dX9_classes_17 : decode cX9_classes 17 = .ok (.getfield 166, 3) := by decide +kernel
theorem dX9_classes_20 : decode cX9_classes 20 = .ok (.iload_n 1, 1) := by decide +kernel
theorem dX9_classes_21 : decode cX9_classes 21 = .ok (.imul, 1) := by decide +kernel
theorem dX9_classes_22 : decode cX9_classes 22 = .ok (.putfield 166, 3) := by decide +kernel
theorem dX9_classes_25 : decode cX9_classes 25 = .ok (.iinc 1 1, 3) := by decide +kernel
theorem dX9_classes_28 : decode cX9_classes 28 = .ok (.goto (-21), 3) := by decide +kernel
theorem dX9_classes_31 : decode cX9_classes 31 = .ok (.aload_n 0, 1) := by decide +kernel
theorem dX9_classes_32 : decode cX9_classes 32 = .ok (.iconst 0, 1) := by decide +kernel
theorem dX9_classes_33 : decode cX9_classes 33 = .ok (.putfield 172, 3) := by decide +kernel
theorem dX9_classes_36 : decode cX9_classes 36 = .ok (.iconst 0, 1) := by decide +kernel
theorem dX9_classes_37 : decode cX9_classes 37 = .ok (.istore_n 1, 1) := by decide +kernel
theorem dX9_classes_38 : decode cX9_classes 38 = .ok (.iload_n 1, 1) := by decide +kernel
theorem dX9_classes_39 : decode cX9_classes 39 = .ok (.aload_n 0, 1) := by decide +kernel
theorem dX9_classes_40 : decode cX9_classes 40 = .ok (.getfield 153, 3) := by decide +kernel
theorem dX9_classes_43 : decode cX9_classes 43 = .ok (.if_icmp .ge 252, 3) := by decide +kernel
theorem dX9_classes_46 : decode cX9_classes 46 = .ok (.iconst 1, 1) := by decide +kernel
theorem dX9_classes_47 : decode cX9_classes 47 = .ok (.istore_n 2, 1) := by decide +kernel
theorem dX9_classes_48 : decode cX9_classes 48 = .ok (.iconst 0, 1) := by decide +kernel
theorem dX9_classes_49 : decode cX9_classes 49 = .ok (.istore_n 3, 1) := by decide +kernel
theorem dX9_classes_50 : decode cX9_classes 50 = .ok (.iconst 0, 1) := by decide +kernel
theorem dX9_classes_51 : decode cX9_classes 51 = .ok (.istore 4, 2) := by decide +kernel
theorem dX9_classes_53 : decode cX9_classes 53 = .ok (.aload_n 0, 1) := by decide +kernel
theorem dX9_classes_54 : decode cX9_classes 54 = .ok (.getfield 19, 3) := by decide +kernel
theorem dX9_classes_57 : decode cX9_classes 57 = .ok (.iload_n 1, 1) := by decide +kernel
theorem dX9_classes_58 : decode cX9_classes 58 = .ok (.iconst 1, 1) := by decide +kernel
theorem dX9_classes_59 : decode cX9_classes 59 = .ok (.iastore, 1) := by decide +kernel
theorem dX9_classes_60 : decode cX9_classes 60 = .ok (.aload_n 0, 1) := by decide +kernel
theorem dX9_classes_61 : decode cX9_classes 61 = .ok (.getfield 26, 3) := by decide +kernel
theorem dX9_classes_64 : decode cX9_classes 64 = .ok (.iload_n 1, 1) := by decide +kernel
theorem dX9_classes_65 : decode cX9_classes 65 = .ok (.iconst 1, 1) := by decide +kernel
theorem dX9_classes_66 : decode cX9_classes 66 = .ok (.bastore, 1) := by decide +kernel
theorem dX9_classes_67 : decode cX9_classes 67 = .ok (.aload_n 0, 1) := by decide +kernel
theorem dX9_classes_68 : decode cX9_classes 68 = .ok (.getfield 29, 3) := by decide +kernel
theorem dX9_classes_71 : decode cX9_classes 71 = .ok (.iload_n 1, 1) := by decide +kernel
theorem dX9_classes_72 : decode cX9_classes 72 = .ok (.iconst 1, 1) := by decide +kernel
theorem dX9_classes_73 : decode cX9_classes 73 = .ok (.iastore, 1) := by decide +kernel
theorem dX9_classes_74 : decode cX9_classes 74 = .ok (.aload_n 0, 1) := by decide +kernel
theorem dX9_classes_75 : decode cX9_classes 75 = .ok (.getfield 22, 3) := by decide +kernel
theorem dX9_classes_78 : decode cX9_classes 78 = .ok (.iload_n 1, 1) := by decide +kernel
theorem dX9_classes_79 : decode cX9_classes 79 = .ok (.iconst 1, 1) := by decide +kernel
theorem dX9_classes_80 : decode cX9_classes 80 = .ok (.bastore, 1) := by decide +kernel
theorem dX9_classes_81 : decode cX9_classes 81 = .ok (.iconst 0, 1) := by decide +kernel
theorem dX9_classes_82 : decode cX9_classes 82 = .ok (.istore 5, 2) := by decide +kernel
theorem dX9_classes_84 : decode cX9_classes 84 = .ok (.iload 5, 2) := by decide +kernel
theorem dX9_classes_86 : decode cX9_classes 86 = .ok (.aload_n 0, 1) := by decide +kernel
theorem dX9_classes_87 : decode cX9_classes 87 = .ok (.getfield 13, 3) := by decide +kernel
theorem dX9_classes_90 : decode cX9_classes 90 = .ok (.iload_n 1, 1) := by decide +kernel
theorem dX9_classes_91 : decode cX9_classes 91 = .ok (.iaload, 1) := by decide +kernel
theorem dX9_classes_92 : decode cX9_classes 92 = .ok (.if_icmp .ge 124, 3) := by decide +kernel
theorem dX9_classes_95 : decode cX9_classes 95 = .ok (.aload_n 0, 1) := by decide +kernel
theorem dX9_classes_96 : decode cX9_classes 96 = .ok (.iload_n 1, 1) := by decide +kernel
theorem dX9_classes_97 : decode cX9_classes 97 = .ok (.iload 5, 2) := by decide +kernel
theorem dX9_classes_99 : decode cX9_classes 99 = .ok (.invokevirtual 175, 3) := by decide +kernel
theorem dX9_classes_102 : decode cX9_classes 102 = .ok (.istore 6, 2) := by decide +kernel
theorem dX9_classes_104 : decode cX9_classes 104 = .ok (.iload 5, 2) := by decide +kernel
theorem dX9_classes_106 : decode cX9_classes 106 = .ok (.ifCond .le 23, 3) := by decide +kernel
theorem dX9_classes_109 : decode cX9_classes 109 = .ok (.aload_n 0, 1) := by decide +kernel
theorem dX9_classes_110 : decode cX9_classes 110 = .ok (.iload_n 1, 1) := by decide +kernel
theorem dX9_classes_111 : decode cX9_classes 111 = .ok (.iload 5, 2) := by decide +kernel
theorem dX9_classes_113 : decode cX9_classes 113 = .ok (.iconst 1, 1) := by decide +kernel
theorem dX9_classes_114 : decode cX9_classes 114 = .ok (.isub, 1) := by decide +kernel
theorem dX9_classes_115 : decode cX9_classes 115 = .ok (.invokevirtual 175, 3) := by decide +kernel
theorem dX9_classes_118 : decode cX9_classes 118 = .ok (.iload 6, 2) := by decide +kernel
theorem dX9_classes_120 : decode cX9_classes 120 = .ok (.if_icmp .ne 9, 3) := by decide +kernel
theorem dX9_classes_123 : decode cX9_classes 123 = .ok (.iload_n 3, 1) := by decide +kernel
theorem dX9_classes_124 : decode cX9_classes 124 = .ok (.iconst 1, 1) := by decide +kernel
theorem dX9_classes_125 : decode cX9_classes 125 = .ok (.iadd, 1) := by decide +kernel
theorem dX9_classes_126 : decode cX9_classes 126 = .ok (.goto 4, 3) := by decide +kernel
theorem dX9_classes_129 : decode cX9_classes 129 = .ok (.iconst 1, 1) := by decide +kernel
theorem dX9_classes_130 : decode cX9_classes 130 = .ok (.istore_n 3, 1) := by decide +kernel
theorem dX9_classes_131 : decode cX9_classes 131 = .ok (.iload 4, 2) := by decide +kernel
theorem dX9_classes_133 : decode cX9_classes 133 = .ok (.iload_n 3, 1) := by decide +kernel
theorem dX9_classes_134 : decode cX9_classes 134 = .ok (.invokestatic 178, 3) := by decide +kernel
theorem dX9_classes_137 : decode cX9_classes 137 = .ok (.istore 4, 2) := by decide +kernel
theorem dX9_classes_139 : decode cX9_classes 139 = .ok (.iload_n 2, 1) := by decide +kernel
theorem dX9_classes_140 : decode cX9_classes 140 = .ok (.iload 6, 2) := by decide +kernel
theorem dX9_classes_142 : decode cX9_classes 142 = .ok (.iload_n 3, 1) := by decide +kernel
theorem dX9_classes_143 : decode cX9_classes 143 = .ok (.imul, 1) := by decide +kernel
theorem dX9_classes_144 : decode cX9_classes 144 = .ok (.imul, 1) := by decide +kernel
theorem dX9_classes_145 : decode cX9_classes 145 = .ok (.istore_n 2, 1) := by decide +kernel
theorem dX9_classes_146 : decode cX9_classes 146 = .ok (.aload_n 0, 1) := by decide +kernel
theorem dX9_classes_147 : decode cX9_classes 147 = .ok (.getfield 19, 3) := by decide +kernel
theorem dX9_classes_150 : decode cX9_classes 150 = .ok (.iload_n 1, 1) := by decide +kernel
theorem dX9_classes_151 : decode cX9_classes 151 = .ok (.aload_n 0, 1) := by decide +kernel
theorem dX9_classes_152 : decode cX9_classes 152 = .ok (.getfield 19, 3) := by decide +kernel
theorem dX9_classes_155 : decode cX9_classes 155 = .ok (.iload_n 1, 1) := by decide +kernel
theorem dX9_classes_156 : decode cX9_classes 156 = .ok (.iaload, 1) := by decide +kernel
theorem dX9_classes_157 : decode cX9_classes 157 = .ok (.aload_n 0, 1) := by decide +kernel
theorem dX9_classes_158 : decode cX9_classes 158 = .ok (.getfield 19, 3) := by decide +kernel
theorem dX9_classes_161 : decode cX9_classes 161 = .ok (.iload_n 1, 1) := by decide +kernel
theorem dX9_classes_162 : decode cX9_classes 162 = .ok (.iaload, 1) := by decide +kernel
theorem dX9_classes_163 : decode cX9_classes 163 = .ok (.iload 6, 2) := by decide +kernel
theorem dX9_classes_165 : decode cX9_classes 165 = .ok (.invokestatic 181, 3) := by decide +kernel
theorem dX9_classes_168 : decode cX9_classes 168 = .ok (.idiv, 1) := by decide +kernel
theorem dX9_classes_169 : decode cX9_classes 169 = .ok (.iload 6, 2) := by decide +kernel
theorem dX9_classes_171 : decode cX9_classes 171 = .ok (.imul, 1) := by decide +kernel
theorem dX9_classes_172 : decode cX9_classes 172 = .ok (.iastore, 1) := by decide +kernel
theorem dX9_classes_173 : decode cX9_classes 173 = .ok (.iload 6, 2) := by decide +kernel
theorem dX9_classes_175 : decode cX9_classes 175 = .ok (.aload_n 0, 1) := by decide +kernel
theorem dX9_classes_176 : decode cX9_classes 176 = .ok (.getfield 184, 3) := by decide +kernel
theorem dX9_classes_179 : decode cX9_classes 179 = .ok (.irem, 1) := by decide +kernel
theorem dX9_classes_180 : decode cX9_classes 180 = .ok (.ifCond .ne 10, 3) := by decide +kernel
theorem dX9_classes_183 : decode cX9_classes 183 = .ok (.aload_n 0, 1) := by decide +kernel
theorem dX9_classes_184 : decode cX9_classes 184 = .ok (.getfield 26, 3) := by decide +kernel
theorem dX9_classes_187 : decode cX9_classes 187 = .ok (.iload_n 1, 1) := by decide +kernel
theorem dX9_classes_188 : decode cX9_classes 188 = .ok (.iconst 0, 1) := by decide +kernel
theorem dX9_classes_189 : decode cX9_classes 189 = .ok (.bastore, 1) := by decide +kernel
theorem dX9_classes_190 : decode cX9_classes 190 = .ok (.iload 6, 2) := by decide +kernel
theorem dX9_classes_192 : decode cX9_classes 192 = .ok (.iconst 2, 1) := by decide +kernel
theorem dX9_classes_193 : decode cX9_classes 193 = .ok (.irem, 1) := by decide +kernel
theorem dX9_classes_194 : decode cX9_classes 194 = .ok (.ifCond .ne 16, 3) := by decide +kernel
theorem dX9_classes_197 : decode cX9_classes 197 = .ok (.aload_n 0, 1) := by decide +kernel
theorem dX9_classes_198 : decode cX9_classes 198 = .ok (.getfield 29, 3) := by decide +kernel
theorem dX9_classes_201 : decode cX9_classes 201 = .ok (.iload_n 1, 1) := by decide +kernel
theorem dX9_classes_202 : decode cX9_classes 202 = .ok (.aload_n 0, 1) := by decide +kernel
theorem dX9_classes_203 : decode cX9_classes 203 = .ok (.getfield 29, 3) := by decide +kernel
theorem dX9_classes_206 : decode cX9_classes 206 = .ok (.iload_n 1, 1) := by decide +kernel
theorem dX9_classes_207 : decode cX9_classes 207 = .ok (.iaload, 1) := by decide +kernel
theorem dX9_classes_208 : decode cX9_classes 208 = .ok (.ineg, 1) := by decide +kernel
theorem dX9_classes_209 : decode cX9_classes 209 = .ok (.iastore, 1) := by decide +kernel
theorem dX9_classes_210 : decode cX9_classes 210 = .ok (.iinc 5 1, 3) := by decide +kernel
theorem dX9_classes_213 : decode cX9_classes 213 = .ok (.goto (-129), 3) := by decide +kernel
theorem dX9_classes_216 : decode cX9_classes 216 = .ok (.aload_n 0, 1) := by decide +kernel
theorem dX9_classes_217 : decode cX9_classes 217 = .ok (.getfield 22, 3) := by decide +kernel
theorem dX9_classes_220 : decode cX9_classes 220 = .ok (.iload_n 1, 1) := by decide +kernel
theorem dX9_classes_221 : decode cX9_classes 221 = .ok (.iload 4, 2) := by decide +kernel
theorem dX9_classes_223 : decode cX9_classes 223 = .ok (.aload_n 0, 1) := by decide +kernel
theorem dX9_classes_224 : decode cX9_classes 224 = .ok (.getfield 184, 3) := by decide +kernel
theorem dX9_classes_227 : decode cX9_classes 227 = .ok (.if_icmp .ge 7, 3) := by decide +kernel
theorem dX9_classes_230 : decode cX9_classes 230 = .ok (.iconst 1, 1) := by decide +kernel
theorem dX9_classes_231 : decode cX9_classes 231 = .ok (.goto 4, 3) := by decide +kernel
theorem dX9_classes_234 : decode cX9_classes 234 = .ok (.iconst 0, 1) := by decide +kernel
theorem dX9_classes_235 : decode cX9_classes 235 = .ok (.bastore, 1) := by decide +kernel
theorem dX9_classes_236 : decode cX9_classes 236 = .ok (.aload_n 0, 1) := by decide +kernel
theorem dX9_classes_237 : decode cX9_classes 237 = .ok (.getfield 16, 3) := by decide +kernel
theorem dX9_classes_240 : decode cX9_classes 240 = .ok (.iload_n 1, 1) := by decide +kernel
theorem dX9_classes_241 : decode cX9_classes 241 = .ok (.aload_n 0, 1) := by decide +kernel
theorem dX9_classes_242 : decode cX9_classes 242 = .ok (.getfield 166, 3) := by decide +kernel
theorem dX9_classes_245 : decode cX9_classes 245 = .ok (.iload_n 2, 1) := by decide +kernel
theorem dX9_classes_246 : decode cX9_classes 246 = .ok (.idiv, 1) := by decide +kernel
theorem dX9_classes_247 : decode cX9_classes 247 = .ok (.iastore, 1) := by decide +kernel
theorem dX9_classes_248 : decode cX9_classes 248 = .ok (.aload_n 0, 1) := by decide +kernel
theorem dX9_classes_249 : decode cX9_classes 249 = .ok (.getfield 32, 3) := by decide +kernel
theorem dX9_classes_252 : decode cX9_classes 252 = .ok (.iload_n 1, 1) := by decide +kernel
theorem dX9_classes_253 : decode cX9_classes 253 = .ok (.aload_n 0, 1) := by decide +kernel
theorem dX9_classes_254 : decode cX9_classes 254 = .ok (.getfield 22, 3) := by decide +kernel
theorem dX9_classes_257 : decode cX9_classes 257 = .ok (.iload_n 1, 1) := by decide +kernel
theorem dX9_classes_258 : decode cX9_classes 258 = .ok (.baload, 1) := by decide +kernel
theorem dX9_classes_259 : decode cX9_classes 259 = .ok (.ifCond .eq 10, 3) := by decide +kernel
theorem dX9_classes_262 : decode cX9_classes 262 = .ok (.aload_n 0, 1) := by decide +kernel
theorem dX9_classes_263 : decode cX9_classes 263 = .ok (.getfield 172, 3) := by decide +kernel
theorem dX9_classes_266 : decode cX9_classes 266 = .ok (.goto 4, 3) := by decide +kernel
theorem dX9_classes_269 : decode cX9_classes 269 = .ok (.iconst (-1), 1) := by decide +kernel
theorem dX9_classes_270 : decode cX9_classes 270 = .ok (.iastore, 1) := by decide +kernel
theorem dX9_classes_271 : decode cX9_classes 271 = .ok (.aload_n 0, 1) := by decide +kernel
theorem dX9_classes_272 : decode cX9_classes 272 = .ok (.dup, 1) := by decide +kernel
theorem dX9_classes_273 : decode cX9_classes 273 = .ok (.getfield 172, 3) := by decide +kernel
theorem dX9_classes_276 : decode cX9_classes 276 = .ok (.aload_n 0, 1) := by decide +kernel
theorem dX9_classes_277 : decode cX9_classes 277 = .ok (.getfield 22, 3) := by decide +kernel
theorem dX9_classes_280 : decode cX9_classes 280 = .ok (.iload_n 1, 1) := by decide +kernel
theorem dX9_classes_281 : decode cX9_classes 281 = .ok (.baload, 1) := by decide +kernel
theorem dX9_classes_282 : decode cX9_classes 282 = .ok (.invokestatic 187, 3) := by decide +kernel
theorem dX9_classes_285 : decode cX9_classes 285 = .ok (.iadd, 1) := by decide +kernel
theorem dX9_classes_286 : decode cX9_classes 286 = .ok (.putfield 172, 3) := by decide +kernel
theorem dX9_classes_289 : decode cX9_classes 289 = .ok (.iinc 1 1, 3) := by decide +kernel
theorem dX9_classes_292 : decode cX9_classes 292 = .ok (.goto (-254), 3) := by decide +kernel
theorem dX9_classes_295 : decode cX9_classes 295 = .ok (.return_, 1) := by decide +kernel
theorem dX9_beadsOf_0 : decode cX9_beadsOf 0 = .ok (.iconst 0, 1) := by decide +kernel
theorem dX9_beadsOf_1 : decode cX9_beadsOf 1 = .ok (.istore_n 2, 1) := by decide +kernel
theorem dX9_beadsOf_2 : decode cX9_beadsOf 2 = .ok (.iconst 0, 1) := by decide +kernel
theorem dX9_beadsOf_3 : decode cX9_beadsOf 3 = .ok (.istore_n 3, 1) := by decide +kernel
theorem dX9_beadsOf_4 : decode cX9_beadsOf 4 = .ok (.iload_n 3, 1) := by decide +kernel
theorem dX9_beadsOf_5 : decode cX9_beadsOf 5 = .ok (.bipush 6, 2) := by decide +kernel
theorem dX9_beadsOf_7 : decode cX9_beadsOf 7 = .ok (.if_icmp .ge 24, 3) := by decide +kernel
theorem dX9_beadsOf_10 : decode cX9_beadsOf 10 = .ok (.iload_n 2, 1) := by decide +kernel
theorem dX9_beadsOf_11 : decode cX9_beadsOf 11 = .ok (.iconst 1, 1) := by decide +kernel
theorem dX9_beadsOf_12 : decode cX9_beadsOf 12 = .ok (.aload_n 0, 1) := by decide +kernel
theorem dX9_beadsOf_13 : decode cX9_beadsOf 13 = .ok (.iload_n 1, 1) := by decide +kernel
theorem dX9_beadsOf_14 : decode cX9_beadsOf 14 = .ok (.iload_n 3, 1) := by decide +kernel
theorem dX9_beadsOf_15 : decode cX9_beadsOf 15 = .ok (.invokevirtual 175, 3) := by decide +kernel
theorem dX9_beadsOf_18 : decode cX9_beadsOf 18 = .ok (.iconst 5, 1) := by decide +kernel
theorem dX9_beadsOf_19 : decode cX9_beadsOf 19 = .ok (.iadd, 1) := by decide +kernel
theorem dX9_beadsOf_20 : decode cX9_beadsOf 20 = .ok (.iload_n 3, 1) := by decide +kernel
theorem dX9_beadsOf_21 : decode cX9_beadsOf 21 = .ok (.isub, 1) := by decide +kernel
theorem dX9_beadsOf_22 : decode cX9_beadsOf 22 = .ok (.ishl, 1) := by decide +kernel
theorem dX9_beadsOf_23 : decode cX9_beadsOf 23 = .ok (.ior, 1) := by decide +kernel
theorem dX9_beadsOf_24 : decode cX9_beadsOf 24 = .ok (.istore_n 2, 1) := by decide +kernel
theorem dX9_beadsOf_25 : decode cX9_beadsOf 25 = .ok (.iinc 3 1, 3) := by decide +kernel
theorem dX9_beadsOf_28 : decode cX9_beadsOf 28 = .ok (.goto (-24), 3) := by decide +kernel
theorem dX9_beadsOf_31 : decode cX9_beadsOf 31 = .ok (.iload_n 2, 1) := by decide +kernel
theorem dX9_beadsOf_32 : decode cX9_beadsOf 32 = .ok (.ireturn, 1) := by decide +kernel
theorem dX9_charOf_0 : decode cX9_charOf 0 = .ok (.iload_n 3, 1) := by decide +kernel
theorem dX9_charOf_1 : decode cX9_charOf 1 = .ok (.aload_n 0, 1) := by decide +kernel
theorem dX9_charOf_2 : decode cX9_charOf 2 = .ok (.getfield 13, 3) := by decide +kernel
theorem dX9_charOf_5 : decode cX9_charOf 5 = .ok (.iload_n 2, 1) := by decide +kernel
theorem dX9_charOf_6 : decode cX9_charOf 6 = .ok (.iaload, 1) := by decide +kernel
theorem dX9_charOf_7 : decode cX9_charOf 7 = .ok (.if_icmp .ne 5, 3) := by decide +kernel
theorem dX9_charOf_10 : decode cX9_charOf 10 = .ok (.iconst 1, 1) := by decide +kernel
theorem dX9_charOf_11 : decode cX9_charOf 11 = .ok (.ireturn, 1) := by decide +kernel
theorem dX9_charOf_12 : decode cX9_charOf 12 = .ok (.aload_n 0, 1) := by decide +kernel
theorem dX9_charOf_13 : decode cX9_charOf 13 = .ok (.iload_n 2, 1) := by decide +kernel
theorem dX9_charOf_14 : decode cX9_charOf 14 = .ok (.iload_n 3, 1) := by decide +kernel
theorem dX9_charOf_15 : decode cX9_charOf 15 = .ok (.invokevirtual 175, 3) := by decide +kernel
theorem dX9_charOf_18 : decode cX9_charOf 18 = .ok (.istore 4, 2) := by decide +kernel
theorem dX9_charOf_20 : decode cX9_charOf 20 = .ok (.iconst 0, 1) := by decide +kernel
theorem dX9_charOf_21 : decode cX9_charOf 21 = .ok (.istore 5, 2) := by decide +kernel
theorem dX9_charOf_23 : decode cX9_charOf 23 = .ok (.iload 4, 2) := by decide +kernel
theorem dX9_charOf_25 : decode cX9_charOf 25 = .ok (.istore 6, 2) := by decide +kernel
theorem dX9_charOf_27 : decode cX9_charOf 27 = .ok (.iload 6, 2) := by decide +kernel
theorem dX9_charOf_29 : decode cX9_charOf 29 = .ok (.bipush 12, 2) := by decide +kernel
theorem dX9_charOf_31 : decode cX9_charOf 31 = .ok (.if_icmp .ge 103, 3) := by decide +kernel
theorem dX9_charOf_34 : decode cX9_charOf 34 = .ok (.iload_n 1, 1) := by decide +kernel
theorem dX9_charOf_35 : decode cX9_charOf 35 = .ok (.iload 6, 2) := by decide +kernel
theorem dX9_charOf_37 : decode cX9_charOf 37 = .ok (.ishr, 1) := by decide +kernel
theorem dX9_charOf_38 : decode cX9_charOf 38 = .ok (.iconst 1, 1) := by decide +kernel
theorem dX9_charOf_39 : decode cX9_charOf 39 = .ok (.iand, 1) := by decide +kernel
theorem dX9_charOf_40 : decode cX9_charOf 40 = .ok (.ifCond .eq 88, 3) := by decide +kernel
theorem dX9_charOf_43 : decode cX9_charOf 43 = .ok (.iload_n 1, 1) := by decide +kernel
theorem dX9_charOf_44 : decode cX9_charOf 44 = .ok (.iload 6, 2) := by decide +kernel
theorem dX9_charOf_46 : decode cX9_charOf 46 = .ok (.iload 4, 2) := by decide +kernel
theorem dX9_charOf_48 : decode cX9_charOf 48 = .ok (.isub, 1) := by decide +kernel
theorem dX9_charOf_49 : decode cX9_charOf 49 = .ok (.ishr, 1) := by decide +kernel
theorem dX9_charOf_50 : decode cX9_charOf 50 = .ok (.iconst 1, 1) := by decide +kernel
theorem dX9_charOf_51 : decode cX9_charOf 51 = .ok (.iand, 1) := by decide +kernel
theorem dX9_charOf_52 : decode cX9_charOf 52 = .ok (.iconst 1, 1) := by decide +kernel
theorem dX9_charOf_53 : decode cX9_charOf 53 = .ok (.if_icmp .ne 6, 3) := by decide +kernel
theorem dX9_charOf_56 : decode cX9_charOf 56 = .ok (.goto 72, 3) := by decide +kernel
theorem dX9_charOf_59 : decode cX9_charOf 59 = .ok (.iload_n 1, 1) := by decide +kernel
theorem dX9_charOf_60 : decode cX9_charOf 60 = .ok (.iload 6, 2) := by decide +kernel
theorem dX9_charOf_62 : decode cX9_charOf 62 = .ok (.iload 4, 2) := by decide +kernel
theorem dX9_charOf_64 : decode cX9_charOf 64 = .ok (.isub, 1) := by decide +kernel
theorem dX9_charOf_65 : decode cX9_charOf 65 = .ok (.iconst 1, 1) := by decide +kernel
theorem dX9_charOf_66 : decode cX9_charOf 66 = .ok (.iadd, 1) := by decide +kernel
theorem dX9_charOf_67 : decode cX9_charOf 67 = .ok (.ishr, 1) := by decide +kernel
theorem dX9_charOf_68 : decode cX9_charOf 68 = .ok (.iconst 1, 1) := by decide +kernel
theorem dX9_charOf_69 : decode cX9_charOf 69 = .ok (.iload 4, 2) := by decide +kernel
theorem dX9_charOf_71 : decode cX9_charOf 71 = .ok (.iconst 1, 1) := by decide +kernel
theorem dX9_charOf_72 : decode cX9_charOf 72 = .ok (.isub, 1) := by decide +kernel
theorem dX9_charOf_73 : decode cX9_charOf 73 = .ok (.ishl, 1) := by decide +kernel
theorem dX9_charOf_74 : decode cX9_charOf 74 = .ok (.iconst 1, 1) := by decide +kernel
theorem dX9_charOf_75 : decode cX9_charOf 75 = .ok (.isub, 1) := by decide +kernel
theorem dX9_charOf_76 : decode cX9_charOf 76 = .ok (.iand, 1) := by decide +kernel
theorem dX9_charOf_77 : decode cX9_charOf 77 = .ok (.istore 7, 2) := by decide +kernel
theorem dX9_charOf_79 : decode cX9_charOf 79 = .ok (.aload_n 0, 1) := by decide +kernel
theorem dX9_charOf_80 : decode cX9_charOf 80 = .ok (.iload_n 1, 1) := by decide +kernel
theorem dX9_charOf_81 : decode cX9_charOf 81 = .ok (.iconst 1, 1) := by decide +kernel
theorem dX9_charOf_82 : decode cX9_charOf 82 = .ok (.iload 6, 2) := by decide +kernel
theorem dX9_charOf_84 : decode cX9_charOf 84 = .ok (.ishl, 1) := by decide +kernel
theorem dX9_charOf_85 : decode cX9_charOf 85 = .ok (.iconst (-1), 1) := by decide +kernel
theorem dX9_charOf_86 : decode cX9_charOf 86 = .ok (.ixor, 1) := by decide +kernel
theorem dX9_charOf_87 : decode cX9_charOf 87 = .ok (.iand, 1) := by decide +kernel
theorem dX9_charOf_88 : decode cX9_charOf 88 = .ok (.iconst 1, 1) := by decide +kernel
theorem dX9_charOf_89 : decode cX9_charOf 89 = .ok (.iload 6, 2) := by decide +kernel
theorem dX9_charOf_91 : decode cX9_charOf 91 = .ok (.iload 4, 2) := by decide +kernel
theorem dX9_charOf_93 : decode cX9_charOf 93 = .ok (.isub, 1) := by decide +kernel
theorem dX9_charOf_94 : decode cX9_charOf 94 = .ok (.ishl, 1) := by decide +kernel
theorem dX9_charOf_95 : decode cX9_charOf 95 = .ok (.ior, 1) := by decide +kernel
theorem dX9_charOf_96 : decode cX9_charOf 96 = .ok (.iload_n 2, 1) := by decide +kernel
theorem dX9_charOf_97 : decode cX9_charOf 97 = .ok (.iload_n 3, 1) := by decide +kernel
theorem dX9_charOf_98 : decode cX9_charOf 98 = .ok (.iconst 1, 1) := by decide +kernel
theorem dX9_charOf_99 : decode cX9_charOf 99 = .ok (.iadd, 1) := by decide +kernel
theorem dX9_charOf_100 : decode cX9_charOf 100 = .ok (.invokevirtual 191, 3) := by decide +kernel
theorem dX9_charOf_103 : decode cX9_charOf 103 = .ok (.istore 8, 2) := by decide +kernel
theorem dX9_charOf_105 : decode cX9_charOf 105 = .ok (.iload 5, 2) := by decide +kernel
theorem dX9_charOf_107 : decode cX9_charOf 107 = .ok (.iload 7, 2) := by decide +kernel
theorem dX9_charOf_109 : decode cX9_charOf 109 = .ok (.invokestatic 195, 3) := by decide +kernel
theorem dX9_charOf_112 : decode cX9_charOf 112 = .ok (.iconst 2, 1) := by decide +kernel
theorem dX9_charOf_113 : decode cX9_charOf 113 = .ok (.irem, 1) := by decide +kernel
theorem dX9_charOf_114 : decode cX9_charOf 114 = .ok (.ifCond .ne 8, 3) := by decide +kernel
theorem dX9_charOf_117 : decode cX9_charOf 117 = .ok (.iload 8, 2) := by decide +kernel
theorem dX9_charOf_119 : decode cX9_charOf 119 = .ok (.goto 6, 3) := by decide +kernel
theorem dX9_charOf_122 : decode cX9_charOf 122 = .ok (.iload 8, 2) := by decide +kernel
theorem dX9_charOf_124 : decode cX9_charOf 124 = .ok (.ineg, 1) := by decide +kernel
theorem dX9_charOf_125 : decode cX9_charOf 125 = .ok (.iadd, 1) := by decide +kernel
theorem dX9_charOf_126 : decode cX9_charOf 126 = .ok (.istore 5, 2) := by decide +kernel
