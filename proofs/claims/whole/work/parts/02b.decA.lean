theorem dX10_in_0 : decode cX10_in 0 = .ok (.lload_n 0, 1) := by decide +kernel
theorem dX10_in_1 : decode cX10_in 1 = .ok (.lload_n 2, 1) := by decide +kernel
theorem dX10_in_2 : decode cX10_in 2 = .ok (.lcmp, 1) := by decide +kernel
theorem dX10_in_3 : decode cX10_in 3 = .ok (.ifCond .lt 14, 3) := by decide +kernel
theorem dX10_in_6 : decode cX10_in 6 = .ok (.lload_n 0, 1) := by decide +kernel
theorem dX10_in_7 : decode cX10_in 7 = .ok (.lload 4, 2) := by decide +kernel
theorem dX10_in_9 : decode cX10_in 9 = .ok (.lcmp, 1) := by decide +kernel
theorem dX10_in_10 : decode cX10_in 10 = .ok (.ifCond .gt 7, 3) := by decide +kernel
theorem dX10_in_13 : decode cX10_in 13 = .ok (.iconst 1, 1) := by decide +kernel
theorem dX10_in_14 : decode cX10_in 14 = .ok (.goto 4, 3) := by decide +kernel
theorem dX10_in_17 : decode cX10_in 17 = .ok (.iconst 0, 1) := by decide +kernel
theorem dX10_in_18 : decode cX10_in 18 = .ok (.ireturn, 1) := by decide +kernel
theorem dX10_init_0 : decode cX10_init 0 = .ok (.aload_n 0, 1) := by decide +kernel
theorem dX10_init_1 : decode cX10_init 1 = .ok (.invokespecial 1, 3) := by decide +kernel
theorem dX10_init_4 : decode cX10_init 4 = .ok (.aload_n 0, 1) := by decide +kernel
theorem dX10_init_5 : decode cX10_init 5 = .ok (.bipush 91, 2) := by decide +kernel
theorem dX10_init_7 : decode cX10_init 7 = .ok (.newarray .int, 2) := by decide +kernel
theorem dX10_init_9 : decode cX10_init 9 = .ok (.putfield 7, 3) := by decide +kernel
theorem dX10_init_12 : decode cX10_init 12 = .ok (.aload_n 0, 1) := by decide +kernel
theorem dX10_init_13 : decode cX10_init 13 = .ok (.bipush 90, 2) := by decide +kernel
theorem dX10_init_15 : decode cX10_init 15 = .ok (.newarray .int, 2) := by decide +kernel
theorem dX10_init_17 : decode cX10_init 17 = .ok (.putfield 13, 3) := by decide +kernel
theorem dX10_init_20 : decode cX10_init 20 = .ok (.aload_n 0, 1) := by decide +kernel
theorem dX10_init_21 : decode cX10_init 21 = .ok (.bipush 8, 2) := by decide +kernel
theorem dX10_init_23 : decode cX10_init 23 = .ok (.newarray .int, 2) := by decide +kernel
theorem dX10_init_25 : decode cX10_init 25 = .ok (.putfield 16, 3) := by decide +kernel
theorem dX10_init_28 : decode cX10_init 28 = .ok (.aload_n 0, 1) := by decide +kernel
theorem dX10_init_29 : decode cX10_init 29 = .ok (.bipush 8, 2) := by decide +kernel
theorem dX10_init_31 : decode cX10_init 31 = .ok (.newarray .int, 2) := by decide +kernel
theorem dX10_init_33 : decode cX10_init 33 = .ok (.putfield 19, 3) := by decide +kernel
theorem dX10_init_36 : decode cX10_init 36 = .ok (.aload_n 0, 1) := by decide +kernel
theorem dX10_init_37 : decode cX10_init 37 = .ok (.bipush 8, 2) := by decide +kernel
theorem dX10_init_39 : decode cX10_init 39 = .ok (.newarray .int, 2) := by decide +kernel
theorem dX10_init_41 : decode cX10_init 41 = .ok (.putfield 22, 3) := by decide +kernel
theorem dX10_init_44 : decode cX10_init 44 = .ok (.aload_n 0, 1) := by decide +kernel
theorem dX10_init_45 : decode cX10_init 45 = .ok (.bipush 8, 2) := by decide +kernel
theorem dX10_init_47 : decode cX10_init 47 = .ok (.newarray .int, 2) := by decide +kernel
theorem dX10_init_49 : decode cX10_init 49 = .ok (.putfield 25, 3) := by decide +kernel
theorem dX10_init_52 : decode cX10_init 52 = .ok (.aload_n 0, 1) := by decide +kernel
theorem dX10_init_53 : decode cX10_init 53 = .ok (.bipush 40, 2) := by decide +kernel
theorem dX10_init_55 : decode cX10_init 55 = .ok (.newarray .int, 2) := by decide +kernel
theorem dX10_init_57 : decode cX10_init 57 = .ok (.putfield 28, 3) := by decide +kernel
theorem dX10_init_60 : decode cX10_init 60 = .ok (.aload_n 0, 1) := by decide +kernel
theorem dX10_init_61 : decode cX10_init 61 = .ok (.bipush 40, 2) := by decide +kernel
theorem dX10_init_63 : decode cX10_init 63 = .ok (.newarray .int, 2) := by decide +kernel
theorem dX10_init_65 : decode cX10_init 65 = .ok (.putfield 31, 3) := by decide +kernel
theorem dX10_init_68 : decode cX10_init 68 = .ok (.aload_n 0, 1) := by decide +kernel
theorem dX10_init_69 : decode cX10_init 69 = .ok (.bipush 40, 2) := by decide +kernel
theorem dX10_init_71 : decode cX10_init 71 = .ok (.newarray .int, 2) := by decide +kernel
theorem dX10_init_73 : decode cX10_init 73 = .ok (.putfield 34, 3) := by decide +kernel
theorem dX10_init_76 : decode cX10_init 76 = .ok (.aload_n 0, 1) := by decide +kernel
theorem dX10_init_77 : decode cX10_init 77 = .ok (.bipush 40, 2) := by decide +kernel
theorem dX10_init_79 : decode cX10_init 79 = .ok (.newarray .int, 2) := by decide +kernel
theorem dX10_init_81 : decode cX10_init 81 = .ok (.putfield 37, 3) := by decide +kernel
theorem dX10_init_84 : decode cX10_init 84 = .ok (.aload_n 0, 1) := by decide +kernel
theorem dX10_init_85 : decode cX10_init 85 = .ok (.bipush 40, 2) := by decide +kernel
theorem dX10_init_87 : decode cX10_init 87 = .ok (.newarray .int, 2) := by decide +kernel
theorem dX10_init_89 : decode cX10_init 89 = .ok (.putfield 40, 3) := by decide +kernel
theorem dX10_init_92 : decode cX10_init 92 = .ok (.aload_n 0, 1) := by decide +kernel
theorem dX10_init_93 : decode cX10_init 93 = .ok (.bipush 40, 2) := by decide +kernel
theorem dX10_init_95 : decode cX10_init 95 = .ok (.newarray .int, 2) := by decide +kernel
theorem dX10_init_97 : decode cX10_init 97 = .ok (.putfield 43, 3) := by decide +kernel
theorem dX10_init_100 : decode cX10_init 100 = .ok (.aload_n 0, 1) := by decide +kernel
theorem dX10_init_101 : decode cX10_init 101 = .ok (.bipush 40, 2) := by decide +kernel
theorem dX10_init_103 : decode cX10_init 103 = .ok (.newarray .int, 2) := by decide +kernel
theorem dX10_init_105 : decode cX10_init 105 = .ok (.putfield 46, 3) := by decide +kernel
theorem dX10_init_108 : decode cX10_init 108 = .ok (.aload_n 0, 1) := by decide +kernel
theorem dX10_init_109 : decode cX10_init 109 = .ok (.bipush 40, 2) := by decide +kernel
theorem dX10_init_111 : decode cX10_init 111 = .ok (.newarray .int, 2) := by decide +kernel
theorem dX10_init_113 : decode cX10_init 113 = .ok (.putfield 49, 3) := by decide +kernel
theorem dX10_init_116 : decode cX10_init 116 = .ok (.aload_n 0, 1) := by decide +kernel
theorem dX10_init_117 : decode cX10_init 117 = .ok (.bipush 20, 2) := by decide +kernel
theorem dX10_init_119 : decode cX10_init 119 = .ok (.putfield 52, 3) := by decide +kernel
theorem dX10_init_122 : decode cX10_init 122 = .ok (.aload_n 0, 1) := by decide +kernel
theorem dX10_init_123 : decode cX10_init 123 = .ok (.bipush 40, 2) := by decide +kernel
theorem dX10_init_125 : decode cX10_init 125 = .ok (.newarray .int, 2) := by decide +kernel
theorem dX10_init_127 : decode cX10_init 127 = .ok (.putfield 56, 3) := by decide +kernel
theorem dX10_init_130 : decode cX10_init 130 = .ok (.aload_n 0, 1) := by decide +kernel
theorem dX10_init_131 : decode cX10_init 131 = .ok (.bipush 10, 2) := by decide +kernel
theorem dX10_init_133 : decode cX10_init 133 = .ok (.newarray .int, 2) := by decide +kernel
theorem dX10_init_135 : decode cX10_init 135 = .ok (.putfield 59, 3) := by decide +kernel
theorem dX10_init_138 : decode cX10_init 138 = .ok (.aload_n 0, 1) := by decide +kernel
theorem dX10_init_139 : decode cX10_init 139 = .ok (.bipush 10, 2) := by decide +kernel
theorem dX10_init_141 : decode cX10_init 141 = .ok (.newarray .int, 2) := by decide +kernel
theorem dX10_init_143 : decode cX10_init 143 = .ok (.putfield 62, 3) := by decide +kernel
theorem dX10_init_146 : decode cX10_init 146 = .ok (.aload_n 0, 1) := by decide +kernel
theorem dX10_init_147 : decode cX10_init 147 = .ok (.bipush 10, 2) := by decide +kernel
theorem dX10_init_149 : decode cX10_init 149 = .ok (.newarray .int, 2) := by decide +kernel
theorem dX10_init_151 : decode cX10_init 151 = .ok (.putfield 65, 3) := by decide +kernel
theorem dX10_init_154 : decode cX10_init 154 = .ok (.aload_n 0, 1) := by decide +kernel
theorem dX10_init_155 : decode cX10_init 155 = .ok (.bipush 10, 2) := by decide +kernel
theorem dX10_init_157 : decode cX10_init 157 = .ok (.newarray .int, 2) := by decide +kernel
theorem dX10_init_159 : decode cX10_init 159 = .ok (.putfield 68, 3) := by decide +kernel
theorem dX10_init_162 : decode cX10_init 162 = .ok (.aload_n 0, 1) := by decide +kernel
theorem dX10_init_163 : decode cX10_init 163 = .ok (.bipush 10, 2) := by decide +kernel
theorem dX10_init_165 : decode cX10_init 165 = .ok (.newarray .int, 2) := by decide +kernel
theorem dX10_init_167 : decode cX10_init 167 = .ok (.putfield 71, 3) := by decide +kernel
theorem dX10_init_170 : decode cX10_init 170 = .ok (.aload_n 0, 1) := by decide +kernel
theorem dX10_init_171 : decode cX10_init 171 = .ok (.bipush 10, 2) := by decide +kernel
theorem dX10_init_173 : decode cX10_init 173 = .ok (.newarray .int, 2) := by decide +kernel
theorem dX10_init_175 : decode cX10_init 175 = .ok (.putfield 74, 3) := by decide +kernel
theorem dX10_init_178 : decode cX10_init 178 = .ok (.aload_n 0, 1) := by decide +kernel
theorem dX10_init_179 : decode cX10_init 179 = .ok (.bipush 10, 2) := by decide +kernel
theorem dX10_init_181 : decode cX10_init 181 = .ok (.newarray .int, 2) := by decide +kernel
theorem dX10_init_183 : decode cX10_init 183 = .ok (.putfield 77, 3) := by decide +kernel
theorem dX10_init_186 : decode cX10_init 186 = .ok (.aload_n 0, 1) := by decide +kernel
theorem dX10_init_187 : decode cX10_init 187 = .ok (.bipush 10, 2) := by decide +kernel
theorem dX10_init_189 : decode cX10_init 189 = .ok (.newarray .int, 2) := by decide +kernel
theorem dX10_init_191 : decode cX10_init 191 = .ok (.putfield 80, 3) := by decide +kernel
theorem dX10_init_194 : decode cX10_init 194 = .ok (.aload_n 0, 1) := by decide +kernel
theorem dX10_init_195 : decode cX10_init 195 = .ok (.bipush 10, 2) := by decide +kernel
theorem dX10_init_197 : decode cX10_init 197 = .ok (.newarray .int, 2) := by decide +kernel
theorem dX10_init_199 : decode cX10_init 199 = .ok (.putfield 83, 3) := by decide +kernel
theorem dX10_init_202 : decode cX10_init 202 = .ok (.aload_n 0, 1) := by decide +kernel
theorem dX10_init_203 : decode cX10_init 203 = .ok (.bipush 20, 2) := by decide +kernel
theorem dX10_init_205 : decode cX10_init 205 = .ok (.putfield 86, 3) := by decide +kernel
theorem dX10_init_208 : decode cX10_init 208 = .ok (.aload_n 0, 1) := by decide +kernel
theorem dX10_init_209 : decode cX10_init 209 = .ok (.sipush 11264, 3) := by decide +kernel
theorem dX10_init_212 : decode cX10_init 212 = .ok (.newarray .int, 2) := by decide +kernel
theorem dX10_init_214 : decode cX10_init 214 = .ok (.putfield 89, 3) := by decide +kernel
theorem dX10_init_217 : decode cX10_init 217 = .ok (.aload_n 0, 1) := by decide +kernel
theorem dX10_init_218 : decode cX10_init 218 = .ok (.bipush 10, 2) := by decide +kernel
theorem dX10_init_220 : decode cX10_init 220 = .ok (.newarray .int, 2) := by decide +kernel
theorem dX10_init_222 : decode cX10_init 222 = .ok (.putfield 92, 3) := by decide +kernel
theorem dX10_init_225 : decode cX10_init 225 = .ok (.aload_n 0, 1) := by decide +kernel
theorem dX10_init_226 : decode cX10_init 226 = .ok (.bipush 60, 2) := by decide +kernel
theorem dX10_init_228 : decode cX10_init 228 = .ok (.newarray .int, 2) := by decide +kernel
theorem dX10_init_230 : decode cX10_init 230 = .ok (.putfield 95, 3) := by decide +kernel
theorem dX10_init_233 : decode cX10_init 233 = .ok (.aload_n 0, 1) := by decide +kernel
theorem dX10_init_234 : decode cX10_init 234 = .ok (.bipush 60, 2) := by decide +kernel
theorem dX10_init_236 : decode cX10_init 236 = .ok (.newarray .int, 2) := by decide +kernel
theorem dX10_init_238 : decode cX10_init 238 = .ok (.putfield 98, 3) := by decide +kernel
theorem dX10_init_241 : decode cX10_init 241 = .ok (.aload_n 0, 1) := by decide +kernel
theorem dX10_init_242 : decode cX10_init 242 = .ok (.bipush 60, 2) := by decide +kernel
theorem dX10_init_244 : decode cX10_init 244 = .ok (.newarray .int, 2) := by decide +kernel
theorem dX10_init_246 : decode cX10_init 246 = .ok (.putfield 101, 3) := by decide +kernel
theorem dX10_init_249 : decode cX10_init 249 = .ok (.aload_n 0, 1) := by decide +kernel
theorem dX10_init_250 : decode cX10_init 250 = .ok (.bipush 60, 2) := by decide +kernel
theorem dX10_init_252 : decode cX10_init 252 = .ok (.newarray .int, 2) := by decide +kernel
theorem dX10_init_254 : decode cX10_init 254 = .ok (.putfield 104, 3) := by decide +kernel
theorem dX10_init_257 : decode cX10_init 257 = .ok (.aload_n 0, 1) := by decide +kernel
theorem dX10_init_258 : decode cX10_init 258 = .ok (.bipush 40, 2) := by decide +kernel
theorem dX10_init_260 : decode cX10_init 260 = .ok (.newarray .int, 2) := by decide +kernel
theorem dX10_init_262 : decode cX10_init 262 = .ok (.putfield 107, 3) := by decide +kernel
theorem dX10_init_265 : decode cX10_init 265 = .ok (.aload_n 0, 1) := by decide +kernel
theorem dX10_init_266 : decode cX10_init 266 = .ok (.bipush 20, 2) := by decide +kernel
theorem dX10_init_268 : decode cX10_init 268 = .ok (.newarray .int, 2) := by decide +kernel
theorem dX10_init_270 : decode cX10_init 270 = .ok (.putfield 110, 3) := by decide +kernel
theorem dX10_init_273 : decode cX10_init 273 = .ok (.aload_n 0, 1) := by decide +kernel
theorem dX10_init_274 : decode cX10_init 274 = .ok (.bipush 20, 2) := by decide +kernel
theorem dX10_init_276 : decode cX10_init 276 = .ok (.newarray .int, 2) := by decide +kernel
theorem dX10_init_278 : decode cX10_init 278 = .ok (.putfield 113, 3) := by decide +kernel
theorem dX10_init_281 : decode cX10_init 281 = .ok (.aload_n 0, 1) := by decide +kernel
theorem dX10_init_282 : decode cX10_init 282 = .ok (.iconst 4, 1) := by decide +kernel
theorem dX10_init_283 : decode cX10_init 283 = .ok (.newarray .int, 2) := by decide +kernel
theorem dX10_init_285 : decode cX10_init 285 = .ok (.putfield 116, 3) := by decide +kernel
theorem dX10_init_288 : decode cX10_init 288 = .ok (.aload_n 0, 1) := by decide +kernel
theorem dX10_init_289 : decode cX10_init 289 = .ok (.iconst 4, 1) := by decide +kernel
theorem dX10_init_290 : decode cX10_init 290 = .ok (.newarray .int, 2) := by decide +kernel
theorem dX10_init_292 : decode cX10_init 292 = .ok (.putfield 119, 3) := by decide +kernel
theorem dX10_init_295 : decode cX10_init 295 = .ok (.aload_n 0, 1) := by decide +kernel
theorem dX10_init_296 : decode cX10_init 296 = .ok (.sipush 144, 3) := by decide +kernel
theorem dX10_init_299 : decode cX10_init 299 = .ok (.newarray .int, 2) := by decide +kernel
theorem dX10_init_301 : decode cX10_init 301 = .ok (.putfield 122, 3) := by decide +kernel
theorem dX10_init_304 : decode cX10_init 304 = .ok (.iconst 0, 1) := by decide +kernel
theorem dX10_init_305 : decode cX10_init 305 = .ok (.istore_n 1, 1) := by decide +kernel
theorem dX10_init_306 : decode cX10_init 306 = .ok (.iload_n 1, 1) := by decide +kernel
theorem dX10_init_307 : decode cX10_init 307 = .ok (.bipush 90, 2) := by decide +kernel
theorem dX10_init_309 : decode cX10_init 309 = .ok (.if_icmp .gt 28, 3) := by decide +kernel
theorem dX10_init_312 : decode cX10_init 312 = .ok (.aload_n 0, 1) := by decide +kernel
theorem dX10_init_313 : decode cX10_init 313 = .ok (.getfield 7, 3) := by decide +kernel
theorem dX10_init_316 : decode cX10_init 316 = .ok (.iload_n 1, 1) := by decide +kernel
theorem dX10_init_317 : decode cX10_init 317 = .ok (.ldc2_w 125, 3) := by decide +kernel
theorem dX10_init_320 : decode cX10_init 320 = .ok (.iload_n 1, 1) := by decide +kernel
theorem dX10_init_321 : decode cX10_init 321 = .ok (.invokestatic 127, 3) := by decide +kernel
theorem dX10_init_324 : decode cX10_init 324 = .ok (.dmul, 1) := by decide +kernel
theorem dX10_init_325 : decode cX10_init 325 = .ok (.ldc2_w 131, 3) := by decide +kernel
theorem dX10_init_328 : decode cX10_init 328 = .ok (.dadd, 1) := by decide +kernel
theorem dX10_init_329 : decode cX10_init 329 = .ok (.d2i, 1) := by decide +kernel
theorem dX10_init_330 : decode cX10_init 330 = .ok (.iastore, 1) := by decide +kernel
theorem dX10_init_331 : decode cX10_init 331 = .ok (.iinc 1 1, 3) := by decide +kernel
theorem dX10_init_334 : decode cX10_init 334 = .ok (.goto (-28), 3) := by decide +kernel
theorem dX10_init_337 : decode cX10_init 337 = .ok (.iconst 1, 1) := by decide +kernel
theorem dX10_init_338 : decode cX10_init 338 = .ok (.istore_n 1, 1) := by decide +kernel
theorem dX10_init_339 : decode cX10_init 339 = .ok (.iload_n 1, 1) := by decide +kernel
theorem dX10_init_340 : decode cX10_init 340 = .ok (.bipush 90, 2) := by decide +kernel
theorem dX10_init_342 : decode cX10_init 342 = .ok (.if_icmp .ge 36, 3) := by decide +kernel
theorem dX10_init_345 : decode cX10_init 345 = .ok (.aload_n 0, 1) := by decide +kernel
theorem dX10_init_346 : decode cX10_init 346 = .ok (.getfield 13, 3) := by decide +kernel
theorem dX10_init_349 : decode cX10_init 349 = .ok (.iload_n 1, 1) := by decide +kernel
theorem dX10_init_350 : decode cX10_init 350 = .ok (.ldc2_w 125, 3) := by decide +kernel
theorem dX10_init_353 : decode cX10_init 353 = .ok (.iload_n 1, 1) := by decide +kernel
theorem dX10_init_354 : decode cX10_init 354 = .ok (.invokestatic 127, 3) := by decide +kernel
theorem dX10_init_357 : decode cX10_init 357 = .ok (.dmul, 1) := by decide +kernel
theorem dX10_init_358 : decode cX10_init 358 = .ok (.bipush 90, 2) := by decide +kernel
theorem dX10_init_360 : decode cX10_init 360 = .ok (.iload_n 1, 1) := by decide +kernel
theorem dX10_init_361 : decode cX10_init 361 = .ok (.isub, 1) := by decide +kernel
theorem dX10_init_362 : decode cX10_init 362 = .ok (.invokestatic 127, 3) := by decide +kernel
theorem dX10_init_365 : decode cX10_init 365 = .ok (.ddiv, 1) := by decide +kernel
theorem dX10_init_366 : decode cX10_init 366 = .ok (.ldc2_w 131, 3) := by decide +kernel
theorem dX10_init_369 : decode cX10_init 369 = .ok (.dadd, 1) := by decide +kernel
theorem dX10_init_370 : decode cX10_init 370 = .ok (.d2i, 1) := by decide +kernel
theorem dX10_init_371 : decode cX10_init 371 = .ok (.iastore, 1) := by decide +kernel
theorem dX10_init_372 : decode cX10_init 372 = .ok (.iinc 1 1, 3) := by decide +kernel
theorem dX10_init_375 : decode cX10_init 375 = .ok (.goto (-36), 3) := by decide +kernel
theorem dX10_init_378 : decode cX10_init 378 = .ok (.iconst 0, 1) := by decide +kernel
theorem dX10_init_379 : decode cX10_init 379 = .ok (.istore_n 1, 1) := by decide +kernel
theorem dX10_init_380 : decode cX10_init 380 = .ok (.iload_n 1, 1) := by decide +kernel
theorem dX10_init_381 : decode cX10_init 381 = .ok (.iconst 4, 1) := by decide +kernel
theorem dX10_init_382 : decode cX10_init 382 = .ok (.if_icmp .ge 16, 3) := by decide +kernel
theorem dX10_init_385 : decode cX10_init 385 = .ok (.aload_n 0, 1) := by decide +kernel
theorem dX10_init_386 : decode cX10_init 386 = .ok (.getfield 116, 3) := by decide +kernel
theorem dX10_init_389 : decode cX10_init 389 = .ok (.iload_n 1, 1) := by decide +kernel
theorem dX10_init_390 : decode cX10_init 390 = .ok (.iconst (-1), 1) := by decide +kernel
theorem dX10_init_391 : decode cX10_init 391 = .ok (.iastore, 1) := by decide +kernel
theorem dX10_init_392 : decode cX10_init 392 = .ok (.iinc 1 1, 3) := by decide +kernel
theorem dX10_init_395 : decode cX10_init 395 = .ok (.goto (-15), 3) := by decide +kernel
theorem dX10_init_398 : decode cX10_init 398 = .ok (.return_, 1) := by decide +kernel
theorem dX10_sineOf_0 : decode cX10_sineOf 0 = .ok (.iload_n 0, 1) := by decide +kernel
theorem dX10_sineOf_1 : decode cX10_sineOf 1 = .ok (.i2d, 1) := by decide +kernel
theorem dX10_sineOf_2 : decode cX10_sineOf 2 = .ok (.ldc2_w 133, 3) := by decide +kernel
theorem dX10_sineOf_5 : decode cX10_sineOf 5 = .ok (.dmul, 1) := by decide +kernel
theorem dX10_sineOf_6 : decode cX10_sineOf 6 = .ok (.ldc2_w 135, 3) := by decide +kernel
theorem dX10_sineOf_9 : decode cX10_sineOf 9 = .ok (.ddiv, 1) := by decide +kernel
theorem dX10_sineOf_10 : decode cX10_sineOf 10 = .ok (.dstore_n 1, 1) := by decide +kernel
theorem dX10_sineOf_11 : decode cX10_sineOf 11 = .ok (.dconst 1, 1) := by decide +kernel
theorem dX10_sineOf_12 : decode cX10_sineOf 12 = .ok (.dstore_n 3, 1) := by decide +kernel
theorem dX10_sineOf_13 : decode cX10_sineOf 13 = .ok (.bipush 26, 2) := by decide +kernel
theorem dX10_sineOf_15 : decode cX10_sineOf 15 = .ok (.istore 5, 2) := by decide +kernel
theorem dX10_sineOf_17 : decode cX10_sineOf 17 = .ok (.iload 5, 2) := by decide +kernel
theorem dX10_sineOf_19 : decode cX10_sineOf 19 = .ok (.iconst 2, 1) := by decide +kernel
theorem dX10_sineOf_20 : decode cX10_sineOf 20 = .ok (.if_icmp .lt 26, 3) := by decide +kernel
theorem dX10_sineOf_23 : decode cX10_sineOf 23 = .ok (.dconst 1, 1) := by decide +kernel
theorem dX10_sineOf_24 : decode cX10_sineOf 24 = .ok (.dload_n 1, 1) := by decide +kernel
theorem dX10_sineOf_25 : decode cX10_sineOf 25 = .ok (.dload_n 1, 1) := by decide +kernel
theorem dX10_sineOf_26 : decode cX10_sineOf 26 = .ok (.dmul, 1) := by decide +kernel
theorem dX10_sineOf_27 : decode cX10_sineOf 27 = .ok (.iload 5, 2) := by decide +kernel
theorem dX10_sineOf_29 : decode cX10_sineOf 29 = .ok (.iload 5, 2) := by decide +kernel
theorem dX10_sineOf_31 : decode cX10_sineOf 31 = .ok (.iconst 1, 1) := by decide +kernel
theorem dX10_sineOf_32 : decode cX10_sineOf 32 = .ok (.iadd, 1) := by decide +kernel
theorem dX10_sineOf_33 : decode cX10_sineOf 33 = .ok (.imul, 1) := by decide +kernel
theorem dX10_sineOf_34 : decode cX10_sineOf 34 = .ok (.i2d, 1) := by decide +kernel
theorem dX10_sineOf_35 : decode cX10_sineOf 35 = .ok (.ddiv, 1) := by decide +kernel
theorem dX10_sineOf_36 : decode cX10_sineOf 36 = .ok (.dload_n 3, 1) := by decide +kernel
theorem dX10_sineOf_37 : decode cX10_sineOf 37 = .ok (.dmul, 1) := by decide +kernel
theorem dX10_sineOf_38 : decode cX10_sineOf 38 = .ok (.dsub, 1) := by decide +kernel
theorem dX10_sineOf_39 : decode cX10_sineOf 39 = .ok (.dstore_n 3, 1) := by decide +kernel
theorem dX10_sineOf_40 : decode cX10_sineOf 40 = .ok (.iinc 5 (-2), 3) := by decide +kernel
theorem dX10_sineOf_43 : decode cX10_sineOf 43 = .ok (.goto (-26), 3) := by decide +kernel
theorem dX10_sineOf_46 : decode cX10_sineOf 46 = .ok (.dload_n 1, 1) := by decide +kernel
theorem dX10_sineOf_47 : decode cX10_sineOf 47 = .ok (.dload_n 3, 1) := by decide +kernel
theorem dX10_sineOf_48 : decode cX10_sineOf 48 = .ok (.dmul, 1) := by decide +kernel
theorem dX10_sineOf_49 : decode cX10_sineOf 49 = .ok (.dreturn, 1) := by decide +kernel
theorem dX10_sinOf_0 : decode cX10_sinOf 0 = .ok (.iload_n 1, 1) := by decide +kernel
theorem dX10_sinOf_1 : decode cX10_sinOf 1 = .ok (.bipush 90, 2) := by decide +kernel
theorem dX10_sinOf_3 : decode cX10_sinOf 3 = .ok (.if_icmp .gt 12, 3) := by decide +kernel
theorem dX10_sinOf_6 : decode cX10_sinOf 6 = .ok (.aload_n 0, 1) := by decide +kernel
theorem dX10_sinOf_7 : decode cX10_sinOf 7 = .ok (.getfield 7, 3) := by decide +kernel
theorem dX10_sinOf_10 : decode cX10_sinOf 10 = .ok (.iload_n 1, 1) := by decide +kernel
theorem dX10_sinOf_11 : decode cX10_sinOf 11 = .ok (.iaload, 1) := by decide +kernel
theorem dX10_sinOf_12 : decode cX10_sinOf 12 = .ok (.goto 55, 3) := by decide +kernel
theorem dX10_sinOf_15 : decode cX10_sinOf 15 = .ok (.iload_n 1, 1) := by decide +kernel
theorem dX10_sinOf_16 : decode cX10_sinOf 16 = .ok (.sipush 180, 3) := by decide +kernel
theorem dX10_sinOf_19 : decode cX10_sinOf 19 = .ok (.if_icmp .gt 16, 3) := by decide +kernel
theorem dX10_sinOf_22 : decode cX10_sinOf 22 = .ok (.aload_n 0, 1) := by decide +kernel
theorem dX10_sinOf_23 : decode cX10_sinOf 23 = .ok (.getfield 7, 3) := by decide +kernel
theorem dX10_sinOf_26 : decode cX10_sinOf 26 = .ok (.sipush 180, 3) := by decide +kernel
theorem dX10_sinOf_29 : decode cX10_sinOf 29 = .ok (.iload_n 1, 1) := by decide +kernel
theorem dX10_sinOf_30 : decode cX10_sinOf 30 = .ok (.isub, 1) := by decide +kernel
theorem dX10_sinOf_31 : decode cX10_sinOf 31 = .ok (.iaload, 1) := by decide +kernel
theorem dX10_sinOf_32 : decode cX10_sinOf 32 = .ok (.goto 35, 3) := by decide +kernel
theorem dX10_sinOf_35 : decode cX10_sinOf 35 = .ok (.iload_n 1, 1) := by decide +kernel
theorem dX10_sinOf_36 : decode cX10_sinOf 36 = .ok (.sipush 270, 3) := by decide +kernel
theorem dX10_sinOf_39 : decode cX10_sinOf 39 = .ok (.if_icmp .gt 17, 3) := by decide +kernel
theorem dX10_sinOf_42 : decode cX10_sinOf 42 = .ok (.aload_n 0, 1) := by decide +kernel
theorem dX10_sinOf_43 : decode cX10_sinOf 43 = .ok (.getfield 7, 3) := by decide +kernel
theorem dX10_sinOf_46 : decode cX10_sinOf 46 = .ok (.iload_n 1, 1) := by decide +kernel
theorem dX10_sinOf_47 : decode cX10_sinOf 47 = .ok (.sipush 180, 3) := by decide +kernel
theorem dX10_sinOf_50 : decode cX10_sinOf 50 = .ok (.isub, 1) := by decide +kernel
theorem dX10_sinOf_51 : decode cX10_sinOf 51 = .ok (.iaload, 1) := by decide +kernel
theorem dX10_sinOf_52 : decode cX10_sinOf 52 = .ok (.ineg, 1) := by decide +kernel
theorem dX10_sinOf_53 : decode cX10_sinOf 53 = .ok (.goto 14, 3) := by decide +kernel
theorem dX10_sinOf_56 : decode cX10_sinOf 56 = .ok (.aload_n 0, 1) := by decide +kernel
theorem dX10_sinOf_57 : decode cX10_sinOf 57 = .ok (.getfield 7, 3) := by decide +kernel
theorem dX10_sinOf_60 : decode cX10_sinOf 60 = .ok (.sipush 360, 3) := by decide +kernel
theorem dX10_sinOf_63 : decode cX10_sinOf 63 = .ok (.iload_n 1, 1) := by decide +kernel
theorem dX10_sinOf_64 : decode cX10_sinOf 64 = .ok (.isub, 1) := by decide +kernel
theorem dX10_sinOf_65 : decode cX10_sinOf 65 = .ok (.iaload, 1) := by decide +kernel
theorem dX10_sinOf_66 : decode cX10_sinOf 66 = .ok (.ineg, 1) := by decide +kernel
theorem dX10_sinOf_67 : decode cX10_sinOf 67 = .ok (.ireturn, 1) := by decide +kernel
theorem dX10_cosOf_0 : decode cX10_cosOf 0 = .ok (.aload_n 0, 1) := by decide +kernel
theorem dX10_cosOf_1 : decode cX10_cosOf 1 = .ok (.iload_n 1, 1) := by decide +kernel
theorem dX10_cosOf_2 : decode cX10_cosOf 2 = .ok (.bipush 90, 2) := by decide +kernel
theorem dX10_cosOf_4 : decode cX10_cosOf 4 = .ok (.iadd, 1) := by decide +kernel
theorem dX10_cosOf_5 : decode cX10_cosOf 5 = .ok (.sipush 360, 3) := by decide +kernel
theorem dX10_cosOf_8 : decode cX10_cosOf 8 = .ok (.irem, 1) := by decide +kernel
theorem dX10_cosOf_9 : decode cX10_cosOf 9 = .ok (.invokevirtual 137, 3) := by decide +kernel
theorem dX10_cosOf_12 : decode cX10_cosOf 12 = .ok (.ireturn, 1) := by decide +kernel
theorem dX10_table_0 : decode cX10_table 0 = .ok (.iload_n 1, 1) := by decide +kernel
theorem dX10_table_1 : decode cX10_table 1 = .ok (.i2l, 1) := by decide +kernel
theorem dX10_table_2 : decode cX10_table 2 = .ok (.lconst 0, 1) := by decide +kernel
theorem dX10_table_3 : decode cX10_table 3 = .ok (.ldc2_w 141, 3) := by decide +kernel
theorem dX10_table_6 : decode cX10_table 6 = .ok (.invokestatic 143, 3) := by decide +kernel
theorem dX10_table_9 : decode cX10_table 9 = .ok (.ifCond .eq 35, 3) := by decide +kernel
theorem dX10_table_12 : decode cX10_table 12 = .ok (.iload_n 1, 1) := by decide +kernel
theorem dX10_table_13 : decode cX10_table 13 = .ok (.iconst 2, 1) := by decide +kernel
theorem dX10_table_14 : decode cX10_table 14 = .ok (.if_icmp .ne 18, 3) := by decide +kernel
theorem dX10_table_17 : decode cX10_table 17 = .ok (.iload_n 2, 1) := by decide +kernel
theorem dX10_table_18 : decode cX10_table 18 = .ok (.i2l, 1) := by decide +kernel
theorem dX10_table_19 : decode cX10_table 19 = .ok (.lconst 1, 1) := by decide +kernel
theorem dX10_table_20 : decode cX10_table 20 = .ok (.ldc2_w 147, 3) := by decide +kernel
theorem dX10_table_23 : decode cX10_table 23 = .ok (.invokestatic 143, 3) := by decide +kernel
theorem dX10_table_26 : decode cX10_table 26 = .ok (.ifCond .eq 18, 3) := by decide +kernel
theorem dX10_table_29 : decode cX10_table 29 = .ok (.goto 18, 3) := by decide +kernel
theorem dX10_table_32 : decode cX10_table 32 = .ok (.iload_n 2, 1) := by decide +kernel
theorem dX10_table_33 : decode cX10_table 33 = .ok (.i2l, 1) := by decide +kernel
theorem dX10_table_34 : decode cX10_table 34 = .ok (.lconst 0, 1) := by decide +kernel
theorem dX10_table_35 : decode cX10_table 35 = .ok (.ldc2_w 149, 3) := by decide +kernel
theorem dX10_table_38 : decode cX10_table 38 = .ok (.invokestatic 143, 3) := by decide +kernel
theorem dX10_table_41 : decode cX10_table 41 = .ok (.ifCond .ne 6, 3) := by decide +kernel
theorem dX10_table_44 : decode cX10_table 44 = .ok (.ldc 151, 2) := by decide +kernel
theorem dX10_table_46 : decode cX10_table 46 = .ok (.ireturn, 1) := by decide +kernel
theorem dX10_table_47 : decode cX10_table 47 = .ok (.iload_n 1, 1) := by decide +kernel
theorem dX10_table_48 : decode cX10_table 48 = .ok (.ifCond .ne 11, 3) := by decide +kernel
theorem dX10_table_51 : decode cX10_table 51 = .ok (.aload_n 0, 1) := by decide +kernel
theorem dX10_table_52 : decode cX10_table 52 = .ok (.iload_n 2, 1) := by decide +kernel
theorem dX10_table_53 : decode cX10_table 53 = .ok (.invokevirtual 137, 3) := by decide +kernel
theorem dX10_table_56 : decode cX10_table 56 = .ok (.goto 22, 3) := by decide +kernel
theorem dX10_table_59 : decode cX10_table 59 = .ok (.iload_n 1, 1) := by decide +kernel
theorem dX10_table_60 : decode cX10_table 60 = .ok (.iconst 1, 1) := by decide +kernel
theorem dX10_table_61 : decode cX10_table 61 = .ok (.if_icmp .ne 11, 3) := by decide +kernel
theorem dX10_table_64 : decode cX10_table 64 = .ok (.aload_n 0, 1) := by decide +kernel
theorem dX10_table_65 : decode cX10_table 65 = .ok (.iload_n 2, 1) := by decide +kernel
theorem dX10_table_66 : decode cX10_table 66 = .ok (.invokevirtual 152, 3) := by decide +kernel
theorem dX10_table_69 : decode cX10_table 69 = .ok (.goto 9, 3) := by decide +kernel
theorem dX10_table_72 : decode cX10_table 72 = .ok (.aload_n 0, 1) := by decide +kernel
theorem dX10_table_73 : decode cX10_table 73 = .ok (.getfield 13, 3) := by decide +kernel
theorem dX10_table_76 : decode cX10_table 76 = .ok (.iload_n 2, 1) := by decide +kernel
theorem dX10_table_77 : decode cX10_table 77 = .ok (.iaload, 1) := by decide +kernel
theorem dX10_table_78 : decode cX10_table 78 = .ok (.ireturn, 1) := by decide +kernel
theorem dX10_isStation_0 : decode cX10_isStation 0 = .ok (.iload_n 1, 1) := by decide +kernel
theorem dX10_isStation_1 : decode cX10_isStation 1 = .ok (.i2l, 1) := by decide +kernel
theorem dX10_isStation_2 : decode cX10_isStation 2 = .ok (.lconst 0, 1) := by decide +kernel
theorem dX10_isStation_3 : decode cX10_isStation 3 = .ok (.aload_n 0, 1) := by decide +kernel
theorem dX10_isStation_4 : decode cX10_isStation 4 = .ok (.getfield 155, 3) := by decide +kernel
theorem dX10_isStation_7 : decode cX10_isStation 7 = .ok (.iconst 1, 1) := by decide +kernel
theorem dX10_isStation_8 : decode cX10_isStation 8 = .ok (.isub, 1) := by decide +kernel
theorem dX10_isStation_9 : decode cX10_isStation 9 = .ok (.i2l, 1) := by decide +kernel
theorem dX10_isStation_10 : decode cX10_isStation 10 = .ok (.invokestatic 143, 3) := by decide +kernel
theorem dX10_isStation_13 : decode cX10_isStation 13 = .ok (.ireturn, 1) := by decide +kernel
theorem dX10_station_0 : decode cX10_station 0 = .ok (.iload_n 1, 1) := by decide +kernel
theorem dX10_station_1 : decode cX10_station 1 = .ok (.i2l, 1) := by decide +kernel
theorem dX10_station_2 : decode cX10_station 2 = .ok (.lconst 0, 1) := by decide +kernel
theorem dX10_station_3 : decode cX10_station 3 = .ok (.ldc2_w 158, 3) := by decide +kernel
theorem dX10_station_6 : decode cX10_station 6 = .ok (.invokestatic 143, 3) := by decide +kernel
theorem dX10_station_9 : decode cX10_station 9 = .ok (.ifCond .eq 15, 3) := by decide +kernel
theorem dX10_station_12 : decode cX10_station 12 = .ok (.iload_n 2, 1) := by decide +kernel
theorem dX10_station_13 : decode cX10_station 13 = .ok (.i2l, 1) := by decide +kernel
theorem dX10_station_14 : decode cX10_station 14 = .ok (.lconst 0, 1) := by decide +kernel
theorem dX10_station_15 : decode cX10_station 15 = .ok (.ldc2_w 158, 3) := by decide +kernel
theorem dX10_station_18 : decode cX10_station 18 = .ok (.invokestatic 143, 3) := by decide +kernel
theorem dX10_station_21 : decode cX10_station 21 = .ok (.ifCond .ne 5, 3) := by decide +kernel
theorem dX10_station_24 : decode cX10_station 24 = .ok (.iconst (-1), 1) := by decide +kernel
theorem dX10_station_25 : decode cX10_station 25 = .ok (.ireturn, 1) := by decide +kernel
theorem dX10_station_26 : decode cX10_station 26 = .ok (.aload_n 0, 1) := by decide +kernel
theorem dX10_station_27 : decode cX10_station 27 = .ok (.getfield 155, 3) := by decide +kernel
theorem dX10_station_30 : decode cX10_station 30 = .ok (.bipush 8, 2) := by decide +kernel
theorem dX10_station_32 : decode cX10_station 32 = .ok (.if_icmp .ne 6, 3) := by decide +kernel
theorem dX10_station_35 : decode cX10_station 35 = .ok (.bipush (-3), 2) := by decide +kernel
theorem dX10_station_37 : decode cX10_station 37 = .ok (.ireturn, 1) := by decide +kernel
theorem dX10_station_38 : decode cX10_station 38 = .ok (.aload_n 0, 1) := by decide +kernel
theorem dX10_station_39 : decode cX10_station 39 = .ok (.getfield 16, 3) := by decide +kernel
theorem dX10_station_42 : decode cX10_station 42 = .ok (.aload_n 0, 1) := by decide +kernel
theorem dX10_station_43 : decode cX10_station 43 = .ok (.getfield 155, 3) := by decide +kernel
theorem dX10_station_46 : decode cX10_station 46 = .ok (.iload_n 1, 1) := by decide +kernel
theorem dX10_station_47 : decode cX10_station 47 = .ok (.iastore, 1) := by decide +kernel
theorem dX10_station_48 : decode cX10_station 48 = .ok (.aload_n 0, 1) := by decide +kernel
theorem dX10_station_49 : decode cX10_station 49 = .ok (.getfield 19, 3) := by decide +kernel
theorem dX10_station_52 : decode cX10_station 52 = .ok (.aload_n 0, 1) := by decide +kernel
theorem dX10_station_53 : decode cX10_station 53 = .ok (.getfield 155, 3) := by decide +kernel
theorem dX10_station_56 : decode cX10_station 56 = .ok (.iload_n 2, 1) := by decide +kernel
theorem dX10_station_57 : decode cX10_station 57 = .ok (.iastore, 1) := by decide +kernel
theorem dX10_station_58 : decode cX10_station 58 = .ok (.aload_n 0, 1) := by decide +kernel
theorem dX10_station_59 : decode cX10_station 59 = .ok (.dup, 1) := by decide +kernel
theorem dX10_station_60 : decode cX10_station 60 = .ok (.getfield 155, 3) := by decide +kernel
theorem dX10_station_63 : decode cX10_station 63 = .ok (.iconst 1, 1) := by decide +kernel
theorem dX10_station_64 : decode cX10_station 64 = .ok (.iadd, 1) := by decide +kernel
theorem dX10_station_65 : decode cX10_station 65 = .ok (.putfield 155, 3) := by decide +kernel
theorem dX10_station_68 : decode cX10_station 68 = .ok (.aload_n 0, 1) := by decide +kernel
theorem dX10_station_69 : decode cX10_station 69 = .ok (.getfield 155, 3) := by decide +kernel
theorem dX10_station_72 : decode cX10_station 72 = .ok (.iconst 1, 1) := by decide +kernel
theorem dX10_station_73 : decode cX10_station 73 = .ok (.isub, 1) := by decide +kernel
theorem dX10_station_74 : decode cX10_station 74 = .ok (.ireturn, 1) := by decide +kernel
theorem dX10_clock_0 : decode cX10_clock 0 = .ok (.aload_n 0, 1) := by decide +kernel
theorem dX10_clock_1 : decode cX10_clock 1 = .ok (.iload_n 1, 1) := by decide +kernel
theorem dX10_clock_2 : decode cX10_clock 2 = .ok (.invokevirtual 160, 3) := by decide +kernel
theorem dX10_clock_5 : decode cX10_clock 5 = .ok (.ifCond .eq 30, 3) := by decide +kernel
theorem dX10_clock_8 : decode cX10_clock 8 = .ok (.iload_n 2, 1) := by decide +kernel
theorem dX10_clock_9 : decode cX10_clock 9 = .ok (.i2l, 1) := by decide +kernel
theorem dX10_clock_10 : decode cX10_clock 10 = .ok (.ldc2_w 164, 3) := by decide +kernel
theorem dX10_clock_13 : decode cX10_clock 13 = .ok (.iload_n 3, 1) := by decide +kernel
theorem dX10_clock_14 : decode cX10_clock 14 = .ok (.i2l, 1) := by decide +kernel
theorem dX10_clock_15 : decode cX10_clock 15 = .ok (.invokestatic 143, 3) := by decide +kernel
theorem dX10_clock_18 : decode cX10_clock 18 = .ok (.ifCond .eq 17, 3) := by decide +kernel
theorem dX10_clock_21 : decode cX10_clock 21 = .ok (.iload_n 3, 1) := by decide +kernel
theorem dX10_clock_22 : decode cX10_clock 22 = .ok (.i2l, 1) := by decide +kernel
theorem dX10_clock_23 : decode cX10_clock 23 = .ok (.ldc2_w 164, 3) := by decide +kernel
theorem dX10_clock_26 : decode cX10_clock 26 = .ok (.ldc2_w 166, 3) := by decide +kernel
theorem dX10_clock_29 : decode cX10_clock 29 = .ok (.invokestatic 143, 3) := by decide +kernel
theorem dX10_clock_32 : decode cX10_clock 32 = .ok (.ifCond .ne 5, 3) := by decide +kernel
theorem dX10_clock_35 : decode cX10_clock 35 = .ok (.iconst (-1), 1) := by decide +kernel
theorem dX10_clock_36 : decode cX10_clock 36 = .ok (.ireturn, 1) := by decide +kernel
theorem dX10_clock_37 : decode cX10_clock 37 = .ok (.aload_n 0, 1) := by decide +kernel
theorem dX10_clock_38 : decode cX10_clock 38 = .ok (.getfield 22, 3) := by decide +kernel
theorem dX10_clock_41 : decode cX10_clock 41 = .ok (.iload_n 1, 1) := by decide +kernel
theorem dX10_clock_42 : decode cX10_clock 42 = .ok (.iload_n 2, 1) := by decide +kernel
theorem dX10_clock_43 : decode cX10_clock 43 = .ok (.iastore, 1) := by decide +kernel
theorem dX10_clock_44 : decode cX10_clock 44 = .ok (.aload_n 0, 1) := by decide +kernel
theorem dX10_clock_45 : decode cX10_clock 45 = .ok (.getfield 25, 3) := by decide +kernel
theorem dX10_clock_48 : decode cX10_clock 48 = .ok (.iload_n 1, 1) := by decide +kernel
theorem dX10_clock_49 : decode cX10_clock 49 = .ok (.iload_n 3, 1) := by decide +kernel
theorem dX10_clock_50 : decode cX10_clock 50 = .ok (.iastore, 1) := by decide +kernel
theorem dX10_clock_51 : decode cX10_clock 51 = .ok (.iconst 1, 1) := by decide +kernel
theorem dX10_clock_52 : decode cX10_clock 52 = .ok (.ireturn, 1) := by decide +kernel
theorem dX10_isNight_0 : decode cX10_isNight 0 = .ok (.iload_n 0, 1) := by decide +kernel
theorem dX10_isNight_1 : decode cX10_isNight 1 = .ok (.i2l, 1) := by decide +kernel
theorem dX10_isNight_2 : decode cX10_isNight 2 = .ok (.lconst 0, 1) := by decide +kernel
theorem dX10_isNight_3 : decode cX10_isNight 3 = .ok (.ldc2_w 168, 3) := by decide +kernel
theorem dX10_isNight_6 : decode cX10_isNight 6 = .ok (.invokestatic 143, 3) := by decide +kernel
theorem dX10_isNight_9 : decode cX10_isNight 9 = .ok (.ireturn, 1) := by decide +kernel
theorem dX10_isTold_0 : decode cX10_isTold 0 = .ok (.aload_n 0, 1) := by decide +kernel
theorem dX10_isTold_1 : decode cX10_isTold 1 = .ok (.iload_n 1, 1) := by decide +kernel
theorem dX10_isTold_2 : decode cX10_isTold 2 = .ok (.invokevirtual 160, 3) := by decide +kernel
theorem dX10_isTold_5 : decode cX10_isTold 5 = .ok (.ifCond .eq 54, 3) := by decide +kernel
theorem dX10_isTold_8 : decode cX10_isTold 8 = .ok (.iload_n 2, 1) := by decide +kernel
theorem dX10_isTold_9 : decode cX10_isTold 9 = .ok (.invokestatic 170, 3) := by decide +kernel
theorem dX10_isTold_12 : decode cX10_isTold 12 = .ok (.ifCond .eq 47, 3) := by decide +kernel
theorem dX10_isTold_15 : decode cX10_isTold 15 = .ok (.iload_n 3, 1) := by decide +kernel
theorem dX10_isTold_16 : decode cX10_isTold 16 = .ok (.i2l, 1) := by decide +kernel
theorem dX10_isTold_17 : decode cX10_isTold 17 = .ok (.lconst 0, 1) := by decide +kernel
theorem dX10_isTold_18 : decode cX10_isTold 18 = .ok (.ldc2_w 173, 3) := by decide +kernel
theorem dX10_isTold_21 : decode cX10_isTold 21 = .ok (.invokestatic 143, 3) := by decide +kernel
theorem dX10_isTold_24 : decode cX10_isTold 24 = .ok (.ifCond .eq 35, 3) := by decide +kernel
theorem dX10_isTold_27 : decode cX10_isTold 27 = .ok (.iload 4, 2) := by decide +kernel
theorem dX10_isTold_29 : decode cX10_isTold 29 = .ok (.i2l, 1) := by decide +kernel
theorem dX10_isTold_30 : decode cX10_isTold 30 = .ok (.lconst 0, 1) := by decide +kernel
theorem dX10_isTold_31 : decode cX10_isTold 31 = .ok (.ldc2_w 149, 3) := by decide +kernel
theorem dX10_isTold_34 : decode cX10_isTold 34 = .ok (.invokestatic 143, 3) := by decide +kernel
theorem dX10_isTold_37 : decode cX10_isTold 37 = .ok (.ifCond .eq 22, 3) := by decide +kernel
theorem dX10_isTold_40 : decode cX10_isTold 40 = .ok (.iload 5, 2) := by decide +kernel
theorem dX10_isTold_42 : decode cX10_isTold 42 = .ok (.i2l, 1) := by decide +kernel
theorem dX10_isTold_43 : decode cX10_isTold 43 = .ok (.ldc2_w 141, 3) := by decide +kernel
theorem dX10_isTold_46 : decode cX10_isTold 46 = .ok (.ldc2_w 175, 3) := by decide +kernel
theorem dX10_isTold_49 : decode cX10_isTold 49 = .ok (.invokestatic 143, 3) := by decide +kernel
theorem dX10_isTold_52 : decode cX10_isTold 52 = .ok (.ifCond .eq 7, 3) := by decide +kernel
theorem dX10_isTold_55 : decode cX10_isTold 55 = .ok (.iconst 1, 1) := by decide +kernel
theorem dX10_isTold_56 : decode cX10_isTold 56 = .ok (.goto 4, 3) := by decide +kernel
theorem dX10_isTold_59 : decode cX10_isTold 59 = .ok (.iconst 0, 1) := by decide +kernel
theorem dX10_isTold_60 : decode cX10_isTold 60 = .ok (.ireturn, 1) := by decide +kernel
theorem dX10_add_0 : decode cX10_add 0 = .ok (.aload_n 0, 1) := by decide +kernel
theorem dX10_add_1 : decode cX10_add 1 = .ok (.getfield 177, 3) := by decide +kernel
theorem dX10_add_4 : decode cX10_add 4 = .ok (.bipush 40, 2) := by decide +kernel
theorem dX10_add_6 : decode cX10_add 6 = .ok (.if_icmp .ne 6, 3) := by decide +kernel
theorem dX10_add_9 : decode cX10_add 9 = .ok (.bipush (-3), 2) := by decide +kernel
theorem dX10_add_11 : decode cX10_add 11 = .ok (.ireturn, 1) := by decide +kernel
theorem dX10_add_12 : decode cX10_add 12 = .ok (.aload_n 0, 1) := by decide +kernel
theorem dX10_add_13 : decode cX10_add 13 = .ok (.getfield 28, 3) := by decide +kernel
theorem dX10_add_16 : decode cX10_add 16 = .ok (.aload_n 0, 1) := by decide +kernel
theorem dX10_add_17 : decode cX10_add 17 = .ok (.getfield 177, 3) := by decide +kernel
theorem dX10_add_20 : decode cX10_add 20 = .ok (.iload_n 1, 1) := by decide +kernel
theorem dX10_add_21 : decode cX10_add 21 = .ok (.iastore, 1) := by decide +kernel
theorem dX10_add_22 : decode cX10_add 22 = .ok (.aload_n 0, 1) := by decide +kernel
theorem dX10_add_23 : decode cX10_add 23 = .ok (.getfield 31, 3) := by decide +kernel
theorem dX10_add_26 : decode cX10_add 26 = .ok (.aload_n 0, 1) := by decide +kernel
theorem dX10_add_27 : decode cX10_add 27 = .ok (.getfield 177, 3) := by decide +kernel
theorem dX10_add_30 : decode cX10_add 30 = .ok (.iload_n 2, 1) := by decide +kernel
theorem dX10_add_31 : decode cX10_add 31 = .ok (.iastore, 1) := by decide +kernel
theorem dX10_add_32 : decode cX10_add 32 = .ok (.aload_n 0, 1) := by decide +kernel
theorem dX10_add_33 : decode cX10_add 33 = .ok (.getfield 34, 3) := by decide +kernel
theorem dX10_add_36 : decode cX10_add 36 = .ok (.aload_n 0, 1) := by decide +kernel
theorem dX10_add_37 : decode cX10_add 37 = .ok (.getfield 177, 3) := by decide +kernel
theorem dX10_add_40 : decode cX10_add 40 = .ok (.iload_n 3, 1) := by decide +kernel
theorem dX10_add_41 : decode cX10_add 41 = .ok (.iastore, 1) := by decide +kernel
theorem dX10_add_42 : decode cX10_add 42 = .ok (.aload_n 0, 1) := by decide +kernel
theorem dX10_add_43 : decode cX10_add 43 = .ok (.getfield 37, 3) := by decide +kernel
theorem dX10_add_46 : decode cX10_add 46 = .ok (.aload_n 0, 1) := by decide +kernel
theorem dX10_add_47 : decode cX10_add 47 = .ok (.getfield 177, 3) := by decide +kernel
theorem dX10_add_50 : decode cX10_add 50 = .ok (.iload 4, 2) := by decide +kernel
theorem dX10_add_52 : decode cX10_add 52 = .ok (.iastore, 1) := by decide +kernel
theorem dX10_add_53 : decode cX10_add 53 = .ok (.aload_n 0, 1) := by decide +kernel
theorem dX10_add_54 : decode cX10_add 54 = .ok (.getfield 40, 3) := by decide +kernel
theorem dX10_add_57 : decode cX10_add 57 = .ok (.aload_n 0, 1) := by decide +kernel
theorem dX10_add_58 : decode cX10_add 58 = .ok (.getfield 177, 3) := by decide +kernel
theorem dX10_add_61 : decode cX10_add 61 = .ok (.iload 5, 2) := by decide +kernel
theorem dX10_add_63 : decode cX10_add 63 = .ok (.iastore, 1) := by decide +kernel
theorem dX10_add_64 : decode cX10_add 64 = .ok (.aload_n 0, 1) := by decide +kernel
theorem dX10_add_65 : decode cX10_add 65 = .ok (.getfield 43, 3) := by decide +kernel
theorem dX10_add_68 : decode cX10_add 68 = .ok (.aload_n 0, 1) := by decide +kernel
theorem dX10_add_69 : decode cX10_add 69 = .ok (.getfield 177, 3) := by decide +kernel
theorem dX10_add_72 : decode cX10_add 72 = .ok (.iload 6, 2) := by decide +kernel
theorem dX10_add_74 : decode cX10_add 74 = .ok (.iastore, 1) := by decide +kernel
theorem dX10_add_75 : decode cX10_add 75 = .ok (.aload_n 0, 1) := by decide +kernel
theorem dX10_add_76 : decode cX10_add 76 = .ok (.getfield 46, 3) := by decide +kernel
theorem dX10_add_79 : decode cX10_add 79 = .ok (.aload_n 0, 1) := by decide +kernel
theorem dX10_add_80 : decode cX10_add 80 = .ok (.getfield 177, 3) := by decide +kernel
theorem dX10_add_83 : decode cX10_add 83 = .ok (.iload 7, 2) := by decide +kernel
theorem dX10_add_85 : decode cX10_add 85 = .ok (.iastore, 1) := by decide +kernel
theorem dX10_add_86 : decode cX10_add 86 = .ok (.aload_n 0, 1) := by decide +kernel
theorem dX10_add_87 : decode cX10_add 87 = .ok (.getfield 49, 3) := by decide +kernel
theorem dX10_add_90 : decode cX10_add 90 = .ok (.aload_n 0, 1) := by decide +kernel
theorem dX10_add_91 : decode cX10_add 91 = .ok (.getfield 177, 3) := by decide +kernel
theorem dX10_add_94 : decode cX10_add 94 = .ok (.iload 8, 2) := by decide +kernel
theorem dX10_add_96 : decode cX10_add 96 = .ok (.iastore, 1) := by decide +kernel
theorem dX10_add_97 : decode cX10_add 97 = .ok (.aload_n 0, 1) := by decide +kernel
theorem dX10_add_98 : decode cX10_add 98 = .ok (.dup, 1) := by decide +kernel
theorem dX10_add_99 : decode cX10_add 99 = .ok (.getfield 177, 3) := by decide +kernel
theorem dX10_add_102 : decode cX10_add 102 = .ok (.iconst 1, 1) := by decide +kernel
theorem dX10_add_103 : decode cX10_add 103 = .ok (.iadd, 1) := by decide +kernel
theorem dX10_add_104 : decode cX10_add 104 = .ok (.putfield 177, 3) := by decide +kernel
theorem dX10_add_107 : decode cX10_add 107 = .ok (.aload_n 0, 1) := by decide +kernel
theorem dX10_add_108 : decode cX10_add 108 = .ok (.getfield 177, 3) := by decide +kernel
theorem dX10_add_111 : decode cX10_add 111 = .ok (.iconst 1, 1) := by decide +kernel
theorem dX10_add_112 : decode cX10_add 112 = .ok (.isub, 1) := by decide +kernel
theorem dX10_add_113 : decode cX10_add 113 = .ok (.ireturn, 1) := by decide +kernel
theorem dX10_glow_0 : decode cX10_glow 0 = .ok (.aload_n 0, 1) := by decide +kernel
theorem dX10_glow_1 : decode cX10_glow 1 = .ok (.iload_n 1, 1) := by decide +kernel
theorem dX10_glow_2 : decode cX10_glow 2 = .ok (.iload_n 2, 1) := by decide +kernel
theorem dX10_glow_3 : decode cX10_glow 3 = .ok (.iload_n 3, 1) := by decide +kernel
theorem dX10_glow_4 : decode cX10_glow 4 = .ok (.iload 4, 2) := by decide +kernel
theorem dX10_glow_6 : decode cX10_glow 6 = .ok (.iload 5, 2) := by decide +kernel
theorem dX10_glow_8 : decode cX10_glow 8 = .ok (.invokevirtual 180, 3) := by decide +kernel
theorem dX10_glow_11 : decode cX10_glow 11 = .ok (.ifCond .eq 20, 3) := by decide +kernel
theorem dX10_glow_14 : decode cX10_glow 14 = .ok (.aload_n 0, 1) := by decide +kernel
theorem dX10_glow_15 : decode cX10_glow 15 = .ok (.iconst 0, 1) := by decide +kernel
theorem dX10_glow_16 : decode cX10_glow 16 = .ok (.iload_n 1, 1) := by decide +kernel
theorem dX10_glow_17 : decode cX10_glow 17 = .ok (.iload_n 2, 1) := by decide +kernel
theorem dX10_glow_18 : decode cX10_glow 18 = .ok (.iload_n 3, 1) := by decide +kernel
theorem dX10_glow_19 : decode cX10_glow 19 = .ok (.iload 4, 2) := by decide +kernel
theorem dX10_glow_21 : decode cX10_glow 21 = .ok (.iload 5, 2) := by decide +kernel
theorem dX10_glow_23 : decode cX10_glow 23 = .ok (.iconst 0, 1) := by decide +kernel
theorem dX10_glow_24 : decode cX10_glow 24 = .ok (.iconst 0, 1) := by decide +kernel
theorem dX10_glow_25 : decode cX10_glow 25 = .ok (.invokevirtual 184, 3) := by decide +kernel
theorem dX10_glow_28 : decode cX10_glow 28 = .ok (.goto 4, 3) := by decide +kernel
theorem dX10_glow_31 : decode cX10_glow 31 = .ok (.iconst (-1), 1) := by decide +kernel
theorem dX10_glow_32 : decode cX10_glow 32 = .ok (.ireturn, 1) := by decide +kernel
theorem dX10_arc_0 : decode cX10_arc 0 = .ok (.aload_n 0, 1) := by decide +kernel
theorem dX10_arc_1 : decode cX10_arc 1 = .ok (.iload_n 1, 1) := by decide +kernel
theorem dX10_arc_2 : decode cX10_arc 2 = .ok (.iload_n 2, 1) := by decide +kernel
theorem dX10_arc_3 : decode cX10_arc 3 = .ok (.iload_n 3, 1) := by decide +kernel
theorem dX10_arc_4 : decode cX10_arc 4 = .ok (.iload 4, 2) := by decide +kernel
theorem dX10_arc_6 : decode cX10_arc 6 = .ok (.iload 5, 2) := by decide +kernel
theorem dX10_arc_8 : decode cX10_arc 8 = .ok (.invokevirtual 180, 3) := by decide +kernel
theorem dX10_arc_11 : decode cX10_arc 11 = .ok (.ifCond .eq 20, 3) := by decide +kernel
theorem dX10_arc_14 : decode cX10_arc 14 = .ok (.iload 6, 2) := by decide +kernel
theorem dX10_arc_16 : decode cX10_arc 16 = .ok (.i2l, 1) := by decide +kernel
theorem dX10_arc_17 : decode cX10_arc 17 = .ok (.lconst 0, 1) := by decide +kernel
theorem dX10_arc_18 : decode cX10_arc 18 = .ok (.ldc2_w 188, 3) := by decide +kernel
theorem dX10_arc_21 : decode cX10_arc 21 = .ok (.invokestatic 143, 3) := by decide +kernel
theorem dX10_arc_24 : decode cX10_arc 24 = .ok (.ifCond .eq 7, 3) := by decide +kernel
theorem dX10_arc_27 : decode cX10_arc 27 = .ok (.iconst 1, 1) := by decide +kernel
theorem dX10_arc_28 : decode cX10_arc 28 = .ok (.goto 4, 3) := by decide +kernel
theorem dX10_arc_31 : decode cX10_arc 31 = .ok (.iconst 0, 1) := by decide +kernel
theorem dX10_arc_32 : decode cX10_arc 32 = .ok (.istore 7, 2) := by decide +kernel
theorem dX10_arc_34 : decode cX10_arc 34 = .ok (.iload 7, 2) := by decide +kernel
theorem dX10_arc_36 : decode cX10_arc 36 = .ok (.ifCond .eq 21, 3) := by decide +kernel
theorem dX10_arc_39 : decode cX10_arc 39 = .ok (.aload_n 0, 1) := by decide +kernel
theorem dX10_arc_40 : decode cX10_arc 40 = .ok (.iconst 1, 1) := by decide +kernel
theorem dX10_arc_41 : decode cX10_arc 41 = .ok (.iload_n 1, 1) := by decide +kernel
theorem dX10_arc_42 : decode cX10_arc 42 = .ok (.iload_n 2, 1) := by decide +kernel
theorem dX10_arc_43 : decode cX10_arc 43 = .ok (.iload_n 3, 1) := by decide +kernel
theorem dX10_arc_44 : decode cX10_arc 44 = .ok (.iload 4, 2) := by decide +kernel
theorem dX10_arc_46 : decode cX10_arc 46 = .ok (.iload 5, 2) := by decide +kernel
theorem dX10_arc_48 : decode cX10_arc 48 = .ok (.iload 6, 2) := by decide +kernel
theorem dX10_arc_50 : decode cX10_arc 50 = .ok (.iconst 0, 1) := by decide +kernel
theorem dX10_arc_51 : decode cX10_arc 51 = .ok (.invokevirtual 184, 3) := by decide +kernel
theorem dX10_arc_54 : decode cX10_arc 54 = .ok (.goto 4, 3) := by decide +kernel
theorem dX10_arc_57 : decode cX10_arc 57 = .ok (.iconst (-1), 1) := by decide +kernel
theorem dX10_arc_58 : decode cX10_arc 58 = .ok (.ireturn, 1) := by decide +kernel
theorem dX10_ray_0 : decode cX10_ray 0 = .ok (.aload_n 0, 1) := by decide +kernel
theorem dX10_ray_1 : decode cX10_ray 1 = .ok (.iload_n 1, 1) := by decide +kernel
theorem dX10_ray_2 : decode cX10_ray 2 = .ok (.iload_n 2, 1) := by decide +kernel
theorem dX10_ray_3 : decode cX10_ray 3 = .ok (.iload_n 3, 1) := by decide +kernel
theorem dX10_ray_4 : decode cX10_ray 4 = .ok (.iload 4, 2) := by decide +kernel
theorem dX10_ray_6 : decode cX10_ray 6 = .ok (.iload 5, 2) := by decide +kernel
theorem dX10_ray_8 : decode cX10_ray 8 = .ok (.invokevirtual 180, 3) := by decide +kernel
theorem dX10_ray_11 : decode cX10_ray 11 = .ok (.ifCond .eq 35, 3) := by decide +kernel
theorem dX10_ray_14 : decode cX10_ray 14 = .ok (.iload 6, 2) := by decide +kernel
theorem dX10_ray_16 : decode cX10_ray 16 = .ok (.i2l, 1) := by decide +kernel
theorem dX10_ray_17 : decode cX10_ray 17 = .ok (.lconst 0, 1) := by decide +kernel
theorem dX10_ray_18 : decode cX10_ray 18 = .ok (.ldc2_w 188, 3) := by decide +kernel
theorem dX10_ray_21 : decode cX10_ray 21 = .ok (.invokestatic 143, 3) := by decide +kernel
theorem dX10_ray_24 : decode cX10_ray 24 = .ok (.ifCond .eq 22, 3) := by decide +kernel
theorem dX10_ray_27 : decode cX10_ray 27 = .ok (.iload 7, 2) := by decide +kernel
theorem dX10_ray_29 : decode cX10_ray 29 = .ok (.i2l, 1) := by decide +kernel
theorem dX10_ray_30 : decode cX10_ray 30 = .ok (.ldc2_w 190, 3) := by decide +kernel
theorem dX10_ray_33 : decode cX10_ray 33 = .ok (.ldc2_w 192, 3) := by decide +kernel
theorem dX10_ray_36 : decode cX10_ray 36 = .ok (.invokestatic 143, 3) := by decide +kernel
theorem dX10_ray_39 : decode cX10_ray 39 = .ok (.ifCond .eq 7, 3) := by decide +kernel
theorem dX10_ray_42 : decode cX10_ray 42 = .ok (.iconst 1, 1) := by decide +kernel
theorem dX10_ray_43 : decode cX10_ray 43 = .ok (.goto 4, 3) := by decide +kernel
theorem dX10_ray_46 : decode cX10_ray 46 = .ok (.iconst 0, 1) := by decide +kernel
theorem dX10_ray_47 : decode cX10_ray 47 = .ok (.istore 8, 2) := by decide +kernel
theorem dX10_ray_49 : decode cX10_ray 49 = .ok (.iload 8, 2) := by decide +kernel
theorem dX10_ray_51 : decode cX10_ray 51 = .ok (.ifCond .eq 22, 3) := by decide +kernel
theorem dX10_ray_54 : decode cX10_ray 54 = .ok (.aload_n 0, 1) := by decide +kernel
theorem dX10_ray_55 : decode cX10_ray 55 = .ok (.iconst 2, 1) := by decide +kernel
theorem dX10_ray_56 : decode cX10_ray 56 = .ok (.iload_n 1, 1) := by decide +kernel
theorem dX10_ray_57 : decode cX10_ray 57 = .ok (.iload_n 2, 1) := by decide +kernel
theorem dX10_ray_58 : decode cX10_ray 58 = .ok (.iload_n 3, 1) := by decide +kernel
theorem dX10_ray_59 : decode cX10_ray 59 = .ok (.iload 4, 2) := by decide +kernel
theorem dX10_ray_61 : decode cX10_ray 61 = .ok (.iload 5, 2) := by decide +kernel
theorem dX10_ray_63 : decode cX10_ray 63 = .ok (.iload 6, 2) := by decide +kernel
theorem dX10_ray_65 : decode cX10_ray 65 = .ok (.iload 7, 2) := by decide +kernel
theorem dX10_ray_67 : decode cX10_ray 67 = .ok (.invokevirtual 184, 3) := by decide +kernel
theorem dX10_ray_70 : decode cX10_ray 70 = .ok (.goto 4, 3) := by decide +kernel
theorem dX10_ray_73 : decode cX10_ray 73 = .ok (.iconst (-1), 1) := by decide +kernel
theorem dX10_ray_74 : decode cX10_ray 74 = .ok (.ireturn, 1) := by decide +kernel
theorem dX10_isSighting_0 : decode cX10_isSighting 0 = .ok (.iload_n 1, 1) := by decide +kernel
theorem dX10_isSighting_1 : decode cX10_isSighting 1 = .ok (.i2l, 1) := by decide +kernel
theorem dX10_isSighting_2 : decode cX10_isSighting 2 = .ok (.lconst 0, 1) := by decide +kernel
theorem dX10_isSighting_3 : decode cX10_isSighting 3 = .ok (.aload_n 0, 1) := by decide +kernel
theorem dX10_isSighting_4 : decode cX10_isSighting 4 = .ok (.getfield 177, 3) := by decide +kernel
theorem dX10_isSighting_7 : decode cX10_isSighting 7 = .ok (.iconst 1, 1) := by decide +kernel
theorem dX10_isSighting_8 : decode cX10_isSighting 8 = .ok (.isub, 1) := by decide +kernel
theorem dX10_isSighting_9 : decode cX10_isSighting 9 = .ok (.i2l, 1) := by decide +kernel
theorem dX10_isSighting_10 : decode cX10_isSighting 10 = .ok (.invokestatic 143, 3) := by decide +kernel
theorem dX10_isSighting_13 : decode cX10_isSighting 13 = .ok (.ireturn, 1) := by decide +kernel
theorem dX10_firstOf_0 : decode cX10_firstOf 0 = .ok (.aload_n 0, 1) := by decide +kernel
theorem dX10_firstOf_1 : decode cX10_firstOf 1 = .ok (.getfield 37, 3) := by decide +kernel
theorem dX10_firstOf_4 : decode cX10_firstOf 4 = .ok (.iload_n 1, 1) := by decide +kernel
theorem dX10_firstOf_5 : decode cX10_firstOf 5 = .ok (.iaload, 1) := by decide +kernel
theorem dX10_firstOf_6 : decode cX10_firstOf 6 = .ok (.aload_n 0, 1) := by decide +kernel
theorem dX10_firstOf_7 : decode cX10_firstOf 7 = .ok (.getfield 25, 3) := by decide +kernel
theorem dX10_firstOf_10 : decode cX10_firstOf 10 = .ok (.aload_n 0, 1) := by decide +kernel
theorem dX10_firstOf_11 : decode cX10_firstOf 11 = .ok (.getfield 31, 3) := by decide +kernel
theorem dX10_firstOf_14 : decode cX10_firstOf 14 = .ok (.iload_n 1, 1) := by decide +kernel
theorem dX10_firstOf_15 : decode cX10_firstOf 15 = .ok (.iaload, 1) := by decide +kernel
theorem dX10_firstOf_16 : decode cX10_firstOf 16 = .ok (.iaload, 1) := by decide +kernel
theorem dX10_firstOf_17 : decode cX10_firstOf 17 = .ok (.isub, 1) := by decide +kernel
theorem dX10_firstOf_18 : decode cX10_firstOf 18 = .ok (.ireturn, 1) := by decide +kernel
theorem dX10_lastOf_0 : decode cX10_lastOf 0 = .ok (.aload_n 0, 1) := by decide +kernel
theorem dX10_lastOf_1 : decode cX10_lastOf 1 = .ok (.getfield 37, 3) := by decide +kernel
theorem dX10_lastOf_4 : decode cX10_lastOf 4 = .ok (.iload_n 1, 1) := by decide +kernel
theorem dX10_lastOf_5 : decode cX10_lastOf 5 = .ok (.iaload, 1) := by decide +kernel
theorem dX10_lastOf_6 : decode cX10_lastOf 6 = .ok (.aload_n 0, 1) := by decide +kernel
theorem dX10_lastOf_7 : decode cX10_lastOf 7 = .ok (.getfield 22, 3) := by decide +kernel
theorem dX10_lastOf_10 : decode cX10_lastOf 10 = .ok (.aload_n 0, 1) := by decide +kernel
theorem dX10_lastOf_11 : decode cX10_lastOf 11 = .ok (.getfield 31, 3) := by decide +kernel
theorem dX10_lastOf_14 : decode cX10_lastOf 14 = .ok (.iload_n 1, 1) := by decide +kernel
theorem dX10_lastOf_15 : decode cX10_lastOf 15 = .ok (.iaload, 1) := by decide +kernel
theorem dX10_lastOf_16 : decode cX10_lastOf 16 = .ok (.iaload, 1) := by decide +kernel
theorem dX10_lastOf_17 : decode cX10_lastOf 17 = .ok (.isub, 1) := by decide +kernel
theorem dX10_lastOf_18 : decode cX10_lastOf 18 = .ok (.ireturn, 1) := by decide +kernel
theorem dX10_told_0 : decode cX10_told 0 = .ok (.aload_n 0, 1) := by decide +kernel
theorem dX10_told_1 : decode cX10_told 1 = .ok (.iload_n 1, 1) := by decide +kernel
theorem dX10_told_2 : decode cX10_told 2 = .ok (.invokevirtual 194, 3) := by decide +kernel
theorem dX10_told_5 : decode cX10_told 5 = .ok (.ifCond .ne 7, 3) := by decide +kernel
theorem dX10_told_8 : decode cX10_told 8 = .ok (.sipush (-1001), 3) := by decide +kernel
theorem dX10_told_11 : decode cX10_told 11 = .ok (.ireturn, 1) := by decide +kernel
theorem dX10_told_12 : decode cX10_told 12 = .ok (.iload_n 2, 1) := by decide +kernel
theorem dX10_told_13 : decode cX10_told 13 = .ok (.tableswitch 101 0 7 #[47, 54, 61, 68, 75, 82, 89, 95], 47) := by decide +kernel
theorem dX10_told_60 : decode cX10_told 60 = .ok (.aload_n 0, 1) := by decide +kernel
theorem dX10_told_61 : decode cX10_told 61 = .ok (.getfield 28, 3) := by decide +kernel
theorem dX10_told_64 : decode cX10_told 64 = .ok (.iload_n 1, 1) := by decide +kernel
theorem dX10_told_65 : decode cX10_told 65 = .ok (.iaload, 1) := by decide +kernel
theorem dX10_told_66 : decode cX10_told 66 = .ok (.ireturn, 1) := by decide +kernel
theorem dX10_told_67 : decode cX10_told 67 = .ok (.aload_n 0, 1) := by decide +kernel
theorem dX10_told_68 : decode cX10_told 68 = .ok (.getfield 31, 3) := by decide +kernel
theorem dX10_told_71 : decode cX10_told 71 = .ok (.iload_n 1, 1) := by decide +kernel
theorem dX10_told_72 : decode cX10_told 72 = .ok (.iaload, 1) := by decide +kernel
theorem dX10_told_73 : decode cX10_told 73 = .ok (.ireturn, 1) := by decide +kernel
theorem dX10_told_74 : decode cX10_told 74 = .ok (.aload_n 0, 1) := by decide +kernel
theorem dX10_told_75 : decode cX10_told 75 = .ok (.getfield 34, 3) := by decide +kernel
theorem dX10_told_78 : decode cX10_told 78 = .ok (.iload_n 1, 1) := by decide +kernel
theorem dX10_told_79 : decode cX10_told 79 = .ok (.iaload, 1) := by decide +kernel
theorem dX10_told_80 : decode cX10_told 80 = .ok (.ireturn, 1) := by decide +kernel
theorem dX10_told_81 : decode cX10_told 81 = .ok (.aload_n 0, 1) := by decide +kernel
theorem dX10_told_82 : decode cX10_told 82 = .ok (.getfield 37, 3) := by decide +kernel
theorem dX10_told_85 : decode cX10_told 85 = .ok (.iload_n 1, 1) := by decide +kernel
theorem dX10_told_86 : decode cX10_told 86 = .ok (.iaload, 1) := by decide +kernel
theorem dX10_told_87 : decode cX10_told 87 = .ok (.ireturn, 1) := by decide +kernel
theorem dX10_told_88 : decode cX10_told 88 = .ok (.aload_n 0, 1) := by decide +kernel
theorem dX10_told_89 : decode cX10_told 89 = .ok (.getfield 40, 3) := by decide +kernel
theorem dX10_told_92 : decode cX10_told 92 = .ok (.iload_n 1, 1) := by decide +kernel
theorem dX10_told_93 : decode cX10_told 93 = .ok (.iaload, 1) := by decide +kernel
theorem dX10_told_94 : decode cX10_told 94 = .ok (.ireturn, 1) := by decide +kernel
theorem dX10_told_95 : decode cX10_told 95 = .ok (.aload_n 0, 1) := by decide +kernel
theorem dX10_told_96 : decode cX10_told 96 = .ok (.getfield 43, 3) := by decide +kernel
theorem dX10_told_99 : decode cX10_told 99 = .ok (.iload_n 1, 1) := by decide +kernel
theorem dX10_told_100 : decode cX10_told 100 = .ok (.iaload, 1) := by decide +kernel
theorem dX10_told_101 : decode cX10_told 101 = .ok (.ireturn, 1) := by decide +kernel
theorem dX10_told_102 : decode cX10_told 102 = .ok (.aload_n 0, 1) := by decide +kernel
theorem dX10_told_103 : decode cX10_told 103 = .ok (.iload_n 1, 1) := by decide +kernel
theorem dX10_told_104 : decode cX10_told 104 = .ok (.invokevirtual 197, 3) := by decide +kernel
theorem dX10_told_107 : decode cX10_told 107 = .ok (.ireturn, 1) := by decide +kernel
theorem dX10_told_108 : decode cX10_told 108 = .ok (.aload_n 0, 1) := by decide +kernel
theorem dX10_told_109 : decode cX10_told 109 = .ok (.iload_n 1, 1) := by decide +kernel
theorem dX10_told_110 : decode cX10_told 110 = .ok (.invokevirtual 200, 3) := by decide +kernel
theorem dX10_told_113 : decode cX10_told 113 = .ok (.ireturn, 1) := by decide +kernel
theorem dX10_told_114 : decode cX10_told 114 = .ok (.sipush (-1001), 3) := by decide +kernel
theorem dX10_told_117 : decode cX10_told 117 = .ok (.ireturn, 1) := by decide +kernel
theorem dX10_colour_0 : decode cX10_colour 0 = .ok (.aload_n 0, 1) := by decide +kernel
theorem dX10_colour_1 : decode cX10_colour 1 = .ok (.iload_n 1, 1) := by decide +kernel
theorem dX10_colour_2 : decode cX10_colour 2 = .ok (.invokevirtual 194, 3) := by decide +kernel
theorem dX10_colour_5 : decode cX10_colour 5 = .ok (.ifCond .ne 7, 3) := by decide +kernel
theorem dX10_colour_8 : decode cX10_colour 8 = .ok (.iconst (-1), 1) := by decide +kernel
theorem dX10_colour_9 : decode cX10_colour 9 = .ok (.goto 23, 3) := by decide +kernel
theorem dX10_colour_12 : decode cX10_colour 12 = .ok (.aload_n 0, 1) := by decide +kernel
theorem dX10_colour_13 : decode cX10_colour 13 = .ok (.getfield 28, 3) := by decide +kernel
theorem dX10_colour_16 : decode cX10_colour 16 = .ok (.iload_n 1, 1) := by decide +kernel
theorem dX10_colour_17 : decode cX10_colour 17 = .ok (.iaload, 1) := by decide +kernel
theorem dX10_colour_18 : decode cX10_colour 18 = .ok (.ifCond .ne 8, 3) := by decide +kernel
theorem dX10_colour_21 : decode cX10_colour 21 = .ok (.bipush (-12), 2) := by decide +kernel
theorem dX10_colour_23 : decode cX10_colour 23 = .ok (.goto 9, 3) := by decide +kernel
theorem dX10_colour_26 : decode cX10_colour 26 = .ok (.aload_n 0, 1) := by decide +kernel
theorem dX10_colour_27 : decode cX10_colour 27 = .ok (.getfield 46, 3) := by decide +kernel
theorem dX10_colour_30 : decode cX10_colour 30 = .ok (.iload_n 1, 1) := by decide +kernel
theorem dX10_colour_31 : decode cX10_colour 31 = .ok (.iaload, 1) := by decide +kernel
theorem dX10_colour_32 : decode cX10_colour 32 = .ok (.ireturn, 1) := by decide +kernel
theorem dX10_lean_0 : decode cX10_lean 0 = .ok (.aload_n 0, 1) := by decide +kernel
theorem dX10_lean_1 : decode cX10_lean 1 = .ok (.iload_n 1, 1) := by decide +kernel
theorem dX10_lean_2 : decode cX10_lean 2 = .ok (.invokevirtual 194, 3) := by decide +kernel
theorem dX10_lean_5 : decode cX10_lean 5 = .ok (.ifCond .ne 8, 3) := by decide +kernel
theorem dX10_lean_8 : decode cX10_lean 8 = .ok (.bipush (-101), 2) := by decide +kernel
theorem dX10_lean_10 : decode cX10_lean 10 = .ok (.goto 24, 3) := by decide +kernel
theorem dX10_lean_13 : decode cX10_lean 13 = .ok (.aload_n 0, 1) := by decide +kernel
theorem dX10_lean_14 : decode cX10_lean 14 = .ok (.getfield 28, 3) := by decide +kernel
theorem dX10_lean_17 : decode cX10_lean 17 = .ok (.iload_n 1, 1) := by decide +kernel
theorem dX10_lean_18 : decode cX10_lean 18 = .ok (.iaload, 1) := by decide +kernel
theorem dX10_lean_19 : decode cX10_lean 19 = .ok (.iconst 2, 1) := by decide +kernel
theorem dX10_lean_20 : decode cX10_lean 20 = .ok (.if_icmp .ge 8, 3) := by decide +kernel
theorem dX10_lean_23 : decode cX10_lean 23 = .ok (.bipush (-112), 2) := by decide +kernel
theorem dX10_lean_25 : decode cX10_lean 25 = .ok (.goto 9, 3) := by decide +kernel
theorem dX10_lean_28 : decode cX10_lean 28 = .ok (.aload_n 0, 1) := by decide +kernel
theorem dX10_lean_29 : decode cX10_lean 29 = .ok (.getfield 49, 3) := by decide +kernel
theorem dX10_lean_32 : decode cX10_lean 32 = .ok (.iload_n 1, 1) := by decide +kernel
theorem dX10_lean_33 : decode cX10_lean 33 = .ok (.iaload, 1) := by decide +kernel
theorem dX10_lean_34 : decode cX10_lean 34 = .ok (.ireturn, 1) := by decide +kernel
theorem dX10_thick_0 : decode cX10_thick 0 = .ok (.iload_n 1, 1) := by decide +kernel
theorem dX10_thick_1 : decode cX10_thick 1 = .ok (.i2l, 1) := by decide +kernel
theorem dX10_thick_2 : decode cX10_thick 2 = .ok (.lconst 0, 1) := by decide +kernel
theorem dX10_thick_3 : decode cX10_thick 3 = .ok (.ldc2_w 203, 3) := by decide +kernel
theorem dX10_thick_6 : decode cX10_thick 6 = .ok (.invokestatic 143, 3) := by decide +kernel
theorem dX10_thick_9 : decode cX10_thick 9 = .ok (.ifCond .ne 5, 3) := by decide +kernel
theorem dX10_thick_12 : decode cX10_thick 12 = .ok (.iconst (-1), 1) := by decide +kernel
theorem dX10_thick_13 : decode cX10_thick 13 = .ok (.ireturn, 1) := by decide +kernel
theorem dX10_thick_14 : decode cX10_thick 14 = .ok (.aload_n 0, 1) := by decide +kernel
theorem dX10_thick_15 : decode cX10_thick 15 = .ok (.getfield 52, 3) := by decide +kernel
theorem dX10_thick_18 : decode cX10_thick 18 = .ok (.istore_n 2, 1) := by decide +kernel
theorem dX10_thick_19 : decode cX10_thick 19 = .ok (.aload_n 0, 1) := by decide +kernel
theorem dX10_thick_20 : decode cX10_thick 20 = .ok (.iload_n 1, 1) := by decide +kernel
theorem dX10_thick_21 : decode cX10_thick 21 = .ok (.putfield 52, 3) := by decide +kernel
theorem dX10_thick_24 : decode cX10_thick 24 = .ok (.iload_n 2, 1) := by decide +kernel
theorem dX10_thick_25 : decode cX10_thick 25 = .ok (.ireturn, 1) := by decide +kernel
theorem dX10_crosses_0 : decode cX10_crosses 0 = .ok (.aload_n 0, 1) := by decide +kernel
theorem dX10_crosses_1 : decode cX10_crosses 1 = .ok (.getfield 31, 3) := by decide +kernel
theorem dX10_crosses_4 : decode cX10_crosses 4 = .ok (.iload_n 1, 1) := by decide +kernel
theorem dX10_crosses_5 : decode cX10_crosses 5 = .ok (.iaload, 1) := by decide +kernel
theorem dX10_crosses_6 : decode cX10_crosses 6 = .ok (.aload_n 0, 1) := by decide +kernel
theorem dX10_crosses_7 : decode cX10_crosses 7 = .ok (.getfield 31, 3) := by decide +kernel
theorem dX10_crosses_10 : decode cX10_crosses 10 = .ok (.iload_n 2, 1) := by decide +kernel
theorem dX10_crosses_11 : decode cX10_crosses 11 = .ok (.iaload, 1) := by decide +kernel
theorem dX10_crosses_12 : decode cX10_crosses 12 = .ok (.if_icmp .eq 21, 3) := by decide +kernel
theorem dX10_crosses_15 : decode cX10_crosses 15 = .ok (.aload_n 0, 1) := by decide +kernel
theorem dX10_crosses_16 : decode cX10_crosses 16 = .ok (.getfield 28, 3) := by decide +kernel
theorem dX10_crosses_19 : decode cX10_crosses 19 = .ok (.iload_n 1, 1) := by decide +kernel
theorem dX10_crosses_20 : decode cX10_crosses 20 = .ok (.iaload, 1) := by decide +kernel
theorem dX10_crosses_21 : decode cX10_crosses 21 = .ok (.ifCond .eq 12, 3) := by decide +kernel
theorem dX10_crosses_24 : decode cX10_crosses 24 = .ok (.aload_n 0, 1) := by decide +kernel
theorem dX10_crosses_25 : decode cX10_crosses 25 = .ok (.getfield 28, 3) := by decide +kernel
theorem dX10_crosses_28 : decode cX10_crosses 28 = .ok (.iload_n 2, 1) := by decide +kernel
theorem dX10_crosses_29 : decode cX10_crosses 29 = .ok (.iaload, 1) := by decide +kernel
theorem dX10_crosses_30 : decode cX10_crosses 30 = .ok (.ifCond .ne 5, 3) := by decide +kernel
theorem dX10_crosses_33 : decode cX10_crosses 33 = .ok (.iconst 0, 1) := by decide +kernel
theorem dX10_crosses_34 : decode cX10_crosses 34 = .ok (.ireturn, 1) := by decide +kernel
theorem dX10_crosses_35 : decode cX10_crosses 35 = .ok (.aload_n 0, 1) := by decide +kernel
theorem dX10_crosses_36 : decode cX10_crosses 36 = .ok (.getfield 40, 3) := by decide +kernel
theorem dX10_crosses_39 : decode cX10_crosses 39 = .ok (.iload_n 1, 1) := by decide +kernel
theorem dX10_crosses_40 : decode cX10_crosses 40 = .ok (.iaload, 1) := by decide +kernel
theorem dX10_crosses_41 : decode cX10_crosses 41 = .ok (.istore_n 3, 1) := by decide +kernel
theorem dX10_crosses_42 : decode cX10_crosses 42 = .ok (.aload_n 0, 1) := by decide +kernel
theorem dX10_crosses_43 : decode cX10_crosses 43 = .ok (.getfield 40, 3) := by decide +kernel
theorem dX10_crosses_46 : decode cX10_crosses 46 = .ok (.iload_n 2, 1) := by decide +kernel
theorem dX10_crosses_47 : decode cX10_crosses 47 = .ok (.iaload, 1) := by decide +kernel
theorem dX10_crosses_48 : decode cX10_crosses 48 = .ok (.istore 4, 2) := by decide +kernel
theorem dX10_crosses_50 : decode cX10_crosses 50 = .ok (.aload_n 0, 1) := by decide +kernel
theorem dX10_crosses_51 : decode cX10_crosses 51 = .ok (.iload_n 3, 1) := by decide +kernel
theorem dX10_crosses_52 : decode cX10_crosses 52 = .ok (.invokevirtual 137, 3) := by decide +kernel
theorem dX10_crosses_55 : decode cX10_crosses 55 = .ok (.aload_n 0, 1) := by decide +kernel
theorem dX10_crosses_56 : decode cX10_crosses 56 = .ok (.iload 4, 2) := by decide +kernel
theorem dX10_crosses_58 : decode cX10_crosses 58 = .ok (.invokevirtual 152, 3) := by decide +kernel
theorem dX10_crosses_61 : decode cX10_crosses 61 = .ok (.imul, 1) := by decide +kernel
theorem dX10_crosses_62 : decode cX10_crosses 62 = .ok (.aload_n 0, 1) := by decide +kernel
theorem dX10_crosses_63 : decode cX10_crosses 63 = .ok (.iload_n 3, 1) := by decide +kernel
theorem dX10_crosses_64 : decode cX10_crosses 64 = .ok (.invokevirtual 152, 3) := by decide +kernel
theorem dX10_crosses_67 : decode cX10_crosses 67 = .ok (.aload_n 0, 1) := by decide +kernel
theorem dX10_crosses_68 : decode cX10_crosses 68 = .ok (.iload 4, 2) := by decide +kernel
theorem dX10_crosses_70 : decode cX10_crosses 70 = .ok (.invokevirtual 137, 3) := by decide +kernel
theorem dX10_crosses_73 : decode cX10_crosses 73 = .ok (.imul, 1) := by decide +kernel
theorem dX10_crosses_74 : decode cX10_crosses 74 = .ok (.isub, 1) := by decide +kernel
theorem dX10_crosses_75 : decode cX10_crosses 75 = .ok (.istore 5, 2) := by decide +kernel
theorem dX10_crosses_77 : decode cX10_crosses 77 = .ok (.iload 5, 2) := by decide +kernel
theorem dX10_crosses_79 : decode cX10_crosses 79 = .ok (.i2l, 1) := by decide +kernel
theorem dX10_crosses_80 : decode cX10_crosses 80 = .ok (.ldc2_w 205, 3) := by decide +kernel
theorem dX10_crosses_83 : decode cX10_crosses 83 = .ok (.ldc2_w 207, 3) := by decide +kernel
theorem dX10_crosses_86 : decode cX10_crosses 86 = .ok (.invokestatic 143, 3) := by decide +kernel
theorem dX10_crosses_89 : decode cX10_crosses 89 = .ok (.ifCond .eq 5, 3) := by decide +kernel
theorem dX10_crosses_92 : decode cX10_crosses 92 = .ok (.iconst 0, 1) := by decide +kernel
theorem dX10_crosses_93 : decode cX10_crosses 93 = .ok (.ireturn, 1) := by decide +kernel
theorem dX10_crosses_94 : decode cX10_crosses 94 = .ok (.aload_n 0, 1) := by decide +kernel
theorem dX10_crosses_95 : decode cX10_crosses 95 = .ok (.getfield 16, 3) := by decide +kernel
theorem dX10_crosses_98 : decode cX10_crosses 98 = .ok (.aload_n 0, 1) := by decide +kernel
theorem dX10_crosses_99 : decode cX10_crosses 99 = .ok (.getfield 31, 3) := by decide +kernel
theorem dX10_crosses_102 : decode cX10_crosses 102 = .ok (.iload_n 2, 1) := by decide +kernel
theorem dX10_crosses_103 : decode cX10_crosses 103 = .ok (.iaload, 1) := by decide +kernel
theorem dX10_crosses_104 : decode cX10_crosses 104 = .ok (.iaload, 1) := by decide +kernel
theorem dX10_crosses_105 : decode cX10_crosses 105 = .ok (.aload_n 0, 1) := by decide +kernel
theorem dX10_crosses_106 : decode cX10_crosses 106 = .ok (.getfield 16, 3) := by decide +kernel
theorem dX10_crosses_109 : decode cX10_crosses 109 = .ok (.aload_n 0, 1) := by decide +kernel
theorem dX10_crosses_110 : decode cX10_crosses 110 = .ok (.getfield 31, 3) := by decide +kernel
theorem dX10_crosses_113 : decode cX10_crosses 113 = .ok (.iload_n 1, 1) := by decide +kernel
theorem dX10_crosses_114 : decode cX10_crosses 114 = .ok (.iaload, 1) := by decide +kernel
theorem dX10_crosses_115 : decode cX10_crosses 115 = .ok (.iaload, 1) := by decide +kernel
theorem dX10_crosses_116 : decode cX10_crosses 116 = .ok (.isub, 1) := by decide +kernel
theorem dX10_crosses_117 : decode cX10_crosses 117 = .ok (.i2l, 1) := by decide +kernel
theorem dX10_crosses_118 : decode cX10_crosses 118 = .ok (.lstore 6, 2) := by decide +kernel
theorem dX10_crosses_120 : decode cX10_crosses 120 = .ok (.aload_n 0, 1) := by decide +kernel
theorem dX10_crosses_121 : decode cX10_crosses 121 = .ok (.getfield 19, 3) := by decide +kernel
theorem dX10_crosses_124 : decode cX10_crosses 124 = .ok (.aload_n 0, 1) := by decide +kernel
theorem dX10_crosses_125 : decode cX10_crosses 125 = .ok (.getfield 31, 3) := by decide +kernel
theorem dX10_crosses_128 : decode cX10_crosses 128 = .ok (.iload_n 2, 1) := by decide +kernel
theorem dX10_crosses_129 : decode cX10_crosses 129 = .ok (.iaload, 1) := by decide +kernel
theorem dX10_crosses_130 : decode cX10_crosses 130 = .ok (.iaload, 1) := by decide +kernel
theorem dX10_crosses_131 : decode cX10_crosses 131 = .ok (.aload_n 0, 1) := by decide +kernel
theorem dX10_crosses_132 : decode cX10_crosses 132 = .ok (.getfield 19, 3) := by decide +kernel
theorem dX10_crosses_135 : decode cX10_crosses 135 = .ok (.aload_n 0, 1) := by decide +kernel
theorem dX10_crosses_136 : decode cX10_crosses 136 = .ok (.getfield 31, 3) := by decide +kernel
theorem dX10_crosses_139 : decode cX10_crosses 139 = .ok (.iload_n 1, 1) := by decide +kernel
theorem dX10_crosses_140 : decode cX10_crosses 140 = .ok (.iaload, 1) := by decide +kernel
theorem dX10_crosses_141 : decode cX10_crosses 141 = .ok (.iaload, 1) := by decide +kernel
theorem dX10_crosses_142 : decode cX10_crosses 142 = .ok (.isub, 1) := by decide +kernel
theorem dX10_crosses_143 : decode cX10_crosses 143 = .ok (.i2l, 1) := by decide +kernel
theorem dX10_crosses_144 : decode cX10_crosses 144 = .ok (.lstore 8, 2) := by decide +kernel
theorem dX10_crosses_146 : decode cX10_crosses 146 = .ok (.ldc2_w 209, 3) := by decide +kernel
theorem dX10_crosses_149 : decode cX10_crosses 149 = .ok (.lload 6, 2) := by decide +kernel
theorem dX10_crosses_151 : decode cX10_crosses 151 = .ok (.aload_n 0, 1) := by decide +kernel
theorem dX10_crosses_152 : decode cX10_crosses 152 = .ok (.iload 4, 2) := by decide +kernel
theorem dX10_crosses_154 : decode cX10_crosses 154 = .ok (.invokevirtual 152, 3) := by decide +kernel
theorem dX10_crosses_157 : decode cX10_crosses 157 = .ok (.i2l, 1) := by decide +kernel
theorem dX10_crosses_158 : decode cX10_crosses 158 = .ok (.lmul, 1) := by decide +kernel
theorem dX10_crosses_159 : decode cX10_crosses 159 = .ok (.lload 8, 2) := by decide +kernel
theorem dX10_crosses_161 : decode cX10_crosses 161 = .ok (.aload_n 0, 1) := by decide +kernel
theorem dX10_crosses_162 : decode cX10_crosses 162 = .ok (.iload 4, 2) := by decide +kernel
theorem dX10_crosses_164 : decode cX10_crosses 164 = .ok (.invokevirtual 137, 3) := by decide +kernel
theorem dX10_crosses_167 : decode cX10_crosses 167 = .ok (.i2l, 1) := by decide +kernel
theorem dX10_crosses_168 : decode cX10_crosses 168 = .ok (.lmul, 1) := by decide +kernel
theorem dX10_crosses_169 : decode cX10_crosses 169 = .ok (.lsub, 1) := by decide +kernel
theorem dX10_crosses_170 : decode cX10_crosses 170 = .ok (.lmul, 1) := by decide +kernel
theorem dX10_crosses_171 : decode cX10_crosses 171 = .ok (.iload 5, 2) := by decide +kernel
theorem dX10_crosses_173 : decode cX10_crosses 173 = .ok (.i2l, 1) := by decide +kernel
theorem dX10_crosses_174 : decode cX10_crosses 174 = .ok (.ldiv, 1) := by decide +kernel
theorem dX10_crosses_175 : decode cX10_crosses 175 = .ok (.lstore 10, 2) := by decide +kernel
theorem dX10_crosses_177 : decode cX10_crosses 177 = .ok (.ldc2_w 209, 3) := by decide +kernel
theorem dX10_crosses_180 : decode cX10_crosses 180 = .ok (.lload 6, 2) := by decide +kernel
theorem dX10_crosses_182 : decode cX10_crosses 182 = .ok (.aload_n 0, 1) := by decide +kernel
theorem dX10_crosses_183 : decode cX10_crosses 183 = .ok (.iload_n 3, 1) := by decide +kernel
theorem dX10_crosses_184 : decode cX10_crosses 184 = .ok (.invokevirtual 152, 3) := by decide +kernel
theorem dX10_crosses_187 : decode cX10_crosses 187 = .ok (.i2l, 1) := by decide +kernel
theorem dX10_crosses_188 : decode cX10_crosses 188 = .ok (.lmul, 1) := by decide +kernel
theorem dX10_crosses_189 : decode cX10_crosses 189 = .ok (.lload 8, 2) := by decide +kernel
theorem dX10_crosses_191 : decode cX10_crosses 191 = .ok (.aload_n 0, 1) := by decide +kernel
theorem dX10_crosses_192 : decode cX10_crosses 192 = .ok (.iload_n 3, 1) := by decide +kernel
theorem dX10_crosses_193 : decode cX10_crosses 193 = .ok (.invokevirtual 137, 3) := by decide +kernel
theorem dX10_crosses_196 : decode cX10_crosses 196 = .ok (.i2l, 1) := by decide +kernel
theorem dX10_crosses_197 : decode cX10_crosses 197 = .ok (.lmul, 1) := by decide +kernel
theorem dX10_crosses_198 : decode cX10_crosses 198 = .ok (.lsub, 1) := by decide +kernel
theorem dX10_crosses_199 : decode cX10_crosses 199 = .ok (.lmul, 1) := by decide +kernel
theorem dX10_crosses_200 : decode cX10_crosses 200 = .ok (.iload 5, 2) := by decide +kernel
theorem dX10_crosses_202 : decode cX10_crosses 202 = .ok (.i2l, 1) := by decide +kernel
theorem dX10_crosses_203 : decode cX10_crosses 203 = .ok (.ldiv, 1) := by decide +kernel
theorem dX10_crosses_204 : decode cX10_crosses 204 = .ok (.lstore 12, 2) := by decide +kernel
theorem dX10_crosses_206 : decode cX10_crosses 206 = .ok (.lload 10, 2) := by decide +kernel
theorem dX10_crosses_208 : decode cX10_crosses 208 = .ok (.lconst 1, 1) := by decide +kernel
theorem dX10_crosses_209 : decode cX10_crosses 209 = .ok (.ldc2_w 211, 3) := by decide +kernel
theorem dX10_crosses_212 : decode cX10_crosses 212 = .ok (.invokestatic 143, 3) := by decide +kernel
theorem dX10_crosses_215 : decode cX10_crosses 215 = .ok (.ifCond .eq 15, 3) := by decide +kernel
theorem dX10_crosses_218 : decode cX10_crosses 218 = .ok (.lload 12, 2) := by decide +kernel
theorem dX10_crosses_220 : decode cX10_crosses 220 = .ok (.lconst 1, 1) := by decide +kernel
theorem dX10_crosses_221 : decode cX10_crosses 221 = .ok (.ldc2_w 211, 3) := by decide +kernel
theorem dX10_crosses_224 : decode cX10_crosses 224 = .ok (.invokestatic 143, 3) := by decide +kernel
theorem dX10_crosses_227 : decode cX10_crosses 227 = .ok (.ifCond .ne 5, 3) := by decide +kernel
theorem dX10_crosses_230 : decode cX10_crosses 230 = .ok (.iconst 0, 1) := by decide +kernel
theorem dX10_crosses_231 : decode cX10_crosses 231 = .ok (.ireturn, 1) := by decide +kernel
theorem dX10_crosses_232 : decode cX10_crosses 232 = .ok (.aload_n 0, 1) := by decide +kernel
theorem dX10_crosses_233 : decode cX10_crosses 233 = .ok (.lload 10, 2) := by decide +kernel
theorem dX10_crosses_235 : decode cX10_crosses 235 = .ok (.l2i, 1) := by decide +kernel
theorem dX10_crosses_236 : decode cX10_crosses 236 = .ok (.putfield 213, 3) := by decide +kernel
theorem dX10_crosses_239 : decode cX10_crosses 239 = .ok (.aload_n 0, 1) := by decide +kernel
theorem dX10_crosses_240 : decode cX10_crosses 240 = .ok (.lload 12, 2) := by decide +kernel
theorem dX10_crosses_242 : decode cX10_crosses 242 = .ok (.l2i, 1) := by decide +kernel
theorem dX10_crosses_243 : decode cX10_crosses 243 = .ok (.putfield 216, 3) := by decide +kernel
theorem dX10_crosses_246 : decode cX10_crosses 246 = .ok (.aload_n 0, 1) := by decide +kernel
theorem dX10_crosses_247 : decode cX10_crosses 247 = .ok (.aload_n 0, 1) := by decide +kernel
theorem dX10_crosses_248 : decode cX10_crosses 248 = .ok (.getfield 213, 3) := by decide +kernel
theorem dX10_crosses_251 : decode cX10_crosses 251 = .ok (.aload_n 0, 1) := by decide +kernel
theorem dX10_crosses_252 : decode cX10_crosses 252 = .ok (.getfield 43, 3) := by decide +kernel
theorem dX10_crosses_255 : decode cX10_crosses 255 = .ok (.iload_n 1, 1) := by decide +kernel
theorem dX10_crosses_256 : decode cX10_crosses 256 = .ok (.iaload, 1) := by decide +kernel
theorem dX10_crosses_257 : decode cX10_crosses 257 = .ok (.invokevirtual 219, 3) := by decide +kernel
theorem dX10_crosses_260 : decode cX10_crosses 260 = .ok (.aload_n 0, 1) := by decide +kernel
theorem dX10_crosses_261 : decode cX10_crosses 261 = .ok (.aload_n 0, 1) := by decide +kernel
theorem dX10_crosses_262 : decode cX10_crosses 262 = .ok (.getfield 216, 3) := by decide +kernel
theorem dX10_crosses_265 : decode cX10_crosses 265 = .ok (.aload_n 0, 1) := by decide +kernel
theorem dX10_crosses_266 : decode cX10_crosses 266 = .ok (.getfield 43, 3) := by decide +kernel
theorem dX10_crosses_269 : decode cX10_crosses 269 = .ok (.iload_n 2, 1) := by decide +kernel
theorem dX10_crosses_270 : decode cX10_crosses 270 = .ok (.iaload, 1) := by decide +kernel
theorem dX10_crosses_271 : decode cX10_crosses 271 = .ok (.invokevirtual 219, 3) := by decide +kernel
theorem dX10_crosses_274 : decode cX10_crosses 274 = .ok (.isub, 1) := by decide +kernel
theorem dX10_crosses_275 : decode cX10_crosses 275 = .ok (.i2l, 1) := by decide +kernel
theorem dX10_crosses_276 : decode cX10_crosses 276 = .ok (.aload_n 0, 1) := by decide +kernel
theorem dX10_crosses_277 : decode cX10_crosses 277 = .ok (.getfield 52, 3) := by decide +kernel
theorem dX10_crosses_280 : decode cX10_crosses 280 = .ok (.ineg, 1) := by decide +kernel
theorem dX10_crosses_281 : decode cX10_crosses 281 = .ok (.i2l, 1) := by decide +kernel
theorem dX10_crosses_282 : decode cX10_crosses 282 = .ok (.aload_n 0, 1) := by decide +kernel
theorem dX10_crosses_283 : decode cX10_crosses 283 = .ok (.getfield 52, 3) := by decide +kernel
theorem dX10_crosses_286 : decode cX10_crosses 286 = .ok (.i2l, 1) := by decide +kernel
theorem dX10_crosses_287 : decode cX10_crosses 287 = .ok (.invokestatic 143, 3) := by decide +kernel
theorem dX10_crosses_290 : decode cX10_crosses 290 = .ok (.ireturn, 1) := by decide +kernel
theorem dX10_rise_0 : decode cX10_rise 0 = .ok (.iload_n 1, 1) := by decide +kernel
theorem dX10_rise_1 : decode cX10_rise 1 = .ok (.aload_n 0, 1) := by decide +kernel
theorem dX10_rise_2 : decode cX10_rise 2 = .ok (.getfield 13, 3) := by decide +kernel
theorem dX10_rise_5 : decode cX10_rise 5 = .ok (.iload_n 2, 1) := by decide +kernel
theorem dX10_rise_6 : decode cX10_rise 6 = .ok (.iaload, 1) := by decide +kernel
theorem dX10_rise_7 : decode cX10_rise 7 = .ok (.imul, 1) := by decide +kernel
theorem dX10_rise_8 : decode cX10_rise 8 = .ok (.sipush 1000, 3) := by decide +kernel
theorem dX10_rise_11 : decode cX10_rise 11 = .ok (.idiv, 1) := by decide +kernel
theorem dX10_rise_12 : decode cX10_rise 12 = .ok (.ireturn, 1) := by decide +kernel
theorem dX10_areMet_0 : decode cX10_areMet 0 = .ok (.aload_n 0, 1) := by decide +kernel
theorem dX10_areMet_1 : decode cX10_areMet 1 = .ok (.iload_n 1, 1) := by decide +kernel
theorem dX10_areMet_2 : decode cX10_areMet 2 = .ok (.iload_n 2, 1) := by decide +kernel
theorem dX10_areMet_3 : decode cX10_areMet 3 = .ok (.invokevirtual 223, 3) := by decide +kernel
theorem dX10_areMet_6 : decode cX10_areMet 6 = .ok (.ifCond .eq 48, 3) := by decide +kernel
theorem dX10_areMet_9 : decode cX10_areMet 9 = .ok (.aload_n 0, 1) := by decide +kernel
theorem dX10_areMet_10 : decode cX10_areMet 10 = .ok (.getfield 34, 3) := by decide +kernel
theorem dX10_areMet_13 : decode cX10_areMet 13 = .ok (.iload_n 1, 1) := by decide +kernel
theorem dX10_areMet_14 : decode cX10_areMet 14 = .ok (.iaload, 1) := by decide +kernel
theorem dX10_areMet_15 : decode cX10_areMet 15 = .ok (.aload_n 0, 1) := by decide +kernel
theorem dX10_areMet_16 : decode cX10_areMet 16 = .ok (.getfield 34, 3) := by decide +kernel
theorem dX10_areMet_19 : decode cX10_areMet 19 = .ok (.iload_n 2, 1) := by decide +kernel
theorem dX10_areMet_20 : decode cX10_areMet 20 = .ok (.iaload, 1) := by decide +kernel
theorem dX10_areMet_21 : decode cX10_areMet 21 = .ok (.if_icmp .ne 33, 3) := by decide +kernel
theorem dX10_areMet_24 : decode cX10_areMet 24 = .ok (.aload_n 0, 1) := by decide +kernel
theorem dX10_areMet_25 : decode cX10_areMet 25 = .ok (.iload_n 1, 1) := by decide +kernel
theorem dX10_areMet_26 : decode cX10_areMet 26 = .ok (.invokevirtual 197, 3) := by decide +kernel
theorem dX10_areMet_29 : decode cX10_areMet 29 = .ok (.aload_n 0, 1) := by decide +kernel
theorem dX10_areMet_30 : decode cX10_areMet 30 = .ok (.iload_n 2, 1) := by decide +kernel
theorem dX10_areMet_31 : decode cX10_areMet 31 = .ok (.invokevirtual 200, 3) := by decide +kernel
theorem dX10_areMet_34 : decode cX10_areMet 34 = .ok (.if_icmp .gt 20, 3) := by decide +kernel
theorem dX10_areMet_37 : decode cX10_areMet 37 = .ok (.aload_n 0, 1) := by decide +kernel
theorem dX10_areMet_38 : decode cX10_areMet 38 = .ok (.iload_n 2, 1) := by decide +kernel
theorem dX10_areMet_39 : decode cX10_areMet 39 = .ok (.invokevirtual 197, 3) := by decide +kernel
theorem dX10_areMet_42 : decode cX10_areMet 42 = .ok (.aload_n 0, 1) := by decide +kernel
theorem dX10_areMet_43 : decode cX10_areMet 43 = .ok (.iload_n 1, 1) := by decide +kernel
theorem dX10_areMet_44 : decode cX10_areMet 44 = .ok (.invokevirtual 200, 3) := by decide +kernel
theorem dX10_areMet_47 : decode cX10_areMet 47 = .ok (.if_icmp .gt 7, 3) := by decide +kernel
theorem dX10_areMet_50 : decode cX10_areMet 50 = .ok (.iconst 1, 1) := by decide +kernel
theorem dX10_areMet_51 : decode cX10_areMet 51 = .ok (.goto 4, 3) := by decide +kernel
theorem dX10_areMet_54 : decode cX10_areMet 54 = .ok (.iconst 0, 1) := by decide +kernel
theorem dX10_areMet_55 : decode cX10_areMet 55 = .ok (.ireturn, 1) := by decide +kernel
theorem dX10_meets_0 : decode cX10_meets 0 = .ok (.aload_n 0, 1) := by decide +kernel
theorem dX10_meets_1 : decode cX10_meets 1 = .ok (.iload_n 1, 1) := by decide +kernel
theorem dX10_meets_2 : decode cX10_meets 2 = .ok (.invokevirtual 194, 3) := by decide +kernel
theorem dX10_meets_5 : decode cX10_meets 5 = .ok (.ifCond .eq 16, 3) := by decide +kernel
theorem dX10_meets_8 : decode cX10_meets 8 = .ok (.aload_n 0, 1) := by decide +kernel
theorem dX10_meets_9 : decode cX10_meets 9 = .ok (.iload_n 2, 1) := by decide +kernel
theorem dX10_meets_10 : decode cX10_meets 10 = .ok (.invokevirtual 194, 3) := by decide +kernel
theorem dX10_meets_13 : decode cX10_meets 13 = .ok (.ifCond .eq 8, 3) := by decide +kernel
theorem dX10_meets_16 : decode cX10_meets 16 = .ok (.iload_n 1, 1) := by decide +kernel
theorem dX10_meets_17 : decode cX10_meets 17 = .ok (.iload_n 2, 1) := by decide +kernel
theorem dX10_meets_18 : decode cX10_meets 18 = .ok (.if_icmp .ne 5, 3) := by decide +kernel
theorem dX10_meets_21 : decode cX10_meets 21 = .ok (.iconst (-1), 1) := by decide +kernel
theorem dX10_meets_22 : decode cX10_meets 22 = .ok (.ireturn, 1) := by decide +kernel
theorem dX10_meets_23 : decode cX10_meets 23 = .ok (.aload_n 0, 1) := by decide +kernel
theorem dX10_meets_24 : decode cX10_meets 24 = .ok (.getfield 28, 3) := by decide +kernel
theorem dX10_meets_27 : decode cX10_meets 27 = .ok (.iload_n 1, 1) := by decide +kernel
theorem dX10_meets_28 : decode cX10_meets 28 = .ok (.iaload, 1) := by decide +kernel
theorem dX10_meets_29 : decode cX10_meets 29 = .ok (.ifCond .eq 12, 3) := by decide +kernel
theorem dX10_meets_32 : decode cX10_meets 32 = .ok (.aload_n 0, 1) := by decide +kernel
theorem dX10_meets_33 : decode cX10_meets 33 = .ok (.getfield 28, 3) := by decide +kernel
theorem dX10_meets_36 : decode cX10_meets 36 = .ok (.iload_n 2, 1) := by decide +kernel
theorem dX10_meets_37 : decode cX10_meets 37 = .ok (.iaload, 1) := by decide +kernel
theorem dX10_meets_38 : decode cX10_meets 38 = .ok (.ifCond .ne 6, 3) := by decide +kernel
theorem dX10_meets_41 : decode cX10_meets 41 = .ok (.bipush (-12), 2) := by decide +kernel
theorem dX10_meets_43 : decode cX10_meets 43 = .ok (.ireturn, 1) := by decide +kernel
theorem dX10_meets_44 : decode cX10_meets 44 = .ok (.aload_n 0, 1) := by decide +kernel
theorem dX10_meets_45 : decode cX10_meets 45 = .ok (.iload_n 1, 1) := by decide +kernel
theorem dX10_meets_46 : decode cX10_meets 46 = .ok (.iload_n 2, 1) := by decide +kernel
theorem dX10_meets_47 : decode cX10_meets 47 = .ok (.invokevirtual 227, 3) := by decide +kernel
theorem dX10_meets_50 : decode cX10_meets 50 = .ok (.ifCond .eq 7, 3) := by decide +kernel
theorem dX10_meets_53 : decode cX10_meets 53 = .ok (.iconst 2, 1) := by decide +kernel
theorem dX10_meets_54 : decode cX10_meets 54 = .ok (.goto 17, 3) := by decide +kernel
theorem dX10_meets_57 : decode cX10_meets 57 = .ok (.aload_n 0, 1) := by decide +kernel
theorem dX10_meets_58 : decode cX10_meets 58 = .ok (.iload_n 1, 1) := by decide +kernel
theorem dX10_meets_59 : decode cX10_meets 59 = .ok (.iload_n 2, 1) := by decide +kernel
theorem dX10_meets_60 : decode cX10_meets 60 = .ok (.invokevirtual 223, 3) := by decide +kernel
theorem dX10_meets_63 : decode cX10_meets 63 = .ok (.ifCond .eq 7, 3) := by decide +kernel
theorem dX10_meets_66 : decode cX10_meets 66 = .ok (.iconst 1, 1) := by decide +kernel
theorem dX10_meets_67 : decode cX10_meets 67 = .ok (.goto 4, 3) := by decide +kernel
theorem dX10_meets_70 : decode cX10_meets 70 = .ok (.iconst 0, 1) := by decide +kernel
theorem dX10_meets_71 : decode cX10_meets 71 = .ok (.ireturn, 1) := by decide +kernel
theorem dX10_crossPart_0 : decode cX10_crossPart 0 = .ok (.aload_n 0, 1) := by decide +kernel
theorem dX10_crossPart_1 : decode cX10_crossPart 1 = .ok (.iload_n 1, 1) := by decide +kernel
theorem dX10_crossPart_2 : decode cX10_crossPart 2 = .ok (.iload_n 2, 1) := by decide +kernel
theorem dX10_crossPart_3 : decode cX10_crossPart 3 = .ok (.invokevirtual 223, 3) := by decide +kernel
theorem dX10_crossPart_6 : decode cX10_crossPart 6 = .ok (.istore 4, 2) := by decide +kernel
theorem dX10_crossPart_8 : decode cX10_crossPart 8 = .ok (.aload_n 0, 1) := by decide +kernel
theorem dX10_crossPart_9 : decode cX10_crossPart 9 = .ok (.getfield 16, 3) := by decide +kernel
theorem dX10_crossPart_12 : decode cX10_crossPart 12 = .ok (.aload_n 0, 1) := by decide +kernel
theorem dX10_crossPart_13 : decode cX10_crossPart 13 = .ok (.getfield 31, 3) := by decide +kernel
theorem dX10_crossPart_16 : decode cX10_crossPart 16 = .ok (.iload_n 1, 1) := by decide +kernel
theorem dX10_crossPart_17 : decode cX10_crossPart 17 = .ok (.iaload, 1) := by decide +kernel
theorem dX10_crossPart_18 : decode cX10_crossPart 18 = .ok (.iaload, 1) := by decide +kernel
theorem dX10_crossPart_19 : decode cX10_crossPart 19 = .ok (.aload_n 0, 1) := by decide +kernel
theorem dX10_crossPart_20 : decode cX10_crossPart 20 = .ok (.getfield 213, 3) := by decide +kernel
theorem dX10_crossPart_23 : decode cX10_crossPart 23 = .ok (.aload_n 0, 1) := by decide +kernel
theorem dX10_crossPart_24 : decode cX10_crossPart 24 = .ok (.aload_n 0, 1) := by decide +kernel
theorem dX10_crossPart_25 : decode cX10_crossPart 25 = .ok (.getfield 40, 3) := by decide +kernel
theorem dX10_crossPart_28 : decode cX10_crossPart 28 = .ok (.iload_n 1, 1) := by decide +kernel
theorem dX10_crossPart_29 : decode cX10_crossPart 29 = .ok (.iaload, 1) := by decide +kernel
theorem dX10_crossPart_30 : decode cX10_crossPart 30 = .ok (.invokevirtual 137, 3) := by decide +kernel
theorem dX10_crossPart_33 : decode cX10_crossPart 33 = .ok (.imul, 1) := by decide +kernel
theorem dX10_crossPart_34 : decode cX10_crossPart 34 = .ok (.sipush 1000, 3) := by decide +kernel
theorem dX10_crossPart_37 : decode cX10_crossPart 37 = .ok (.idiv, 1) := by decide +kernel
theorem dX10_crossPart_38 : decode cX10_crossPart 38 = .ok (.iadd, 1) := by decide +kernel
theorem dX10_crossPart_39 : decode cX10_crossPart 39 = .ok (.istore 5, 2) := by decide +kernel
theorem dX10_crossPart_41 : decode cX10_crossPart 41 = .ok (.aload_n 0, 1) := by decide +kernel
theorem dX10_crossPart_42 : decode cX10_crossPart 42 = .ok (.getfield 19, 3) := by decide +kernel
theorem dX10_crossPart_45 : decode cX10_crossPart 45 = .ok (.aload_n 0, 1) := by decide +kernel
theorem dX10_crossPart_46 : decode cX10_crossPart 46 = .ok (.getfield 31, 3) := by decide +kernel
theorem dX10_crossPart_49 : decode cX10_crossPart 49 = .ok (.iload_n 1, 1) := by decide +kernel
theorem dX10_crossPart_50 : decode cX10_crossPart 50 = .ok (.iaload, 1) := by decide +kernel
theorem dX10_crossPart_51 : decode cX10_crossPart 51 = .ok (.iaload, 1) := by decide +kernel
theorem dX10_crossPart_52 : decode cX10_crossPart 52 = .ok (.aload_n 0, 1) := by decide +kernel
theorem dX10_crossPart_53 : decode cX10_crossPart 53 = .ok (.getfield 213, 3) := by decide +kernel
theorem dX10_crossPart_56 : decode cX10_crossPart 56 = .ok (.aload_n 0, 1) := by decide +kernel
theorem dX10_crossPart_57 : decode cX10_crossPart 57 = .ok (.aload_n 0, 1) := by decide +kernel
theorem dX10_crossPart_58 : decode cX10_crossPart 58 = .ok (.getfield 40, 3) := by decide +kernel
theorem dX10_crossPart_61 : decode cX10_crossPart 61 = .ok (.iload_n 1, 1) := by decide +kernel
theorem dX10_crossPart_62 : decode cX10_crossPart 62 = .ok (.iaload, 1) := by decide +kernel
theorem dX10_crossPart_63 : decode cX10_crossPart 63 = .ok (.invokevirtual 152, 3) := by decide +kernel
theorem dX10_crossPart_66 : decode cX10_crossPart 66 = .ok (.imul, 1) := by decide +kernel
theorem dX10_crossPart_67 : decode cX10_crossPart 67 = .ok (.sipush 1000, 3) := by decide +kernel
theorem dX10_crossPart_70 : decode cX10_crossPart 70 = .ok (.idiv, 1) := by decide +kernel
theorem dX10_crossPart_71 : decode cX10_crossPart 71 = .ok (.iadd, 1) := by decide +kernel
theorem dX10_crossPart_72 : decode cX10_crossPart 72 = .ok (.istore 6, 2) := by decide +kernel
theorem dX10_crossPart_74 : decode cX10_crossPart 74 = .ok (.iload_n 3, 1) := by decide +kernel
theorem dX10_crossPart_75 : decode cX10_crossPart 75 = .ok (.ifCond .ne 8, 3) := by decide +kernel
theorem dX10_crossPart_78 : decode cX10_crossPart 78 = .ok (.iload 5, 2) := by decide +kernel
theorem dX10_crossPart_80 : decode cX10_crossPart 80 = .ok (.goto 53, 3) := by decide +kernel
theorem dX10_crossPart_83 : decode cX10_crossPart 83 = .ok (.iload_n 3, 1) := by decide +kernel
theorem dX10_crossPart_84 : decode cX10_crossPart 84 = .ok (.iconst 1, 1) := by decide +kernel
theorem dX10_crossPart_85 : decode cX10_crossPart 85 = .ok (.if_icmp .ne 8, 3) := by decide +kernel
theorem dX10_crossPart_88 : decode cX10_crossPart 88 = .ok (.iload 6, 2) := by decide +kernel
theorem dX10_crossPart_90 : decode cX10_crossPart 90 = .ok (.goto 43, 3) := by decide +kernel
theorem dX10_crossPart_93 : decode cX10_crossPart 93 = .ok (.iload 4, 2) := by decide +kernel
theorem dX10_crossPart_95 : decode cX10_crossPart 95 = .ok (.ifCond .eq 37, 3) := by decide +kernel
theorem dX10_crossPart_98 : decode cX10_crossPart 98 = .ok (.aload_n 0, 1) := by decide +kernel
theorem dX10_crossPart_99 : decode cX10_crossPart 99 = .ok (.aload_n 0, 1) := by decide +kernel
theorem dX10_crossPart_100 : decode cX10_crossPart 100 = .ok (.getfield 213, 3) := by decide +kernel
theorem dX10_crossPart_103 : decode cX10_crossPart 103 = .ok (.aload_n 0, 1) := by decide +kernel
theorem dX10_crossPart_104 : decode cX10_crossPart 104 = .ok (.getfield 43, 3) := by decide +kernel
theorem dX10_crossPart_107 : decode cX10_crossPart 107 = .ok (.iload_n 1, 1) := by decide +kernel
theorem dX10_crossPart_108 : decode cX10_crossPart 108 = .ok (.iaload, 1) := by decide +kernel
theorem dX10_crossPart_109 : decode cX10_crossPart 109 = .ok (.invokevirtual 219, 3) := by decide +kernel
theorem dX10_crossPart_112 : decode cX10_crossPart 112 = .ok (.aload_n 0, 1) := by decide +kernel
theorem dX10_crossPart_113 : decode cX10_crossPart 113 = .ok (.aload_n 0, 1) := by decide +kernel
theorem dX10_crossPart_114 : decode cX10_crossPart 114 = .ok (.getfield 216, 3) := by decide +kernel
theorem dX10_crossPart_117 : decode cX10_crossPart 117 = .ok (.aload_n 0, 1) := by decide +kernel
theorem dX10_crossPart_118 : decode cX10_crossPart 118 = .ok (.getfield 43, 3) := by decide +kernel
theorem dX10_crossPart_121 : decode cX10_crossPart 121 = .ok (.iload_n 2, 1) := by decide +kernel
theorem dX10_crossPart_122 : decode cX10_crossPart 122 = .ok (.iaload, 1) := by decide +kernel
theorem dX10_crossPart_123 : decode cX10_crossPart 123 = .ok (.invokevirtual 219, 3) := by decide +kernel
theorem dX10_crossPart_126 : decode cX10_crossPart 126 = .ok (.iadd, 1) := by decide +kernel
theorem dX10_crossPart_127 : decode cX10_crossPart 127 = .ok (.iconst 2, 1) := by decide +kernel
theorem dX10_crossPart_128 : decode cX10_crossPart 128 = .ok (.idiv, 1) := by decide +kernel
theorem dX10_crossPart_129 : decode cX10_crossPart 129 = .ok (.goto 4, 3) := by decide +kernel
theorem dX10_crossPart_132 : decode cX10_crossPart 132 = .ok (.iconst 0, 1) := by decide +kernel
theorem dX10_crossPart_133 : decode cX10_crossPart 133 = .ok (.ireturn, 1) := by decide +kernel
theorem dX10_cross_0 : decode cX10_cross 0 = .ok (.aload_n 0, 1) := by decide +kernel
theorem dX10_cross_1 : decode cX10_cross 1 = .ok (.iload_n 1, 1) := by decide +kernel
theorem dX10_cross_2 : decode cX10_cross 2 = .ok (.invokevirtual 194, 3) := by decide +kernel
theorem dX10_cross_5 : decode cX10_cross 5 = .ok (.ifCond .eq 28, 3) := by decide +kernel
theorem dX10_cross_8 : decode cX10_cross 8 = .ok (.aload_n 0, 1) := by decide +kernel
theorem dX10_cross_9 : decode cX10_cross 9 = .ok (.iload_n 2, 1) := by decide +kernel
theorem dX10_cross_10 : decode cX10_cross 10 = .ok (.invokevirtual 194, 3) := by decide +kernel
theorem dX10_cross_13 : decode cX10_cross 13 = .ok (.ifCond .eq 20, 3) := by decide +kernel
theorem dX10_cross_16 : decode cX10_cross 16 = .ok (.iload_n 1, 1) := by decide +kernel
theorem dX10_cross_17 : decode cX10_cross 17 = .ok (.iload_n 2, 1) := by decide +kernel
theorem dX10_cross_18 : decode cX10_cross 18 = .ok (.if_icmp .eq 15, 3) := by decide +kernel
theorem dX10_cross_21 : decode cX10_cross 21 = .ok (.iload_n 3, 1) := by decide +kernel
theorem dX10_cross_22 : decode cX10_cross 22 = .ok (.i2l, 1) := by decide +kernel
theorem dX10_cross_23 : decode cX10_cross 23 = .ok (.lconst 0, 1) := by decide +kernel
theorem dX10_cross_24 : decode cX10_cross 24 = .ok (.ldc2_w 230, 3) := by decide +kernel
theorem dX10_cross_27 : decode cX10_cross 27 = .ok (.invokestatic 143, 3) := by decide +kernel
theorem dX10_cross_30 : decode cX10_cross 30 = .ok (.ifCond .ne 6, 3) := by decide +kernel
theorem dX10_cross_33 : decode cX10_cross 33 = .ok (.ldc 151, 2) := by decide +kernel
theorem dX10_cross_35 : decode cX10_cross 35 = .ok (.ireturn, 1) := by decide +kernel
theorem dX10_cross_36 : decode cX10_cross 36 = .ok (.aload_n 0, 1) := by decide +kernel
theorem dX10_cross_37 : decode cX10_cross 37 = .ok (.getfield 28, 3) := by decide +kernel
theorem dX10_cross_40 : decode cX10_cross 40 = .ok (.iload_n 1, 1) := by decide +kernel
theorem dX10_cross_41 : decode cX10_cross 41 = .ok (.iaload, 1) := by decide +kernel
theorem dX10_cross_42 : decode cX10_cross 42 = .ok (.ifCond .eq 12, 3) := by decide +kernel
theorem dX10_cross_45 : decode cX10_cross 45 = .ok (.aload_n 0, 1) := by decide +kernel
theorem dX10_cross_46 : decode cX10_cross 46 = .ok (.getfield 28, 3) := by decide +kernel
theorem dX10_cross_49 : decode cX10_cross 49 = .ok (.iload_n 2, 1) := by decide +kernel
theorem dX10_cross_50 : decode cX10_cross 50 = .ok (.iaload, 1) := by decide +kernel
theorem dX10_cross_51 : decode cX10_cross 51 = .ok (.ifCond .ne 6, 3) := by decide +kernel
theorem dX10_cross_54 : decode cX10_cross 54 = .ok (.ldc 232, 2) := by decide +kernel
theorem dX10_cross_56 : decode cX10_cross 56 = .ok (.ireturn, 1) := by decide +kernel
theorem dX10_cross_57 : decode cX10_cross 57 = .ok (.aload_n 0, 1) := by decide +kernel
theorem dX10_cross_58 : decode cX10_cross 58 = .ok (.iload_n 1, 1) := by decide +kernel
theorem dX10_cross_59 : decode cX10_cross 59 = .ok (.iload_n 2, 1) := by decide +kernel
theorem dX10_cross_60 : decode cX10_cross 60 = .ok (.invokevirtual 223, 3) := by decide +kernel
theorem dX10_cross_63 : decode cX10_cross 63 = .ok (.ifCond .ne 6, 3) := by decide +kernel
theorem dX10_cross_66 : decode cX10_cross 66 = .ok (.ldc 233, 2) := by decide +kernel
theorem dX10_cross_68 : decode cX10_cross 68 = .ok (.ireturn, 1) := by decide +kernel
theorem dX10_cross_69 : decode cX10_cross 69 = .ok (.iload_n 3, 1) := by decide +kernel
theorem dX10_cross_70 : decode cX10_cross 70 = .ok (.tableswitch 142 3 6 #[30, 81, 132, 137], 30) := by decide +kernel
theorem dX10_cross_100 : decode cX10_cross 100 = .ok (.aload_n 0, 1) := by decide +kernel
theorem dX10_cross_101 : decode cX10_cross 101 = .ok (.aload_n 0, 1) := by decide +kernel
theorem dX10_cross_102 : decode cX10_cross 102 = .ok (.getfield 213, 3) := by decide +kernel
theorem dX10_cross_105 : decode cX10_cross 105 = .ok (.aload_n 0, 1) := by decide +kernel
theorem dX10_cross_106 : decode cX10_cross 106 = .ok (.getfield 43, 3) := by decide +kernel
theorem dX10_cross_109 : decode cX10_cross 109 = .ok (.iload_n 1, 1) := by decide +kernel
theorem dX10_cross_110 : decode cX10_cross 110 = .ok (.iaload, 1) := by decide +kernel
theorem dX10_cross_111 : decode cX10_cross 111 = .ok (.iconst 1, 1) := by decide +kernel
theorem dX10_cross_112 : decode cX10_cross 112 = .ok (.isub, 1) := by decide +kernel
theorem dX10_cross_113 : decode cX10_cross 113 = .ok (.invokevirtual 219, 3) := by decide +kernel
theorem dX10_cross_116 : decode cX10_cross 116 = .ok (.istore 4, 2) := by decide +kernel
theorem dX10_cross_118 : decode cX10_cross 118 = .ok (.aload_n 0, 1) := by decide +kernel
theorem dX10_cross_119 : decode cX10_cross 119 = .ok (.aload_n 0, 1) := by decide +kernel
theorem dX10_cross_120 : decode cX10_cross 120 = .ok (.getfield 216, 3) := by decide +kernel
theorem dX10_cross_123 : decode cX10_cross 123 = .ok (.aload_n 0, 1) := by decide +kernel
theorem dX10_cross_124 : decode cX10_cross 124 = .ok (.getfield 43, 3) := by decide +kernel
theorem dX10_cross_127 : decode cX10_cross 127 = .ok (.iload_n 2, 1) := by decide +kernel
theorem dX10_cross_128 : decode cX10_cross 128 = .ok (.iaload, 1) := by decide +kernel
theorem dX10_cross_129 : decode cX10_cross 129 = .ok (.iconst 1, 1) := by decide +kernel
theorem dX10_cross_130 : decode cX10_cross 130 = .ok (.isub, 1) := by decide +kernel
theorem dX10_cross_131 : decode cX10_cross 131 = .ok (.invokevirtual 219, 3) := by decide +kernel
theorem dX10_cross_134 : decode cX10_cross 134 = .ok (.istore 5, 2) := by decide +kernel
theorem dX10_cross_136 : decode cX10_cross 136 = .ok (.iload 4, 2) := by decide +kernel
theorem dX10_cross_138 : decode cX10_cross 138 = .ok (.iload 5, 2) := by decide +kernel
theorem dX10_cross_140 : decode cX10_cross 140 = .ok (.if_icmp .le 8, 3) := by decide +kernel
theorem dX10_cross_143 : decode cX10_cross 143 = .ok (.iload 4, 2) := by decide +kernel
theorem dX10_cross_145 : decode cX10_cross 145 = .ok (.goto 5, 3) := by decide +kernel
theorem dX10_cross_148 : decode cX10_cross 148 = .ok (.iload 5, 2) := by decide +kernel
theorem dX10_cross_150 : decode cX10_cross 150 = .ok (.ireturn, 1) := by decide +kernel
theorem dX10_cross_151 : decode cX10_cross 151 = .ok (.aload_n 0, 1) := by decide +kernel
theorem dX10_cross_152 : decode cX10_cross 152 = .ok (.aload_n 0, 1) := by decide +kernel
theorem dX10_cross_153 : decode cX10_cross 153 = .ok (.getfield 213, 3) := by decide +kernel
theorem dX10_cross_156 : decode cX10_cross 156 = .ok (.aload_n 0, 1) := by decide +kernel
theorem dX10_cross_157 : decode cX10_cross 157 = .ok (.getfield 43, 3) := by decide +kernel
theorem dX10_cross_160 : decode cX10_cross 160 = .ok (.iload_n 1, 1) := by decide +kernel
theorem dX10_cross_161 : decode cX10_cross 161 = .ok (.iaload, 1) := by decide +kernel
theorem dX10_cross_162 : decode cX10_cross 162 = .ok (.iconst 1, 1) := by decide +kernel
theorem dX10_cross_163 : decode cX10_cross 163 = .ok (.iadd, 1) := by decide +kernel
theorem dX10_cross_164 : decode cX10_cross 164 = .ok (.invokevirtual 219, 3) := by decide +kernel
theorem dX10_cross_167 : decode cX10_cross 167 = .ok (.istore 4, 2) := by decide +kernel
theorem dX10_cross_169 : decode cX10_cross 169 = .ok (.aload_n 0, 1) := by decide +kernel
theorem dX10_cross_170 : decode cX10_cross 170 = .ok (.aload_n 0, 1) := by decide +kernel
theorem dX10_cross_171 : decode cX10_cross 171 = .ok (.getfield 216, 3) := by decide +kernel
theorem dX10_cross_174 : decode cX10_cross 174 = .ok (.aload_n 0, 1) := by decide +kernel
theorem dX10_cross_175 : decode cX10_cross 175 = .ok (.getfield 43, 3) := by decide +kernel
theorem dX10_cross_178 : decode cX10_cross 178 = .ok (.iload_n 2, 1) := by decide +kernel
theorem dX10_cross_179 : decode cX10_cross 179 = .ok (.iaload, 1) := by decide +kernel
theorem dX10_cross_180 : decode cX10_cross 180 = .ok (.iconst 1, 1) := by decide +kernel
theorem dX10_cross_181 : decode cX10_cross 181 = .ok (.iadd, 1) := by decide +kernel
theorem dX10_cross_182 : decode cX10_cross 182 = .ok (.invokevirtual 219, 3) := by decide +kernel
theorem dX10_cross_185 : decode cX10_cross 185 = .ok (.istore 5, 2) := by decide +kernel
theorem dX10_cross_187 : decode cX10_cross 187 = .ok (.iload 4, 2) := by decide +kernel
theorem dX10_cross_189 : decode cX10_cross 189 = .ok (.iload 5, 2) := by decide +kernel
theorem dX10_cross_191 : decode cX10_cross 191 = .ok (.if_icmp .ge 8, 3) := by decide +kernel
theorem dX10_cross_194 : decode cX10_cross 194 = .ok (.iload 4, 2) := by decide +kernel
theorem dX10_cross_196 : decode cX10_cross 196 = .ok (.goto 5, 3) := by decide +kernel
theorem dX10_cross_199 : decode cX10_cross 199 = .ok (.iload 5, 2) := by decide +kernel
theorem dX10_cross_201 : decode cX10_cross 201 = .ok (.ireturn, 1) := by decide +kernel
theorem dX10_cross_202 : decode cX10_cross 202 = .ok (.aload_n 0, 1) := by decide +kernel
theorem dX10_cross_203 : decode cX10_cross 203 = .ok (.getfield 213, 3) := by decide +kernel
theorem dX10_cross_206 : decode cX10_cross 206 = .ok (.ireturn, 1) := by decide +kernel
theorem dX10_cross_207 : decode cX10_cross 207 = .ok (.aload_n 0, 1) := by decide +kernel
theorem dX10_cross_208 : decode cX10_cross 208 = .ok (.getfield 216, 3) := by decide +kernel
theorem dX10_cross_211 : decode cX10_cross 211 = .ok (.ireturn, 1) := by decide +kernel
theorem dX10_cross_212 : decode cX10_cross 212 = .ok (.aload_n 0, 1) := by decide +kernel
theorem dX10_cross_213 : decode cX10_cross 213 = .ok (.iload_n 1, 1) := by decide +kernel
theorem dX10_cross_214 : decode cX10_cross 214 = .ok (.iload_n 2, 1) := by decide +kernel
theorem dX10_cross_215 : decode cX10_cross 215 = .ok (.iload_n 3, 1) := by decide +kernel
theorem dX10_cross_216 : decode cX10_cross 216 = .ok (.invokevirtual 234, 3) := by decide +kernel
theorem dX10_cross_219 : decode cX10_cross 219 = .ok (.ireturn, 1) := by decide +kernel
theorem dX10_listNight_0 : decode cX10_listNight 0 = .ok (.aload_n 0, 1) := by decide +kernel
theorem dX10_listNight_1 : decode cX10_listNight 1 = .ok (.iconst 0, 1) := by decide +kernel
theorem dX10_listNight_2 : decode cX10_listNight 2 = .ok (.putfield 238, 3) := by decide +kernel
theorem dX10_listNight_5 : decode cX10_listNight 5 = .ok (.iconst 0, 1) := by decide +kernel
theorem dX10_listNight_6 : decode cX10_listNight 6 = .ok (.istore_n 2, 1) := by decide +kernel
theorem dX10_listNight_7 : decode cX10_listNight 7 = .ok (.iload_n 2, 1) := by decide +kernel
theorem dX10_listNight_8 : decode cX10_listNight 8 = .ok (.aload_n 0, 1) := by decide +kernel
theorem dX10_listNight_9 : decode cX10_listNight 9 = .ok (.getfield 177, 3) := by decide +kernel
theorem dX10_listNight_12 : decode cX10_listNight 12 = .ok (.if_icmp .ge 48, 3) := by decide +kernel
theorem dX10_listNight_15 : decode cX10_listNight 15 = .ok (.aload_n 0, 1) := by decide +kernel
theorem dX10_listNight_16 : decode cX10_listNight 16 = .ok (.getfield 34, 3) := by decide +kernel
theorem dX10_listNight_19 : decode cX10_listNight 19 = .ok (.iload_n 2, 1) := by decide +kernel
theorem dX10_listNight_20 : decode cX10_listNight 20 = .ok (.iaload, 1) := by decide +kernel
theorem dX10_listNight_21 : decode cX10_listNight 21 = .ok (.iload_n 1, 1) := by decide +kernel
theorem dX10_listNight_22 : decode cX10_listNight 22 = .ok (.if_icmp .ne 32, 3) := by decide +kernel
theorem dX10_listNight_25 : decode cX10_listNight 25 = .ok (.aload_n 0, 1) := by decide +kernel
theorem dX10_listNight_26 : decode cX10_listNight 26 = .ok (.getfield 28, 3) := by decide +kernel
theorem dX10_listNight_29 : decode cX10_listNight 29 = .ok (.iload_n 2, 1) := by decide +kernel
theorem dX10_listNight_30 : decode cX10_listNight 30 = .ok (.iaload, 1) := by decide +kernel
theorem dX10_listNight_31 : decode cX10_listNight 31 = .ok (.ifCond .le 23, 3) := by decide +kernel
theorem dX10_listNight_34 : decode cX10_listNight 34 = .ok (.aload_n 0, 1) := by decide +kernel
theorem dX10_listNight_35 : decode cX10_listNight 35 = .ok (.getfield 56, 3) := by decide +kernel
theorem dX10_listNight_38 : decode cX10_listNight 38 = .ok (.aload_n 0, 1) := by decide +kernel
theorem dX10_listNight_39 : decode cX10_listNight 39 = .ok (.getfield 238, 3) := by decide +kernel
theorem dX10_listNight_42 : decode cX10_listNight 42 = .ok (.iload_n 2, 1) := by decide +kernel
theorem dX10_listNight_43 : decode cX10_listNight 43 = .ok (.iastore, 1) := by decide +kernel
theorem dX10_listNight_44 : decode cX10_listNight 44 = .ok (.aload_n 0, 1) := by decide +kernel
theorem dX10_listNight_45 : decode cX10_listNight 45 = .ok (.dup, 1) := by decide +kernel
theorem dX10_listNight_46 : decode cX10_listNight 46 = .ok (.getfield 238, 3) := by decide +kernel
theorem dX10_listNight_49 : decode cX10_listNight 49 = .ok (.iconst 1, 1) := by decide +kernel
theorem dX10_listNight_50 : decode cX10_listNight 50 = .ok (.iadd, 1) := by decide +kernel
theorem dX10_listNight_51 : decode cX10_listNight 51 = .ok (.putfield 238, 3) := by decide +kernel
theorem dX10_listNight_54 : decode cX10_listNight 54 = .ok (.iinc 2 1, 3) := by decide +kernel
theorem dX10_listNight_57 : decode cX10_listNight 57 = .ok (.goto (-50), 3) := by decide +kernel
theorem dX10_listNight_60 : decode cX10_listNight 60 = .ok (.return_, 1) := by decide +kernel
theorem dX10_canBeIn_0 : decode cX10_canBeIn 0 = .ok (.iconst 0, 1) := by decide +kernel
theorem dX10_canBeIn_1 : decode cX10_canBeIn 1 = .ok (.istore_n 3, 1) := by decide +kernel
theorem dX10_canBeIn_2 : decode cX10_canBeIn 2 = .ok (.iload_n 3, 1) := by decide +kernel
theorem dX10_canBeIn_3 : decode cX10_canBeIn 3 = .ok (.iload_n 1, 1) := by decide +kernel
theorem dX10_canBeIn_4 : decode cX10_canBeIn 4 = .ok (.if_icmp .ge 34, 3) := by decide +kernel
theorem dX10_canBeIn_7 : decode cX10_canBeIn 7 = .ok (.aload_n 0, 1) := by decide +kernel
theorem dX10_canBeIn_8 : decode cX10_canBeIn 8 = .ok (.getfield 59, 3) := by decide +kernel
theorem dX10_canBeIn_11 : decode cX10_canBeIn 11 = .ok (.iload_n 3, 1) := by decide +kernel
theorem dX10_canBeIn_12 : decode cX10_canBeIn 12 = .ok (.iaload, 1) := by decide +kernel
theorem dX10_canBeIn_13 : decode cX10_canBeIn 13 = .ok (.iload_n 2, 1) := by decide +kernel
theorem dX10_canBeIn_14 : decode cX10_canBeIn 14 = .ok (.if_icmp .ne 18, 3) := by decide +kernel
theorem dX10_canBeIn_17 : decode cX10_canBeIn 17 = .ok (.aload_n 0, 1) := by decide +kernel
theorem dX10_canBeIn_18 : decode cX10_canBeIn 18 = .ok (.getfield 62, 3) := by decide +kernel
theorem dX10_canBeIn_21 : decode cX10_canBeIn 21 = .ok (.iload_n 1, 1) := by decide +kernel
theorem dX10_canBeIn_22 : decode cX10_canBeIn 22 = .ok (.iaload, 1) := by decide +kernel
theorem dX10_canBeIn_23 : decode cX10_canBeIn 23 = .ok (.iload_n 3, 1) := by decide +kernel
theorem dX10_canBeIn_24 : decode cX10_canBeIn 24 = .ok (.ishr, 1) := by decide +kernel
theorem dX10_canBeIn_25 : decode cX10_canBeIn 25 = .ok (.iconst 1, 1) := by decide +kernel
theorem dX10_canBeIn_26 : decode cX10_canBeIn 26 = .ok (.iand, 1) := by decide +kernel
theorem dX10_canBeIn_27 : decode cX10_canBeIn 27 = .ok (.ifCond .ne 5, 3) := by decide +kernel
theorem dX10_canBeIn_30 : decode cX10_canBeIn 30 = .ok (.iconst 0, 1) := by decide +kernel
theorem dX10_canBeIn_31 : decode cX10_canBeIn 31 = .ok (.ireturn, 1) := by decide +kernel
theorem dX10_canBeIn_32 : decode cX10_canBeIn 32 = .ok (.iinc 3 1, 3) := by decide +kernel
theorem dX10_canBeIn_35 : decode cX10_canBeIn 35 = .ok (.goto (-33), 3) := by decide +kernel
theorem dX10_canBeIn_38 : decode cX10_canBeIn 38 = .ok (.iconst 1, 1) := by decide +kernel
theorem dX10_canBeIn_39 : decode cX10_canBeIn 39 = .ok (.ireturn, 1) := by decide +kernel
theorem dX10_setsAhead_0 : decode cX10_setsAhead 0 = .ok (.iconst (-1), 1) := by decide +kernel
theorem dX10_setsAhead_1 : decode cX10_setsAhead 1 = .ok (.istore_n 2, 1) := by decide +kernel
theorem dX10_setsAhead_2 : decode cX10_setsAhead 2 = .ok (.iconst 0, 1) := by decide +kernel
theorem dX10_setsAhead_3 : decode cX10_setsAhead 3 = .ok (.istore_n 3, 1) := by decide +kernel
theorem dX10_setsAhead_4 : decode cX10_setsAhead 4 = .ok (.iload_n 3, 1) := by decide +kernel
theorem dX10_setsAhead_5 : decode cX10_setsAhead 5 = .ok (.iload_n 1, 1) := by decide +kernel
theorem dX10_setsAhead_6 : decode cX10_setsAhead 6 = .ok (.if_icmp .ge 30, 3) := by decide +kernel
theorem dX10_setsAhead_9 : decode cX10_setsAhead 9 = .ok (.aload_n 0, 1) := by decide +kernel
theorem dX10_setsAhead_10 : decode cX10_setsAhead 10 = .ok (.getfield 59, 3) := by decide +kernel
theorem dX10_setsAhead_13 : decode cX10_setsAhead 13 = .ok (.iload_n 3, 1) := by decide +kernel
theorem dX10_setsAhead_14 : decode cX10_setsAhead 14 = .ok (.iaload, 1) := by decide +kernel
theorem dX10_setsAhead_15 : decode cX10_setsAhead 15 = .ok (.iload_n 2, 1) := by decide +kernel
theorem dX10_setsAhead_16 : decode cX10_setsAhead 16 = .ok (.if_icmp .le 12, 3) := by decide +kernel
theorem dX10_setsAhead_19 : decode cX10_setsAhead 19 = .ok (.aload_n 0, 1) := by decide +kernel
theorem dX10_setsAhead_20 : decode cX10_setsAhead 20 = .ok (.getfield 59, 3) := by decide +kernel
theorem dX10_setsAhead_23 : decode cX10_setsAhead 23 = .ok (.iload_n 3, 1) := by decide +kernel
theorem dX10_setsAhead_24 : decode cX10_setsAhead 24 = .ok (.iaload, 1) := by decide +kernel
theorem dX10_setsAhead_25 : decode cX10_setsAhead 25 = .ok (.goto 4, 3) := by decide +kernel
theorem dX10_setsAhead_28 : decode cX10_setsAhead 28 = .ok (.iload_n 2, 1) := by decide +kernel
theorem dX10_setsAhead_29 : decode cX10_setsAhead 29 = .ok (.istore_n 2, 1) := by decide +kernel
theorem dX10_setsAhead_30 : decode cX10_setsAhead 30 = .ok (.iinc 3 1, 3) := by decide +kernel
theorem dX10_setsAhead_33 : decode cX10_setsAhead 33 = .ok (.goto (-29), 3) := by decide +kernel
theorem dX10_setsAhead_36 : decode cX10_setsAhead 36 = .ok (.iload_n 2, 1) := by decide +kernel
theorem dX10_setsAhead_37 : decode cX10_setsAhead 37 = .ok (.iconst 1, 1) := by decide +kernel
theorem dX10_setsAhead_38 : decode cX10_setsAhead 38 = .ok (.iadd, 1) := by decide +kernel
theorem dX10_setsAhead_39 : decode cX10_setsAhead 39 = .ok (.ireturn, 1) := by decide +kernel
theorem dX10_part_0 : decode cX10_part 0 = .ok (.iconst 0, 1) := by decide +kernel
theorem dX10_part_1 : decode cX10_part 1 = .ok (.istore_n 2, 1) := by decide +kernel
theorem dX10_part_2 : decode cX10_part 2 = .ok (.aload_n 0, 1) := by decide +kernel
theorem dX10_part_3 : decode cX10_part 3 = .ok (.getfield 59, 3) := by decide +kernel
theorem dX10_part_6 : decode cX10_part 6 = .ok (.iconst 0, 1) := by decide +kernel
theorem dX10_part_7 : decode cX10_part 7 = .ok (.iconst (-1), 1) := by decide +kernel
theorem dX10_part_8 : decode cX10_part 8 = .ok (.iastore, 1) := by decide +kernel
theorem dX10_part_9 : decode cX10_part 9 = .ok (.iload_n 2, 1) := by decide +kernel
theorem dX10_part_10 : decode cX10_part 10 = .ok (.ifCond .lt 102, 3) := by decide +kernel
theorem dX10_part_13 : decode cX10_part 13 = .ok (.iload_n 2, 1) := by decide +kernel
theorem dX10_part_14 : decode cX10_part 14 = .ok (.aload_n 0, 1) := by decide +kernel
theorem dX10_part_15 : decode cX10_part 15 = .ok (.getfield 238, 3) := by decide +kernel
theorem dX10_part_18 : decode cX10_part 18 = .ok (.if_icmp .ge 94, 3) := by decide +kernel
theorem dX10_part_21 : decode cX10_part 21 = .ok (.aload_n 0, 1) := by decide +kernel
theorem dX10_part_22 : decode cX10_part 22 = .ok (.iload_n 2, 1) := by decide +kernel
theorem dX10_part_23 : decode cX10_part 23 = .ok (.invokevirtual 241, 3) := by decide +kernel
theorem dX10_part_26 : decode cX10_part 26 = .ok (.istore_n 3, 1) := by decide +kernel
theorem dX10_part_27 : decode cX10_part 27 = .ok (.aload_n 0, 1) := by decide +kernel
theorem dX10_part_28 : decode cX10_part 28 = .ok (.getfield 59, 3) := by decide +kernel
theorem dX10_part_31 : decode cX10_part 31 = .ok (.iload_n 2, 1) := by decide +kernel
theorem dX10_part_32 : decode cX10_part 32 = .ok (.iaload, 1) := by decide +kernel
theorem dX10_part_33 : decode cX10_part 33 = .ok (.iconst 1, 1) := by decide +kernel
theorem dX10_part_34 : decode cX10_part 34 = .ok (.iadd, 1) := by decide +kernel
theorem dX10_part_35 : decode cX10_part 35 = .ok (.istore 4, 2) := by decide +kernel
theorem dX10_part_37 : decode cX10_part 37 = .ok (.iload 4, 2) := by decide +kernel
theorem dX10_part_39 : decode cX10_part 39 = .ok (.iload_n 3, 1) := by decide +kernel
theorem dX10_part_40 : decode cX10_part 40 = .ok (.if_icmp .gt 25, 3) := by decide +kernel
theorem dX10_part_43 : decode cX10_part 43 = .ok (.iload 4, 2) := by decide +kernel
theorem dX10_part_45 : decode cX10_part 45 = .ok (.iload_n 1, 1) := by decide +kernel
theorem dX10_part_46 : decode cX10_part 46 = .ok (.if_icmp .ge 19, 3) := by decide +kernel
theorem dX10_part_49 : decode cX10_part 49 = .ok (.aload_n 0, 1) := by decide +kernel
theorem dX10_part_50 : decode cX10_part 50 = .ok (.iload_n 2, 1) := by decide +kernel
theorem dX10_part_51 : decode cX10_part 51 = .ok (.iload 4, 2) := by decide +kernel
theorem dX10_part_53 : decode cX10_part 53 = .ok (.invokevirtual 244, 3) := by decide +kernel
theorem dX10_part_56 : decode cX10_part 56 = .ok (.ifCond .ne 9, 3) := by decide +kernel
theorem dX10_part_59 : decode cX10_part 59 = .ok (.iinc 4 1, 3) := by decide +kernel
theorem dX10_part_62 : decode cX10_part 62 = .ok (.goto (-25), 3) := by decide +kernel
theorem dX10_part_65 : decode cX10_part 65 = .ok (.iload 4, 2) := by decide +kernel
theorem dX10_part_67 : decode cX10_part 67 = .ok (.iload_n 3, 1) := by decide +kernel
theorem dX10_part_68 : decode cX10_part 68 = .ok (.if_icmp .gt 38, 3) := by decide +kernel
theorem dX10_part_71 : decode cX10_part 71 = .ok (.iload 4, 2) := by decide +kernel
theorem dX10_part_73 : decode cX10_part 73 = .ok (.iload_n 1, 1) := by decide +kernel
theorem dX10_part_74 : decode cX10_part 74 = .ok (.if_icmp .ge 32, 3) := by decide +kernel
theorem dX10_part_77 : decode cX10_part 77 = .ok (.aload_n 0, 1) := by decide +kernel
theorem dX10_part_78 : decode cX10_part 78 = .ok (.getfield 59, 3) := by decide +kernel
theorem dX10_part_81 : decode cX10_part 81 = .ok (.iload_n 2, 1) := by decide +kernel
theorem dX10_part_82 : decode cX10_part 82 = .ok (.iload 4, 2) := by decide +kernel
theorem dX10_part_84 : decode cX10_part 84 = .ok (.iastore, 1) := by decide +kernel
theorem dX10_part_85 : decode cX10_part 85 = .ok (.iinc 2 1, 3) := by decide +kernel
theorem dX10_part_88 : decode cX10_part 88 = .ok (.iload_n 2, 1) := by decide +kernel
theorem dX10_part_89 : decode cX10_part 89 = .ok (.aload_n 0, 1) := by decide +kernel
theorem dX10_part_90 : decode cX10_part 90 = .ok (.getfield 238, 3) := by decide +kernel
theorem dX10_part_93 : decode cX10_part 93 = .ok (.if_icmp .ge 16, 3) := by decide +kernel
theorem dX10_part_96 : decode cX10_part 96 = .ok (.aload_n 0, 1) := by decide +kernel
theorem dX10_part_97 : decode cX10_part 97 = .ok (.getfield 59, 3) := by decide +kernel
theorem dX10_part_100 : decode cX10_part 100 = .ok (.iload_n 2, 1) := by decide +kernel
theorem dX10_part_101 : decode cX10_part 101 = .ok (.iconst (-1), 1) := by decide +kernel
theorem dX10_part_102 : decode cX10_part 102 = .ok (.iastore, 1) := by decide +kernel
theorem dX10_part_103 : decode cX10_part 103 = .ok (.goto 6, 3) := by decide +kernel
theorem dX10_part_106 : decode cX10_part 106 = .ok (.iinc 2 (-1), 3) := by decide +kernel
theorem dX10_part_109 : decode cX10_part 109 = .ok (.goto (-100), 3) := by decide +kernel
theorem dX10_part_112 : decode cX10_part 112 = .ok (.iload_n 2, 1) := by decide +kernel
theorem dX10_part_113 : decode cX10_part 113 = .ok (.aload_n 0, 1) := by decide +kernel
theorem dX10_part_114 : decode cX10_part 114 = .ok (.getfield 238, 3) := by decide +kernel
theorem dX10_part_117 : decode cX10_part 117 = .ok (.if_icmp .ne 7, 3) := by decide +kernel
theorem dX10_part_120 : decode cX10_part 120 = .ok (.iconst 1, 1) := by decide +kernel
theorem dX10_part_121 : decode cX10_part 121 = .ok (.goto 4, 3) := by decide +kernel
theorem dX10_part_124 : decode cX10_part 124 = .ok (.iconst 0, 1) := by decide +kernel
theorem dX10_part_125 : decode cX10_part 125 = .ok (.ireturn, 1) := by decide +kernel
theorem dX10_findCurtains_0 : decode cX10_findCurtains 0 = .ok (.aload_n 0, 1) := by decide +kernel
theorem dX10_findCurtains_1 : decode cX10_findCurtains 1 = .ok (.iload_n 1, 1) := by decide +kernel
theorem dX10_findCurtains_2 : decode cX10_findCurtains 2 = .ok (.invokevirtual 247, 3) := by decide +kernel
theorem dX10_findCurtains_5 : decode cX10_findCurtains 5 = .ok (.aload_n 0, 1) := by decide +kernel
theorem dX10_findCurtains_6 : decode cX10_findCurtains 6 = .ok (.getfield 238, 3) := by decide +kernel
theorem dX10_findCurtains_9 : decode cX10_findCurtains 9 = .ok (.bipush 10, 2) := by decide +kernel
theorem dX10_findCurtains_11 : decode cX10_findCurtains 11 = .ok (.if_icmp .le 6, 3) := by decide +kernel
theorem dX10_findCurtains_14 : decode cX10_findCurtains 14 = .ok (.bipush (-3), 2) := by decide +kernel
theorem dX10_findCurtains_16 : decode cX10_findCurtains 16 = .ok (.ireturn, 1) := by decide +kernel
theorem dX10_findCurtains_17 : decode cX10_findCurtains 17 = .ok (.iconst 0, 1) := by decide +kernel
theorem dX10_findCurtains_18 : decode cX10_findCurtains 18 = .ok (.istore_n 2, 1) := by decide +kernel
theorem dX10_findCurtains_19 : decode cX10_findCurtains 19 = .ok (.iload_n 2, 1) := by decide +kernel
theorem dX10_findCurtains_20 : decode cX10_findCurtains 20 = .ok (.aload_n 0, 1) := by decide +kernel
theorem dX10_findCurtains_21 : decode cX10_findCurtains 21 = .ok (.getfield 238, 3) := by decide +kernel
theorem dX10_findCurtains_24 : decode cX10_findCurtains 24 = .ok (.if_icmp .ge 72, 3) := by decide +kernel
theorem dX10_findCurtains_27 : decode cX10_findCurtains 27 = .ok (.aload_n 0, 1) := by decide +kernel
theorem dX10_findCurtains_28 : decode cX10_findCurtains 28 = .ok (.getfield 62, 3) := by decide +kernel
theorem dX10_findCurtains_31 : decode cX10_findCurtains 31 = .ok (.iload_n 2, 1) := by decide +kernel
theorem dX10_findCurtains_32 : decode cX10_findCurtains 32 = .ok (.iconst 0, 1) := by decide +kernel
theorem dX10_findCurtains_33 : decode cX10_findCurtains 33 = .ok (.iastore, 1) := by decide +kernel
theorem dX10_findCurtains_34 : decode cX10_findCurtains 34 = .ok (.iconst 0, 1) := by decide +kernel
theorem dX10_findCurtains_35 : decode cX10_findCurtains 35 = .ok (.istore_n 3, 1) := by decide +kernel
theorem dX10_findCurtains_36 : decode cX10_findCurtains 36 = .ok (.iload_n 3, 1) := by decide +kernel
theorem dX10_findCurtains_37 : decode cX10_findCurtains 37 = .ok (.aload_n 0, 1) := by decide +kernel
theorem dX10_findCurtains_38 : decode cX10_findCurtains 38 = .ok (.getfield 238, 3) := by decide +kernel
theorem dX10_findCurtains_41 : decode cX10_findCurtains 41 = .ok (.if_icmp .ge 49, 3) := by decide +kernel
theorem dX10_findCurtains_44 : decode cX10_findCurtains 44 = .ok (.aload_n 0, 1) := by decide +kernel
theorem dX10_findCurtains_45 : decode cX10_findCurtains 45 = .ok (.getfield 62, 3) := by decide +kernel
theorem dX10_findCurtains_48 : decode cX10_findCurtains 48 = .ok (.iload_n 2, 1) := by decide +kernel
theorem dX10_findCurtains_49 : decode cX10_findCurtains 49 = .ok (.dup2, 1) := by decide +kernel
theorem dX10_findCurtains_50 : decode cX10_findCurtains 50 = .ok (.iaload, 1) := by decide +kernel
theorem dX10_findCurtains_51 : decode cX10_findCurtains 51 = .ok (.iload_n 2, 1) := by decide +kernel
theorem dX10_findCurtains_52 : decode cX10_findCurtains 52 = .ok (.iload_n 3, 1) := by decide +kernel
theorem dX10_findCurtains_53 : decode cX10_findCurtains 53 = .ok (.if_icmp .eq 28, 3) := by decide +kernel
theorem dX10_findCurtains_56 : decode cX10_findCurtains 56 = .ok (.aload_n 0, 1) := by decide +kernel
theorem dX10_findCurtains_57 : decode cX10_findCurtains 57 = .ok (.aload_n 0, 1) := by decide +kernel
theorem dX10_findCurtains_58 : decode cX10_findCurtains 58 = .ok (.getfield 56, 3) := by decide +kernel
theorem dX10_findCurtains_61 : decode cX10_findCurtains 61 = .ok (.iload_n 2, 1) := by decide +kernel
theorem dX10_findCurtains_62 : decode cX10_findCurtains 62 = .ok (.iaload, 1) := by decide +kernel
theorem dX10_findCurtains_63 : decode cX10_findCurtains 63 = .ok (.aload_n 0, 1) := by decide +kernel
theorem dX10_findCurtains_64 : decode cX10_findCurtains 64 = .ok (.getfield 56, 3) := by decide +kernel
theorem dX10_findCurtains_67 : decode cX10_findCurtains 67 = .ok (.iload_n 3, 1) := by decide +kernel
theorem dX10_findCurtains_68 : decode cX10_findCurtains 68 = .ok (.iaload, 1) := by decide +kernel
theorem dX10_findCurtains_69 : decode cX10_findCurtains 69 = .ok (.invokevirtual 227, 3) := by decide +kernel
theorem dX10_findCurtains_72 : decode cX10_findCurtains 72 = .ok (.ifCond .eq 9, 3) := by decide +kernel
theorem dX10_findCurtains_75 : decode cX10_findCurtains 75 = .ok (.iconst 1, 1) := by decide +kernel
theorem dX10_findCurtains_76 : decode cX10_findCurtains 76 = .ok (.iload_n 3, 1) := by decide +kernel
theorem dX10_findCurtains_77 : decode cX10_findCurtains 77 = .ok (.ishl, 1) := by decide +kernel
theorem dX10_findCurtains_78 : decode cX10_findCurtains 78 = .ok (.goto 4, 3) := by decide +kernel
theorem dX10_findCurtains_81 : decode cX10_findCurtains 81 = .ok (.iconst 0, 1) := by decide +kernel
theorem dX10_findCurtains_82 : decode cX10_findCurtains 82 = .ok (.ior, 1) := by decide +kernel
theorem dX10_findCurtains_83 : decode cX10_findCurtains 83 = .ok (.iastore, 1) := by decide +kernel
theorem dX10_findCurtains_84 : decode cX10_findCurtains 84 = .ok (.iinc 3 1, 3) := by decide +kernel
theorem dX10_findCurtains_87 : decode cX10_findCurtains 87 = .ok (.goto (-51), 3) := by decide +kernel
theorem dX10_findCurtains_90 : decode cX10_findCurtains 90 = .ok (.iinc 2 1, 3) := by decide +kernel
theorem dX10_findCurtains_93 : decode cX10_findCurtains 93 = .ok (.goto (-74), 3) := by decide +kernel
theorem dX10_findCurtains_96 : decode cX10_findCurtains 96 = .ok (.iconst 0, 1) := by decide +kernel
theorem dX10_findCurtains_97 : decode cX10_findCurtains 97 = .ok (.istore_n 2, 1) := by decide +kernel
theorem dX10_findCurtains_98 : decode cX10_findCurtains 98 = .ok (.aload_n 0, 1) := by decide +kernel
theorem dX10_findCurtains_99 : decode cX10_findCurtains 99 = .ok (.getfield 238, 3) := by decide +kernel
theorem dX10_findCurtains_102 : decode cX10_findCurtains 102 = .ok (.ifCond .le 17, 3) := by decide +kernel
theorem dX10_findCurtains_105 : decode cX10_findCurtains 105 = .ok (.aload_n 0, 1) := by decide +kernel
theorem dX10_findCurtains_106 : decode cX10_findCurtains 106 = .ok (.iload_n 2, 1) := by decide +kernel
theorem dX10_findCurtains_107 : decode cX10_findCurtains 107 = .ok (.invokevirtual 251, 3) := by decide +kernel
theorem dX10_findCurtains_110 : decode cX10_findCurtains 110 = .ok (.ifCond .ne 9, 3) := by decide +kernel
theorem dX10_findCurtains_113 : decode cX10_findCurtains 113 = .ok (.iinc 2 1, 3) := by decide +kernel
theorem dX10_findCurtains_116 : decode cX10_findCurtains 116 = .ok (.goto (-18), 3) := by decide +kernel
theorem dX10_findCurtains_119 : decode cX10_findCurtains 119 = .ok (.aload_n 0, 1) := by decide +kernel
theorem dX10_findCurtains_120 : decode cX10_findCurtains 120 = .ok (.aload_n 0, 1) := by decide +kernel
theorem dX10_findCurtains_121 : decode cX10_findCurtains 121 = .ok (.getfield 238, 3) := by decide +kernel
theorem dX10_findCurtains_124 : decode cX10_findCurtains 124 = .ok (.ifCond .ne 7, 3) := by decide +kernel
theorem dX10_findCurtains_127 : decode cX10_findCurtains 127 = .ok (.iconst 0, 1) := by decide +kernel
theorem dX10_findCurtains_128 : decode cX10_findCurtains 128 = .ok (.goto 4, 3) := by decide +kernel
theorem dX10_findCurtains_131 : decode cX10_findCurtains 131 = .ok (.iload_n 2, 1) := by decide +kernel
theorem dX10_findCurtains_132 : decode cX10_findCurtains 132 = .ok (.putfield 254, 3) := by decide +kernel
theorem dX10_findCurtains_135 : decode cX10_findCurtains 135 = .ok (.iconst 0, 1) := by decide +kernel
theorem dX10_findCurtains_136 : decode cX10_findCurtains 136 = .ok (.istore_n 3, 1) := by decide +kernel
theorem dX10_findCurtains_137 : decode cX10_findCurtains 137 = .ok (.iload_n 3, 1) := by decide +kernel
theorem dX10_findCurtains_138 : decode cX10_findCurtains 138 = .ok (.aload_n 0, 1) := by decide +kernel
theorem dX10_findCurtains_139 : decode cX10_findCurtains 139 = .ok (.getfield 254, 3) := by decide +kernel
theorem dX10_findCurtains_142 : decode cX10_findCurtains 142 = .ok (.if_icmp .ge 14, 3) := by decide +kernel
theorem dX10_findCurtains_145 : decode cX10_findCurtains 145 = .ok (.aload_n 0, 1) := by decide +kernel
theorem dX10_findCurtains_146 : decode cX10_findCurtains 146 = .ok (.iload_n 3, 1) := by decide +kernel
theorem dX10_findCurtains_147 : decode cX10_findCurtains 147 = .ok (.invokevirtual 257, 3) := by decide +kernel
theorem dX10_findCurtains_150 : decode cX10_findCurtains 150 = .ok (.iinc 3 1, 3) := by decide +kernel
theorem dX10_findCurtains_153 : decode cX10_findCurtains 153 = .ok (.goto (-16), 3) := by decide +kernel
theorem dX10_findCurtains_156 : decode cX10_findCurtains 156 = .ok (.aload_n 0, 1) := by decide +kernel
theorem dX10_findCurtains_157 : decode cX10_findCurtains 157 = .ok (.getfield 254, 3) := by decide +kernel
theorem dX10_findCurtains_160 : decode cX10_findCurtains 160 = .ok (.ireturn, 1) := by decide +kernel
theorem dX10_curtains_0 : decode cX10_curtains 0 = .ok (.iload_n 1, 1) := by decide +kernel
theorem dX10_curtains_1 : decode cX10_curtains 1 = .ok (.invokestatic 170, 3) := by decide +kernel
theorem dX10_curtains_4 : decode cX10_curtains 4 = .ok (.ifCond .eq 11, 3) := by decide +kernel
theorem dX10_curtains_7 : decode cX10_curtains 7 = .ok (.aload_n 0, 1) := by decide +kernel
theorem dX10_curtains_8 : decode cX10_curtains 8 = .ok (.iload_n 1, 1) := by decide +kernel
theorem dX10_curtains_9 : decode cX10_curtains 9 = .ok (.invokevirtual 260, 3) := by decide +kernel
theorem dX10_curtains_12 : decode cX10_curtains 12 = .ok (.goto 4, 3) := by decide +kernel
theorem dX10_curtains_15 : decode cX10_curtains 15 = .ok (.iconst (-1), 1) := by decide +kernel
theorem dX10_curtains_16 : decode cX10_curtains 16 = .ok (.ireturn, 1) := by decide +kernel
theorem dX10_findPlace_0 : decode cX10_findPlace 0 = .ok (.sipush (-10000), 3) := by decide +kernel
theorem dX10_findPlace_3 : decode cX10_findPlace 3 = .ok (.istore_n 2, 1) := by decide +kernel
theorem dX10_findPlace_4 : decode cX10_findPlace 4 = .ok (.sipush 10000, 3) := by decide +kernel
theorem dX10_findPlace_7 : decode cX10_findPlace 7 = .ok (.istore_n 3, 1) := by decide +kernel
theorem dX10_findPlace_8 : decode cX10_findPlace 8 = .ok (.iconst 0, 1) := by decide +kernel
theorem dX10_findPlace_9 : decode cX10_findPlace 9 = .ok (.istore 4, 2) := by decide +kernel
theorem dX10_findPlace_11 : decode cX10_findPlace 11 = .ok (.aload_n 0, 1) := by decide +kernel
theorem dX10_findPlace_12 : decode cX10_findPlace 12 = .ok (.getfield 68, 3) := by decide +kernel
theorem dX10_findPlace_15 : decode cX10_findPlace 15 = .ok (.iload_n 1, 1) := by decide +kernel
theorem dX10_findPlace_16 : decode cX10_findPlace 16 = .ok (.iconst 0, 1) := by decide +kernel
theorem dX10_findPlace_17 : decode cX10_findPlace 17 = .ok (.iastore, 1) := by decide +kernel
theorem dX10_findPlace_18 : decode cX10_findPlace 18 = .ok (.iconst 0, 1) := by decide +kernel
theorem dX10_findPlace_19 : decode cX10_findPlace 19 = .ok (.istore 5, 2) := by decide +kernel
theorem dX10_findPlace_21 : decode cX10_findPlace 21 = .ok (.iconst 0, 1) := by decide +kernel
theorem dX10_findPlace_22 : decode cX10_findPlace 22 = .ok (.istore 6, 2) := by decide +kernel
theorem dX10_findPlace_24 : decode cX10_findPlace 24 = .ok (.iconst 0, 1) := by decide +kernel
theorem dX10_findPlace_25 : decode cX10_findPlace 25 = .ok (.istore 7, 2) := by decide +kernel
theorem dX10_findPlace_27 : decode cX10_findPlace 27 = .ok (.aload_n 0, 1) := by decide +kernel
theorem dX10_findPlace_28 : decode cX10_findPlace 28 = .ok (.getfield 238, 3) := by decide +kernel
theorem dX10_findPlace_31 : decode cX10_findPlace 31 = .ok (.iconst 1, 1) := by decide +kernel
theorem dX10_findPlace_32 : decode cX10_findPlace 32 = .ok (.isub, 1) := by decide +kernel
theorem dX10_findPlace_33 : decode cX10_findPlace 33 = .ok (.istore 8, 2) := by decide +kernel
theorem dX10_findPlace_35 : decode cX10_findPlace 35 = .ok (.iload 8, 2) := by decide +kernel
theorem dX10_findPlace_37 : decode cX10_findPlace 37 = .ok (.ifCond .lt 181, 3) := by decide +kernel
theorem dX10_findPlace_40 : decode cX10_findPlace 40 = .ok (.aload_n 0, 1) := by decide +kernel
theorem dX10_findPlace_41 : decode cX10_findPlace 41 = .ok (.getfield 59, 3) := by decide +kernel
theorem dX10_findPlace_44 : decode cX10_findPlace 44 = .ok (.iload 8, 2) := by decide +kernel
theorem dX10_findPlace_46 : decode cX10_findPlace 46 = .ok (.iaload, 1) := by decide +kernel
theorem dX10_findPlace_47 : decode cX10_findPlace 47 = .ok (.iload_n 1, 1) := by decide +kernel
theorem dX10_findPlace_48 : decode cX10_findPlace 48 = .ok (.if_icmp .ne 164, 3) := by decide +kernel
theorem dX10_findPlace_51 : decode cX10_findPlace 51 = .ok (.aload_n 0, 1) := by decide +kernel
theorem dX10_findPlace_52 : decode cX10_findPlace 52 = .ok (.getfield 56, 3) := by decide +kernel
theorem dX10_findPlace_55 : decode cX10_findPlace 55 = .ok (.iload 8, 2) := by decide +kernel
theorem dX10_findPlace_57 : decode cX10_findPlace 57 = .ok (.iaload, 1) := by decide +kernel
theorem dX10_findPlace_58 : decode cX10_findPlace 58 = .ok (.istore 9, 2) := by decide +kernel
theorem dX10_findPlace_60 : decode cX10_findPlace 60 = .ok (.aload_n 0, 1) := by decide +kernel
theorem dX10_findPlace_61 : decode cX10_findPlace 61 = .ok (.getfield 68, 3) := by decide +kernel
theorem dX10_findPlace_64 : decode cX10_findPlace 64 = .ok (.iload_n 1, 1) := by decide +kernel
theorem dX10_findPlace_65 : decode cX10_findPlace 65 = .ok (.dup2, 1) := by decide +kernel
theorem dX10_findPlace_66 : decode cX10_findPlace 66 = .ok (.iaload, 1) := by decide +kernel
theorem dX10_findPlace_67 : decode cX10_findPlace 67 = .ok (.iconst 1, 1) := by decide +kernel
theorem dX10_findPlace_68 : decode cX10_findPlace 68 = .ok (.iadd, 1) := by decide +kernel
theorem dX10_findPlace_69 : decode cX10_findPlace 69 = .ok (.iastore, 1) := by decide +kernel
theorem dX10_findPlace_70 : decode cX10_findPlace 70 = .ok (.aload_n 0, 1) := by decide +kernel
theorem dX10_findPlace_71 : decode cX10_findPlace 71 = .ok (.getfield 83, 3) := by decide +kernel
theorem dX10_findPlace_74 : decode cX10_findPlace 74 = .ok (.iload_n 1, 1) := by decide +kernel
theorem dX10_findPlace_75 : decode cX10_findPlace 75 = .ok (.iload 9, 2) := by decide +kernel
theorem dX10_findPlace_77 : decode cX10_findPlace 77 = .ok (.iastore, 1) := by decide +kernel
theorem dX10_findPlace_78 : decode cX10_findPlace 78 = .ok (.aload_n 0, 1) := by decide +kernel
theorem dX10_findPlace_79 : decode cX10_findPlace 79 = .ok (.iload 9, 2) := by decide +kernel
theorem dX10_findPlace_81 : decode cX10_findPlace 81 = .ok (.invokevirtual 197, 3) := by decide +kernel
theorem dX10_findPlace_84 : decode cX10_findPlace 84 = .ok (.iload_n 2, 1) := by decide +kernel
theorem dX10_findPlace_85 : decode cX10_findPlace 85 = .ok (.if_icmp .le 12, 3) := by decide +kernel
theorem dX10_findPlace_88 : decode cX10_findPlace 88 = .ok (.aload_n 0, 1) := by decide +kernel
theorem dX10_findPlace_89 : decode cX10_findPlace 89 = .ok (.iload 9, 2) := by decide +kernel
theorem dX10_findPlace_91 : decode cX10_findPlace 91 = .ok (.invokevirtual 197, 3) := by decide +kernel
theorem dX10_findPlace_94 : decode cX10_findPlace 94 = .ok (.goto 4, 3) := by decide +kernel
theorem dX10_findPlace_97 : decode cX10_findPlace 97 = .ok (.iload_n 2, 1) := by decide +kernel
theorem dX10_findPlace_98 : decode cX10_findPlace 98 = .ok (.istore_n 2, 1) := by decide +kernel
theorem dX10_findPlace_99 : decode cX10_findPlace 99 = .ok (.aload_n 0, 1) := by decide +kernel
theorem dX10_findPlace_100 : decode cX10_findPlace 100 = .ok (.iload 9, 2) := by decide +kernel
theorem dX10_findPlace_102 : decode cX10_findPlace 102 = .ok (.invokevirtual 200, 3) := by decide +kernel
theorem dX10_findPlace_105 : decode cX10_findPlace 105 = .ok (.iload_n 3, 1) := by decide +kernel
theorem dX10_findPlace_106 : decode cX10_findPlace 106 = .ok (.if_icmp .ge 12, 3) := by decide +kernel
theorem dX10_findPlace_109 : decode cX10_findPlace 109 = .ok (.aload_n 0, 1) := by decide +kernel
theorem dX10_findPlace_110 : decode cX10_findPlace 110 = .ok (.iload 9, 2) := by decide +kernel
theorem dX10_findPlace_112 : decode cX10_findPlace 112 = .ok (.invokevirtual 200, 3) := by decide +kernel
theorem dX10_findPlace_115 : decode cX10_findPlace 115 = .ok (.goto 4, 3) := by decide +kernel
theorem dX10_findPlace_118 : decode cX10_findPlace 118 = .ok (.iload_n 3, 1) := by decide +kernel
theorem dX10_findPlace_119 : decode cX10_findPlace 119 = .ok (.istore_n 3, 1) := by decide +kernel
theorem dX10_findPlace_120 : decode cX10_findPlace 120 = .ok (.iload 8, 2) := by decide +kernel
theorem dX10_findPlace_122 : decode cX10_findPlace 122 = .ok (.iconst 1, 1) := by decide +kernel
theorem dX10_findPlace_123 : decode cX10_findPlace 123 = .ok (.iadd, 1) := by decide +kernel
theorem dX10_findPlace_124 : decode cX10_findPlace 124 = .ok (.istore 10, 2) := by decide +kernel
theorem dX10_findPlace_126 : decode cX10_findPlace 126 = .ok (.iload 10, 2) := by decide +kernel
theorem dX10_findPlace_128 : decode cX10_findPlace 128 = .ok (.aload_n 0, 1) := by decide +kernel
theorem dX10_findPlace_129 : decode cX10_findPlace 129 = .ok (.getfield 238, 3) := by decide +kernel
theorem dX10_findPlace_132 : decode cX10_findPlace 132 = .ok (.if_icmp .ge 80, 3) := by decide +kernel
theorem dX10_findPlace_135 : decode cX10_findPlace 135 = .ok (.aload_n 0, 1) := by decide +kernel
theorem dX10_findPlace_136 : decode cX10_findPlace 136 = .ok (.getfield 59, 3) := by decide +kernel
theorem dX10_findPlace_139 : decode cX10_findPlace 139 = .ok (.iload 10, 2) := by decide +kernel
theorem dX10_findPlace_141 : decode cX10_findPlace 141 = .ok (.iaload, 1) := by decide +kernel
theorem dX10_findPlace_142 : decode cX10_findPlace 142 = .ok (.iload_n 1, 1) := by decide +kernel
theorem dX10_findPlace_143 : decode cX10_findPlace 143 = .ok (.if_icmp .ne 63, 3) := by decide +kernel
theorem dX10_findPlace_146 : decode cX10_findPlace 146 = .ok (.iinc 4 1, 3) := by decide +kernel
theorem dX10_findPlace_149 : decode cX10_findPlace 149 = .ok (.iload 5, 2) := by decide +kernel
theorem dX10_findPlace_151 : decode cX10_findPlace 151 = .ok (.aload_n 0, 1) := by decide +kernel
theorem dX10_findPlace_152 : decode cX10_findPlace 152 = .ok (.iload 9, 2) := by decide +kernel
theorem dX10_findPlace_154 : decode cX10_findPlace 154 = .ok (.aload_n 0, 1) := by decide +kernel
theorem dX10_findPlace_155 : decode cX10_findPlace 155 = .ok (.getfield 56, 3) := by decide +kernel
theorem dX10_findPlace_158 : decode cX10_findPlace 158 = .ok (.iload 10, 2) := by decide +kernel
theorem dX10_findPlace_160 : decode cX10_findPlace 160 = .ok (.iaload, 1) := by decide +kernel
theorem dX10_findPlace_161 : decode cX10_findPlace 161 = .ok (.iconst 0, 1) := by decide +kernel
theorem dX10_findPlace_162 : decode cX10_findPlace 162 = .ok (.invokevirtual 234, 3) := by decide +kernel
theorem dX10_findPlace_165 : decode cX10_findPlace 165 = .ok (.iadd, 1) := by decide +kernel
theorem dX10_findPlace_166 : decode cX10_findPlace 166 = .ok (.istore 5, 2) := by decide +kernel
theorem dX10_findPlace_168 : decode cX10_findPlace 168 = .ok (.iload 6, 2) := by decide +kernel
theorem dX10_findPlace_170 : decode cX10_findPlace 170 = .ok (.aload_n 0, 1) := by decide +kernel
theorem dX10_findPlace_171 : decode cX10_findPlace 171 = .ok (.iload 9, 2) := by decide +kernel
theorem dX10_findPlace_173 : decode cX10_findPlace 173 = .ok (.aload_n 0, 1) := by decide +kernel
theorem dX10_findPlace_174 : decode cX10_findPlace 174 = .ok (.getfield 56, 3) := by decide +kernel
theorem dX10_findPlace_177 : decode cX10_findPlace 177 = .ok (.iload 10, 2) := by decide +kernel
theorem dX10_findPlace_179 : decode cX10_findPlace 179 = .ok (.iaload, 1) := by decide +kernel
theorem dX10_findPlace_180 : decode cX10_findPlace 180 = .ok (.iconst 1, 1) := by decide +kernel
theorem dX10_findPlace_181 : decode cX10_findPlace 181 = .ok (.invokevirtual 234, 3) := by decide +kernel
theorem dX10_findPlace_184 : decode cX10_findPlace 184 = .ok (.iadd, 1) := by decide +kernel
theorem dX10_findPlace_185 : decode cX10_findPlace 185 = .ok (.istore 6, 2) := by decide +kernel
theorem dX10_findPlace_187 : decode cX10_findPlace 187 = .ok (.iload 7, 2) := by decide +kernel
theorem dX10_findPlace_189 : decode cX10_findPlace 189 = .ok (.aload_n 0, 1) := by decide +kernel
theorem dX10_findPlace_190 : decode cX10_findPlace 190 = .ok (.iload 9, 2) := by decide +kernel
theorem dX10_findPlace_192 : decode cX10_findPlace 192 = .ok (.aload_n 0, 1) := by decide +kernel
theorem dX10_findPlace_193 : decode cX10_findPlace 193 = .ok (.getfield 56, 3) := by decide +kernel
theorem dX10_findPlace_196 : decode cX10_findPlace 196 = .ok (.iload 10, 2) := by decide +kernel
theorem dX10_findPlace_198 : decode cX10_findPlace 198 = .ok (.iaload, 1) := by decide +kernel
theorem dX10_findPlace_199 : decode cX10_findPlace 199 = .ok (.iconst 2, 1) := by decide +kernel
theorem dX10_findPlace_200 : decode cX10_findPlace 200 = .ok (.invokevirtual 234, 3) := by decide +kernel
theorem dX10_findPlace_203 : decode cX10_findPlace 203 = .ok (.iadd, 1) := by decide +kernel
theorem dX10_findPlace_204 : decode cX10_findPlace 204 = .ok (.istore 7, 2) := by decide +kernel
theorem dX10_findPlace_206 : decode cX10_findPlace 206 = .ok (.iinc 10 1, 3) := by decide +kernel
theorem dX10_findPlace_209 : decode cX10_findPlace 209 = .ok (.goto (-83), 3) := by decide +kernel
theorem dX10_findPlace_212 : decode cX10_findPlace 212 = .ok (.iinc 8 (-1), 3) := by decide +kernel
theorem dX10_findPlace_215 : decode cX10_findPlace 215 = .ok (.goto (-180), 3) := by decide +kernel
theorem dX10_findPlace_218 : decode cX10_findPlace 218 = .ok (.aload_n 0, 1) := by decide +kernel
theorem dX10_findPlace_219 : decode cX10_findPlace 219 = .ok (.getfield 71, 3) := by decide +kernel
theorem dX10_findPlace_222 : decode cX10_findPlace 222 = .ok (.iload_n 1, 1) := by decide +kernel
theorem dX10_findPlace_223 : decode cX10_findPlace 223 = .ok (.iload_n 2, 1) := by decide +kernel
theorem dX10_findPlace_224 : decode cX10_findPlace 224 = .ok (.iload_n 3, 1) := by decide +kernel
theorem dX10_findPlace_225 : decode cX10_findPlace 225 = .ok (.iadd, 1) := by decide +kernel
theorem dX10_findPlace_226 : decode cX10_findPlace 226 = .ok (.iconst 1, 1) := by decide +kernel
theorem dX10_findPlace_227 : decode cX10_findPlace 227 = .ok (.ishr, 1) := by decide +kernel
theorem dX10_findPlace_228 : decode cX10_findPlace 228 = .ok (.iastore, 1) := by decide +kernel
theorem dX10_findPlace_229 : decode cX10_findPlace 229 = .ok (.aload_n 0, 1) := by decide +kernel
theorem dX10_findPlace_230 : decode cX10_findPlace 230 = .ok (.getfield 74, 3) := by decide +kernel
theorem dX10_findPlace_233 : decode cX10_findPlace 233 = .ok (.iload_n 1, 1) := by decide +kernel
theorem dX10_findPlace_234 : decode cX10_findPlace 234 = .ok (.iload 4, 2) := by decide +kernel
theorem dX10_findPlace_236 : decode cX10_findPlace 236 = .ok (.ifCond .ne 7, 3) := by decide +kernel
theorem dX10_findPlace_239 : decode cX10_findPlace 239 = .ok (.iconst 0, 1) := by decide +kernel
theorem dX10_findPlace_240 : decode cX10_findPlace 240 = .ok (.goto 8, 3) := by decide +kernel
theorem dX10_findPlace_243 : decode cX10_findPlace 243 = .ok (.iload 5, 2) := by decide +kernel
theorem dX10_findPlace_245 : decode cX10_findPlace 245 = .ok (.iload 4, 2) := by decide +kernel
theorem dX10_findPlace_247 : decode cX10_findPlace 247 = .ok (.idiv, 1) := by decide +kernel
theorem dX10_findPlace_248 : decode cX10_findPlace 248 = .ok (.iastore, 1) := by decide +kernel
theorem dX10_findPlace_249 : decode cX10_findPlace 249 = .ok (.aload_n 0, 1) := by decide +kernel
theorem dX10_findPlace_250 : decode cX10_findPlace 250 = .ok (.getfield 77, 3) := by decide +kernel
theorem dX10_findPlace_253 : decode cX10_findPlace 253 = .ok (.iload_n 1, 1) := by decide +kernel
theorem dX10_findPlace_254 : decode cX10_findPlace 254 = .ok (.iload 4, 2) := by decide +kernel
theorem dX10_findPlace_256 : decode cX10_findPlace 256 = .ok (.ifCond .ne 7, 3) := by decide +kernel
theorem dX10_findPlace_259 : decode cX10_findPlace 259 = .ok (.iconst 0, 1) := by decide +kernel
theorem dX10_findPlace_260 : decode cX10_findPlace 260 = .ok (.goto 8, 3) := by decide +kernel
theorem dX10_findPlace_263 : decode cX10_findPlace 263 = .ok (.iload 6, 2) := by decide +kernel
theorem dX10_findPlace_265 : decode cX10_findPlace 265 = .ok (.iload 4, 2) := by decide +kernel
theorem dX10_findPlace_267 : decode cX10_findPlace 267 = .ok (.idiv, 1) := by decide +kernel
theorem dX10_findPlace_268 : decode cX10_findPlace 268 = .ok (.iastore, 1) := by decide +kernel
theorem dX10_findPlace_269 : decode cX10_findPlace 269 = .ok (.aload_n 0, 1) := by decide +kernel
theorem dX10_findPlace_270 : decode cX10_findPlace 270 = .ok (.getfield 80, 3) := by decide +kernel
theorem dX10_findPlace_273 : decode cX10_findPlace 273 = .ok (.iload_n 1, 1) := by decide +kernel
theorem dX10_findPlace_274 : decode cX10_findPlace 274 = .ok (.iload 4, 2) := by decide +kernel
theorem dX10_findPlace_276 : decode cX10_findPlace 276 = .ok (.ifCond .ne 7, 3) := by decide +kernel
theorem dX10_findPlace_279 : decode cX10_findPlace 279 = .ok (.iconst 0, 1) := by decide +kernel
theorem dX10_findPlace_280 : decode cX10_findPlace 280 = .ok (.goto 8, 3) := by decide +kernel
theorem dX10_findPlace_283 : decode cX10_findPlace 283 = .ok (.iload 7, 2) := by decide +kernel
theorem dX10_findPlace_285 : decode cX10_findPlace 285 = .ok (.iload 4, 2) := by decide +kernel
theorem dX10_findPlace_287 : decode cX10_findPlace 287 = .ok (.idiv, 1) := by decide +kernel
theorem dX10_findPlace_288 : decode cX10_findPlace 288 = .ok (.iastore, 1) := by decide +kernel
theorem dX10_findPlace_289 : decode cX10_findPlace 289 = .ok (.return_, 1) := by decide +kernel
theorem dX10_curtain_0 : decode cX10_curtain 0 = .ok (.iload_n 1, 1) := by decide +kernel
theorem dX10_curtain_1 : decode cX10_curtain 1 = .ok (.invokestatic 170, 3) := by decide +kernel
theorem dX10_curtain_4 : decode cX10_curtain 4 = .ok (.ifCond .eq 19, 3) := by decide +kernel
theorem dX10_curtain_7 : decode cX10_curtain 7 = .ok (.iload_n 2, 1) := by decide +kernel
theorem dX10_curtain_8 : decode cX10_curtain 8 = .ok (.ifCond .lt 15, 3) := by decide +kernel
theorem dX10_curtain_11 : decode cX10_curtain 11 = .ok (.iload_n 3, 1) := by decide +kernel
