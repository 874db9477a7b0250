theorem dX12_init_0 : decode cX12_init 0 = .ok (.aload_n 0, 1) := by decide +kernel
theorem dX12_init_1 : decode cX12_init 1 = .ok (.invokespecial 1, 3) := by decide +kernel
theorem dX12_init_4 : decode cX12_init 4 = .ok (.aload_n 0, 1) := by decide +kernel
theorem dX12_init_5 : decode cX12_init 5 = .ok (.bipush 7, 2) := by decide +kernel
theorem dX12_init_7 : decode cX12_init 7 = .ok (.anewarray 7, 3) := by decide +kernel
theorem dX12_init_10 : decode cX12_init 10 = .ok (.dup, 1) := by decide +kernel
theorem dX12_init_11 : decode cX12_init 11 = .ok (.iconst 0, 1) := by decide +kernel
theorem dX12_init_12 : decode cX12_init 12 = .ok (.ldc 9, 2) := by decide +kernel
theorem dX12_init_14 : decode cX12_init 14 = .ok (.aastore, 1) := by decide +kernel
theorem dX12_init_15 : decode cX12_init 15 = .ok (.dup, 1) := by decide +kernel
theorem dX12_init_16 : decode cX12_init 16 = .ok (.iconst 1, 1) := by decide +kernel
theorem dX12_init_17 : decode cX12_init 17 = .ok (.ldc 11, 2) := by decide +kernel
theorem dX12_init_19 : decode cX12_init 19 = .ok (.aastore, 1) := by decide +kernel
theorem dX12_init_20 : decode cX12_init 20 = .ok (.dup, 1) := by decide +kernel
theorem dX12_init_21 : decode cX12_init 21 = .ok (.iconst 2, 1) := by decide +kernel
theorem dX12_init_22 : decode cX12_init 22 = .ok (.ldc 13, 2) := by decide +kernel
theorem dX12_init_24 : decode cX12_init 24 = .ok (.aastore, 1) := by decide +kernel
theorem dX12_init_25 : decode cX12_init 25 = .ok (.dup, 1) := by decide +kernel
theorem dX12_init_26 : decode cX12_init 26 = .ok (.iconst 3, 1) := by decide +kernel
theorem dX12_init_27 : decode cX12_init 27 = .ok (.ldc 15, 2) := by decide +kernel
theorem dX12_init_29 : decode cX12_init 29 = .ok (.aastore, 1) := by decide +kernel
theorem dX12_init_30 : decode cX12_init 30 = .ok (.dup, 1) := by decide +kernel
theorem dX12_init_31 : decode cX12_init 31 = .ok (.iconst 4, 1) := by decide +kernel
theorem dX12_init_32 : decode cX12_init 32 = .ok (.ldc 17, 2) := by decide +kernel
theorem dX12_init_34 : decode cX12_init 34 = .ok (.aastore, 1) := by decide +kernel
theorem dX12_init_35 : decode cX12_init 35 = .ok (.dup, 1) := by decide +kernel
theorem dX12_init_36 : decode cX12_init 36 = .ok (.iconst 5, 1) := by decide +kernel
theorem dX12_init_37 : decode cX12_init 37 = .ok (.ldc 19, 2) := by decide +kernel
theorem dX12_init_39 : decode cX12_init 39 = .ok (.aastore, 1) := by decide +kernel
theorem dX12_init_40 : decode cX12_init 40 = .ok (.dup, 1) := by decide +kernel
theorem dX12_init_41 : decode cX12_init 41 = .ok (.bipush 6, 2) := by decide +kernel
theorem dX12_init_43 : decode cX12_init 43 = .ok (.ldc 21, 2) := by decide +kernel
theorem dX12_init_45 : decode cX12_init 45 = .ok (.aastore, 1) := by decide +kernel
theorem dX12_init_46 : decode cX12_init 46 = .ok (.putfield 23, 3) := by decide +kernel
theorem dX12_init_49 : decode cX12_init 49 = .ok (.aload_n 0, 1) := by decide +kernel
theorem dX12_init_50 : decode cX12_init 50 = .ok (.bipush 9, 2) := by decide +kernel
theorem dX12_init_52 : decode cX12_init 52 = .ok (.anewarray 7, 3) := by decide +kernel
theorem dX12_init_55 : decode cX12_init 55 = .ok (.dup, 1) := by decide +kernel
theorem dX12_init_56 : decode cX12_init 56 = .ok (.iconst 0, 1) := by decide +kernel
theorem dX12_init_57 : decode cX12_init 57 = .ok (.ldc 29, 2) := by decide +kernel
theorem dX12_init_59 : decode cX12_init 59 = .ok (.aastore, 1) := by decide +kernel
theorem dX12_init_60 : decode cX12_init 60 = .ok (.dup, 1) := by decide +kernel
theorem dX12_init_61 : decode cX12_init 61 = .ok (.iconst 1, 1) := by decide +kernel
theorem dX12_init_62 : decode cX12_init 62 = .ok (.ldc 31, 2) := by decide +kernel
theorem dX12_init_64 : decode cX12_init 64 = .ok (.aastore, 1) := by decide +kernel
theorem dX12_init_65 : decode cX12_init 65 = .ok (.dup, 1) := by decide +kernel
theorem dX12_init_66 : decode cX12_init 66 = .ok (.iconst 2, 1) := by decide +kernel
theorem dX12_init_67 : decode cX12_init 67 = .ok (.ldc 33, 2) := by decide +kernel
theorem dX12_init_69 : decode cX12_init 69 = .ok (.aastore, 1) := by decide +kernel
theorem dX12_init_70 : decode cX12_init 70 = .ok (.dup, 1) := by decide +kernel
theorem dX12_init_71 : decode cX12_init 71 = .ok (.iconst 3, 1) := by decide +kernel
theorem dX12_init_72 : decode cX12_init 72 = .ok (.ldc 35, 2) := by decide +kernel
theorem dX12_init_74 : decode cX12_init 74 = .ok (.aastore, 1) := by decide +kernel
theorem dX12_init_75 : decode cX12_init 75 = .ok (.dup, 1) := by decide +kernel
theorem dX12_init_76 : decode cX12_init 76 = .ok (.iconst 4, 1) := by decide +kernel
theorem dX12_init_77 : decode cX12_init 77 = .ok (.ldc 13, 2) := by decide +kernel
theorem dX12_init_79 : decode cX12_init 79 = .ok (.aastore, 1) := by decide +kernel
theorem dX12_init_80 : decode cX12_init 80 = .ok (.dup, 1) := by decide +kernel
theorem dX12_init_81 : decode cX12_init 81 = .ok (.iconst 5, 1) := by decide +kernel
theorem dX12_init_82 : decode cX12_init 82 = .ok (.ldc 37, 2) := by decide +kernel
theorem dX12_init_84 : decode cX12_init 84 = .ok (.aastore, 1) := by decide +kernel
theorem dX12_init_85 : decode cX12_init 85 = .ok (.dup, 1) := by decide +kernel
theorem dX12_init_86 : decode cX12_init 86 = .ok (.bipush 6, 2) := by decide +kernel
theorem dX12_init_88 : decode cX12_init 88 = .ok (.ldc 15, 2) := by decide +kernel
theorem dX12_init_90 : decode cX12_init 90 = .ok (.aastore, 1) := by decide +kernel
theorem dX12_init_91 : decode cX12_init 91 = .ok (.dup, 1) := by decide +kernel
theorem dX12_init_92 : decode cX12_init 92 = .ok (.bipush 7, 2) := by decide +kernel
theorem dX12_init_94 : decode cX12_init 94 = .ok (.ldc 17, 2) := by decide +kernel
theorem dX12_init_96 : decode cX12_init 96 = .ok (.aastore, 1) := by decide +kernel
theorem dX12_init_97 : decode cX12_init 97 = .ok (.dup, 1) := by decide +kernel
theorem dX12_init_98 : decode cX12_init 98 = .ok (.bipush 8, 2) := by decide +kernel
theorem dX12_init_100 : decode cX12_init 100 = .ok (.ldc 19, 2) := by decide +kernel
theorem dX12_init_102 : decode cX12_init 102 = .ok (.aastore, 1) := by decide +kernel
theorem dX12_init_103 : decode cX12_init 103 = .ok (.putfield 39, 3) := by decide +kernel
theorem dX12_init_106 : decode cX12_init 106 = .ok (.aload_n 0, 1) := by decide +kernel
theorem dX12_init_107 : decode cX12_init 107 = .ok (.iconst 3, 1) := by decide +kernel
theorem dX12_init_108 : decode cX12_init 108 = .ok (.newarray .int, 2) := by decide +kernel
theorem dX12_init_110 : decode cX12_init 110 = .ok (.putfield 42, 3) := by decide +kernel
theorem dX12_init_113 : decode cX12_init 113 = .ok (.aload_n 0, 1) := by decide +kernel
theorem dX12_init_114 : decode cX12_init 114 = .ok (.bipush 21, 2) := by decide +kernel
theorem dX12_init_116 : decode cX12_init 116 = .ok (.newarray .int, 2) := by decide +kernel
theorem dX12_init_118 : decode cX12_init 118 = .ok (.putfield 46, 3) := by decide +kernel
theorem dX12_init_121 : decode cX12_init 121 = .ok (.aload_n 0, 1) := by decide +kernel
theorem dX12_init_122 : decode cX12_init 122 = .ok (.bipush 24, 2) := by decide +kernel
theorem dX12_init_124 : decode cX12_init 124 = .ok (.newarray .int, 2) := by decide +kernel
theorem dX12_init_126 : decode cX12_init 126 = .ok (.putfield 49, 3) := by decide +kernel
theorem dX12_init_129 : decode cX12_init 129 = .ok (.aload_n 0, 1) := by decide +kernel
theorem dX12_init_130 : decode cX12_init 130 = .ok (.bipush 24, 2) := by decide +kernel
theorem dX12_init_132 : decode cX12_init 132 = .ok (.newarray .int, 2) := by decide +kernel
theorem dX12_init_134 : decode cX12_init 134 = .ok (.putfield 52, 3) := by decide +kernel
theorem dX12_init_137 : decode cX12_init 137 = .ok (.aload_n 0, 1) := by decide +kernel
theorem dX12_init_138 : decode cX12_init 138 = .ok (.bipush 24, 2) := by decide +kernel
theorem dX12_init_140 : decode cX12_init 140 = .ok (.newarray .int, 2) := by decide +kernel
theorem dX12_init_142 : decode cX12_init 142 = .ok (.putfield 54, 3) := by decide +kernel
theorem dX12_init_145 : decode cX12_init 145 = .ok (.aload_n 0, 1) := by decide +kernel
theorem dX12_init_146 : decode cX12_init 146 = .ok (.bipush 24, 2) := by decide +kernel
theorem dX12_init_148 : decode cX12_init 148 = .ok (.newarray .int, 2) := by decide +kernel
theorem dX12_init_150 : decode cX12_init 150 = .ok (.putfield 56, 3) := by decide +kernel
theorem dX12_init_153 : decode cX12_init 153 = .ok (.aload_n 0, 1) := by decide +kernel
theorem dX12_init_154 : decode cX12_init 154 = .ok (.bipush 24, 2) := by decide +kernel
theorem dX12_init_156 : decode cX12_init 156 = .ok (.newarray .int, 2) := by decide +kernel
theorem dX12_init_158 : decode cX12_init 158 = .ok (.putfield 59, 3) := by decide +kernel
theorem dX12_init_161 : decode cX12_init 161 = .ok (.aload_n 0, 1) := by decide +kernel
theorem dX12_init_162 : decode cX12_init 162 = .ok (.sipush 2100, 3) := by decide +kernel
theorem dX12_init_165 : decode cX12_init 165 = .ok (.newarray .int, 2) := by decide +kernel
theorem dX12_init_167 : decode cX12_init 167 = .ok (.putfield 62, 3) := by decide +kernel
theorem dX12_init_170 : decode cX12_init 170 = .ok (.aload_n 0, 1) := by decide +kernel
theorem dX12_init_171 : decode cX12_init 171 = .ok (.iconst 2, 1) := by decide +kernel
theorem dX12_init_172 : decode cX12_init 172 = .ok (.newarray .int, 2) := by decide +kernel
theorem dX12_init_174 : decode cX12_init 174 = .ok (.putfield 65, 3) := by decide +kernel
theorem dX12_init_177 : decode cX12_init 177 = .ok (.aload_n 0, 1) := by decide +kernel
theorem dX12_init_178 : decode cX12_init 178 = .ok (.iconst 2, 1) := by decide +kernel
theorem dX12_init_179 : decode cX12_init 179 = .ok (.newarray .int, 2) := by decide +kernel
theorem dX12_init_181 : decode cX12_init 181 = .ok (.putfield 68, 3) := by decide +kernel
theorem dX12_init_184 : decode cX12_init 184 = .ok (.aload_n 0, 1) := by decide +kernel
theorem dX12_init_185 : decode cX12_init 185 = .ok (.iconst 2, 1) := by decide +kernel
theorem dX12_init_186 : decode cX12_init 186 = .ok (.newarray .int, 2) := by decide +kernel
theorem dX12_init_188 : decode cX12_init 188 = .ok (.putfield 71, 3) := by decide +kernel
theorem dX12_init_191 : decode cX12_init 191 = .ok (.aload_n 0, 1) := by decide +kernel
theorem dX12_init_192 : decode cX12_init 192 = .ok (.sipush 400, 3) := by decide +kernel
theorem dX12_init_195 : decode cX12_init 195 = .ok (.newarray .int, 2) := by decide +kernel
theorem dX12_init_197 : decode cX12_init 197 = .ok (.putfield 74, 3) := by decide +kernel
theorem dX12_init_200 : decode cX12_init 200 = .ok (.aload_n 0, 1) := by decide +kernel
theorem dX12_init_201 : decode cX12_init 201 = .ok (.iconst 2, 1) := by decide +kernel
theorem dX12_init_202 : decode cX12_init 202 = .ok (.newarray .int, 2) := by decide +kernel
theorem dX12_init_204 : decode cX12_init 204 = .ok (.putfield 77, 3) := by decide +kernel
theorem dX12_init_207 : decode cX12_init 207 = .ok (.aload_n 0, 1) := by decide +kernel
theorem dX12_init_208 : decode cX12_init 208 = .ok (.iconst 2, 1) := by decide +kernel
theorem dX12_init_209 : decode cX12_init 209 = .ok (.newarray .int, 2) := by decide +kernel
theorem dX12_init_211 : decode cX12_init 211 = .ok (.putfield 80, 3) := by decide +kernel
theorem dX12_init_214 : decode cX12_init 214 = .ok (.aload_n 0, 1) := by decide +kernel
theorem dX12_init_215 : decode cX12_init 215 = .ok (.bipush 64, 2) := by decide +kernel
theorem dX12_init_217 : decode cX12_init 217 = .ok (.newarray .int, 2) := by decide +kernel
theorem dX12_init_219 : decode cX12_init 219 = .ok (.putfield 83, 3) := by decide +kernel
theorem dX12_init_222 : decode cX12_init 222 = .ok (.aload_n 0, 1) := by decide +kernel
theorem dX12_init_223 : decode cX12_init 223 = .ok (.iconst 3, 1) := by decide +kernel
theorem dX12_init_224 : decode cX12_init 224 = .ok (.newarray .int, 2) := by decide +kernel
theorem dX12_init_226 : decode cX12_init 226 = .ok (.putfield 86, 3) := by decide +kernel
theorem dX12_init_229 : decode cX12_init 229 = .ok (.aload_n 0, 1) := by decide +kernel
theorem dX12_init_230 : decode cX12_init 230 = .ok (.sipush 700, 3) := by decide +kernel
theorem dX12_init_233 : decode cX12_init 233 = .ok (.newarray .int, 2) := by decide +kernel
theorem dX12_init_235 : decode cX12_init 235 = .ok (.putfield 89, 3) := by decide +kernel
theorem dX12_init_238 : decode cX12_init 238 = .ok (.aload_n 0, 1) := by decide +kernel
theorem dX12_init_239 : decode cX12_init 239 = .ok (.iconst (-1), 1) := by decide +kernel
theorem dX12_init_240 : decode cX12_init 240 = .ok (.putfield 92, 3) := by decide +kernel
theorem dX12_init_243 : decode cX12_init 243 = .ok (.aload_n 0, 1) := by decide +kernel
theorem dX12_init_244 : decode cX12_init 244 = .ok (.bipush 60, 2) := by decide +kernel
theorem dX12_init_246 : decode cX12_init 246 = .ok (.newarray .int, 2) := by decide +kernel
theorem dX12_init_248 : decode cX12_init 248 = .ok (.putfield 96, 3) := by decide +kernel
theorem dX12_init_251 : decode cX12_init 251 = .ok (.aload_n 0, 1) := by decide +kernel
theorem dX12_init_252 : decode cX12_init 252 = .ok (.bipush 100, 2) := by decide +kernel
theorem dX12_init_254 : decode cX12_init 254 = .ok (.newarray .long, 2) := by decide +kernel
theorem dX12_init_256 : decode cX12_init 256 = .ok (.putfield 99, 3) := by decide +kernel
theorem dX12_init_259 : decode cX12_init 259 = .ok (.aload_n 0, 1) := by decide +kernel
theorem dX12_init_260 : decode cX12_init 260 = .ok (.bipush 100, 2) := by decide +kernel
theorem dX12_init_262 : decode cX12_init 262 = .ok (.newarray .long, 2) := by decide +kernel
theorem dX12_init_264 : decode cX12_init 264 = .ok (.putfield 103, 3) := by decide +kernel
theorem dX12_init_267 : decode cX12_init 267 = .ok (.aload_n 0, 1) := by decide +kernel
theorem dX12_init_268 : decode cX12_init 268 = .ok (.sipush 800, 3) := by decide +kernel
theorem dX12_init_271 : decode cX12_init 271 = .ok (.newarray .int, 2) := by decide +kernel
theorem dX12_init_273 : decode cX12_init 273 = .ok (.putfield 106, 3) := by decide +kernel
theorem dX12_init_276 : decode cX12_init 276 = .ok (.aload_n 0, 1) := by decide +kernel
theorem dX12_init_277 : decode cX12_init 277 = .ok (.sipush 10000, 3) := by decide +kernel
theorem dX12_init_280 : decode cX12_init 280 = .ok (.newarray .boolean, 2) := by decide +kernel
theorem dX12_init_282 : decode cX12_init 282 = .ok (.putfield 109, 3) := by decide +kernel
theorem dX12_init_285 : decode cX12_init 285 = .ok (.aload_n 0, 1) := by decide +kernel
theorem dX12_init_286 : decode cX12_init 286 = .ok (.bipush 7, 2) := by decide +kernel
theorem dX12_init_288 : decode cX12_init 288 = .ok (.newarray .int, 2) := by decide +kernel
theorem dX12_init_290 : decode cX12_init 290 = .ok (.putfield 113, 3) := by decide +kernel
theorem dX12_init_293 : decode cX12_init 293 = .ok (.aload_n 0, 1) := by decide +kernel
theorem dX12_init_294 : decode cX12_init 294 = .ok (.sipush 10000, 3) := by decide +kernel
theorem dX12_init_297 : decode cX12_init 297 = .ok (.newarray .long, 2) := by decide +kernel
theorem dX12_init_299 : decode cX12_init 299 = .ok (.putfield 116, 3) := by decide +kernel
theorem dX12_init_302 : decode cX12_init 302 = .ok (.aload_n 0, 1) := by decide +kernel
theorem dX12_init_303 : decode cX12_init 303 = .ok (.sipush 10000, 3) := by decide +kernel
theorem dX12_init_306 : decode cX12_init 306 = .ok (.newarray .long, 2) := by decide +kernel
theorem dX12_init_308 : decode cX12_init 308 = .ok (.putfield 119, 3) := by decide +kernel
theorem dX12_init_311 : decode cX12_init 311 = .ok (.aload_n 0, 1) := by decide +kernel
theorem dX12_init_312 : decode cX12_init 312 = .ok (.sipush 8000, 3) := by decide +kernel
theorem dX12_init_315 : decode cX12_init 315 = .ok (.newarray .int, 2) := by decide +kernel
theorem dX12_init_317 : decode cX12_init 317 = .ok (.putfield 122, 3) := by decide +kernel
theorem dX12_init_320 : decode cX12_init 320 = .ok (.aload_n 0, 1) := by decide +kernel
theorem dX12_init_321 : decode cX12_init 321 = .ok (.sipush 200, 3) := by decide +kernel
theorem dX12_init_324 : decode cX12_init 324 = .ok (.newarray .int, 2) := by decide +kernel
theorem dX12_init_326 : decode cX12_init 326 = .ok (.putfield 125, 3) := by decide +kernel
theorem dX12_init_329 : decode cX12_init 329 = .ok (.aload_n 0, 1) := by decide +kernel
theorem dX12_init_330 : decode cX12_init 330 = .ok (.iconst 4, 1) := by decide +kernel
theorem dX12_init_331 : decode cX12_init 331 = .ok (.newarray .long, 2) := by decide +kernel
theorem dX12_init_333 : decode cX12_init 333 = .ok (.putfield 128, 3) := by decide +kernel
theorem dX12_init_336 : decode cX12_init 336 = .ok (.aload_n 0, 1) := by decide +kernel
theorem dX12_init_337 : decode cX12_init 337 = .ok (.iconst 2, 1) := by decide +kernel
theorem dX12_init_338 : decode cX12_init 338 = .ok (.newarray .int, 2) := by decide +kernel
theorem dX12_init_340 : decode cX12_init 340 = .ok (.putfield 131, 3) := by decide +kernel
theorem dX12_init_343 : decode cX12_init 343 = .ok (.aload_n 0, 1) := by decide +kernel
theorem dX12_init_344 : decode cX12_init 344 = .ok (.iconst 2, 1) := by decide +kernel
theorem dX12_init_345 : decode cX12_init 345 = .ok (.newarray .int, 2) := by decide +kernel
theorem dX12_init_347 : decode cX12_init 347 = .ok (.putfield 134, 3) := by decide +kernel
theorem dX12_init_350 : decode cX12_init 350 = .ok (.aload_n 0, 1) := by decide +kernel
theorem dX12_init_351 : decode cX12_init 351 = .ok (.iconst 2, 1) := by decide +kernel
theorem dX12_init_352 : decode cX12_init 352 = .ok (.newarray .int, 2) := by decide +kernel
theorem dX12_init_354 : decode cX12_init 354 = .ok (.putfield 137, 3) := by decide +kernel
theorem dX12_init_357 : decode cX12_init 357 = .ok (.aload_n 0, 1) := by decide +kernel
theorem dX12_init_358 : decode cX12_init 358 = .ok (.sipush 400, 3) := by decide +kernel
theorem dX12_init_361 : decode cX12_init 361 = .ok (.newarray .int, 2) := by decide +kernel
theorem dX12_init_363 : decode cX12_init 363 = .ok (.putfield 140, 3) := by decide +kernel
theorem dX12_init_366 : decode cX12_init 366 = .ok (.aload_n 0, 1) := by decide +kernel
theorem dX12_init_367 : decode cX12_init 367 = .ok (.iconst 2, 1) := by decide +kernel
theorem dX12_init_368 : decode cX12_init 368 = .ok (.newarray .int, 2) := by decide +kernel
theorem dX12_init_370 : decode cX12_init 370 = .ok (.putfield 143, 3) := by decide +kernel
theorem dX12_init_373 : decode cX12_init 373 = .ok (.aload_n 0, 1) := by decide +kernel
theorem dX12_init_374 : decode cX12_init 374 = .ok (.iconst 2, 1) := by decide +kernel
theorem dX12_init_375 : decode cX12_init 375 = .ok (.newarray .int, 2) := by decide +kernel
theorem dX12_init_377 : decode cX12_init 377 = .ok (.putfield 146, 3) := by decide +kernel
theorem dX12_init_380 : decode cX12_init 380 = .ok (.aload_n 0, 1) := by decide +kernel
theorem dX12_init_381 : decode cX12_init 381 = .ok (.bipush 64, 2) := by decide +kernel
theorem dX12_init_383 : decode cX12_init 383 = .ok (.newarray .int, 2) := by decide +kernel
theorem dX12_init_385 : decode cX12_init 385 = .ok (.putfield 149, 3) := by decide +kernel
theorem dX12_init_388 : decode cX12_init 388 = .ok (.aload_n 0, 1) := by decide +kernel
theorem dX12_init_389 : decode cX12_init 389 = .ok (.iconst 3, 1) := by decide +kernel
theorem dX12_init_390 : decode cX12_init 390 = .ok (.newarray .int, 2) := by decide +kernel
theorem dX12_init_392 : decode cX12_init 392 = .ok (.putfield 152, 3) := by decide +kernel
theorem dX12_init_395 : decode cX12_init 395 = .ok (.iconst 0, 1) := by decide +kernel
theorem dX12_init_396 : decode cX12_init 396 = .ok (.istore_n 1, 1) := by decide +kernel
theorem dX12_init_397 : decode cX12_init 397 = .ok (.iload_n 1, 1) := by decide +kernel
theorem dX12_init_398 : decode cX12_init 398 = .ok (.iconst 2, 1) := by decide +kernel
theorem dX12_init_399 : decode cX12_init 399 = .ok (.if_icmp .ge 14, 3) := by decide +kernel
theorem dX12_init_402 : decode cX12_init 402 = .ok (.aload_n 0, 1) := by decide +kernel
theorem dX12_init_403 : decode cX12_init 403 = .ok (.iload_n 1, 1) := by decide +kernel
theorem dX12_init_404 : decode cX12_init 404 = .ok (.invokevirtual 155, 3) := by decide +kernel
theorem dX12_init_407 : decode cX12_init 407 = .ok (.iinc 1 1, 3) := by decide +kernel
theorem dX12_init_410 : decode cX12_init 410 = .ok (.goto (-13), 3) := by decide +kernel
theorem dX12_init_413 : decode cX12_init 413 = .ok (.return_, 1) := by decide +kernel
theorem dX12_thrown_0 : decode cX12_thrown 0 = .ok (.aload_n 0, 1) := by decide +kernel
theorem dX12_thrown_1 : decode cX12_thrown 1 = .ok (.getfield 159, 3) := by decide +kernel
theorem dX12_thrown_4 : decode cX12_thrown 4 = .ok (.ireturn, 1) := by decide +kernel
theorem dX12_fail_0 : decode cX12_fail 0 = .ok (.aload_n 0, 1) := by decide +kernel
theorem dX12_fail_1 : decode cX12_fail 1 = .ok (.iload_n 1, 1) := by decide +kernel
theorem dX12_fail_2 : decode cX12_fail 2 = .ok (.putfield 159, 3) := by decide +kernel
theorem dX12_fail_5 : decode cX12_fail 5 = .ok (.iconst 0, 1) := by decide +kernel
theorem dX12_fail_6 : decode cX12_fail 6 = .ok (.ireturn, 1) := by decide +kernel
theorem dX12_isIn_0 : decode cX12_isIn 0 = .ok (.iload_n 0, 1) := by decide +kernel
theorem dX12_isIn_1 : decode cX12_isIn 1 = .ok (.iload_n 1, 1) := by decide +kernel
theorem dX12_isIn_2 : decode cX12_isIn 2 = .ok (.if_icmp .lt 12, 3) := by decide +kernel
theorem dX12_isIn_5 : decode cX12_isIn 5 = .ok (.iload_n 0, 1) := by decide +kernel
theorem dX12_isIn_6 : decode cX12_isIn 6 = .ok (.iload_n 2, 1) := by decide +kernel
theorem dX12_isIn_7 : decode cX12_isIn 7 = .ok (.if_icmp .gt 7, 3) := by decide +kernel
theorem dX12_isIn_10 : decode cX12_isIn 10 = .ok (.iconst 1, 1) := by decide +kernel
theorem dX12_isIn_11 : decode cX12_isIn 11 = .ok (.goto 4, 3) := by decide +kernel
theorem dX12_isIn_14 : decode cX12_isIn 14 = .ok (.iconst 0, 1) := by decide +kernel
theorem dX12_isIn_15 : decode cX12_isIn 15 = .ok (.ireturn, 1) := by decide +kernel
theorem dX12_atFirst_0 : decode cX12_atFirst 0 = .ok (.aload_n 0, 1) := by decide +kernel
theorem dX12_atFirst_1 : decode cX12_atFirst 1 = .ok (.getfield 42, 3) := by decide +kernel
theorem dX12_atFirst_4 : decode cX12_atFirst 4 = .ok (.iload_n 1, 1) := by decide +kernel
theorem dX12_atFirst_5 : decode cX12_atFirst 5 = .ok (.iconst 0, 1) := by decide +kernel
theorem dX12_atFirst_6 : decode cX12_atFirst 6 = .ok (.iastore, 1) := by decide +kernel
theorem dX12_atFirst_7 : decode cX12_atFirst 7 = .ok (.aload_n 0, 1) := by decide +kernel
theorem dX12_atFirst_8 : decode cX12_atFirst 8 = .ok (.getfield 46, 3) := by decide +kernel
theorem dX12_atFirst_11 : decode cX12_atFirst 11 = .ok (.bipush 7, 2) := by decide +kernel
theorem dX12_atFirst_13 : decode cX12_atFirst 13 = .ok (.iload_n 1, 1) := by decide +kernel
theorem dX12_atFirst_14 : decode cX12_atFirst 14 = .ok (.imul, 1) := by decide +kernel
theorem dX12_atFirst_15 : decode cX12_atFirst 15 = .ok (.iconst 1, 1) := by decide +kernel
theorem dX12_atFirst_16 : decode cX12_atFirst 16 = .ok (.iastore, 1) := by decide +kernel
theorem dX12_atFirst_17 : decode cX12_atFirst 17 = .ok (.aload_n 0, 1) := by decide +kernel
theorem dX12_atFirst_18 : decode cX12_atFirst 18 = .ok (.getfield 46, 3) := by decide +kernel
theorem dX12_atFirst_21 : decode cX12_atFirst 21 = .ok (.bipush 7, 2) := by decide +kernel
theorem dX12_atFirst_23 : decode cX12_atFirst 23 = .ok (.iload_n 1, 1) := by decide +kernel
theorem dX12_atFirst_24 : decode cX12_atFirst 24 = .ok (.imul, 1) := by decide +kernel
theorem dX12_atFirst_25 : decode cX12_atFirst 25 = .ok (.iconst 1, 1) := by decide +kernel
theorem dX12_atFirst_26 : decode cX12_atFirst 26 = .ok (.iadd, 1) := by decide +kernel
theorem dX12_atFirst_27 : decode cX12_atFirst 27 = .ok (.iconst (-1), 1) := by decide +kernel
theorem dX12_atFirst_28 : decode cX12_atFirst 28 = .ok (.iastore, 1) := by decide +kernel
theorem dX12_atFirst_29 : decode cX12_atFirst 29 = .ok (.iconst 2, 1) := by decide +kernel
theorem dX12_atFirst_30 : decode cX12_atFirst 30 = .ok (.istore_n 2, 1) := by decide +kernel
theorem dX12_atFirst_31 : decode cX12_atFirst 31 = .ok (.iload_n 2, 1) := by decide +kernel
theorem dX12_atFirst_32 : decode cX12_atFirst 32 = .ok (.bipush 6, 2) := by decide +kernel
theorem dX12_atFirst_34 : decode cX12_atFirst 34 = .ok (.if_icmp .ge 21, 3) := by decide +kernel
theorem dX12_atFirst_37 : decode cX12_atFirst 37 = .ok (.aload_n 0, 1) := by decide +kernel
theorem dX12_atFirst_38 : decode cX12_atFirst 38 = .ok (.getfield 46, 3) := by decide +kernel
theorem dX12_atFirst_41 : decode cX12_atFirst 41 = .ok (.bipush 7, 2) := by decide +kernel
theorem dX12_atFirst_43 : decode cX12_atFirst 43 = .ok (.iload_n 1, 1) := by decide +kernel
theorem dX12_atFirst_44 : decode cX12_atFirst 44 = .ok (.imul, 1) := by decide +kernel
theorem dX12_atFirst_45 : decode cX12_atFirst 45 = .ok (.iload_n 2, 1) := by decide +kernel
theorem dX12_atFirst_46 : decode cX12_atFirst 46 = .ok (.iadd, 1) := by decide +kernel
theorem dX12_atFirst_47 : decode cX12_atFirst 47 = .ok (.iconst 0, 1) := by decide +kernel
theorem dX12_atFirst_48 : decode cX12_atFirst 48 = .ok (.iastore, 1) := by decide +kernel
theorem dX12_atFirst_49 : decode cX12_atFirst 49 = .ok (.iinc 2 1, 3) := by decide +kernel
theorem dX12_atFirst_52 : decode cX12_atFirst 52 = .ok (.goto (-21), 3) := by decide +kernel
theorem dX12_atFirst_55 : decode cX12_atFirst 55 = .ok (.aload_n 0, 1) := by decide +kernel
theorem dX12_atFirst_56 : decode cX12_atFirst 56 = .ok (.getfield 46, 3) := by decide +kernel
theorem dX12_atFirst_59 : decode cX12_atFirst 59 = .ok (.bipush 7, 2) := by decide +kernel
theorem dX12_atFirst_61 : decode cX12_atFirst 61 = .ok (.iload_n 1, 1) := by decide +kernel
theorem dX12_atFirst_62 : decode cX12_atFirst 62 = .ok (.imul, 1) := by decide +kernel
theorem dX12_atFirst_63 : decode cX12_atFirst 63 = .ok (.bipush 6, 2) := by decide +kernel
theorem dX12_atFirst_65 : decode cX12_atFirst 65 = .ok (.iadd, 1) := by decide +kernel
theorem dX12_atFirst_66 : decode cX12_atFirst 66 = .ok (.bipush 100, 2) := by decide +kernel
theorem dX12_atFirst_68 : decode cX12_atFirst 68 = .ok (.iastore, 1) := by decide +kernel
theorem dX12_atFirst_69 : decode cX12_atFirst 69 = .ok (.return_, 1) := by decide +kernel
theorem dX12_isGate_0 : decode cX12_isGate 0 = .ok (.iload_n 0, 1) := by decide +kernel
theorem dX12_isGate_1 : decode cX12_isGate 1 = .ok (.iconst 0, 1) := by decide +kernel
theorem dX12_isGate_2 : decode cX12_isGate 2 = .ok (.iconst 1, 1) := by decide +kernel
theorem dX12_isGate_3 : decode cX12_isGate 3 = .ok (.invokestatic 162, 3) := by decide +kernel
theorem dX12_isGate_6 : decode cX12_isGate 6 = .ok (.ireturn, 1) := by decide +kernel
theorem dX12_isSort_0 : decode cX12_isSort 0 = .ok (.iload_n 1, 1) := by decide +kernel
theorem dX12_isSort_1 : decode cX12_isSort 1 = .ok (.invokestatic 166, 3) := by decide +kernel
theorem dX12_isSort_4 : decode cX12_isSort 4 = .ok (.ifCond .eq 23, 3) := by decide +kernel
theorem dX12_isSort_7 : decode cX12_isSort 7 = .ok (.iload_n 2, 1) := by decide +kernel
theorem dX12_isSort_8 : decode cX12_isSort 8 = .ok (.iconst 0, 1) := by decide +kernel
theorem dX12_isSort_9 : decode cX12_isSort 9 = .ok (.aload_n 0, 1) := by decide +kernel
theorem dX12_isSort_10 : decode cX12_isSort 10 = .ok (.getfield 42, 3) := by decide +kernel
theorem dX12_isSort_13 : decode cX12_isSort 13 = .ok (.iload_n 1, 1) := by decide +kernel
theorem dX12_isSort_14 : decode cX12_isSort 14 = .ok (.iaload, 1) := by decide +kernel
theorem dX12_isSort_15 : decode cX12_isSort 15 = .ok (.iconst 1, 1) := by decide +kernel
theorem dX12_isSort_16 : decode cX12_isSort 16 = .ok (.isub, 1) := by decide +kernel
theorem dX12_isSort_17 : decode cX12_isSort 17 = .ok (.invokestatic 162, 3) := by decide +kernel
theorem dX12_isSort_20 : decode cX12_isSort 20 = .ok (.ifCond .eq 7, 3) := by decide +kernel
theorem dX12_isSort_23 : decode cX12_isSort 23 = .ok (.iconst 1, 1) := by decide +kernel
theorem dX12_isSort_24 : decode cX12_isSort 24 = .ok (.goto 4, 3) := by decide +kernel
theorem dX12_isSort_27 : decode cX12_isSort 27 = .ok (.iconst 0, 1) := by decide +kernel
theorem dX12_isSort_28 : decode cX12_isSort 28 = .ok (.ireturn, 1) := by decide +kernel
theorem dX12_statesOf_0 : decode cX12_statesOf 0 = .ok (.aload_n 0, 1) := by decide +kernel
theorem dX12_statesOf_1 : decode cX12_statesOf 1 = .ok (.getfield 46, 3) := by decide +kernel
theorem dX12_statesOf_4 : decode cX12_statesOf 4 = .ok (.bipush 7, 2) := by decide +kernel
theorem dX12_statesOf_6 : decode cX12_statesOf 6 = .ok (.iload_n 1, 1) := by decide +kernel
theorem dX12_statesOf_7 : decode cX12_statesOf 7 = .ok (.imul, 1) := by decide +kernel
theorem dX12_statesOf_8 : decode cX12_statesOf 8 = .ok (.iaload, 1) := by decide +kernel
theorem dX12_statesOf_9 : decode cX12_statesOf 9 = .ok (.ifCond .ne 7, 3) := by decide +kernel
theorem dX12_statesOf_12 : decode cX12_statesOf 12 = .ok (.iconst 1, 1) := by decide +kernel
theorem dX12_statesOf_13 : decode cX12_statesOf 13 = .ok (.goto 23, 3) := by decide +kernel
theorem dX12_statesOf_16 : decode cX12_statesOf 16 = .ok (.aload_n 0, 1) := by decide +kernel
theorem dX12_statesOf_17 : decode cX12_statesOf 17 = .ok (.getfield 46, 3) := by decide +kernel
theorem dX12_statesOf_20 : decode cX12_statesOf 20 = .ok (.bipush 7, 2) := by decide +kernel
theorem dX12_statesOf_22 : decode cX12_statesOf 22 = .ok (.iload_n 1, 1) := by decide +kernel
theorem dX12_statesOf_23 : decode cX12_statesOf 23 = .ok (.imul, 1) := by decide +kernel
theorem dX12_statesOf_24 : decode cX12_statesOf 24 = .ok (.iaload, 1) := by decide +kernel
theorem dX12_statesOf_25 : decode cX12_statesOf 25 = .ok (.iconst 1, 1) := by decide +kernel
theorem dX12_statesOf_26 : decode cX12_statesOf 26 = .ok (.if_icmp .ne 8, 3) := by decide +kernel
theorem dX12_statesOf_29 : decode cX12_statesOf 29 = .ok (.bipush 10, 2) := by decide +kernel
theorem dX12_statesOf_31 : decode cX12_statesOf 31 = .ok (.goto 5, 3) := by decide +kernel
theorem dX12_statesOf_34 : decode cX12_statesOf 34 = .ok (.bipush 100, 2) := by decide +kernel
theorem dX12_statesOf_36 : decode cX12_statesOf 36 = .ok (.ireturn, 1) := by decide +kernel
theorem dX12_isState_0 : decode cX12_isState 0 = .ok (.iload_n 2, 1) := by decide +kernel
theorem dX12_isState_1 : decode cX12_isState 1 = .ok (.iconst 0, 1) := by decide +kernel
theorem dX12_isState_2 : decode cX12_isState 2 = .ok (.aload_n 0, 1) := by decide +kernel
theorem dX12_isState_3 : decode cX12_isState 3 = .ok (.iload_n 1, 1) := by decide +kernel
theorem dX12_isState_4 : decode cX12_isState 4 = .ok (.invokevirtual 170, 3) := by decide +kernel
theorem dX12_isState_7 : decode cX12_isState 7 = .ok (.iconst 1, 1) := by decide +kernel
theorem dX12_isState_8 : decode cX12_isState 8 = .ok (.isub, 1) := by decide +kernel
theorem dX12_isState_9 : decode cX12_isState 9 = .ok (.invokestatic 162, 3) := by decide +kernel
theorem dX12_isState_12 : decode cX12_isState 12 = .ok (.ireturn, 1) := by decide +kernel
theorem dX12_feed_0 : decode cX12_feed 0 = .ok (.aload_n 0, 1) := by decide +kernel
theorem dX12_feed_1 : decode cX12_feed 1 = .ok (.iconst 0, 1) := by decide +kernel
theorem dX12_feed_2 : decode cX12_feed 2 = .ok (.putfield 159, 3) := by decide +kernel
theorem dX12_feed_5 : decode cX12_feed 5 = .ok (.aload_n 0, 1) := by decide +kernel
theorem dX12_feed_6 : decode cX12_feed 6 = .ok (.getfield 174, 3) := by decide +kernel
theorem dX12_feed_9 : decode cX12_feed 9 = .ok (.bipush 20, 2) := by decide +kernel
theorem dX12_feed_11 : decode cX12_feed 11 = .ok (.iadd, 1) := by decide +kernel
theorem dX12_feed_12 : decode cX12_feed 12 = .ok (.sipush 700, 3) := by decide +kernel
theorem dX12_feed_15 : decode cX12_feed 15 = .ok (.if_icmp .le 5, 3) := by decide +kernel
theorem dX12_feed_18 : decode cX12_feed 18 = .ok (.iconst (-1), 1) := by decide +kernel
theorem dX12_feed_19 : decode cX12_feed 19 = .ok (.ireturn, 1) := by decide +kernel
theorem dX12_feed_20 : decode cX12_feed 20 = .ok (.iconst 0, 1) := by decide +kernel
theorem dX12_feed_21 : decode cX12_feed 21 = .ok (.istore 6, 2) := by decide +kernel
theorem dX12_feed_23 : decode cX12_feed 23 = .ok (.iload 6, 2) := by decide +kernel
theorem dX12_feed_25 : decode cX12_feed 25 = .ok (.bipush 20, 2) := by decide +kernel
theorem dX12_feed_27 : decode cX12_feed 27 = .ok (.if_icmp .ge 93, 3) := by decide +kernel
theorem dX12_feed_30 : decode cX12_feed 30 = .ok (.iload 6, 2) := by decide +kernel
theorem dX12_feed_32 : decode cX12_feed 32 = .ok (.iconst 4, 1) := by decide +kernel
theorem dX12_feed_33 : decode cX12_feed 33 = .ok (.if_icmp .ge 7, 3) := by decide +kernel
theorem dX12_feed_36 : decode cX12_feed 36 = .ok (.iload_n 1, 1) := by decide +kernel
theorem dX12_feed_37 : decode cX12_feed 37 = .ok (.goto 39, 3) := by decide +kernel
theorem dX12_feed_40 : decode cX12_feed 40 = .ok (.iload 6, 2) := by decide +kernel
theorem dX12_feed_42 : decode cX12_feed 42 = .ok (.bipush 8, 2) := by decide +kernel
theorem dX12_feed_44 : decode cX12_feed 44 = .ok (.if_icmp .ge 7, 3) := by decide +kernel
theorem dX12_feed_47 : decode cX12_feed 47 = .ok (.iload_n 2, 1) := by decide +kernel
theorem dX12_feed_48 : decode cX12_feed 48 = .ok (.goto 28, 3) := by decide +kernel
theorem dX12_feed_51 : decode cX12_feed 51 = .ok (.iload 6, 2) := by decide +kernel
theorem dX12_feed_53 : decode cX12_feed 53 = .ok (.bipush 12, 2) := by decide +kernel
theorem dX12_feed_55 : decode cX12_feed 55 = .ok (.if_icmp .ge 7, 3) := by decide +kernel
theorem dX12_feed_58 : decode cX12_feed 58 = .ok (.iload_n 3, 1) := by decide +kernel
theorem dX12_feed_59 : decode cX12_feed 59 = .ok (.goto 17, 3) := by decide +kernel
theorem dX12_feed_62 : decode cX12_feed 62 = .ok (.iload 6, 2) := by decide +kernel
theorem dX12_feed_64 : decode cX12_feed 64 = .ok (.bipush 16, 2) := by decide +kernel
theorem dX12_feed_66 : decode cX12_feed 66 = .ok (.if_icmp .ge 8, 3) := by decide +kernel
theorem dX12_feed_69 : decode cX12_feed 69 = .ok (.iload 4, 2) := by decide +kernel
theorem dX12_feed_71 : decode cX12_feed 71 = .ok (.goto 5, 3) := by decide +kernel
theorem dX12_feed_74 : decode cX12_feed 74 = .ok (.iload 5, 2) := by decide +kernel
theorem dX12_feed_76 : decode cX12_feed 76 = .ok (.istore 7, 2) := by decide +kernel
theorem dX12_feed_78 : decode cX12_feed 78 = .ok (.aload_n 0, 1) := by decide +kernel
theorem dX12_feed_79 : decode cX12_feed 79 = .ok (.getfield 89, 3) := by decide +kernel
theorem dX12_feed_82 : decode cX12_feed 82 = .ok (.aload_n 0, 1) := by decide +kernel
theorem dX12_feed_83 : decode cX12_feed 83 = .ok (.getfield 174, 3) := by decide +kernel
theorem dX12_feed_86 : decode cX12_feed 86 = .ok (.iload 7, 2) := by decide +kernel
theorem dX12_feed_88 : decode cX12_feed 88 = .ok (.bipush 24, 2) := by decide +kernel
theorem dX12_feed_90 : decode cX12_feed 90 = .ok (.bipush 8, 2) := by decide +kernel
theorem dX12_feed_92 : decode cX12_feed 92 = .ok (.iload 6, 2) := by decide +kernel
theorem dX12_feed_94 : decode cX12_feed 94 = .ok (.iconst 4, 1) := by decide +kernel
theorem dX12_feed_95 : decode cX12_feed 95 = .ok (.irem, 1) := by decide +kernel
theorem dX12_feed_96 : decode cX12_feed 96 = .ok (.imul, 1) := by decide +kernel
theorem dX12_feed_97 : decode cX12_feed 97 = .ok (.isub, 1) := by decide +kernel
theorem dX12_feed_98 : decode cX12_feed 98 = .ok (.ishr, 1) := by decide +kernel
theorem dX12_feed_99 : decode cX12_feed 99 = .ok (.sipush 255, 3) := by decide +kernel
theorem dX12_feed_102 : decode cX12_feed 102 = .ok (.iand, 1) := by decide +kernel
theorem dX12_feed_103 : decode cX12_feed 103 = .ok (.iastore, 1) := by decide +kernel
theorem dX12_feed_104 : decode cX12_feed 104 = .ok (.aload_n 0, 1) := by decide +kernel
theorem dX12_feed_105 : decode cX12_feed 105 = .ok (.dup, 1) := by decide +kernel
theorem dX12_feed_106 : decode cX12_feed 106 = .ok (.getfield 174, 3) := by decide +kernel
theorem dX12_feed_109 : decode cX12_feed 109 = .ok (.iconst 1, 1) := by decide +kernel
theorem dX12_feed_110 : decode cX12_feed 110 = .ok (.iadd, 1) := by decide +kernel
theorem dX12_feed_111 : decode cX12_feed 111 = .ok (.putfield 174, 3) := by decide +kernel
theorem dX12_feed_114 : decode cX12_feed 114 = .ok (.iinc 6 1, 3) := by decide +kernel
theorem dX12_feed_117 : decode cX12_feed 117 = .ok (.goto (-94), 3) := by decide +kernel
theorem dX12_feed_120 : decode cX12_feed 120 = .ok (.aload_n 0, 1) := by decide +kernel
theorem dX12_feed_121 : decode cX12_feed 121 = .ok (.getfield 174, 3) := by decide +kernel
theorem dX12_feed_124 : decode cX12_feed 124 = .ok (.ireturn, 1) := by decide +kernel
theorem dX12_byteAt_0 : decode cX12_byteAt 0 = .ok (.iload_n 1, 1) := by decide +kernel
theorem dX12_byteAt_1 : decode cX12_byteAt 1 = .ok (.aload_n 0, 1) := by decide +kernel
theorem dX12_byteAt_2 : decode cX12_byteAt 2 = .ok (.getfield 177, 3) := by decide +kernel
theorem dX12_byteAt_5 : decode cX12_byteAt 5 = .ok (.if_icmp .ge 12, 3) := by decide +kernel
theorem dX12_byteAt_8 : decode cX12_byteAt 8 = .ok (.aload_n 0, 1) := by decide +kernel
theorem dX12_byteAt_9 : decode cX12_byteAt 9 = .ok (.getfield 89, 3) := by decide +kernel
theorem dX12_byteAt_12 : decode cX12_byteAt 12 = .ok (.iload_n 1, 1) := by decide +kernel
theorem dX12_byteAt_13 : decode cX12_byteAt 13 = .ok (.iaload, 1) := by decide +kernel
theorem dX12_byteAt_14 : decode cX12_byteAt 14 = .ok (.goto 4, 3) := by decide +kernel
theorem dX12_byteAt_17 : decode cX12_byteAt 17 = .ok (.iconst (-1), 1) := by decide +kernel
theorem dX12_byteAt_18 : decode cX12_byteAt 18 = .ok (.ireturn, 1) := by decide +kernel
theorem dX12_isLetter_0 : decode cX12_isLetter 0 = .ok (.iload_n 0, 1) := by decide +kernel
theorem dX12_isLetter_1 : decode cX12_isLetter 1 = .ok (.bipush 97, 2) := by decide +kernel
theorem dX12_isLetter_3 : decode cX12_isLetter 3 = .ok (.if_icmp .lt 13, 3) := by decide +kernel
theorem dX12_isLetter_6 : decode cX12_isLetter 6 = .ok (.iload_n 0, 1) := by decide +kernel
theorem dX12_isLetter_7 : decode cX12_isLetter 7 = .ok (.bipush 122, 2) := by decide +kernel
theorem dX12_isLetter_9 : decode cX12_isLetter 9 = .ok (.if_icmp .gt 7, 3) := by decide +kernel
theorem dX12_isLetter_12 : decode cX12_isLetter 12 = .ok (.iconst 1, 1) := by decide +kernel
theorem dX12_isLetter_13 : decode cX12_isLetter 13 = .ok (.goto 4, 3) := by decide +kernel
theorem dX12_isLetter_16 : decode cX12_isLetter 16 = .ok (.iconst 0, 1) := by decide +kernel
theorem dX12_isLetter_17 : decode cX12_isLetter 17 = .ok (.ireturn, 1) := by decide +kernel
theorem dX12_isDigit_0 : decode cX12_isDigit 0 = .ok (.iload_n 0, 1) := by decide +kernel
theorem dX12_isDigit_1 : decode cX12_isDigit 1 = .ok (.bipush 48, 2) := by decide +kernel
theorem dX12_isDigit_3 : decode cX12_isDigit 3 = .ok (.if_icmp .lt 13, 3) := by decide +kernel
theorem dX12_isDigit_6 : decode cX12_isDigit 6 = .ok (.iload_n 0, 1) := by decide +kernel
theorem dX12_isDigit_7 : decode cX12_isDigit 7 = .ok (.bipush 57, 2) := by decide +kernel
theorem dX12_isDigit_9 : decode cX12_isDigit 9 = .ok (.if_icmp .gt 7, 3) := by decide +kernel
theorem dX12_isDigit_12 : decode cX12_isDigit 12 = .ok (.iconst 1, 1) := by decide +kernel
theorem dX12_isDigit_13 : decode cX12_isDigit 13 = .ok (.goto 4, 3) := by decide +kernel
theorem dX12_isDigit_16 : decode cX12_isDigit 16 = .ok (.iconst 0, 1) := by decide +kernel
theorem dX12_isDigit_17 : decode cX12_isDigit 17 = .ok (.ireturn, 1) := by decide +kernel
theorem dX12_isMark_0 : decode cX12_isMark 0 = .ok (.iload_n 0, 1) := by decide +kernel
theorem dX12_isMark_1 : decode cX12_isMark 1 = .ok (.bipush 59, 2) := by decide +kernel
theorem dX12_isMark_3 : decode cX12_isMark 3 = .ok (.if_icmp .eq 51, 3) := by decide +kernel
theorem dX12_isMark_6 : decode cX12_isMark 6 = .ok (.iload_n 0, 1) := by decide +kernel
theorem dX12_isMark_7 : decode cX12_isMark 7 = .ok (.bipush 40, 2) := by decide +kernel
theorem dX12_isMark_9 : decode cX12_isMark 9 = .ok (.if_icmp .eq 45, 3) := by decide +kernel
theorem dX12_isMark_12 : decode cX12_isMark 12 = .ok (.iload_n 0, 1) := by decide +kernel
theorem dX12_isMark_13 : decode cX12_isMark 13 = .ok (.bipush 41, 2) := by decide +kernel
theorem dX12_isMark_15 : decode cX12_isMark 15 = .ok (.if_icmp .eq 39, 3) := by decide +kernel
theorem dX12_isMark_18 : decode cX12_isMark 18 = .ok (.iload_n 0, 1) := by decide +kernel
theorem dX12_isMark_19 : decode cX12_isMark 19 = .ok (.bipush 43, 2) := by decide +kernel
theorem dX12_isMark_21 : decode cX12_isMark 21 = .ok (.if_icmp .eq 33, 3) := by decide +kernel
theorem dX12_isMark_24 : decode cX12_isMark 24 = .ok (.iload_n 0, 1) := by decide +kernel
theorem dX12_isMark_25 : decode cX12_isMark 25 = .ok (.bipush 45, 2) := by decide +kernel
theorem dX12_isMark_27 : decode cX12_isMark 27 = .ok (.if_icmp .eq 27, 3) := by decide +kernel
theorem dX12_isMark_30 : decode cX12_isMark 30 = .ok (.iload_n 0, 1) := by decide +kernel
theorem dX12_isMark_31 : decode cX12_isMark 31 = .ok (.bipush 42, 2) := by decide +kernel
theorem dX12_isMark_33 : decode cX12_isMark 33 = .ok (.if_icmp .eq 21, 3) := by decide +kernel
theorem dX12_isMark_36 : decode cX12_isMark 36 = .ok (.iload_n 0, 1) := by decide +kernel
theorem dX12_isMark_37 : decode cX12_isMark 37 = .ok (.bipush 47, 2) := by decide +kernel
theorem dX12_isMark_39 : decode cX12_isMark 39 = .ok (.if_icmp .eq 15, 3) := by decide +kernel
theorem dX12_isMark_42 : decode cX12_isMark 42 = .ok (.iload_n 0, 1) := by decide +kernel
theorem dX12_isMark_43 : decode cX12_isMark 43 = .ok (.bipush 60, 2) := by decide +kernel
theorem dX12_isMark_45 : decode cX12_isMark 45 = .ok (.if_icmp .eq 9, 3) := by decide +kernel
theorem dX12_isMark_48 : decode cX12_isMark 48 = .ok (.iload_n 0, 1) := by decide +kernel
theorem dX12_isMark_49 : decode cX12_isMark 49 = .ok (.bipush 61, 2) := by decide +kernel
theorem dX12_isMark_51 : decode cX12_isMark 51 = .ok (.if_icmp .ne 7, 3) := by decide +kernel
theorem dX12_isMark_54 : decode cX12_isMark 54 = .ok (.iconst 1, 1) := by decide +kernel
theorem dX12_isMark_55 : decode cX12_isMark 55 = .ok (.goto 4, 3) := by decide +kernel
theorem dX12_isMark_58 : decode cX12_isMark 58 = .ok (.iconst 0, 1) := by decide +kernel
theorem dX12_isMark_59 : decode cX12_isMark 59 = .ok (.ireturn, 1) := by decide +kernel
theorem dX12_stepOn_0 : decode cX12_stepOn 0 = .ok (.aload_n 0, 1) := by decide +kernel
theorem dX12_stepOn_1 : decode cX12_stepOn 1 = .ok (.aload_n 0, 1) := by decide +kernel
theorem dX12_stepOn_2 : decode cX12_stepOn 2 = .ok (.getfield 180, 3) := by decide +kernel
theorem dX12_stepOn_5 : decode cX12_stepOn 5 = .ok (.invokevirtual 183, 3) := by decide +kernel
theorem dX12_stepOn_8 : decode cX12_stepOn 8 = .ok (.bipush 32, 2) := by decide +kernel
theorem dX12_stepOn_10 : decode cX12_stepOn 10 = .ok (.if_icmp .eq 16, 3) := by decide +kernel
theorem dX12_stepOn_13 : decode cX12_stepOn 13 = .ok (.aload_n 0, 1) := by decide +kernel
theorem dX12_stepOn_14 : decode cX12_stepOn 14 = .ok (.aload_n 0, 1) := by decide +kernel
theorem dX12_stepOn_15 : decode cX12_stepOn 15 = .ok (.getfield 180, 3) := by decide +kernel
theorem dX12_stepOn_18 : decode cX12_stepOn 18 = .ok (.invokevirtual 183, 3) := by decide +kernel
theorem dX12_stepOn_21 : decode cX12_stepOn 21 = .ok (.bipush 10, 2) := by decide +kernel
theorem dX12_stepOn_23 : decode cX12_stepOn 23 = .ok (.if_icmp .ne 16, 3) := by decide +kernel
theorem dX12_stepOn_26 : decode cX12_stepOn 26 = .ok (.aload_n 0, 1) := by decide +kernel
theorem dX12_stepOn_27 : decode cX12_stepOn 27 = .ok (.dup, 1) := by decide +kernel
theorem dX12_stepOn_28 : decode cX12_stepOn 28 = .ok (.getfield 180, 3) := by decide +kernel
theorem dX12_stepOn_31 : decode cX12_stepOn 31 = .ok (.iconst 1, 1) := by decide +kernel
theorem dX12_stepOn_32 : decode cX12_stepOn 32 = .ok (.iadd, 1) := by decide +kernel
theorem dX12_stepOn_33 : decode cX12_stepOn 33 = .ok (.putfield 180, 3) := by decide +kernel
theorem dX12_stepOn_36 : decode cX12_stepOn 36 = .ok (.goto (-36), 3) := by decide +kernel
theorem dX12_stepOn_39 : decode cX12_stepOn 39 = .ok (.aload_n 0, 1) := by decide +kernel
theorem dX12_stepOn_40 : decode cX12_stepOn 40 = .ok (.aload_n 0, 1) := by decide +kernel
theorem dX12_stepOn_41 : decode cX12_stepOn 41 = .ok (.getfield 180, 3) := by decide +kernel
theorem dX12_stepOn_44 : decode cX12_stepOn 44 = .ok (.putfield 186, 3) := by decide +kernel
theorem dX12_stepOn_47 : decode cX12_stepOn 47 = .ok (.aload_n 0, 1) := by decide +kernel
theorem dX12_stepOn_48 : decode cX12_stepOn 48 = .ok (.aload_n 0, 1) := by decide +kernel
theorem dX12_stepOn_49 : decode cX12_stepOn 49 = .ok (.getfield 180, 3) := by decide +kernel
theorem dX12_stepOn_52 : decode cX12_stepOn 52 = .ok (.invokevirtual 183, 3) := by decide +kernel
theorem dX12_stepOn_55 : decode cX12_stepOn 55 = .ok (.istore_n 1, 1) := by decide +kernel
theorem dX12_stepOn_56 : decode cX12_stepOn 56 = .ok (.iload_n 1, 1) := by decide +kernel
theorem dX12_stepOn_57 : decode cX12_stepOn 57 = .ok (.iconst (-1), 1) := by decide +kernel
theorem dX12_stepOn_58 : decode cX12_stepOn 58 = .ok (.if_icmp .ne 11, 3) := by decide +kernel
theorem dX12_stepOn_61 : decode cX12_stepOn 61 = .ok (.aload_n 0, 1) := by decide +kernel
theorem dX12_stepOn_62 : decode cX12_stepOn 62 = .ok (.iconst 0, 1) := by decide +kernel
theorem dX12_stepOn_63 : decode cX12_stepOn 63 = .ok (.putfield 189, 3) := by decide +kernel
theorem dX12_stepOn_66 : decode cX12_stepOn 66 = .ok (.goto 147, 3) := by decide +kernel
theorem dX12_stepOn_69 : decode cX12_stepOn 69 = .ok (.iload_n 1, 1) := by decide +kernel
theorem dX12_stepOn_70 : decode cX12_stepOn 70 = .ok (.invokestatic 192, 3) := by decide +kernel
theorem dX12_stepOn_73 : decode cX12_stepOn 73 = .ok (.ifCond .eq 38, 3) := by decide +kernel
theorem dX12_stepOn_76 : decode cX12_stepOn 76 = .ok (.aload_n 0, 1) := by decide +kernel
theorem dX12_stepOn_77 : decode cX12_stepOn 77 = .ok (.aload_n 0, 1) := by decide +kernel
theorem dX12_stepOn_78 : decode cX12_stepOn 78 = .ok (.getfield 180, 3) := by decide +kernel
theorem dX12_stepOn_81 : decode cX12_stepOn 81 = .ok (.invokevirtual 183, 3) := by decide +kernel
theorem dX12_stepOn_84 : decode cX12_stepOn 84 = .ok (.invokestatic 192, 3) := by decide +kernel
theorem dX12_stepOn_87 : decode cX12_stepOn 87 = .ok (.ifCond .eq 16, 3) := by decide +kernel
theorem dX12_stepOn_90 : decode cX12_stepOn 90 = .ok (.aload_n 0, 1) := by decide +kernel
theorem dX12_stepOn_91 : decode cX12_stepOn 91 = .ok (.dup, 1) := by decide +kernel
theorem dX12_stepOn_92 : decode cX12_stepOn 92 = .ok (.getfield 180, 3) := by decide +kernel
theorem dX12_stepOn_95 : decode cX12_stepOn 95 = .ok (.iconst 1, 1) := by decide +kernel
theorem dX12_stepOn_96 : decode cX12_stepOn 96 = .ok (.iadd, 1) := by decide +kernel
theorem dX12_stepOn_97 : decode cX12_stepOn 97 = .ok (.putfield 180, 3) := by decide +kernel
theorem dX12_stepOn_100 : decode cX12_stepOn 100 = .ok (.goto (-24), 3) := by decide +kernel
theorem dX12_stepOn_103 : decode cX12_stepOn 103 = .ok (.aload_n 0, 1) := by decide +kernel
theorem dX12_stepOn_104 : decode cX12_stepOn 104 = .ok (.iconst 1, 1) := by decide +kernel
theorem dX12_stepOn_105 : decode cX12_stepOn 105 = .ok (.putfield 189, 3) := by decide +kernel
theorem dX12_stepOn_108 : decode cX12_stepOn 108 = .ok (.goto 105, 3) := by decide +kernel
theorem dX12_stepOn_111 : decode cX12_stepOn 111 = .ok (.iload_n 1, 1) := by decide +kernel
theorem dX12_stepOn_112 : decode cX12_stepOn 112 = .ok (.invokestatic 195, 3) := by decide +kernel
theorem dX12_stepOn_115 : decode cX12_stepOn 115 = .ok (.ifCond .eq 72, 3) := by decide +kernel
theorem dX12_stepOn_118 : decode cX12_stepOn 118 = .ok (.aload_n 0, 1) := by decide +kernel
theorem dX12_stepOn_119 : decode cX12_stepOn 119 = .ok (.iconst 0, 1) := by decide +kernel
theorem dX12_stepOn_120 : decode cX12_stepOn 120 = .ok (.putfield 198, 3) := by decide +kernel
theorem dX12_stepOn_123 : decode cX12_stepOn 123 = .ok (.aload_n 0, 1) := by decide +kernel
theorem dX12_stepOn_124 : decode cX12_stepOn 124 = .ok (.aload_n 0, 1) := by decide +kernel
theorem dX12_stepOn_125 : decode cX12_stepOn 125 = .ok (.getfield 180, 3) := by decide +kernel
theorem dX12_stepOn_128 : decode cX12_stepOn 128 = .ok (.invokevirtual 183, 3) := by decide +kernel
theorem dX12_stepOn_131 : decode cX12_stepOn 131 = .ok (.invokestatic 195, 3) := by decide +kernel
theorem dX12_stepOn_134 : decode cX12_stepOn 134 = .ok (.ifCond .eq 45, 3) := by decide +kernel
theorem dX12_stepOn_137 : decode cX12_stepOn 137 = .ok (.aload_n 0, 1) := by decide +kernel
theorem dX12_stepOn_138 : decode cX12_stepOn 138 = .ok (.sipush 10000, 3) := by decide +kernel
theorem dX12_stepOn_141 : decode cX12_stepOn 141 = .ok (.bipush 10, 2) := by decide +kernel
theorem dX12_stepOn_143 : decode cX12_stepOn 143 = .ok (.aload_n 0, 1) := by decide +kernel
theorem dX12_stepOn_144 : decode cX12_stepOn 144 = .ok (.getfield 198, 3) := by decide +kernel
theorem dX12_stepOn_147 : decode cX12_stepOn 147 = .ok (.imul, 1) := by decide +kernel
theorem dX12_stepOn_148 : decode cX12_stepOn 148 = .ok (.aload_n 0, 1) := by decide +kernel
theorem dX12_stepOn_149 : decode cX12_stepOn 149 = .ok (.aload_n 0, 1) := by decide +kernel
theorem dX12_stepOn_150 : decode cX12_stepOn 150 = .ok (.getfield 180, 3) := by decide +kernel
theorem dX12_stepOn_153 : decode cX12_stepOn 153 = .ok (.invokevirtual 183, 3) := by decide +kernel
theorem dX12_stepOn_156 : decode cX12_stepOn 156 = .ok (.iadd, 1) := by decide +kernel
theorem dX12_stepOn_157 : decode cX12_stepOn 157 = .ok (.bipush 48, 2) := by decide +kernel
theorem dX12_stepOn_159 : decode cX12_stepOn 159 = .ok (.isub, 1) := by decide +kernel
theorem dX12_stepOn_160 : decode cX12_stepOn 160 = .ok (.invokestatic 201, 3) := by decide +kernel
theorem dX12_stepOn_163 : decode cX12_stepOn 163 = .ok (.putfield 198, 3) := by decide +kernel
theorem dX12_stepOn_166 : decode cX12_stepOn 166 = .ok (.aload_n 0, 1) := by decide +kernel
theorem dX12_stepOn_167 : decode cX12_stepOn 167 = .ok (.dup, 1) := by decide +kernel
theorem dX12_stepOn_168 : decode cX12_stepOn 168 = .ok (.getfield 180, 3) := by decide +kernel
theorem dX12_stepOn_171 : decode cX12_stepOn 171 = .ok (.iconst 1, 1) := by decide +kernel
theorem dX12_stepOn_172 : decode cX12_stepOn 172 = .ok (.iadd, 1) := by decide +kernel
theorem dX12_stepOn_173 : decode cX12_stepOn 173 = .ok (.putfield 180, 3) := by decide +kernel
theorem dX12_stepOn_176 : decode cX12_stepOn 176 = .ok (.goto (-53), 3) := by decide +kernel
theorem dX12_stepOn_179 : decode cX12_stepOn 179 = .ok (.aload_n 0, 1) := by decide +kernel
theorem dX12_stepOn_180 : decode cX12_stepOn 180 = .ok (.iconst 2, 1) := by decide +kernel
theorem dX12_stepOn_181 : decode cX12_stepOn 181 = .ok (.putfield 189, 3) := by decide +kernel
theorem dX12_stepOn_184 : decode cX12_stepOn 184 = .ok (.goto 29, 3) := by decide +kernel
theorem dX12_stepOn_187 : decode cX12_stepOn 187 = .ok (.aload_n 0, 1) := by decide +kernel
theorem dX12_stepOn_188 : decode cX12_stepOn 188 = .ok (.dup, 1) := by decide +kernel
theorem dX12_stepOn_189 : decode cX12_stepOn 189 = .ok (.getfield 180, 3) := by decide +kernel
theorem dX12_stepOn_192 : decode cX12_stepOn 192 = .ok (.iconst 1, 1) := by decide +kernel
theorem dX12_stepOn_193 : decode cX12_stepOn 193 = .ok (.iadd, 1) := by decide +kernel
theorem dX12_stepOn_194 : decode cX12_stepOn 194 = .ok (.putfield 180, 3) := by decide +kernel
theorem dX12_stepOn_197 : decode cX12_stepOn 197 = .ok (.aload_n 0, 1) := by decide +kernel
theorem dX12_stepOn_198 : decode cX12_stepOn 198 = .ok (.iload_n 1, 1) := by decide +kernel
theorem dX12_stepOn_199 : decode cX12_stepOn 199 = .ok (.invokestatic 207, 3) := by decide +kernel
theorem dX12_stepOn_202 : decode cX12_stepOn 202 = .ok (.ifCond .eq 7, 3) := by decide +kernel
theorem dX12_stepOn_205 : decode cX12_stepOn 205 = .ok (.iconst 3, 1) := by decide +kernel
theorem dX12_stepOn_206 : decode cX12_stepOn 206 = .ok (.goto 4, 3) := by decide +kernel
theorem dX12_stepOn_209 : decode cX12_stepOn 209 = .ok (.iconst 4, 1) := by decide +kernel
theorem dX12_stepOn_210 : decode cX12_stepOn 210 = .ok (.putfield 189, 3) := by decide +kernel
theorem dX12_stepOn_213 : decode cX12_stepOn 213 = .ok (.aload_n 0, 1) := by decide +kernel
theorem dX12_stepOn_214 : decode cX12_stepOn 214 = .ok (.aload_n 0, 1) := by decide +kernel
theorem dX12_stepOn_215 : decode cX12_stepOn 215 = .ok (.getfield 180, 3) := by decide +kernel
theorem dX12_stepOn_218 : decode cX12_stepOn 218 = .ok (.putfield 210, 3) := by decide +kernel
theorem dX12_stepOn_221 : decode cX12_stepOn 221 = .ok (.return_, 1) := by decide +kernel
theorem dX12_wrong_0 : decode cX12_wrong 0 = .ok (.aload_n 0, 1) := by decide +kernel
theorem dX12_wrong_1 : decode cX12_wrong 1 = .ok (.getfield 213, 3) := by decide +kernel
theorem dX12_wrong_4 : decode cX12_wrong 4 = .ok (.ifCond .eq 4, 3) := by decide +kernel
theorem dX12_wrong_7 : decode cX12_wrong 7 = .ok (.return_, 1) := by decide +kernel
theorem dX12_wrong_8 : decode cX12_wrong 8 = .ok (.aload_n 0, 1) := by decide +kernel
theorem dX12_wrong_9 : decode cX12_wrong 9 = .ok (.iload_n 1, 1) := by decide +kernel
theorem dX12_wrong_10 : decode cX12_wrong 10 = .ok (.putfield 213, 3) := by decide +kernel
theorem dX12_wrong_13 : decode cX12_wrong 13 = .ok (.aload_n 0, 1) := by decide +kernel
theorem dX12_wrong_14 : decode cX12_wrong 14 = .ok (.aload_n 0, 1) := by decide +kernel
theorem dX12_wrong_15 : decode cX12_wrong 15 = .ok (.getfield 186, 3) := by decide +kernel
theorem dX12_wrong_18 : decode cX12_wrong 18 = .ok (.putfield 216, 3) := by decide +kernel
theorem dX12_wrong_21 : decode cX12_wrong 21 = .ok (.return_, 1) := by decide +kernel
theorem dX12_is_0 : decode cX12_is 0 = .ok (.aload_n 0, 1) := by decide +kernel
theorem dX12_is_1 : decode cX12_is 1 = .ok (.getfield 213, 3) := by decide +kernel
theorem dX12_is_4 : decode cX12_is 4 = .ok (.ifCond .ne 31, 3) := by decide +kernel
theorem dX12_is_7 : decode cX12_is 7 = .ok (.aload_n 0, 1) := by decide +kernel
theorem dX12_is_8 : decode cX12_is 8 = .ok (.getfield 189, 3) := by decide +kernel
theorem dX12_is_11 : decode cX12_is 11 = .ok (.iconst 1, 1) := by decide +kernel
theorem dX12_is_12 : decode cX12_is 12 = .ok (.if_icmp .ne 23, 3) := by decide +kernel
theorem dX12_is_15 : decode cX12_is 15 = .ok (.aload_n 1, 1) := by decide +kernel
theorem dX12_is_16 : decode cX12_is 16 = .ok (.invokevirtual 219, 3) := by decide +kernel
theorem dX12_is_19 : decode cX12_is 19 = .ok (.aload_n 0, 1) := by decide +kernel
theorem dX12_is_20 : decode cX12_is 20 = .ok (.getfield 210, 3) := by decide +kernel
theorem dX12_is_23 : decode cX12_is 23 = .ok (.aload_n 0, 1) := by decide +kernel
theorem dX12_is_24 : decode cX12_is 24 = .ok (.getfield 186, 3) := by decide +kernel
theorem dX12_is_27 : decode cX12_is 27 = .ok (.isub, 1) := by decide +kernel
theorem dX12_is_28 : decode cX12_is 28 = .ok (.if_icmp .ne 7, 3) := by decide +kernel
theorem dX12_is_31 : decode cX12_is 31 = .ok (.iconst 1, 1) := by decide +kernel
theorem dX12_is_32 : decode cX12_is 32 = .ok (.goto 4, 3) := by decide +kernel
theorem dX12_is_35 : decode cX12_is 35 = .ok (.iconst 0, 1) := by decide +kernel
theorem dX12_is_36 : decode cX12_is 36 = .ok (.istore_n 2, 1) := by decide +kernel
theorem dX12_is_37 : decode cX12_is 37 = .ok (.iconst 0, 1) := by decide +kernel
theorem dX12_is_38 : decode cX12_is 38 = .ok (.istore_n 3, 1) := by decide +kernel
theorem dX12_is_39 : decode cX12_is 39 = .ok (.iload_n 2, 1) := by decide +kernel
theorem dX12_is_40 : decode cX12_is 40 = .ok (.ifCond .eq 42, 3) := by decide +kernel
theorem dX12_is_43 : decode cX12_is 43 = .ok (.iload_n 3, 1) := by decide +kernel
theorem dX12_is_44 : decode cX12_is 44 = .ok (.aload_n 1, 1) := by decide +kernel
theorem dX12_is_45 : decode cX12_is 45 = .ok (.invokevirtual 219, 3) := by decide +kernel
theorem dX12_is_48 : decode cX12_is 48 = .ok (.if_icmp .ge 34, 3) := by decide +kernel
theorem dX12_is_51 : decode cX12_is 51 = .ok (.aload_n 1, 1) := by decide +kernel
theorem dX12_is_52 : decode cX12_is 52 = .ok (.iload_n 3, 1) := by decide +kernel
theorem dX12_is_53 : decode cX12_is 53 = .ok (.invokevirtual 223, 3) := by decide +kernel
theorem dX12_is_56 : decode cX12_is 56 = .ok (.aload_n 0, 1) := by decide +kernel
theorem dX12_is_57 : decode cX12_is 57 = .ok (.getfield 89, 3) := by decide +kernel
theorem dX12_is_60 : decode cX12_is 60 = .ok (.aload_n 0, 1) := by decide +kernel
theorem dX12_is_61 : decode cX12_is 61 = .ok (.getfield 186, 3) := by decide +kernel
theorem dX12_is_64 : decode cX12_is 64 = .ok (.iload_n 3, 1) := by decide +kernel
theorem dX12_is_65 : decode cX12_is 65 = .ok (.iadd, 1) := by decide +kernel
theorem dX12_is_66 : decode cX12_is 66 = .ok (.iaload, 1) := by decide +kernel
theorem dX12_is_67 : decode cX12_is 67 = .ok (.if_icmp .ne 7, 3) := by decide +kernel
theorem dX12_is_70 : decode cX12_is 70 = .ok (.iconst 1, 1) := by decide +kernel
theorem dX12_is_71 : decode cX12_is 71 = .ok (.goto 4, 3) := by decide +kernel
theorem dX12_is_74 : decode cX12_is 74 = .ok (.iconst 0, 1) := by decide +kernel
theorem dX12_is_75 : decode cX12_is 75 = .ok (.istore_n 2, 1) := by decide +kernel
theorem dX12_is_76 : decode cX12_is 76 = .ok (.iinc 3 1, 3) := by decide +kernel
theorem dX12_is_79 : decode cX12_is 79 = .ok (.goto (-40), 3) := by decide +kernel
theorem dX12_is_82 : decode cX12_is 82 = .ok (.iload_n 2, 1) := by decide +kernel
theorem dX12_is_83 : decode cX12_is 83 = .ok (.ireturn, 1) := by decide +kernel
theorem dX12_isMarked_0 : decode cX12_isMarked 0 = .ok (.aload_n 0, 1) := by decide +kernel
theorem dX12_isMarked_1 : decode cX12_isMarked 1 = .ok (.getfield 213, 3) := by decide +kernel
theorem dX12_isMarked_4 : decode cX12_isMarked 4 = .ok (.ifCond .ne 28, 3) := by decide +kernel
theorem dX12_isMarked_7 : decode cX12_isMarked 7 = .ok (.aload_n 0, 1) := by decide +kernel
theorem dX12_isMarked_8 : decode cX12_isMarked 8 = .ok (.getfield 189, 3) := by decide +kernel
theorem dX12_isMarked_11 : decode cX12_isMarked 11 = .ok (.iconst 3, 1) := by decide +kernel
theorem dX12_isMarked_12 : decode cX12_isMarked 12 = .ok (.if_icmp .ne 20, 3) := by decide +kernel
theorem dX12_isMarked_15 : decode cX12_isMarked 15 = .ok (.aload_n 0, 1) := by decide +kernel
theorem dX12_isMarked_16 : decode cX12_isMarked 16 = .ok (.getfield 89, 3) := by decide +kernel
theorem dX12_isMarked_19 : decode cX12_isMarked 19 = .ok (.aload_n 0, 1) := by decide +kernel
theorem dX12_isMarked_20 : decode cX12_isMarked 20 = .ok (.getfield 186, 3) := by decide +kernel
theorem dX12_isMarked_23 : decode cX12_isMarked 23 = .ok (.iaload, 1) := by decide +kernel
theorem dX12_isMarked_24 : decode cX12_isMarked 24 = .ok (.iload_n 1, 1) := by decide +kernel
theorem dX12_isMarked_25 : decode cX12_isMarked 25 = .ok (.if_icmp .ne 7, 3) := by decide +kernel
theorem dX12_isMarked_28 : decode cX12_isMarked 28 = .ok (.iconst 1, 1) := by decide +kernel
theorem dX12_isMarked_29 : decode cX12_isMarked 29 = .ok (.goto 4, 3) := by decide +kernel
theorem dX12_isMarked_32 : decode cX12_isMarked 32 = .ok (.iconst 0, 1) := by decide +kernel
theorem dX12_isMarked_33 : decode cX12_isMarked 33 = .ok (.ireturn, 1) := by decide +kernel
theorem dX12_which_0 : decode cX12_which 0 = .ok (.iconst 0, 1) := by decide +kernel
theorem dX12_which_1 : decode cX12_which 1 = .ok (.istore_n 2, 1) := by decide +kernel
theorem dX12_which_2 : decode cX12_which 2 = .ok (.iload_n 2, 1) := by decide +kernel
theorem dX12_which_3 : decode cX12_which 3 = .ok (.aload_n 1, 1) := by decide +kernel
theorem dX12_which_4 : decode cX12_which 4 = .ok (.arraylength, 1) := by decide +kernel
theorem dX12_which_5 : decode cX12_which 5 = .ok (.if_icmp .ge 21, 3) := by decide +kernel
theorem dX12_which_8 : decode cX12_which 8 = .ok (.aload_n 0, 1) := by decide +kernel
theorem dX12_which_9 : decode cX12_which 9 = .ok (.aload_n 1, 1) := by decide +kernel
theorem dX12_which_10 : decode cX12_which 10 = .ok (.iload_n 2, 1) := by decide +kernel
theorem dX12_which_11 : decode cX12_which 11 = .ok (.aaload, 1) := by decide +kernel
theorem dX12_which_12 : decode cX12_which 12 = .ok (.invokevirtual 227, 3) := by decide +kernel
theorem dX12_which_15 : decode cX12_which 15 = .ok (.ifCond .eq 5, 3) := by decide +kernel
theorem dX12_which_18 : decode cX12_which 18 = .ok (.iload_n 2, 1) := by decide +kernel
theorem dX12_which_19 : decode cX12_which 19 = .ok (.ireturn, 1) := by decide +kernel
theorem dX12_which_20 : decode cX12_which 20 = .ok (.iinc 2 1, 3) := by decide +kernel
theorem dX12_which_23 : decode cX12_which 23 = .ok (.goto (-21), 3) := by decide +kernel
theorem dX12_which_26 : decode cX12_which 26 = .ok (.iconst (-1), 1) := by decide +kernel
theorem dX12_which_27 : decode cX12_which 27 = .ok (.ireturn, 1) := by decide +kernel
theorem dX12_word_0 : decode cX12_word 0 = .ok (.aload_n 0, 1) := by decide +kernel
theorem dX12_word_1 : decode cX12_word 1 = .ok (.getfield 213, 3) := by decide +kernel
theorem dX12_word_4 : decode cX12_word 4 = .ok (.ifCond .ne 16, 3) := by decide +kernel
theorem dX12_word_7 : decode cX12_word 7 = .ok (.aload_n 0, 1) := by decide +kernel
theorem dX12_word_8 : decode cX12_word 8 = .ok (.aload_n 1, 1) := by decide +kernel
theorem dX12_word_9 : decode cX12_word 9 = .ok (.invokevirtual 227, 3) := by decide +kernel
theorem dX12_word_12 : decode cX12_word 12 = .ok (.ifCond .ne 8, 3) := by decide +kernel
theorem dX12_word_15 : decode cX12_word 15 = .ok (.aload_n 0, 1) := by decide +kernel
theorem dX12_word_16 : decode cX12_word 16 = .ok (.iconst 1, 1) := by decide +kernel
theorem dX12_word_17 : decode cX12_word 17 = .ok (.invokevirtual 231, 3) := by decide +kernel
theorem dX12_word_20 : decode cX12_word 20 = .ok (.aload_n 0, 1) := by decide +kernel
theorem dX12_word_21 : decode cX12_word 21 = .ok (.getfield 213, 3) := by decide +kernel
theorem dX12_word_24 : decode cX12_word 24 = .ok (.ifCond .ne 7, 3) := by decide +kernel
theorem dX12_word_27 : decode cX12_word 27 = .ok (.aload_n 0, 1) := by decide +kernel
theorem dX12_word_28 : decode cX12_word 28 = .ok (.invokevirtual 234, 3) := by decide +kernel
theorem dX12_word_31 : decode cX12_word 31 = .ok (.return_, 1) := by decide +kernel
theorem dX12_mark_0 : decode cX12_mark 0 = .ok (.aload_n 0, 1) := by decide +kernel
theorem dX12_mark_1 : decode cX12_mark 1 = .ok (.getfield 213, 3) := by decide +kernel
theorem dX12_mark_4 : decode cX12_mark 4 = .ok (.ifCond .ne 16, 3) := by decide +kernel
theorem dX12_mark_7 : decode cX12_mark 7 = .ok (.aload_n 0, 1) := by decide +kernel
theorem dX12_mark_8 : decode cX12_mark 8 = .ok (.iload_n 1, 1) := by decide +kernel
theorem dX12_mark_9 : decode cX12_mark 9 = .ok (.invokevirtual 237, 3) := by decide +kernel
theorem dX12_mark_12 : decode cX12_mark 12 = .ok (.ifCond .ne 8, 3) := by decide +kernel
theorem dX12_mark_15 : decode cX12_mark 15 = .ok (.aload_n 0, 1) := by decide +kernel
theorem dX12_mark_16 : decode cX12_mark 16 = .ok (.iconst 1, 1) := by decide +kernel
theorem dX12_mark_17 : decode cX12_mark 17 = .ok (.invokevirtual 231, 3) := by decide +kernel
theorem dX12_mark_20 : decode cX12_mark 20 = .ok (.aload_n 0, 1) := by decide +kernel
theorem dX12_mark_21 : decode cX12_mark 21 = .ok (.getfield 213, 3) := by decide +kernel
theorem dX12_mark_24 : decode cX12_mark 24 = .ok (.ifCond .ne 7, 3) := by decide +kernel
theorem dX12_mark_27 : decode cX12_mark 27 = .ok (.aload_n 0, 1) := by decide +kernel
theorem dX12_mark_28 : decode cX12_mark 28 = .ok (.invokevirtual 234, 3) := by decide +kernel
theorem dX12_mark_31 : decode cX12_mark 31 = .ok (.return_, 1) := by decide +kernel
theorem dX12_readNumber_0 : decode cX12_readNumber 0 = .ok (.aload_n 0, 1) := by decide +kernel
theorem dX12_readNumber_1 : decode cX12_readNumber 1 = .ok (.getfield 213, 3) := by decide +kernel
theorem dX12_readNumber_4 : decode cX12_readNumber 4 = .ok (.ifCond .eq 5, 3) := by decide +kernel
theorem dX12_readNumber_7 : decode cX12_readNumber 7 = .ok (.iconst 0, 1) := by decide +kernel
theorem dX12_readNumber_8 : decode cX12_readNumber 8 = .ok (.ireturn, 1) := by decide +kernel
theorem dX12_readNumber_9 : decode cX12_readNumber 9 = .ok (.aload_n 0, 1) := by decide +kernel
theorem dX12_readNumber_10 : decode cX12_readNumber 10 = .ok (.getfield 189, 3) := by decide +kernel
theorem dX12_readNumber_13 : decode cX12_readNumber 13 = .ok (.iconst 2, 1) := by decide +kernel
theorem dX12_readNumber_14 : decode cX12_readNumber 14 = .ok (.if_icmp .eq 11, 3) := by decide +kernel
theorem dX12_readNumber_17 : decode cX12_readNumber 17 = .ok (.aload_n 0, 1) := by decide +kernel
theorem dX12_readNumber_18 : decode cX12_readNumber 18 = .ok (.iconst 1, 1) := by decide +kernel
theorem dX12_readNumber_19 : decode cX12_readNumber 19 = .ok (.invokevirtual 231, 3) := by decide +kernel
theorem dX12_readNumber_22 : decode cX12_readNumber 22 = .ok (.goto 37, 3) := by decide +kernel
theorem dX12_readNumber_25 : decode cX12_readNumber 25 = .ok (.aload_n 0, 1) := by decide +kernel
theorem dX12_readNumber_26 : decode cX12_readNumber 26 = .ok (.getfield 210, 3) := by decide +kernel
theorem dX12_readNumber_29 : decode cX12_readNumber 29 = .ok (.aload_n 0, 1) := by decide +kernel
theorem dX12_readNumber_30 : decode cX12_readNumber 30 = .ok (.getfield 186, 3) := by decide +kernel
theorem dX12_readNumber_33 : decode cX12_readNumber 33 = .ok (.isub, 1) := by decide +kernel
theorem dX12_readNumber_34 : decode cX12_readNumber 34 = .ok (.iconst 3, 1) := by decide +kernel
theorem dX12_readNumber_35 : decode cX12_readNumber 35 = .ok (.if_icmp .gt 19, 3) := by decide +kernel
theorem dX12_readNumber_38 : decode cX12_readNumber 38 = .ok (.aload_n 0, 1) := by decide +kernel
theorem dX12_readNumber_39 : decode cX12_readNumber 39 = .ok (.getfield 198, 3) := by decide +kernel
theorem dX12_readNumber_42 : decode cX12_readNumber 42 = .ok (.iload_n 1, 1) := by decide +kernel
theorem dX12_readNumber_43 : decode cX12_readNumber 43 = .ok (.if_icmp .lt 11, 3) := by decide +kernel
theorem dX12_readNumber_46 : decode cX12_readNumber 46 = .ok (.aload_n 0, 1) := by decide +kernel
theorem dX12_readNumber_47 : decode cX12_readNumber 47 = .ok (.getfield 198, 3) := by decide +kernel
theorem dX12_readNumber_50 : decode cX12_readNumber 50 = .ok (.iload_n 2, 1) := by decide +kernel
theorem dX12_readNumber_51 : decode cX12_readNumber 51 = .ok (.if_icmp .le 8, 3) := by decide +kernel
theorem dX12_readNumber_54 : decode cX12_readNumber 54 = .ok (.aload_n 0, 1) := by decide +kernel
theorem dX12_readNumber_55 : decode cX12_readNumber 55 = .ok (.iconst 2, 1) := by decide +kernel
theorem dX12_readNumber_56 : decode cX12_readNumber 56 = .ok (.invokevirtual 231, 3) := by decide +kernel
theorem dX12_readNumber_59 : decode cX12_readNumber 59 = .ok (.aload_n 0, 1) := by decide +kernel
theorem dX12_readNumber_60 : decode cX12_readNumber 60 = .ok (.getfield 198, 3) := by decide +kernel
theorem dX12_readNumber_63 : decode cX12_readNumber 63 = .ok (.istore_n 3, 1) := by decide +kernel
theorem dX12_readNumber_64 : decode cX12_readNumber 64 = .ok (.aload_n 0, 1) := by decide +kernel
theorem dX12_readNumber_65 : decode cX12_readNumber 65 = .ok (.getfield 213, 3) := by decide +kernel
theorem dX12_readNumber_68 : decode cX12_readNumber 68 = .ok (.ifCond .ne 7, 3) := by decide +kernel
theorem dX12_readNumber_71 : decode cX12_readNumber 71 = .ok (.aload_n 0, 1) := by decide +kernel
theorem dX12_readNumber_72 : decode cX12_readNumber 72 = .ok (.invokevirtual 234, 3) := by decide +kernel
theorem dX12_readNumber_75 : decode cX12_readNumber 75 = .ok (.iload_n 3, 1) := by decide +kernel
theorem dX12_readNumber_76 : decode cX12_readNumber 76 = .ok (.ireturn, 1) := by decide +kernel
theorem dX12_lay_0 : decode cX12_lay 0 = .ok (.aload_n 0, 1) := by decide +kernel
theorem dX12_lay_1 : decode cX12_lay 1 = .ok (.getfield 213, 3) := by decide +kernel
theorem dX12_lay_4 : decode cX12_lay 4 = .ok (.ifCond .eq 4, 3) := by decide +kernel
theorem dX12_lay_7 : decode cX12_lay 7 = .ok (.return_, 1) := by decide +kernel
theorem dX12_lay_8 : decode cX12_lay 8 = .ok (.aload_n 0, 1) := by decide +kernel
theorem dX12_lay_9 : decode cX12_lay 9 = .ok (.getfield 62, 3) := by decide +kernel
theorem dX12_lay_12 : decode cX12_lay 12 = .ok (.sipush 1400, 3) := by decide +kernel
theorem dX12_lay_15 : decode cX12_lay 15 = .ok (.aload_n 0, 1) := by decide +kernel
theorem dX12_lay_16 : decode cX12_lay 16 = .ok (.getfield 240, 3) := by decide +kernel
theorem dX12_lay_19 : decode cX12_lay 19 = .ok (.iadd, 1) := by decide +kernel
theorem dX12_lay_20 : decode cX12_lay 20 = .ok (.iload_n 1, 1) := by decide +kernel
theorem dX12_lay_21 : decode cX12_lay 21 = .ok (.iastore, 1) := by decide +kernel
theorem dX12_lay_22 : decode cX12_lay 22 = .ok (.aload_n 0, 1) := by decide +kernel
theorem dX12_lay_23 : decode cX12_lay 23 = .ok (.dup, 1) := by decide +kernel
theorem dX12_lay_24 : decode cX12_lay 24 = .ok (.getfield 240, 3) := by decide +kernel
theorem dX12_lay_27 : decode cX12_lay 27 = .ok (.iconst 1, 1) := by decide +kernel
theorem dX12_lay_28 : decode cX12_lay 28 = .ok (.iadd, 1) := by decide +kernel
theorem dX12_lay_29 : decode cX12_lay 29 = .ok (.putfield 240, 3) := by decide +kernel
theorem dX12_lay_32 : decode cX12_lay 32 = .ok (.return_, 1) := by decide +kernel
theorem dX12_readPart_0 : decode cX12_readPart 0 = .ok (.aload_n 0, 1) := by decide +kernel
theorem dX12_readPart_1 : decode cX12_readPart 1 = .ok (.getfield 213, 3) := by decide +kernel
theorem dX12_readPart_4 : decode cX12_readPart 4 = .ok (.ifCond .eq 4, 3) := by decide +kernel
theorem dX12_readPart_7 : decode cX12_readPart 7 = .ok (.return_, 1) := by decide +kernel
theorem dX12_readPart_8 : decode cX12_readPart 8 = .ok (.aload_n 0, 1) := by decide +kernel
theorem dX12_readPart_9 : decode cX12_readPart 9 = .ok (.getfield 189, 3) := by decide +kernel
theorem dX12_readPart_12 : decode cX12_readPart 12 = .ok (.iconst 2, 1) := by decide +kernel
theorem dX12_readPart_13 : decode cX12_readPart 13 = .ok (.if_icmp .ne 16, 3) := by decide +kernel
theorem dX12_readPart_16 : decode cX12_readPart 16 = .ok (.aload_n 0, 1) := by decide +kernel
theorem dX12_readPart_17 : decode cX12_readPart 17 = .ok (.aload_n 0, 1) := by decide +kernel
theorem dX12_readPart_18 : decode cX12_readPart 18 = .ok (.iconst 0, 1) := by decide +kernel
theorem dX12_readPart_19 : decode cX12_readPart 19 = .ok (.sipush 999, 3) := by decide +kernel
theorem dX12_readPart_22 : decode cX12_readPart 22 = .ok (.invokevirtual 243, 3) := by decide +kernel
theorem dX12_readPart_25 : decode cX12_readPart 25 = .ok (.invokevirtual 246, 3) := by decide +kernel
theorem dX12_readPart_28 : decode cX12_readPart 28 = .ok (.return_, 1) := by decide +kernel
theorem dX12_readPart_29 : decode cX12_readPart 29 = .ok (.aload_n 0, 1) := by decide +kernel
theorem dX12_readPart_30 : decode cX12_readPart 30 = .ok (.getfield 189, 3) := by decide +kernel
theorem dX12_readPart_33 : decode cX12_readPart 33 = .ok (.iconst 1, 1) := by decide +kernel
theorem dX12_readPart_34 : decode cX12_readPart 34 = .ok (.if_icmp .ne 41, 3) := by decide +kernel
theorem dX12_readPart_37 : decode cX12_readPart 37 = .ok (.aload_n 0, 1) := by decide +kernel
theorem dX12_readPart_38 : decode cX12_readPart 38 = .ok (.aload_n 0, 1) := by decide +kernel
theorem dX12_readPart_39 : decode cX12_readPart 39 = .ok (.getfield 39, 3) := by decide +kernel
theorem dX12_readPart_42 : decode cX12_readPart 42 = .ok (.invokevirtual 249, 3) := by decide +kernel
theorem dX12_readPart_45 : decode cX12_readPart 45 = .ok (.istore_n 2, 1) := by decide +kernel
theorem dX12_readPart_46 : decode cX12_readPart 46 = .ok (.iload_n 2, 1) := by decide +kernel
theorem dX12_readPart_47 : decode cX12_readPart 47 = .ok (.iconst (-1), 1) := by decide +kernel
theorem dX12_readPart_48 : decode cX12_readPart 48 = .ok (.if_icmp .ne 8, 3) := by decide +kernel
theorem dX12_readPart_51 : decode cX12_readPart 51 = .ok (.aload_n 0, 1) := by decide +kernel
theorem dX12_readPart_52 : decode cX12_readPart 52 = .ok (.iconst 3, 1) := by decide +kernel
theorem dX12_readPart_53 : decode cX12_readPart 53 = .ok (.invokevirtual 231, 3) := by decide +kernel
theorem dX12_readPart_56 : decode cX12_readPart 56 = .ok (.aload_n 0, 1) := by decide +kernel
theorem dX12_readPart_57 : decode cX12_readPart 57 = .ok (.iconst (-1), 1) := by decide +kernel
theorem dX12_readPart_58 : decode cX12_readPart 58 = .ok (.iload_n 2, 1) := by decide +kernel
theorem dX12_readPart_59 : decode cX12_readPart 59 = .ok (.isub, 1) := by decide +kernel
theorem dX12_readPart_60 : decode cX12_readPart 60 = .ok (.invokevirtual 246, 3) := by decide +kernel
theorem dX12_readPart_63 : decode cX12_readPart 63 = .ok (.aload_n 0, 1) := by decide +kernel
theorem dX12_readPart_64 : decode cX12_readPart 64 = .ok (.getfield 213, 3) := by decide +kernel
theorem dX12_readPart_67 : decode cX12_readPart 67 = .ok (.ifCond .ne 7, 3) := by decide +kernel
theorem dX12_readPart_70 : decode cX12_readPart 70 = .ok (.aload_n 0, 1) := by decide +kernel
theorem dX12_readPart_71 : decode cX12_readPart 71 = .ok (.invokevirtual 234, 3) := by decide +kernel
theorem dX12_readPart_74 : decode cX12_readPart 74 = .ok (.return_, 1) := by decide +kernel
theorem dX12_readPart_75 : decode cX12_readPart 75 = .ok (.aload_n 0, 1) := by decide +kernel
theorem dX12_readPart_76 : decode cX12_readPart 76 = .ok (.bipush 40, 2) := by decide +kernel
theorem dX12_readPart_78 : decode cX12_readPart 78 = .ok (.invokevirtual 253, 3) := by decide +kernel
theorem dX12_readPart_81 : decode cX12_readPart 81 = .ok (.aload_n 0, 1) := by decide +kernel
theorem dX12_readPart_82 : decode cX12_readPart 82 = .ok (.iload_n 1, 1) := by decide +kernel
theorem dX12_readPart_83 : decode cX12_readPart 83 = .ok (.iconst 1, 1) := by decide +kernel
theorem dX12_readPart_84 : decode cX12_readPart 84 = .ok (.iadd, 1) := by decide +kernel
theorem dX12_readPart_85 : decode cX12_readPart 85 = .ok (.invokevirtual 256, 3) := by decide +kernel
theorem dX12_readPart_88 : decode cX12_readPart 88 = .ok (.aload_n 0, 1) := by decide +kernel
theorem dX12_readPart_89 : decode cX12_readPart 89 = .ok (.bipush 41, 2) := by decide +kernel
theorem dX12_readPart_91 : decode cX12_readPart 91 = .ok (.invokevirtual 253, 3) := by decide +kernel
theorem dX12_readPart_94 : decode cX12_readPart 94 = .ok (.return_, 1) := by decide +kernel
theorem dX12_readProduct_0 : decode cX12_readProduct 0 = .ok (.aload_n 0, 1) := by decide +kernel
theorem dX12_readProduct_1 : decode cX12_readProduct 1 = .ok (.iload_n 1, 1) := by decide +kernel
theorem dX12_readProduct_2 : decode cX12_readProduct 2 = .ok (.invokevirtual 259, 3) := by decide +kernel
theorem dX12_readProduct_5 : decode cX12_readProduct 5 = .ok (.aload_n 0, 1) := by decide +kernel
theorem dX12_readProduct_6 : decode cX12_readProduct 6 = .ok (.bipush 42, 2) := by decide +kernel
theorem dX12_readProduct_8 : decode cX12_readProduct 8 = .ok (.invokevirtual 237, 3) := by decide +kernel
theorem dX12_readProduct_11 : decode cX12_readProduct 11 = .ok (.ifCond .ne 12, 3) := by decide +kernel
theorem dX12_readProduct_14 : decode cX12_readProduct 14 = .ok (.aload_n 0, 1) := by decide +kernel
theorem dX12_readProduct_15 : decode cX12_readProduct 15 = .ok (.bipush 47, 2) := by decide +kernel
theorem dX12_readProduct_17 : decode cX12_readProduct 17 = .ok (.invokevirtual 237, 3) := by decide +kernel
theorem dX12_readProduct_20 : decode cX12_readProduct 20 = .ok (.ifCond .eq 37, 3) := by decide +kernel
theorem dX12_readProduct_23 : decode cX12_readProduct 23 = .ok (.aload_n 0, 1) := by decide +kernel
theorem dX12_readProduct_24 : decode cX12_readProduct 24 = .ok (.bipush 42, 2) := by decide +kernel
theorem dX12_readProduct_26 : decode cX12_readProduct 26 = .ok (.invokevirtual 237, 3) := by decide +kernel
theorem dX12_readProduct_29 : decode cX12_readProduct 29 = .ok (.ifCond .eq 8, 3) := by decide +kernel
theorem dX12_readProduct_32 : decode cX12_readProduct 32 = .ok (.bipush (-22), 2) := by decide +kernel
theorem dX12_readProduct_34 : decode cX12_readProduct 34 = .ok (.goto 5, 3) := by decide +kernel
theorem dX12_readProduct_37 : decode cX12_readProduct 37 = .ok (.bipush (-23), 2) := by decide +kernel
theorem dX12_readProduct_39 : decode cX12_readProduct 39 = .ok (.istore_n 2, 1) := by decide +kernel
theorem dX12_readProduct_40 : decode cX12_readProduct 40 = .ok (.aload_n 0, 1) := by decide +kernel
theorem dX12_readProduct_41 : decode cX12_readProduct 41 = .ok (.invokevirtual 234, 3) := by decide +kernel
theorem dX12_readProduct_44 : decode cX12_readProduct 44 = .ok (.aload_n 0, 1) := by decide +kernel
theorem dX12_readProduct_45 : decode cX12_readProduct 45 = .ok (.iload_n 1, 1) := by decide +kernel
theorem dX12_readProduct_46 : decode cX12_readProduct 46 = .ok (.invokevirtual 259, 3) := by decide +kernel
theorem dX12_readProduct_49 : decode cX12_readProduct 49 = .ok (.aload_n 0, 1) := by decide +kernel
theorem dX12_readProduct_50 : decode cX12_readProduct 50 = .ok (.iload_n 2, 1) := by decide +kernel
theorem dX12_readProduct_51 : decode cX12_readProduct 51 = .ok (.invokevirtual 246, 3) := by decide +kernel
theorem dX12_readProduct_54 : decode cX12_readProduct 54 = .ok (.goto (-49), 3) := by decide +kernel
theorem dX12_readProduct_57 : decode cX12_readProduct 57 = .ok (.return_, 1) := by decide +kernel
theorem dX12_readSum_0 : decode cX12_readSum 0 = .ok (.aload_n 0, 1) := by decide +kernel
theorem dX12_readSum_1 : decode cX12_readSum 1 = .ok (.iload_n 1, 1) := by decide +kernel
theorem dX12_readSum_2 : decode cX12_readSum 2 = .ok (.invokevirtual 262, 3) := by decide +kernel
theorem dX12_readSum_5 : decode cX12_readSum 5 = .ok (.aload_n 0, 1) := by decide +kernel
theorem dX12_readSum_6 : decode cX12_readSum 6 = .ok (.bipush 43, 2) := by decide +kernel
theorem dX12_readSum_8 : decode cX12_readSum 8 = .ok (.invokevirtual 237, 3) := by decide +kernel
theorem dX12_readSum_11 : decode cX12_readSum 11 = .ok (.ifCond .ne 12, 3) := by decide +kernel
theorem dX12_readSum_14 : decode cX12_readSum 14 = .ok (.aload_n 0, 1) := by decide +kernel
theorem dX12_readSum_15 : decode cX12_readSum 15 = .ok (.bipush 45, 2) := by decide +kernel
theorem dX12_readSum_17 : decode cX12_readSum 17 = .ok (.invokevirtual 237, 3) := by decide +kernel
theorem dX12_readSum_20 : decode cX12_readSum 20 = .ok (.ifCond .eq 37, 3) := by decide +kernel
theorem dX12_readSum_23 : decode cX12_readSum 23 = .ok (.aload_n 0, 1) := by decide +kernel
theorem dX12_readSum_24 : decode cX12_readSum 24 = .ok (.bipush 43, 2) := by decide +kernel
theorem dX12_readSum_26 : decode cX12_readSum 26 = .ok (.invokevirtual 237, 3) := by decide +kernel
theorem dX12_readSum_29 : decode cX12_readSum 29 = .ok (.ifCond .eq 8, 3) := by decide +kernel
theorem dX12_readSum_32 : decode cX12_readSum 32 = .ok (.bipush (-20), 2) := by decide +kernel
theorem dX12_readSum_34 : decode cX12_readSum 34 = .ok (.goto 5, 3) := by decide +kernel
theorem dX12_readSum_37 : decode cX12_readSum 37 = .ok (.bipush (-21), 2) := by decide +kernel
theorem dX12_readSum_39 : decode cX12_readSum 39 = .ok (.istore_n 2, 1) := by decide +kernel
theorem dX12_readSum_40 : decode cX12_readSum 40 = .ok (.aload_n 0, 1) := by decide +kernel
theorem dX12_readSum_41 : decode cX12_readSum 41 = .ok (.invokevirtual 234, 3) := by decide +kernel
theorem dX12_readSum_44 : decode cX12_readSum 44 = .ok (.aload_n 0, 1) := by decide +kernel
theorem dX12_readSum_45 : decode cX12_readSum 45 = .ok (.iload_n 1, 1) := by decide +kernel
theorem dX12_readSum_46 : decode cX12_readSum 46 = .ok (.invokevirtual 262, 3) := by decide +kernel
theorem dX12_readSum_49 : decode cX12_readSum 49 = .ok (.aload_n 0, 1) := by decide +kernel
theorem dX12_readSum_50 : decode cX12_readSum 50 = .ok (.iload_n 2, 1) := by decide +kernel
theorem dX12_readSum_51 : decode cX12_readSum 51 = .ok (.invokevirtual 246, 3) := by decide +kernel
theorem dX12_readSum_54 : decode cX12_readSum 54 = .ok (.goto (-49), 3) := by decide +kernel
theorem dX12_readSum_57 : decode cX12_readSum 57 = .ok (.return_, 1) := by decide +kernel
theorem dX12_readNot_0 : decode cX12_readNot 0 = .ok (.iconst 0, 1) := by decide +kernel
theorem dX12_readNot_1 : decode cX12_readNot 1 = .ok (.istore_n 2, 1) := by decide +kernel
theorem dX12_readNot_2 : decode cX12_readNot 2 = .ok (.aload_n 0, 1) := by decide +kernel
theorem dX12_readNot_3 : decode cX12_readNot 3 = .ok (.ldc_w 265, 3) := by decide +kernel
theorem dX12_readNot_6 : decode cX12_readNot 6 = .ok (.invokevirtual 227, 3) := by decide +kernel
theorem dX12_readNot_9 : decode cX12_readNot 9 = .ok (.ifCond .eq 31, 3) := by decide +kernel
theorem dX12_readNot_12 : decode cX12_readNot 12 = .ok (.iload_n 2, 1) := by decide +kernel
theorem dX12_readNot_13 : decode cX12_readNot 13 = .ok (.bipush 6, 2) := by decide +kernel
theorem dX12_readNot_15 : decode cX12_readNot 15 = .ok (.if_icmp .ne 8, 3) := by decide +kernel
theorem dX12_readNot_18 : decode cX12_readNot 18 = .ok (.aload_n 0, 1) := by decide +kernel
theorem dX12_readNot_19 : decode cX12_readNot 19 = .ok (.iconst 2, 1) := by decide +kernel
theorem dX12_readNot_20 : decode cX12_readNot 20 = .ok (.invokevirtual 231, 3) := by decide +kernel
theorem dX12_readNot_23 : decode cX12_readNot 23 = .ok (.iinc 2 1, 3) := by decide +kernel
theorem dX12_readNot_26 : decode cX12_readNot 26 = .ok (.aload_n 0, 1) := by decide +kernel
theorem dX12_readNot_27 : decode cX12_readNot 27 = .ok (.getfield 213, 3) := by decide +kernel
theorem dX12_readNot_30 : decode cX12_readNot 30 = .ok (.ifCond .ne (-28), 3) := by decide +kernel
theorem dX12_readNot_33 : decode cX12_readNot 33 = .ok (.aload_n 0, 1) := by decide +kernel
theorem dX12_readNot_34 : decode cX12_readNot 34 = .ok (.invokevirtual 234, 3) := by decide +kernel
theorem dX12_readNot_37 : decode cX12_readNot 37 = .ok (.goto (-35), 3) := by decide +kernel
theorem dX12_readNot_40 : decode cX12_readNot 40 = .ok (.aload_n 0, 1) := by decide +kernel
theorem dX12_readNot_41 : decode cX12_readNot 41 = .ok (.iload_n 1, 1) := by decide +kernel
theorem dX12_readNot_42 : decode cX12_readNot 42 = .ok (.invokevirtual 267, 3) := by decide +kernel
theorem dX12_readNot_45 : decode cX12_readNot 45 = .ok (.aload_n 0, 1) := by decide +kernel
theorem dX12_readNot_46 : decode cX12_readNot 46 = .ok (.bipush 60, 2) := by decide +kernel
theorem dX12_readNot_48 : decode cX12_readNot 48 = .ok (.invokevirtual 237, 3) := by decide +kernel
theorem dX12_readNot_51 : decode cX12_readNot 51 = .ok (.ifCond .ne 12, 3) := by decide +kernel
theorem dX12_readNot_54 : decode cX12_readNot 54 = .ok (.aload_n 0, 1) := by decide +kernel
theorem dX12_readNot_55 : decode cX12_readNot 55 = .ok (.bipush 61, 2) := by decide +kernel
theorem dX12_readNot_57 : decode cX12_readNot 57 = .ok (.invokevirtual 237, 3) := by decide +kernel
theorem dX12_readNot_60 : decode cX12_readNot 60 = .ok (.ifCond .eq 34, 3) := by decide +kernel
theorem dX12_readNot_63 : decode cX12_readNot 63 = .ok (.aload_n 0, 1) := by decide +kernel
theorem dX12_readNot_64 : decode cX12_readNot 64 = .ok (.bipush 60, 2) := by decide +kernel
theorem dX12_readNot_66 : decode cX12_readNot 66 = .ok (.invokevirtual 237, 3) := by decide +kernel
theorem dX12_readNot_69 : decode cX12_readNot 69 = .ok (.ifCond .eq 8, 3) := by decide +kernel
theorem dX12_readNot_72 : decode cX12_readNot 72 = .ok (.bipush (-24), 2) := by decide +kernel
theorem dX12_readNot_74 : decode cX12_readNot 74 = .ok (.goto 5, 3) := by decide +kernel
theorem dX12_readNot_77 : decode cX12_readNot 77 = .ok (.bipush (-25), 2) := by decide +kernel
theorem dX12_readNot_79 : decode cX12_readNot 79 = .ok (.istore_n 3, 1) := by decide +kernel
theorem dX12_readNot_80 : decode cX12_readNot 80 = .ok (.aload_n 0, 1) := by decide +kernel
theorem dX12_readNot_81 : decode cX12_readNot 81 = .ok (.invokevirtual 234, 3) := by decide +kernel
theorem dX12_readNot_84 : decode cX12_readNot 84 = .ok (.aload_n 0, 1) := by decide +kernel
theorem dX12_readNot_85 : decode cX12_readNot 85 = .ok (.iload_n 1, 1) := by decide +kernel
theorem dX12_readNot_86 : decode cX12_readNot 86 = .ok (.invokevirtual 267, 3) := by decide +kernel
theorem dX12_readNot_89 : decode cX12_readNot 89 = .ok (.aload_n 0, 1) := by decide +kernel
theorem dX12_readNot_90 : decode cX12_readNot 90 = .ok (.iload_n 3, 1) := by decide +kernel
theorem dX12_readNot_91 : decode cX12_readNot 91 = .ok (.invokevirtual 246, 3) := by decide +kernel
theorem dX12_readNot_94 : decode cX12_readNot 94 = .ok (.iconst 0, 1) := by decide +kernel
theorem dX12_readNot_95 : decode cX12_readNot 95 = .ok (.istore_n 3, 1) := by decide +kernel
theorem dX12_readNot_96 : decode cX12_readNot 96 = .ok (.iload_n 3, 1) := by decide +kernel
theorem dX12_readNot_97 : decode cX12_readNot 97 = .ok (.iload_n 2, 1) := by decide +kernel
theorem dX12_readNot_98 : decode cX12_readNot 98 = .ok (.if_icmp .ge 15, 3) := by decide +kernel
theorem dX12_readNot_101 : decode cX12_readNot 101 = .ok (.aload_n 0, 1) := by decide +kernel
theorem dX12_readNot_102 : decode cX12_readNot 102 = .ok (.bipush (-28), 2) := by decide +kernel
theorem dX12_readNot_104 : decode cX12_readNot 104 = .ok (.invokevirtual 246, 3) := by decide +kernel
theorem dX12_readNot_107 : decode cX12_readNot 107 = .ok (.iinc 3 1, 3) := by decide +kernel
theorem dX12_readNot_110 : decode cX12_readNot 110 = .ok (.goto (-14), 3) := by decide +kernel
theorem dX12_readNot_113 : decode cX12_readNot 113 = .ok (.return_, 1) := by decide +kernel
theorem dX12_readAnd_0 : decode cX12_readAnd 0 = .ok (.aload_n 0, 1) := by decide +kernel
theorem dX12_readAnd_1 : decode cX12_readAnd 1 = .ok (.iload_n 1, 1) := by decide +kernel
theorem dX12_readAnd_2 : decode cX12_readAnd 2 = .ok (.invokevirtual 270, 3) := by decide +kernel
theorem dX12_readAnd_5 : decode cX12_readAnd 5 = .ok (.aload_n 0, 1) := by decide +kernel
theorem dX12_readAnd_6 : decode cX12_readAnd 6 = .ok (.ldc_w 273, 3) := by decide +kernel
theorem dX12_readAnd_9 : decode cX12_readAnd 9 = .ok (.invokevirtual 227, 3) := by decide +kernel
theorem dX12_readAnd_12 : decode cX12_readAnd 12 = .ok (.ifCond .eq 21, 3) := by decide +kernel
theorem dX12_readAnd_15 : decode cX12_readAnd 15 = .ok (.aload_n 0, 1) := by decide +kernel
theorem dX12_readAnd_16 : decode cX12_readAnd 16 = .ok (.invokevirtual 234, 3) := by decide +kernel
theorem dX12_readAnd_19 : decode cX12_readAnd 19 = .ok (.aload_n 0, 1) := by decide +kernel
theorem dX12_readAnd_20 : decode cX12_readAnd 20 = .ok (.iload_n 1, 1) := by decide +kernel
theorem dX12_readAnd_21 : decode cX12_readAnd 21 = .ok (.invokevirtual 270, 3) := by decide +kernel
theorem dX12_readAnd_24 : decode cX12_readAnd 24 = .ok (.aload_n 0, 1) := by decide +kernel
theorem dX12_readAnd_25 : decode cX12_readAnd 25 = .ok (.bipush (-26), 2) := by decide +kernel
theorem dX12_readAnd_27 : decode cX12_readAnd 27 = .ok (.invokevirtual 246, 3) := by decide +kernel
theorem dX12_readAnd_30 : decode cX12_readAnd 30 = .ok (.goto (-25), 3) := by decide +kernel
theorem dX12_readAnd_33 : decode cX12_readAnd 33 = .ok (.return_, 1) := by decide +kernel
theorem dX12_readExpression_0 : decode cX12_readExpression 0 = .ok (.aload_n 0, 1) := by decide +kernel
theorem dX12_readExpression_1 : decode cX12_readExpression 1 = .ok (.getfield 213, 3) := by decide +kernel
theorem dX12_readExpression_4 : decode cX12_readExpression 4 = .ok (.ifCond .eq 4, 3) := by decide +kernel
theorem dX12_readExpression_7 : decode cX12_readExpression 7 = .ok (.return_, 1) := by decide +kernel
theorem dX12_readExpression_8 : decode cX12_readExpression 8 = .ok (.aload_n 0, 1) := by decide +kernel
theorem dX12_readExpression_9 : decode cX12_readExpression 9 = .ok (.getfield 189, 3) := by decide +kernel
theorem dX12_readExpression_12 : decode cX12_readExpression 12 = .ok (.iconst 2, 1) := by decide +kernel
theorem dX12_readExpression_13 : decode cX12_readExpression 13 = .ok (.if_icmp .eq 20, 3) := by decide +kernel
theorem dX12_readExpression_16 : decode cX12_readExpression 16 = .ok (.aload_n 0, 1) := by decide +kernel
theorem dX12_readExpression_17 : decode cX12_readExpression 17 = .ok (.getfield 189, 3) := by decide +kernel
theorem dX12_readExpression_20 : decode cX12_readExpression 20 = .ok (.iconst 1, 1) := by decide +kernel
theorem dX12_readExpression_21 : decode cX12_readExpression 21 = .ok (.if_icmp .eq 12, 3) := by decide +kernel
theorem dX12_readExpression_24 : decode cX12_readExpression 24 = .ok (.aload_n 0, 1) := by decide +kernel
theorem dX12_readExpression_25 : decode cX12_readExpression 25 = .ok (.bipush 40, 2) := by decide +kernel
theorem dX12_readExpression_27 : decode cX12_readExpression 27 = .ok (.invokevirtual 237, 3) := by decide +kernel
theorem dX12_readExpression_30 : decode cX12_readExpression 30 = .ok (.ifCond .eq 7, 3) := by decide +kernel
theorem dX12_readExpression_33 : decode cX12_readExpression 33 = .ok (.iconst 1, 1) := by decide +kernel
theorem dX12_readExpression_34 : decode cX12_readExpression 34 = .ok (.goto 4, 3) := by decide +kernel
theorem dX12_readExpression_37 : decode cX12_readExpression 37 = .ok (.iconst 0, 1) := by decide +kernel
theorem dX12_readExpression_38 : decode cX12_readExpression 38 = .ok (.istore_n 2, 1) := by decide +kernel
theorem dX12_readExpression_39 : decode cX12_readExpression 39 = .ok (.iload_n 2, 1) := by decide +kernel
theorem dX12_readExpression_40 : decode cX12_readExpression 40 = .ok (.ifCond .ne 11, 3) := by decide +kernel
theorem dX12_readExpression_43 : decode cX12_readExpression 43 = .ok (.aload_n 0, 1) := by decide +kernel
theorem dX12_readExpression_44 : decode cX12_readExpression 44 = .ok (.iconst 1, 1) := by decide +kernel
theorem dX12_readExpression_45 : decode cX12_readExpression 45 = .ok (.invokevirtual 231, 3) := by decide +kernel
theorem dX12_readExpression_48 : decode cX12_readExpression 48 = .ok (.goto 14, 3) := by decide +kernel
theorem dX12_readExpression_51 : decode cX12_readExpression 51 = .ok (.iload_n 1, 1) := by decide +kernel
theorem dX12_readExpression_52 : decode cX12_readExpression 52 = .ok (.bipush 6, 2) := by decide +kernel
theorem dX12_readExpression_54 : decode cX12_readExpression 54 = .ok (.if_icmp .ne 8, 3) := by decide +kernel
theorem dX12_readExpression_57 : decode cX12_readExpression 57 = .ok (.aload_n 0, 1) := by decide +kernel
theorem dX12_readExpression_58 : decode cX12_readExpression 58 = .ok (.iconst 2, 1) := by decide +kernel
theorem dX12_readExpression_59 : decode cX12_readExpression 59 = .ok (.invokevirtual 231, 3) := by decide +kernel
theorem dX12_readExpression_62 : decode cX12_readExpression 62 = .ok (.aload_n 0, 1) := by decide +kernel
theorem dX12_readExpression_63 : decode cX12_readExpression 63 = .ok (.iload_n 1, 1) := by decide +kernel
theorem dX12_readExpression_64 : decode cX12_readExpression 64 = .ok (.invokevirtual 275, 3) := by decide +kernel
theorem dX12_readExpression_67 : decode cX12_readExpression 67 = .ok (.aload_n 0, 1) := by decide +kernel
theorem dX12_readExpression_68 : decode cX12_readExpression 68 = .ok (.ldc_w 278, 3) := by decide +kernel
theorem dX12_readExpression_71 : decode cX12_readExpression 71 = .ok (.invokevirtual 227, 3) := by decide +kernel
theorem dX12_readExpression_74 : decode cX12_readExpression 74 = .ok (.ifCond .eq 21, 3) := by decide +kernel
theorem dX12_readExpression_77 : decode cX12_readExpression 77 = .ok (.aload_n 0, 1) := by decide +kernel
theorem dX12_readExpression_78 : decode cX12_readExpression 78 = .ok (.invokevirtual 234, 3) := by decide +kernel
theorem dX12_readExpression_81 : decode cX12_readExpression 81 = .ok (.aload_n 0, 1) := by decide +kernel
theorem dX12_readExpression_82 : decode cX12_readExpression 82 = .ok (.iload_n 1, 1) := by decide +kernel
theorem dX12_readExpression_83 : decode cX12_readExpression 83 = .ok (.invokevirtual 275, 3) := by decide +kernel
theorem dX12_readExpression_86 : decode cX12_readExpression 86 = .ok (.aload_n 0, 1) := by decide +kernel
theorem dX12_readExpression_87 : decode cX12_readExpression 87 = .ok (.bipush (-27), 2) := by decide +kernel
theorem dX12_readExpression_89 : decode cX12_readExpression 89 = .ok (.invokevirtual 246, 3) := by decide +kernel
theorem dX12_readExpression_92 : decode cX12_readExpression 92 = .ok (.goto (-25), 3) := by decide +kernel
theorem dX12_readExpression_95 : decode cX12_readExpression 95 = .ok (.return_, 1) := by decide +kernel
theorem dX12_readSort_0 : decode cX12_readSort 0 = .ok (.bipush 16, 2) := by decide +kernel
theorem dX12_readSort_2 : decode cX12_readSort 2 = .ok (.aload_n 0, 1) := by decide +kernel
theorem dX12_readSort_3 : decode cX12_readSort 3 = .ok (.getfield 42, 3) := by decide +kernel
theorem dX12_readSort_6 : decode cX12_readSort 6 = .ok (.iconst 2, 1) := by decide +kernel
theorem dX12_readSort_7 : decode cX12_readSort 7 = .ok (.iaload, 1) := by decide +kernel
theorem dX12_readSort_8 : decode cX12_readSort 8 = .ok (.iadd, 1) := by decide +kernel
theorem dX12_readSort_9 : decode cX12_readSort 9 = .ok (.istore_n 1, 1) := by decide +kernel
theorem dX12_readSort_10 : decode cX12_readSort 10 = .ok (.aload_n 0, 1) := by decide +kernel
theorem dX12_readSort_11 : decode cX12_readSort 11 = .ok (.getfield 49, 3) := by decide +kernel
theorem dX12_readSort_14 : decode cX12_readSort 14 = .ok (.iload_n 1, 1) := by decide +kernel
theorem dX12_readSort_15 : decode cX12_readSort 15 = .ok (.aload_n 0, 1) := by decide +kernel
theorem dX12_readSort_16 : decode cX12_readSort 16 = .ok (.iconst 1, 1) := by decide +kernel
theorem dX12_readSort_17 : decode cX12_readSort 17 = .ok (.bipush 99, 2) := by decide +kernel
theorem dX12_readSort_19 : decode cX12_readSort 19 = .ok (.invokevirtual 243, 3) := by decide +kernel
theorem dX12_readSort_22 : decode cX12_readSort 22 = .ok (.iastore, 1) := by decide +kernel
theorem dX12_readSort_23 : decode cX12_readSort 23 = .ok (.aload_n 0, 1) := by decide +kernel
theorem dX12_readSort_24 : decode cX12_readSort 24 = .ok (.ldc 29, 2) := by decide +kernel
theorem dX12_readSort_26 : decode cX12_readSort 26 = .ok (.invokevirtual 280, 3) := by decide +kernel
theorem dX12_readSort_29 : decode cX12_readSort 29 = .ok (.aload_n 0, 1) := by decide +kernel
theorem dX12_readSort_30 : decode cX12_readSort 30 = .ok (.getfield 52, 3) := by decide +kernel
theorem dX12_readSort_33 : decode cX12_readSort 33 = .ok (.iload_n 1, 1) := by decide +kernel
theorem dX12_readSort_34 : decode cX12_readSort 34 = .ok (.aload_n 0, 1) := by decide +kernel
theorem dX12_readSort_35 : decode cX12_readSort 35 = .ok (.iconst 0, 1) := by decide +kernel
theorem dX12_readSort_36 : decode cX12_readSort 36 = .ok (.bipush 99, 2) := by decide +kernel
theorem dX12_readSort_38 : decode cX12_readSort 38 = .ok (.invokevirtual 243, 3) := by decide +kernel
theorem dX12_readSort_41 : decode cX12_readSort 41 = .ok (.iastore, 1) := by decide +kernel
theorem dX12_readSort_42 : decode cX12_readSort 42 = .ok (.aload_n 0, 1) := by decide +kernel
theorem dX12_readSort_43 : decode cX12_readSort 43 = .ok (.ldc 31, 2) := by decide +kernel
theorem dX12_readSort_45 : decode cX12_readSort 45 = .ok (.invokevirtual 280, 3) := by decide +kernel
theorem dX12_readSort_48 : decode cX12_readSort 48 = .ok (.aload_n 0, 1) := by decide +kernel
theorem dX12_readSort_49 : decode cX12_readSort 49 = .ok (.getfield 54, 3) := by decide +kernel
theorem dX12_readSort_52 : decode cX12_readSort 52 = .ok (.iload_n 1, 1) := by decide +kernel
theorem dX12_readSort_53 : decode cX12_readSort 53 = .ok (.aload_n 0, 1) := by decide +kernel
theorem dX12_readSort_54 : decode cX12_readSort 54 = .ok (.iconst 0, 1) := by decide +kernel
theorem dX12_readSort_55 : decode cX12_readSort 55 = .ok (.bipush 9, 2) := by decide +kernel
theorem dX12_readSort_57 : decode cX12_readSort 57 = .ok (.invokevirtual 243, 3) := by decide +kernel
theorem dX12_readSort_60 : decode cX12_readSort 60 = .ok (.iastore, 1) := by decide +kernel
theorem dX12_readSort_61 : decode cX12_readSort 61 = .ok (.aload_n 0, 1) := by decide +kernel
theorem dX12_readSort_62 : decode cX12_readSort 62 = .ok (.ldc_w 284, 3) := by decide +kernel
theorem dX12_readSort_65 : decode cX12_readSort 65 = .ok (.invokevirtual 280, 3) := by decide +kernel
theorem dX12_readSort_68 : decode cX12_readSort 68 = .ok (.aload_n 0, 1) := by decide +kernel
theorem dX12_readSort_69 : decode cX12_readSort 69 = .ok (.getfield 56, 3) := by decide +kernel
theorem dX12_readSort_72 : decode cX12_readSort 72 = .ok (.iload_n 1, 1) := by decide +kernel
theorem dX12_readSort_73 : decode cX12_readSort 73 = .ok (.aload_n 0, 1) := by decide +kernel
theorem dX12_readSort_74 : decode cX12_readSort 74 = .ok (.getfield 240, 3) := by decide +kernel
theorem dX12_readSort_77 : decode cX12_readSort 77 = .ok (.iastore, 1) := by decide +kernel
theorem dX12_readSort_78 : decode cX12_readSort 78 = .ok (.aload_n 0, 1) := by decide +kernel
theorem dX12_readSort_79 : decode cX12_readSort 79 = .ok (.iconst 0, 1) := by decide +kernel
theorem dX12_readSort_80 : decode cX12_readSort 80 = .ok (.invokevirtual 256, 3) := by decide +kernel
theorem dX12_readSort_83 : decode cX12_readSort 83 = .ok (.aload_n 0, 1) := by decide +kernel
theorem dX12_readSort_84 : decode cX12_readSort 84 = .ok (.getfield 59, 3) := by decide +kernel
theorem dX12_readSort_87 : decode cX12_readSort 87 = .ok (.iload_n 1, 1) := by decide +kernel
theorem dX12_readSort_88 : decode cX12_readSort 88 = .ok (.aload_n 0, 1) := by decide +kernel
theorem dX12_readSort_89 : decode cX12_readSort 89 = .ok (.getfield 240, 3) := by decide +kernel
theorem dX12_readSort_92 : decode cX12_readSort 92 = .ok (.iastore, 1) := by decide +kernel
theorem dX12_readSort_93 : decode cX12_readSort 93 = .ok (.aload_n 0, 1) := by decide +kernel
theorem dX12_readSort_94 : decode cX12_readSort 94 = .ok (.getfield 42, 3) := by decide +kernel
theorem dX12_readSort_97 : decode cX12_readSort 97 = .ok (.iconst 2, 1) := by decide +kernel
theorem dX12_readSort_98 : decode cX12_readSort 98 = .ok (.dup2, 1) := by decide +kernel
theorem dX12_readSort_99 : decode cX12_readSort 99 = .ok (.iaload, 1) := by decide +kernel
theorem dX12_readSort_100 : decode cX12_readSort 100 = .ok (.iconst 1, 1) := by decide +kernel
theorem dX12_readSort_101 : decode cX12_readSort 101 = .ok (.iadd, 1) := by decide +kernel
theorem dX12_readSort_102 : decode cX12_readSort 102 = .ok (.iastore, 1) := by decide +kernel
theorem dX12_readSort_103 : decode cX12_readSort 103 = .ok (.return_, 1) := by decide +kernel
theorem dX12_readClause_0 : decode cX12_readClause 0 = .ok (.aload_n 0, 1) := by decide +kernel
theorem dX12_readClause_1 : decode cX12_readClause 1 = .ok (.aload_n 0, 1) := by decide +kernel
theorem dX12_readClause_2 : decode cX12_readClause 2 = .ok (.getfield 23, 3) := by decide +kernel
theorem dX12_readClause_5 : decode cX12_readClause 5 = .ok (.invokevirtual 249, 3) := by decide +kernel
theorem dX12_readClause_8 : decode cX12_readClause 8 = .ok (.istore_n 2, 1) := by decide +kernel
theorem dX12_readClause_9 : decode cX12_readClause 9 = .ok (.iload_n 2, 1) := by decide +kernel
theorem dX12_readClause_10 : decode cX12_readClause 10 = .ok (.iconst (-1), 1) := by decide +kernel
theorem dX12_readClause_11 : decode cX12_readClause 11 = .ok (.if_icmp .ne 11, 3) := by decide +kernel
theorem dX12_readClause_14 : decode cX12_readClause 14 = .ok (.aload_n 0, 1) := by decide +kernel
theorem dX12_readClause_15 : decode cX12_readClause 15 = .ok (.iconst 1, 1) := by decide +kernel
theorem dX12_readClause_16 : decode cX12_readClause 16 = .ok (.invokevirtual 231, 3) := by decide +kernel
theorem dX12_readClause_19 : decode cX12_readClause 19 = .ok (.goto 44, 3) := by decide +kernel
theorem dX12_readClause_22 : decode cX12_readClause 22 = .ok (.iload_n 2, 1) := by decide +kernel
theorem dX12_readClause_23 : decode cX12_readClause 23 = .ok (.ifCond .ne 22, 3) := by decide +kernel
theorem dX12_readClause_26 : decode cX12_readClause 26 = .ok (.aload_n 0, 1) := by decide +kernel
theorem dX12_readClause_27 : decode cX12_readClause 27 = .ok (.getfield 42, 3) := by decide +kernel
theorem dX12_readClause_30 : decode cX12_readClause 30 = .ok (.iconst 2, 1) := by decide +kernel
theorem dX12_readClause_31 : decode cX12_readClause 31 = .ok (.iaload, 1) := by decide +kernel
theorem dX12_readClause_32 : decode cX12_readClause 32 = .ok (.bipush 8, 2) := by decide +kernel
theorem dX12_readClause_34 : decode cX12_readClause 34 = .ok (.if_icmp .ne 11, 3) := by decide +kernel
theorem dX12_readClause_37 : decode cX12_readClause 37 = .ok (.aload_n 0, 1) := by decide +kernel
theorem dX12_readClause_38 : decode cX12_readClause 38 = .ok (.iconst 2, 1) := by decide +kernel
theorem dX12_readClause_39 : decode cX12_readClause 39 = .ok (.invokevirtual 231, 3) := by decide +kernel
theorem dX12_readClause_42 : decode cX12_readClause 42 = .ok (.goto 21, 3) := by decide +kernel
theorem dX12_readClause_45 : decode cX12_readClause 45 = .ok (.iload_n 2, 1) := by decide +kernel
theorem dX12_readClause_46 : decode cX12_readClause 46 = .ok (.ifCond .le 17, 3) := by decide +kernel
theorem dX12_readClause_49 : decode cX12_readClause 49 = .ok (.iload_n 1, 1) := by decide +kernel
theorem dX12_readClause_50 : decode cX12_readClause 50 = .ok (.iload_n 2, 1) := by decide +kernel
theorem dX12_readClause_51 : decode cX12_readClause 51 = .ok (.ishr, 1) := by decide +kernel
theorem dX12_readClause_52 : decode cX12_readClause 52 = .ok (.iconst 1, 1) := by decide +kernel
theorem dX12_readClause_53 : decode cX12_readClause 53 = .ok (.iand, 1) := by decide +kernel
theorem dX12_readClause_54 : decode cX12_readClause 54 = .ok (.iconst 1, 1) := by decide +kernel
theorem dX12_readClause_55 : decode cX12_readClause 55 = .ok (.if_icmp .ne 8, 3) := by decide +kernel
theorem dX12_readClause_58 : decode cX12_readClause 58 = .ok (.aload_n 0, 1) := by decide +kernel
theorem dX12_readClause_59 : decode cX12_readClause 59 = .ok (.iconst 4, 1) := by decide +kernel
theorem dX12_readClause_60 : decode cX12_readClause 60 = .ok (.invokevirtual 231, 3) := by decide +kernel
theorem dX12_readClause_63 : decode cX12_readClause 63 = .ok (.aload_n 0, 1) := by decide +kernel
theorem dX12_readClause_64 : decode cX12_readClause 64 = .ok (.getfield 213, 3) := by decide +kernel
theorem dX12_readClause_67 : decode cX12_readClause 67 = .ok (.ifCond .eq 5, 3) := by decide +kernel
theorem dX12_readClause_70 : decode cX12_readClause 70 = .ok (.iload_n 1, 1) := by decide +kernel
theorem dX12_readClause_71 : decode cX12_readClause 71 = .ok (.ireturn, 1) := by decide +kernel
theorem dX12_readClause_72 : decode cX12_readClause 72 = .ok (.aload_n 0, 1) := by decide +kernel
theorem dX12_readClause_73 : decode cX12_readClause 73 = .ok (.invokevirtual 234, 3) := by decide +kernel
theorem dX12_readClause_76 : decode cX12_readClause 76 = .ok (.iload_n 2, 1) := by decide +kernel
theorem dX12_readClause_77 : decode cX12_readClause 77 = .ok (.ifCond .ne 10, 3) := by decide +kernel
theorem dX12_readClause_80 : decode cX12_readClause 80 = .ok (.aload_n 0, 1) := by decide +kernel
theorem dX12_readClause_81 : decode cX12_readClause 81 = .ok (.invokevirtual 286, 3) := by decide +kernel
theorem dX12_readClause_84 : decode cX12_readClause 84 = .ok (.goto 93, 3) := by decide +kernel
theorem dX12_readClause_87 : decode cX12_readClause 87 = .ok (.iload_n 2, 1) := by decide +kernel
theorem dX12_readClause_88 : decode cX12_readClause 88 = .ok (.iconst 3, 1) := by decide +kernel
theorem dX12_readClause_89 : decode cX12_readClause 89 = .ok (.if_icmp .eq 8, 3) := by decide +kernel
theorem dX12_readClause_92 : decode cX12_readClause 92 = .ok (.iload_n 2, 1) := by decide +kernel
theorem dX12_readClause_93 : decode cX12_readClause 93 = .ok (.iconst 4, 1) := by decide +kernel
theorem dX12_readClause_94 : decode cX12_readClause 94 = .ok (.if_icmp .ne 18, 3) := by decide +kernel
theorem dX12_readClause_97 : decode cX12_readClause 97 = .ok (.aload_n 0, 1) := by decide +kernel
theorem dX12_readClause_98 : decode cX12_readClause 98 = .ok (.getfield 46, 3) := by decide +kernel
theorem dX12_readClause_101 : decode cX12_readClause 101 = .ok (.bipush 14, 2) := by decide +kernel
theorem dX12_readClause_103 : decode cX12_readClause 103 = .ok (.iload_n 2, 1) := by decide +kernel
theorem dX12_readClause_104 : decode cX12_readClause 104 = .ok (.iadd, 1) := by decide +kernel
theorem dX12_readClause_105 : decode cX12_readClause 105 = .ok (.iconst 1, 1) := by decide +kernel
theorem dX12_readClause_106 : decode cX12_readClause 106 = .ok (.isub, 1) := by decide +kernel
theorem dX12_readClause_107 : decode cX12_readClause 107 = .ok (.iconst 1, 1) := by decide +kernel
theorem dX12_readClause_108 : decode cX12_readClause 108 = .ok (.iastore, 1) := by decide +kernel
theorem dX12_readClause_109 : decode cX12_readClause 109 = .ok (.goto 68, 3) := by decide +kernel
theorem dX12_readClause_112 : decode cX12_readClause 112 = .ok (.iload_n 2, 1) := by decide +kernel
theorem dX12_readClause_113 : decode cX12_readClause 113 = .ok (.bipush 6, 2) := by decide +kernel
theorem dX12_readClause_115 : decode cX12_readClause 115 = .ok (.if_icmp .ne 35, 3) := by decide +kernel
theorem dX12_readClause_118 : decode cX12_readClause 118 = .ok (.aload_n 0, 1) := by decide +kernel
theorem dX12_readClause_119 : decode cX12_readClause 119 = .ok (.getfield 46, 3) := by decide +kernel
theorem dX12_readClause_122 : decode cX12_readClause 122 = .ok (.bipush 19, 2) := by decide +kernel
theorem dX12_readClause_124 : decode cX12_readClause 124 = .ok (.aload_n 0, 1) := by decide +kernel
theorem dX12_readClause_125 : decode cX12_readClause 125 = .ok (.iconst 0, 1) := by decide +kernel
theorem dX12_readClause_126 : decode cX12_readClause 126 = .ok (.bipush 100, 2) := by decide +kernel
theorem dX12_readClause_128 : decode cX12_readClause 128 = .ok (.invokevirtual 243, 3) := by decide +kernel
theorem dX12_readClause_131 : decode cX12_readClause 131 = .ok (.iastore, 1) := by decide +kernel
theorem dX12_readClause_132 : decode cX12_readClause 132 = .ok (.aload_n 0, 1) := by decide +kernel
theorem dX12_readClause_133 : decode cX12_readClause 133 = .ok (.getfield 46, 3) := by decide +kernel
theorem dX12_readClause_136 : decode cX12_readClause 136 = .ok (.bipush 20, 2) := by decide +kernel
theorem dX12_readClause_138 : decode cX12_readClause 138 = .ok (.aload_n 0, 1) := by decide +kernel
theorem dX12_readClause_139 : decode cX12_readClause 139 = .ok (.iconst 1, 1) := by decide +kernel
theorem dX12_readClause_140 : decode cX12_readClause 140 = .ok (.sipush 999, 3) := by decide +kernel
theorem dX12_readClause_143 : decode cX12_readClause 143 = .ok (.invokevirtual 243, 3) := by decide +kernel
theorem dX12_readClause_146 : decode cX12_readClause 146 = .ok (.iastore, 1) := by decide +kernel
theorem dX12_readClause_147 : decode cX12_readClause 147 = .ok (.goto 30, 3) := by decide +kernel
theorem dX12_readClause_150 : decode cX12_readClause 150 = .ok (.aload_n 0, 1) := by decide +kernel
theorem dX12_readClause_151 : decode cX12_readClause 151 = .ok (.getfield 46, 3) := by decide +kernel
theorem dX12_readClause_154 : decode cX12_readClause 154 = .ok (.bipush 14, 2) := by decide +kernel
theorem dX12_readClause_156 : decode cX12_readClause 156 = .ok (.iload_n 2, 1) := by decide +kernel
theorem dX12_readClause_157 : decode cX12_readClause 157 = .ok (.iadd, 1) := by decide +kernel
theorem dX12_readClause_158 : decode cX12_readClause 158 = .ok (.iconst 1, 1) := by decide +kernel
theorem dX12_readClause_159 : decode cX12_readClause 159 = .ok (.isub, 1) := by decide +kernel
theorem dX12_readClause_160 : decode cX12_readClause 160 = .ok (.aload_n 0, 1) := by decide +kernel
theorem dX12_readClause_161 : decode cX12_readClause 161 = .ok (.iconst 0, 1) := by decide +kernel
theorem dX12_readClause_162 : decode cX12_readClause 162 = .ok (.iload_n 2, 1) := by decide +kernel
theorem dX12_readClause_163 : decode cX12_readClause 163 = .ok (.iconst 1, 1) := by decide +kernel
theorem dX12_readClause_164 : decode cX12_readClause 164 = .ok (.if_icmp .ne 7, 3) := by decide +kernel
theorem dX12_readClause_167 : decode cX12_readClause 167 = .ok (.iconst 2, 1) := by decide +kernel
theorem dX12_readClause_168 : decode cX12_readClause 168 = .ok (.goto 5, 3) := by decide +kernel
theorem dX12_readClause_171 : decode cX12_readClause 171 = .ok (.bipush 9, 2) := by decide +kernel
theorem dX12_readClause_173 : decode cX12_readClause 173 = .ok (.invokevirtual 243, 3) := by decide +kernel
theorem dX12_readClause_176 : decode cX12_readClause 176 = .ok (.iastore, 1) := by decide +kernel
theorem dX12_readClause_177 : decode cX12_readClause 177 = .ok (.aload_n 0, 1) := by decide +kernel
theorem dX12_readClause_178 : decode cX12_readClause 178 = .ok (.bipush 59, 2) := by decide +kernel
theorem dX12_readClause_180 : decode cX12_readClause 180 = .ok (.invokevirtual 253, 3) := by decide +kernel
theorem dX12_readClause_183 : decode cX12_readClause 183 = .ok (.iload_n 1, 1) := by decide +kernel
theorem dX12_readClause_184 : decode cX12_readClause 184 = .ok (.iconst 1, 1) := by decide +kernel
theorem dX12_readClause_185 : decode cX12_readClause 185 = .ok (.iload_n 2, 1) := by decide +kernel
theorem dX12_readClause_186 : decode cX12_readClause 186 = .ok (.ishl, 1) := by decide +kernel
theorem dX12_readClause_187 : decode cX12_readClause 187 = .ok (.ior, 1) := by decide +kernel
theorem dX12_readClause_188 : decode cX12_readClause 188 = .ok (.ireturn, 1) := by decide +kernel
theorem dX12_gate_0 : decode cX12_gate 0 = .ok (.aload_n 0, 1) := by decide +kernel
theorem dX12_gate_1 : decode cX12_gate 1 = .ok (.iconst 0, 1) := by decide +kernel
theorem dX12_gate_2 : decode cX12_gate 2 = .ok (.putfield 159, 3) := by decide +kernel
theorem dX12_gate_5 : decode cX12_gate 5 = .ok (.iload_n 1, 1) := by decide +kernel
theorem dX12_gate_6 : decode cX12_gate 6 = .ok (.invokestatic 166, 3) := by decide +kernel
theorem dX12_gate_9 : decode cX12_gate 9 = .ok (.ifCond .ne 9, 3) := by decide +kernel
theorem dX12_gate_12 : decode cX12_gate 12 = .ok (.aload_n 0, 1) := by decide +kernel
theorem dX12_gate_13 : decode cX12_gate 13 = .ok (.iconst 1, 1) := by decide +kernel
theorem dX12_gate_14 : decode cX12_gate 14 = .ok (.invokevirtual 289, 3) := by decide +kernel
theorem dX12_gate_17 : decode cX12_gate 17 = .ok (.ireturn, 1) := by decide +kernel
theorem dX12_gate_18 : decode cX12_gate 18 = .ok (.iload_n 2, 1) := by decide +kernel
theorem dX12_gate_19 : decode cX12_gate 19 = .ok (.ifCond .lt 11, 3) := by decide +kernel
theorem dX12_gate_22 : decode cX12_gate 22 = .ok (.iload_n 2, 1) := by decide +kernel
theorem dX12_gate_23 : decode cX12_gate 23 = .ok (.aload_n 0, 1) := by decide +kernel
theorem dX12_gate_24 : decode cX12_gate 24 = .ok (.getfield 174, 3) := by decide +kernel
theorem dX12_gate_27 : decode cX12_gate 27 = .ok (.if_icmp .le 9, 3) := by decide +kernel
theorem dX12_gate_30 : decode cX12_gate 30 = .ok (.aload_n 0, 1) := by decide +kernel
theorem dX12_gate_31 : decode cX12_gate 31 = .ok (.iconst 2, 1) := by decide +kernel
theorem dX12_gate_32 : decode cX12_gate 32 = .ok (.invokevirtual 289, 3) := by decide +kernel
theorem dX12_gate_35 : decode cX12_gate 35 = .ok (.ireturn, 1) := by decide +kernel
theorem dX12_gate_36 : decode cX12_gate 36 = .ok (.aload_n 0, 1) := by decide +kernel
theorem dX12_gate_37 : decode cX12_gate 37 = .ok (.iconst 0, 1) := by decide +kernel
theorem dX12_gate_38 : decode cX12_gate 38 = .ok (.putfield 174, 3) := by decide +kernel
theorem dX12_gate_41 : decode cX12_gate 41 = .ok (.aload_n 0, 1) := by decide +kernel
theorem dX12_gate_42 : decode cX12_gate 42 = .ok (.iload_n 2, 1) := by decide +kernel
theorem dX12_gate_43 : decode cX12_gate 43 = .ok (.putfield 177, 3) := by decide +kernel
theorem dX12_gate_46 : decode cX12_gate 46 = .ok (.aload_n 0, 1) := by decide +kernel
theorem dX12_gate_47 : decode cX12_gate 47 = .ok (.iconst 0, 1) := by decide +kernel
theorem dX12_gate_48 : decode cX12_gate 48 = .ok (.putfield 180, 3) := by decide +kernel
theorem dX12_gate_51 : decode cX12_gate 51 = .ok (.aload_n 0, 1) := by decide +kernel
theorem dX12_gate_52 : decode cX12_gate 52 = .ok (.iconst 0, 1) := by decide +kernel
theorem dX12_gate_53 : decode cX12_gate 53 = .ok (.putfield 213, 3) := by decide +kernel
theorem dX12_gate_56 : decode cX12_gate 56 = .ok (.aload_n 0, 1) := by decide +kernel
theorem dX12_gate_57 : decode cX12_gate 57 = .ok (.iconst (-1), 1) := by decide +kernel
theorem dX12_gate_58 : decode cX12_gate 58 = .ok (.putfield 92, 3) := by decide +kernel
theorem dX12_gate_61 : decode cX12_gate 61 = .ok (.aload_n 0, 1) := by decide +kernel
theorem dX12_gate_62 : decode cX12_gate 62 = .ok (.iconst 0, 1) := by decide +kernel
theorem dX12_gate_63 : decode cX12_gate 63 = .ok (.putfield 240, 3) := by decide +kernel
theorem dX12_gate_66 : decode cX12_gate 66 = .ok (.aload_n 0, 1) := by decide +kernel
theorem dX12_gate_67 : decode cX12_gate 67 = .ok (.iconst 2, 1) := by decide +kernel
theorem dX12_gate_68 : decode cX12_gate 68 = .ok (.invokevirtual 155, 3) := by decide +kernel
theorem dX12_gate_71 : decode cX12_gate 71 = .ok (.aload_n 0, 1) := by decide +kernel
theorem dX12_gate_72 : decode cX12_gate 72 = .ok (.invokevirtual 234, 3) := by decide +kernel
theorem dX12_gate_75 : decode cX12_gate 75 = .ok (.iconst 0, 1) := by decide +kernel
theorem dX12_gate_76 : decode cX12_gate 76 = .ok (.istore_n 3, 1) := by decide +kernel
theorem dX12_gate_77 : decode cX12_gate 77 = .ok (.aload_n 0, 1) := by decide +kernel
theorem dX12_gate_78 : decode cX12_gate 78 = .ok (.getfield 213, 3) := by decide +kernel
theorem dX12_gate_81 : decode cX12_gate 81 = .ok (.ifCond .ne 19, 3) := by decide +kernel
theorem dX12_gate_84 : decode cX12_gate 84 = .ok (.aload_n 0, 1) := by decide +kernel
theorem dX12_gate_85 : decode cX12_gate 85 = .ok (.getfield 189, 3) := by decide +kernel
theorem dX12_gate_88 : decode cX12_gate 88 = .ok (.ifCond .eq 12, 3) := by decide +kernel
theorem dX12_gate_91 : decode cX12_gate 91 = .ok (.aload_n 0, 1) := by decide +kernel
theorem dX12_gate_92 : decode cX12_gate 92 = .ok (.iload_n 3, 1) := by decide +kernel
theorem dX12_gate_93 : decode cX12_gate 93 = .ok (.invokevirtual 292, 3) := by decide +kernel
theorem dX12_gate_96 : decode cX12_gate 96 = .ok (.istore_n 3, 1) := by decide +kernel
theorem dX12_gate_97 : decode cX12_gate 97 = .ok (.goto (-20), 3) := by decide +kernel
theorem dX12_gate_100 : decode cX12_gate 100 = .ok (.aload_n 0, 1) := by decide +kernel
theorem dX12_gate_101 : decode cX12_gate 101 = .ok (.getfield 213, 3) := by decide +kernel
theorem dX12_gate_104 : decode cX12_gate 104 = .ok (.ifCond .eq 26, 3) := by decide +kernel
theorem dX12_gate_107 : decode cX12_gate 107 = .ok (.aload_n 0, 1) := by decide +kernel
theorem dX12_gate_108 : decode cX12_gate 108 = .ok (.aload_n 0, 1) := by decide +kernel
theorem dX12_gate_109 : decode cX12_gate 109 = .ok (.getfield 216, 3) := by decide +kernel
theorem dX12_gate_112 : decode cX12_gate 112 = .ok (.putfield 92, 3) := by decide +kernel
theorem dX12_gate_115 : decode cX12_gate 115 = .ok (.aload_n 0, 1) := by decide +kernel
theorem dX12_gate_116 : decode cX12_gate 116 = .ok (.getfield 86, 3) := by decide +kernel
theorem dX12_gate_119 : decode cX12_gate 119 = .ok (.iconst 0, 1) := by decide +kernel
theorem dX12_gate_120 : decode cX12_gate 120 = .ok (.dup2, 1) := by decide +kernel
theorem dX12_gate_121 : decode cX12_gate 121 = .ok (.iaload, 1) := by decide +kernel
theorem dX12_gate_122 : decode cX12_gate 122 = .ok (.iconst 1, 1) := by decide +kernel
theorem dX12_gate_123 : decode cX12_gate 123 = .ok (.iadd, 1) := by decide +kernel
theorem dX12_gate_124 : decode cX12_gate 124 = .ok (.iastore, 1) := by decide +kernel
theorem dX12_gate_125 : decode cX12_gate 125 = .ok (.aload_n 0, 1) := by decide +kernel
theorem dX12_gate_126 : decode cX12_gate 126 = .ok (.getfield 213, 3) := by decide +kernel
theorem dX12_gate_129 : decode cX12_gate 129 = .ok (.ireturn, 1) := by decide +kernel
theorem dX12_gate_130 : decode cX12_gate 130 = .ok (.aload_n 0, 1) := by decide +kernel
theorem dX12_gate_131 : decode cX12_gate 131 = .ok (.iload_n 1, 1) := by decide +kernel
theorem dX12_gate_132 : decode cX12_gate 132 = .ok (.invokevirtual 295, 3) := by decide +kernel
theorem dX12_gate_135 : decode cX12_gate 135 = .ok (.iconst 0, 1) := by decide +kernel
theorem dX12_gate_136 : decode cX12_gate 136 = .ok (.ireturn, 1) := by decide +kernel
theorem dX12_take_0 : decode cX12_take 0 = .ok (.aload_n 0, 1) := by decide +kernel
theorem dX12_take_1 : decode cX12_take 1 = .ok (.getfield 42, 3) := by decide +kernel
theorem dX12_take_4 : decode cX12_take 4 = .ok (.iload_n 1, 1) := by decide +kernel
theorem dX12_take_5 : decode cX12_take 5 = .ok (.aload_n 0, 1) := by decide +kernel
theorem dX12_take_6 : decode cX12_take 6 = .ok (.getfield 42, 3) := by decide +kernel
theorem dX12_take_9 : decode cX12_take 9 = .ok (.iconst 2, 1) := by decide +kernel
theorem dX12_take_10 : decode cX12_take 10 = .ok (.iaload, 1) := by decide +kernel
theorem dX12_take_11 : decode cX12_take 11 = .ok (.iastore, 1) := by decide +kernel
theorem dX12_take_12 : decode cX12_take 12 = .ok (.iconst 0, 1) := by decide +kernel
theorem dX12_take_13 : decode cX12_take 13 = .ok (.istore_n 2, 1) := by decide +kernel
theorem dX12_take_14 : decode cX12_take 14 = .ok (.iload_n 2, 1) := by decide +kernel
theorem dX12_take_15 : decode cX12_take 15 = .ok (.bipush 7, 2) := by decide +kernel
theorem dX12_take_17 : decode cX12_take 17 = .ok (.if_icmp .ge 29, 3) := by decide +kernel
theorem dX12_take_20 : decode cX12_take 20 = .ok (.aload_n 0, 1) := by decide +kernel
theorem dX12_take_21 : decode cX12_take 21 = .ok (.getfield 46, 3) := by decide +kernel
theorem dX12_take_24 : decode cX12_take 24 = .ok (.bipush 7, 2) := by decide +kernel
theorem dX12_take_26 : decode cX12_take 26 = .ok (.iload_n 1, 1) := by decide +kernel
theorem dX12_take_27 : decode cX12_take 27 = .ok (.imul, 1) := by decide +kernel
theorem dX12_take_28 : decode cX12_take 28 = .ok (.iload_n 2, 1) := by decide +kernel
theorem dX12_take_29 : decode cX12_take 29 = .ok (.iadd, 1) := by decide +kernel
theorem dX12_take_30 : decode cX12_take 30 = .ok (.aload_n 0, 1) := by decide +kernel
theorem dX12_take_31 : decode cX12_take 31 = .ok (.getfield 46, 3) := by decide +kernel
theorem dX12_take_34 : decode cX12_take 34 = .ok (.bipush 14, 2) := by decide +kernel
theorem dX12_take_36 : decode cX12_take 36 = .ok (.iload_n 2, 1) := by decide +kernel
theorem dX12_take_37 : decode cX12_take 37 = .ok (.iadd, 1) := by decide +kernel
theorem dX12_take_38 : decode cX12_take 38 = .ok (.iaload, 1) := by decide +kernel
theorem dX12_take_39 : decode cX12_take 39 = .ok (.iastore, 1) := by decide +kernel
theorem dX12_take_40 : decode cX12_take 40 = .ok (.iinc 2 1, 3) := by decide +kernel
theorem dX12_take_43 : decode cX12_take 43 = .ok (.goto (-29), 3) := by decide +kernel
theorem dX12_take_46 : decode cX12_take 46 = .ok (.iconst 0, 1) := by decide +kernel
theorem dX12_take_47 : decode cX12_take 47 = .ok (.istore_n 2, 1) := by decide +kernel
theorem dX12_take_48 : decode cX12_take 48 = .ok (.iload_n 2, 1) := by decide +kernel
theorem dX12_take_49 : decode cX12_take 49 = .ok (.bipush 8, 2) := by decide +kernel
theorem dX12_take_51 : decode cX12_take 51 = .ok (.if_icmp .ge 109, 3) := by decide +kernel
theorem dX12_take_54 : decode cX12_take 54 = .ok (.aload_n 0, 1) := by decide +kernel
theorem dX12_take_55 : decode cX12_take 55 = .ok (.getfield 49, 3) := by decide +kernel
theorem dX12_take_58 : decode cX12_take 58 = .ok (.bipush 8, 2) := by decide +kernel
theorem dX12_take_60 : decode cX12_take 60 = .ok (.iload_n 1, 1) := by decide +kernel
theorem dX12_take_61 : decode cX12_take 61 = .ok (.imul, 1) := by decide +kernel
theorem dX12_take_62 : decode cX12_take 62 = .ok (.iload_n 2, 1) := by decide +kernel
theorem dX12_take_63 : decode cX12_take 63 = .ok (.iadd, 1) := by decide +kernel
theorem dX12_take_64 : decode cX12_take 64 = .ok (.aload_n 0, 1) := by decide +kernel
theorem dX12_take_65 : decode cX12_take 65 = .ok (.getfield 49, 3) := by decide +kernel
theorem dX12_take_68 : decode cX12_take 68 = .ok (.bipush 16, 2) := by decide +kernel
theorem dX12_take_70 : decode cX12_take 70 = .ok (.iload_n 2, 1) := by decide +kernel
theorem dX12_take_71 : decode cX12_take 71 = .ok (.iadd, 1) := by decide +kernel
theorem dX12_take_72 : decode cX12_take 72 = .ok (.iaload, 1) := by decide +kernel
theorem dX12_take_73 : decode cX12_take 73 = .ok (.iastore, 1) := by decide +kernel
theorem dX12_take_74 : decode cX12_take 74 = .ok (.aload_n 0, 1) := by decide +kernel
theorem dX12_take_75 : decode cX12_take 75 = .ok (.getfield 52, 3) := by decide +kernel
theorem dX12_take_78 : decode cX12_take 78 = .ok (.bipush 8, 2) := by decide +kernel
theorem dX12_take_80 : decode cX12_take 80 = .ok (.iload_n 1, 1) := by decide +kernel
theorem dX12_take_81 : decode cX12_take 81 = .ok (.imul, 1) := by decide +kernel
theorem dX12_take_82 : decode cX12_take 82 = .ok (.iload_n 2, 1) := by decide +kernel
theorem dX12_take_83 : decode cX12_take 83 = .ok (.iadd, 1) := by decide +kernel
theorem dX12_take_84 : decode cX12_take 84 = .ok (.aload_n 0, 1) := by decide +kernel
theorem dX12_take_85 : decode cX12_take 85 = .ok (.getfield 52, 3) := by decide +kernel
theorem dX12_take_88 : decode cX12_take 88 = .ok (.bipush 16, 2) := by decide +kernel
theorem dX12_take_90 : decode cX12_take 90 = .ok (.iload_n 2, 1) := by decide +kernel
theorem dX12_take_91 : decode cX12_take 91 = .ok (.iadd, 1) := by decide +kernel
theorem dX12_take_92 : decode cX12_take 92 = .ok (.iaload, 1) := by decide +kernel
theorem dX12_take_93 : decode cX12_take 93 = .ok (.iastore, 1) := by decide +kernel
theorem dX12_take_94 : decode cX12_take 94 = .ok (.aload_n 0, 1) := by decide +kernel
theorem dX12_take_95 : decode cX12_take 95 = .ok (.getfield 54, 3) := by decide +kernel
theorem dX12_take_98 : decode cX12_take 98 = .ok (.bipush 8, 2) := by decide +kernel
theorem dX12_take_100 : decode cX12_take 100 = .ok (.iload_n 1, 1) := by decide +kernel
theorem dX12_take_101 : decode cX12_take 101 = .ok (.imul, 1) := by decide +kernel
theorem dX12_take_102 : decode cX12_take 102 = .ok (.iload_n 2, 1) := by decide +kernel
theorem dX12_take_103 : decode cX12_take 103 = .ok (.iadd, 1) := by decide +kernel
theorem dX12_take_104 : decode cX12_take 104 = .ok (.aload_n 0, 1) := by decide +kernel
theorem dX12_take_105 : decode cX12_take 105 = .ok (.getfield 54, 3) := by decide +kernel
theorem dX12_take_108 : decode cX12_take 108 = .ok (.bipush 16, 2) := by decide +kernel
theorem dX12_take_110 : decode cX12_take 110 = .ok (.iload_n 2, 1) := by decide +kernel
theorem dX12_take_111 : decode cX12_take 111 = .ok (.iadd, 1) := by decide +kernel
theorem dX12_take_112 : decode cX12_take 112 = .ok (.iaload, 1) := by decide +kernel
theorem dX12_take_113 : decode cX12_take 113 = .ok (.iastore, 1) := by decide +kernel
theorem dX12_take_114 : decode cX12_take 114 = .ok (.aload_n 0, 1) := by decide +kernel
theorem dX12_take_115 : decode cX12_take 115 = .ok (.getfield 56, 3) := by decide +kernel
theorem dX12_take_118 : decode cX12_take 118 = .ok (.bipush 8, 2) := by decide +kernel
theorem dX12_take_120 : decode cX12_take 120 = .ok (.iload_n 1, 1) := by decide +kernel
theorem dX12_take_121 : decode cX12_take 121 = .ok (.imul, 1) := by decide +kernel
theorem dX12_take_122 : decode cX12_take 122 = .ok (.iload_n 2, 1) := by decide +kernel
theorem dX12_take_123 : decode cX12_take 123 = .ok (.iadd, 1) := by decide +kernel
theorem dX12_take_124 : decode cX12_take 124 = .ok (.aload_n 0, 1) := by decide +kernel
theorem dX12_take_125 : decode cX12_take 125 = .ok (.getfield 56, 3) := by decide +kernel
theorem dX12_take_128 : decode cX12_take 128 = .ok (.bipush 16, 2) := by decide +kernel
theorem dX12_take_130 : decode cX12_take 130 = .ok (.iload_n 2, 1) := by decide +kernel
theorem dX12_take_131 : decode cX12_take 131 = .ok (.iadd, 1) := by decide +kernel
theorem dX12_take_132 : decode cX12_take 132 = .ok (.iaload, 1) := by decide +kernel
theorem dX12_take_133 : decode cX12_take 133 = .ok (.iastore, 1) := by decide +kernel
theorem dX12_take_134 : decode cX12_take 134 = .ok (.aload_n 0, 1) := by decide +kernel
theorem dX12_take_135 : decode cX12_take 135 = .ok (.getfield 59, 3) := by decide +kernel
theorem dX12_take_138 : decode cX12_take 138 = .ok (.bipush 8, 2) := by decide +kernel
theorem dX12_take_140 : decode cX12_take 140 = .ok (.iload_n 1, 1) := by decide +kernel
theorem dX12_take_141 : decode cX12_take 141 = .ok (.imul, 1) := by decide +kernel
theorem dX12_take_142 : decode cX12_take 142 = .ok (.iload_n 2, 1) := by decide +kernel
theorem dX12_take_143 : decode cX12_take 143 = .ok (.iadd, 1) := by decide +kernel
theorem dX12_take_144 : decode cX12_take 144 = .ok (.aload_n 0, 1) := by decide +kernel
theorem dX12_take_145 : decode cX12_take 145 = .ok (.getfield 59, 3) := by decide +kernel
theorem dX12_take_148 : decode cX12_take 148 = .ok (.bipush 16, 2) := by decide +kernel
theorem dX12_take_150 : decode cX12_take 150 = .ok (.iload_n 2, 1) := by decide +kernel
theorem dX12_take_151 : decode cX12_take 151 = .ok (.iadd, 1) := by decide +kernel
theorem dX12_take_152 : decode cX12_take 152 = .ok (.iaload, 1) := by decide +kernel
theorem dX12_take_153 : decode cX12_take 153 = .ok (.iastore, 1) := by decide +kernel
theorem dX12_take_154 : decode cX12_take 154 = .ok (.iinc 2 1, 3) := by decide +kernel
theorem dX12_take_157 : decode cX12_take 157 = .ok (.goto (-109), 3) := by decide +kernel
theorem dX12_take_160 : decode cX12_take 160 = .ok (.iconst 0, 1) := by decide +kernel
theorem dX12_take_161 : decode cX12_take 161 = .ok (.istore_n 2, 1) := by decide +kernel
theorem dX12_take_162 : decode cX12_take 162 = .ok (.iload_n 2, 1) := by decide +kernel
theorem dX12_take_163 : decode cX12_take 163 = .ok (.aload_n 0, 1) := by decide +kernel
theorem dX12_take_164 : decode cX12_take 164 = .ok (.getfield 240, 3) := by decide +kernel
theorem dX12_take_167 : decode cX12_take 167 = .ok (.if_icmp .ge 31, 3) := by decide +kernel
theorem dX12_take_170 : decode cX12_take 170 = .ok (.aload_n 0, 1) := by decide +kernel
theorem dX12_take_171 : decode cX12_take 171 = .ok (.getfield 62, 3) := by decide +kernel
theorem dX12_take_174 : decode cX12_take 174 = .ok (.sipush 700, 3) := by decide +kernel
theorem dX12_take_177 : decode cX12_take 177 = .ok (.iload_n 1, 1) := by decide +kernel
theorem dX12_take_178 : decode cX12_take 178 = .ok (.imul, 1) := by decide +kernel
theorem dX12_take_179 : decode cX12_take 179 = .ok (.iload_n 2, 1) := by decide +kernel
theorem dX12_take_180 : decode cX12_take 180 = .ok (.iadd, 1) := by decide +kernel
theorem dX12_take_181 : decode cX12_take 181 = .ok (.aload_n 0, 1) := by decide +kernel
theorem dX12_take_182 : decode cX12_take 182 = .ok (.getfield 62, 3) := by decide +kernel
theorem dX12_take_185 : decode cX12_take 185 = .ok (.sipush 1400, 3) := by decide +kernel
theorem dX12_take_188 : decode cX12_take 188 = .ok (.iload_n 2, 1) := by decide +kernel
theorem dX12_take_189 : decode cX12_take 189 = .ok (.iadd, 1) := by decide +kernel
theorem dX12_take_190 : decode cX12_take 190 = .ok (.iaload, 1) := by decide +kernel
theorem dX12_take_191 : decode cX12_take 191 = .ok (.iastore, 1) := by decide +kernel
theorem dX12_take_192 : decode cX12_take 192 = .ok (.iinc 2 1, 3) := by decide +kernel
theorem dX12_take_195 : decode cX12_take 195 = .ok (.goto (-33), 3) := by decide +kernel
theorem dX12_take_198 : decode cX12_take 198 = .ok (.aload_n 0, 1) := by decide +kernel
theorem dX12_take_199 : decode cX12_take 199 = .ok (.getfield 65, 3) := by decide +kernel
theorem dX12_take_202 : decode cX12_take 202 = .ok (.iload_n 1, 1) := by decide +kernel
theorem dX12_take_203 : decode cX12_take 203 = .ok (.iconst 0, 1) := by decide +kernel
theorem dX12_take_204 : decode cX12_take 204 = .ok (.iastore, 1) := by decide +kernel
theorem dX12_take_205 : decode cX12_take 205 = .ok (.aload_n 0, 1) := by decide +kernel
theorem dX12_take_206 : decode cX12_take 206 = .ok (.getfield 68, 3) := by decide +kernel
theorem dX12_take_209 : decode cX12_take 209 = .ok (.iload_n 1, 1) := by decide +kernel
theorem dX12_take_210 : decode cX12_take 210 = .ok (.iconst 0, 1) := by decide +kernel
theorem dX12_take_211 : decode cX12_take 211 = .ok (.iastore, 1) := by decide +kernel
theorem dX12_take_212 : decode cX12_take 212 = .ok (.aload_n 0, 1) := by decide +kernel
theorem dX12_take_213 : decode cX12_take 213 = .ok (.getfield 71, 3) := by decide +kernel
theorem dX12_take_216 : decode cX12_take 216 = .ok (.iload_n 1, 1) := by decide +kernel
theorem dX12_take_217 : decode cX12_take 217 = .ok (.iconst 0, 1) := by decide +kernel
theorem dX12_take_218 : decode cX12_take 218 = .ok (.iastore, 1) := by decide +kernel
theorem dX12_take_219 : decode cX12_take 219 = .ok (.aload_n 0, 1) := by decide +kernel
theorem dX12_take_220 : decode cX12_take 220 = .ok (.getfield 77, 3) := by decide +kernel
theorem dX12_take_223 : decode cX12_take 223 = .ok (.iload_n 1, 1) := by decide +kernel
theorem dX12_take_224 : decode cX12_take 224 = .ok (.iconst 0, 1) := by decide +kernel
theorem dX12_take_225 : decode cX12_take 225 = .ok (.iastore, 1) := by decide +kernel
theorem dX12_take_226 : decode cX12_take 226 = .ok (.aload_n 0, 1) := by decide +kernel
theorem dX12_take_227 : decode cX12_take 227 = .ok (.getfield 80, 3) := by decide +kernel
theorem dX12_take_230 : decode cX12_take 230 = .ok (.iload_n 1, 1) := by decide +kernel
theorem dX12_take_231 : decode cX12_take 231 = .ok (.iconst 0, 1) := by decide +kernel
theorem dX12_take_232 : decode cX12_take 232 = .ok (.iastore, 1) := by decide +kernel
theorem dX12_take_233 : decode cX12_take 233 = .ok (.iconst 0, 1) := by decide +kernel
theorem dX12_take_234 : decode cX12_take 234 = .ok (.istore_n 2, 1) := by decide +kernel
theorem dX12_take_235 : decode cX12_take 235 = .ok (.iload_n 2, 1) := by decide +kernel
theorem dX12_take_236 : decode cX12_take 236 = .ok (.bipush 32, 2) := by decide +kernel
theorem dX12_take_238 : decode cX12_take 238 = .ok (.if_icmp .ge 21, 3) := by decide +kernel
theorem dX12_take_241 : decode cX12_take 241 = .ok (.aload_n 0, 1) := by decide +kernel
theorem dX12_take_242 : decode cX12_take 242 = .ok (.getfield 83, 3) := by decide +kernel
theorem dX12_take_245 : decode cX12_take 245 = .ok (.bipush 32, 2) := by decide +kernel
theorem dX12_take_247 : decode cX12_take 247 = .ok (.iload_n 1, 1) := by decide +kernel
theorem dX12_take_248 : decode cX12_take 248 = .ok (.imul, 1) := by decide +kernel
theorem dX12_take_249 : decode cX12_take 249 = .ok (.iload_n 2, 1) := by decide +kernel
theorem dX12_take_250 : decode cX12_take 250 = .ok (.iadd, 1) := by decide +kernel
theorem dX12_take_251 : decode cX12_take 251 = .ok (.iconst 0, 1) := by decide +kernel
theorem dX12_take_252 : decode cX12_take 252 = .ok (.iastore, 1) := by decide +kernel
theorem dX12_take_253 : decode cX12_take 253 = .ok (.iinc 2 1, 3) := by decide +kernel
theorem dX12_take_256 : decode cX12_take 256 = .ok (.goto (-21), 3) := by decide +kernel
theorem dX12_take_259 : decode cX12_take 259 = .ok (.aload_n 0, 1) := by decide +kernel
theorem dX12_take_260 : decode cX12_take 260 = .ok (.iconst 0, 1) := by decide +kernel
theorem dX12_take_261 : decode cX12_take 261 = .ok (.putfield 298, 3) := by decide +kernel
theorem dX12_take_264 : decode cX12_take 264 = .ok (.return_, 1) := by decide +kernel
theorem dX12_fault_0 : decode cX12_fault 0 = .ok (.aload_n 0, 1) := by decide +kernel
theorem dX12_fault_1 : decode cX12_fault 1 = .ok (.iconst 0, 1) := by decide +kernel
theorem dX12_fault_2 : decode cX12_fault 2 = .ok (.putfield 159, 3) := by decide +kernel
theorem dX12_fault_5 : decode cX12_fault 5 = .ok (.aload_n 0, 1) := by decide +kernel
theorem dX12_fault_6 : decode cX12_fault 6 = .ok (.getfield 92, 3) := by decide +kernel
theorem dX12_fault_9 : decode cX12_fault 9 = .ok (.ireturn, 1) := by decide +kernel
theorem dX12_count_0 : decode cX12_count 0 = .ok (.aload_n 0, 1) := by decide +kernel
theorem dX12_count_1 : decode cX12_count 1 = .ok (.iconst 0, 1) := by decide +kernel
theorem dX12_count_2 : decode cX12_count 2 = .ok (.putfield 159, 3) := by decide +kernel
theorem dX12_count_5 : decode cX12_count 5 = .ok (.iload_n 1, 1) := by decide +kernel
theorem dX12_count_6 : decode cX12_count 6 = .ok (.ifCond .ne 10, 3) := by decide +kernel
theorem dX12_count_9 : decode cX12_count 9 = .ok (.aload_n 0, 1) := by decide +kernel
theorem dX12_count_10 : decode cX12_count 10 = .ok (.getfield 174, 3) := by decide +kernel
theorem dX12_count_13 : decode cX12_count 13 = .ok (.goto 28, 3) := by decide +kernel
theorem dX12_count_16 : decode cX12_count 16 = .ok (.iload_n 1, 1) := by decide +kernel
theorem dX12_count_17 : decode cX12_count 17 = .ok (.iconst 1, 1) := by decide +kernel
theorem dX12_count_18 : decode cX12_count 18 = .ok (.iconst 3, 1) := by decide +kernel
theorem dX12_count_19 : decode cX12_count 19 = .ok (.invokestatic 162, 3) := by decide +kernel
theorem dX12_count_22 : decode cX12_count 22 = .ok (.ifCond .eq 14, 3) := by decide +kernel
theorem dX12_count_25 : decode cX12_count 25 = .ok (.aload_n 0, 1) := by decide +kernel
theorem dX12_count_26 : decode cX12_count 26 = .ok (.getfield 86, 3) := by decide +kernel
theorem dX12_count_29 : decode cX12_count 29 = .ok (.iload_n 1, 1) := by decide +kernel
theorem dX12_count_30 : decode cX12_count 30 = .ok (.iconst 1, 1) := by decide +kernel
theorem dX12_count_31 : decode cX12_count 31 = .ok (.isub, 1) := by decide +kernel
theorem dX12_count_32 : decode cX12_count 32 = .ok (.iaload, 1) := by decide +kernel
theorem dX12_count_33 : decode cX12_count 33 = .ok (.goto 8, 3) := by decide +kernel
theorem dX12_count_36 : decode cX12_count 36 = .ok (.aload_n 0, 1) := by decide +kernel
theorem dX12_count_37 : decode cX12_count 37 = .ok (.iconst 1, 1) := by decide +kernel
theorem dX12_count_38 : decode cX12_count 38 = .ok (.invokevirtual 289, 3) := by decide +kernel
theorem dX12_count_41 : decode cX12_count 41 = .ok (.ireturn, 1) := by decide +kernel
theorem dX12_oddsOf_0 : decode cX12_oddsOf 0 = .ok (.iconst 0, 1) := by decide +kernel
theorem dX12_oddsOf_1 : decode cX12_oddsOf 1 = .ok (.istore_n 2, 1) := by decide +kernel
theorem dX12_oddsOf_2 : decode cX12_oddsOf 2 = .ok (.iconst 0, 1) := by decide +kernel
theorem dX12_oddsOf_3 : decode cX12_oddsOf 3 = .ok (.istore_n 3, 1) := by decide +kernel
theorem dX12_oddsOf_4 : decode cX12_oddsOf 4 = .ok (.iload_n 3, 1) := by decide +kernel
theorem dX12_oddsOf_5 : decode cX12_oddsOf 5 = .ok (.aload_n 0, 1) := by decide +kernel
theorem dX12_oddsOf_6 : decode cX12_oddsOf 6 = .ok (.getfield 42, 3) := by decide +kernel
theorem dX12_oddsOf_9 : decode cX12_oddsOf 9 = .ok (.iload_n 1, 1) := by decide +kernel
theorem dX12_oddsOf_10 : decode cX12_oddsOf 10 = .ok (.iaload, 1) := by decide +kernel
theorem dX12_oddsOf_11 : decode cX12_oddsOf 11 = .ok (.if_icmp .ge 23, 3) := by decide +kernel
theorem dX12_oddsOf_14 : decode cX12_oddsOf 14 = .ok (.iload_n 2, 1) := by decide +kernel
theorem dX12_oddsOf_15 : decode cX12_oddsOf 15 = .ok (.aload_n 0, 1) := by decide +kernel
theorem dX12_oddsOf_16 : decode cX12_oddsOf 16 = .ok (.getfield 49, 3) := by decide +kernel
theorem dX12_oddsOf_19 : decode cX12_oddsOf 19 = .ok (.bipush 8, 2) := by decide +kernel
theorem dX12_oddsOf_21 : decode cX12_oddsOf 21 = .ok (.iload_n 1, 1) := by decide +kernel
theorem dX12_oddsOf_22 : decode cX12_oddsOf 22 = .ok (.imul, 1) := by decide +kernel
theorem dX12_oddsOf_23 : decode cX12_oddsOf 23 = .ok (.iload_n 3, 1) := by decide +kernel
theorem dX12_oddsOf_24 : decode cX12_oddsOf 24 = .ok (.iadd, 1) := by decide +kernel
theorem dX12_oddsOf_25 : decode cX12_oddsOf 25 = .ok (.iaload, 1) := by decide +kernel
theorem dX12_oddsOf_26 : decode cX12_oddsOf 26 = .ok (.iadd, 1) := by decide +kernel
theorem dX12_oddsOf_27 : decode cX12_oddsOf 27 = .ok (.istore_n 2, 1) := by decide +kernel
theorem dX12_oddsOf_28 : decode cX12_oddsOf 28 = .ok (.iinc 3 1, 3) := by decide +kernel
theorem dX12_oddsOf_31 : decode cX12_oddsOf 31 = .ok (.goto (-27), 3) := by decide +kernel
theorem dX12_oddsOf_34 : decode cX12_oddsOf 34 = .ok (.iload_n 2, 1) := by decide +kernel
theorem dX12_oddsOf_35 : decode cX12_oddsOf 35 = .ok (.ireturn, 1) := by decide +kernel
theorem dX12_about_0 : decode cX12_about 0 = .ok (.aload_n 0, 1) := by decide +kernel
theorem dX12_about_1 : decode cX12_about 1 = .ok (.iconst 0, 1) := by decide +kernel
theorem dX12_about_2 : decode cX12_about 2 = .ok (.putfield 159, 3) := by decide +kernel
theorem dX12_about_5 : decode cX12_about 5 = .ok (.iload_n 1, 1) := by decide +kernel
theorem dX12_about_6 : decode cX12_about 6 = .ok (.invokestatic 166, 3) := by decide +kernel
theorem dX12_about_9 : decode cX12_about 9 = .ok (.ifCond .ne 9, 3) := by decide +kernel
theorem dX12_about_12 : decode cX12_about 12 = .ok (.aload_n 0, 1) := by decide +kernel
theorem dX12_about_13 : decode cX12_about 13 = .ok (.iconst 1, 1) := by decide +kernel
theorem dX12_about_14 : decode cX12_about 14 = .ok (.invokevirtual 289, 3) := by decide +kernel
theorem dX12_about_17 : decode cX12_about 17 = .ok (.ireturn, 1) := by decide +kernel
theorem dX12_about_18 : decode cX12_about 18 = .ok (.iload_n 2, 1) := by decide +kernel
theorem dX12_about_19 : decode cX12_about 19 = .ok (.iconst 1, 1) := by decide +kernel
theorem dX12_about_20 : decode cX12_about 20 = .ok (.bipush 7, 2) := by decide +kernel
theorem dX12_about_22 : decode cX12_about 22 = .ok (.invokestatic 162, 3) := by decide +kernel
theorem dX12_about_25 : decode cX12_about 25 = .ok (.ifCond .eq 17, 3) := by decide +kernel
theorem dX12_about_28 : decode cX12_about 28 = .ok (.aload_n 0, 1) := by decide +kernel
theorem dX12_about_29 : decode cX12_about 29 = .ok (.getfield 46, 3) := by decide +kernel
theorem dX12_about_32 : decode cX12_about 32 = .ok (.bipush 7, 2) := by decide +kernel
theorem dX12_about_34 : decode cX12_about 34 = .ok (.iload_n 1, 1) := by decide +kernel
theorem dX12_about_35 : decode cX12_about 35 = .ok (.imul, 1) := by decide +kernel
theorem dX12_about_36 : decode cX12_about 36 = .ok (.iload_n 2, 1) := by decide +kernel
theorem dX12_about_37 : decode cX12_about 37 = .ok (.iadd, 1) := by decide +kernel
theorem dX12_about_38 : decode cX12_about 38 = .ok (.iconst 1, 1) := by decide +kernel
theorem dX12_about_39 : decode cX12_about 39 = .ok (.isub, 1) := by decide +kernel
theorem dX12_about_40 : decode cX12_about 40 = .ok (.iaload, 1) := by decide +kernel
theorem dX12_about_41 : decode cX12_about 41 = .ok (.ireturn, 1) := by decide +kernel
theorem dX12_about_42 : decode cX12_about 42 = .ok (.iload_n 2, 1) := by decide +kernel
theorem dX12_about_43 : decode cX12_about 43 = .ok (.tableswitch 117 0 13 #[69, 117, 117, 117, 117, 117, 117, 117, 76, 82, 89, 96, 103, 110], 69) := by decide +kernel
theorem dX12_about_112 : decode cX12_about 112 = .ok (.aload_n 0, 1) := by decide +kernel
theorem dX12_about_113 : decode cX12_about 113 = .ok (.getfield 42, 3) := by decide +kernel
theorem dX12_about_116 : decode cX12_about 116 = .ok (.iload_n 1, 1) := by decide +kernel
theorem dX12_about_117 : decode cX12_about 117 = .ok (.iaload, 1) := by decide +kernel
theorem dX12_about_118 : decode cX12_about 118 = .ok (.ireturn, 1) := by decide +kernel
theorem dX12_about_119 : decode cX12_about 119 = .ok (.aload_n 0, 1) := by decide +kernel
theorem dX12_about_120 : decode cX12_about 120 = .ok (.iload_n 1, 1) := by decide +kernel
theorem dX12_about_121 : decode cX12_about 121 = .ok (.invokevirtual 302, 3) := by decide +kernel
theorem dX12_about_124 : decode cX12_about 124 = .ok (.ireturn, 1) := by decide +kernel
theorem dX12_about_125 : decode cX12_about 125 = .ok (.aload_n 0, 1) := by decide +kernel
theorem dX12_about_126 : decode cX12_about 126 = .ok (.getfield 65, 3) := by decide +kernel
theorem dX12_about_129 : decode cX12_about 129 = .ok (.iload_n 1, 1) := by decide +kernel
theorem dX12_about_130 : decode cX12_about 130 = .ok (.iaload, 1) := by decide +kernel
theorem dX12_about_131 : decode cX12_about 131 = .ok (.ireturn, 1) := by decide +kernel
theorem dX12_about_132 : decode cX12_about 132 = .ok (.aload_n 0, 1) := by decide +kernel
theorem dX12_about_133 : decode cX12_about 133 = .ok (.getfield 71, 3) := by decide +kernel
theorem dX12_about_136 : decode cX12_about 136 = .ok (.iload_n 1, 1) := by decide +kernel
theorem dX12_about_137 : decode cX12_about 137 = .ok (.iaload, 1) := by decide +kernel
theorem dX12_about_138 : decode cX12_about 138 = .ok (.ireturn, 1) := by decide +kernel
theorem dX12_about_139 : decode cX12_about 139 = .ok (.aload_n 0, 1) := by decide +kernel
theorem dX12_about_140 : decode cX12_about 140 = .ok (.getfield 77, 3) := by decide +kernel
theorem dX12_about_143 : decode cX12_about 143 = .ok (.iload_n 1, 1) := by decide +kernel
theorem dX12_about_144 : decode cX12_about 144 = .ok (.iaload, 1) := by decide +kernel
theorem dX12_about_145 : decode cX12_about 145 = .ok (.ireturn, 1) := by decide +kernel
theorem dX12_about_146 : decode cX12_about 146 = .ok (.aload_n 0, 1) := by decide +kernel
theorem dX12_about_147 : decode cX12_about 147 = .ok (.getfield 80, 3) := by decide +kernel
theorem dX12_about_150 : decode cX12_about 150 = .ok (.iload_n 1, 1) := by decide +kernel
theorem dX12_about_151 : decode cX12_about 151 = .ok (.iaload, 1) := by decide +kernel
theorem dX12_about_152 : decode cX12_about 152 = .ok (.ireturn, 1) := by decide +kernel
theorem dX12_about_153 : decode cX12_about 153 = .ok (.aload_n 0, 1) := by decide +kernel
theorem dX12_about_154 : decode cX12_about 154 = .ok (.getfield 68, 3) := by decide +kernel
theorem dX12_about_157 : decode cX12_about 157 = .ok (.iload_n 1, 1) := by decide +kernel
theorem dX12_about_158 : decode cX12_about 158 = .ok (.iaload, 1) := by decide +kernel
theorem dX12_about_159 : decode cX12_about 159 = .ok (.ireturn, 1) := by decide +kernel
theorem dX12_about_160 : decode cX12_about 160 = .ok (.aload_n 0, 1) := by decide +kernel
theorem dX12_about_161 : decode cX12_about 161 = .ok (.iconst 1, 1) := by decide +kernel
theorem dX12_about_162 : decode cX12_about 162 = .ok (.invokevirtual 289, 3) := by decide +kernel
theorem dX12_about_165 : decode cX12_about 165 = .ok (.ireturn, 1) := by decide +kernel
theorem dX12_sort_0 : decode cX12_sort 0 = .ok (.aload_n 0, 1) := by decide +kernel
theorem dX12_sort_1 : decode cX12_sort 1 = .ok (.iconst 0, 1) := by decide +kernel
theorem dX12_sort_2 : decode cX12_sort 2 = .ok (.putfield 159, 3) := by decide +kernel
theorem dX12_sort_5 : decode cX12_sort 5 = .ok (.aload_n 0, 1) := by decide +kernel
theorem dX12_sort_6 : decode cX12_sort 6 = .ok (.iload_n 1, 1) := by decide +kernel
theorem dX12_sort_7 : decode cX12_sort 7 = .ok (.iload_n 2, 1) := by decide +kernel
theorem dX12_sort_8 : decode cX12_sort 8 = .ok (.invokevirtual 305, 3) := by decide +kernel
theorem dX12_sort_11 : decode cX12_sort 11 = .ok (.ifCond .eq 12, 3) := by decide +kernel
theorem dX12_sort_14 : decode cX12_sort 14 = .ok (.iload_n 3, 1) := by decide +kernel
theorem dX12_sort_15 : decode cX12_sort 15 = .ok (.iconst 0, 1) := by decide +kernel
theorem dX12_sort_16 : decode cX12_sort 16 = .ok (.iconst 2, 1) := by decide +kernel
theorem dX12_sort_17 : decode cX12_sort 17 = .ok (.invokestatic 162, 3) := by decide +kernel
theorem dX12_sort_20 : decode cX12_sort 20 = .ok (.ifCond .ne 9, 3) := by decide +kernel
theorem dX12_sort_23 : decode cX12_sort 23 = .ok (.aload_n 0, 1) := by decide +kernel
theorem dX12_sort_24 : decode cX12_sort 24 = .ok (.iconst 1, 1) := by decide +kernel
theorem dX12_sort_25 : decode cX12_sort 25 = .ok (.invokevirtual 289, 3) := by decide +kernel
theorem dX12_sort_28 : decode cX12_sort 28 = .ok (.ireturn, 1) := by decide +kernel
theorem dX12_sort_29 : decode cX12_sort 29 = .ok (.iload_n 3, 1) := by decide +kernel
theorem dX12_sort_30 : decode cX12_sort 30 = .ok (.ifCond .ne 17, 3) := by decide +kernel
theorem dX12_sort_33 : decode cX12_sort 33 = .ok (.aload_n 0, 1) := by decide +kernel
theorem dX12_sort_34 : decode cX12_sort 34 = .ok (.getfield 49, 3) := by decide +kernel
theorem dX12_sort_37 : decode cX12_sort 37 = .ok (.bipush 8, 2) := by decide +kernel
theorem dX12_sort_39 : decode cX12_sort 39 = .ok (.iload_n 1, 1) := by decide +kernel
theorem dX12_sort_40 : decode cX12_sort 40 = .ok (.imul, 1) := by decide +kernel
theorem dX12_sort_41 : decode cX12_sort 41 = .ok (.iload_n 2, 1) := by decide +kernel
theorem dX12_sort_42 : decode cX12_sort 42 = .ok (.iadd, 1) := by decide +kernel
theorem dX12_sort_43 : decode cX12_sort 43 = .ok (.iaload, 1) := by decide +kernel
theorem dX12_sort_44 : decode cX12_sort 44 = .ok (.goto 33, 3) := by decide +kernel
theorem dX12_sort_47 : decode cX12_sort 47 = .ok (.iload_n 3, 1) := by decide +kernel
theorem dX12_sort_48 : decode cX12_sort 48 = .ok (.iconst 1, 1) := by decide +kernel
theorem dX12_sort_49 : decode cX12_sort 49 = .ok (.if_icmp .ne 17, 3) := by decide +kernel
theorem dX12_sort_52 : decode cX12_sort 52 = .ok (.aload_n 0, 1) := by decide +kernel
theorem dX12_sort_53 : decode cX12_sort 53 = .ok (.getfield 52, 3) := by decide +kernel
theorem dX12_sort_56 : decode cX12_sort 56 = .ok (.bipush 8, 2) := by decide +kernel
theorem dX12_sort_58 : decode cX12_sort 58 = .ok (.iload_n 1, 1) := by decide +kernel
theorem dX12_sort_59 : decode cX12_sort 59 = .ok (.imul, 1) := by decide +kernel
theorem dX12_sort_60 : decode cX12_sort 60 = .ok (.iload_n 2, 1) := by decide +kernel
theorem dX12_sort_61 : decode cX12_sort 61 = .ok (.iadd, 1) := by decide +kernel
theorem dX12_sort_62 : decode cX12_sort 62 = .ok (.iaload, 1) := by decide +kernel
theorem dX12_sort_63 : decode cX12_sort 63 = .ok (.goto 14, 3) := by decide +kernel
theorem dX12_sort_66 : decode cX12_sort 66 = .ok (.aload_n 0, 1) := by decide +kernel
theorem dX12_sort_67 : decode cX12_sort 67 = .ok (.getfield 54, 3) := by decide +kernel
theorem dX12_sort_70 : decode cX12_sort 70 = .ok (.bipush 8, 2) := by decide +kernel
theorem dX12_sort_72 : decode cX12_sort 72 = .ok (.iload_n 1, 1) := by decide +kernel
theorem dX12_sort_73 : decode cX12_sort 73 = .ok (.imul, 1) := by decide +kernel
theorem dX12_sort_74 : decode cX12_sort 74 = .ok (.iload_n 2, 1) := by decide +kernel
theorem dX12_sort_75 : decode cX12_sort 75 = .ok (.iadd, 1) := by decide +kernel
theorem dX12_sort_76 : decode cX12_sort 76 = .ok (.iaload, 1) := by decide +kernel
theorem dX12_sort_77 : decode cX12_sort 77 = .ok (.ireturn, 1) := by decide +kernel
theorem dX12_valueOf_0 : decode cX12_valueOf 0 = .ok (.aload_n 0, 1) := by decide +kernel
theorem dX12_valueOf_1 : decode cX12_valueOf 1 = .ok (.getfield 46, 3) := by decide +kernel
theorem dX12_valueOf_4 : decode cX12_valueOf 4 = .ok (.bipush 7, 2) := by decide +kernel
theorem dX12_valueOf_6 : decode cX12_valueOf 6 = .ok (.iload_n 1, 1) := by decide +kernel
theorem dX12_valueOf_7 : decode cX12_valueOf 7 = .ok (.imul, 1) := by decide +kernel
theorem dX12_valueOf_8 : decode cX12_valueOf 8 = .ok (.iconst 3, 1) := by decide +kernel
theorem dX12_valueOf_9 : decode cX12_valueOf 9 = .ok (.iadd, 1) := by decide +kernel
theorem dX12_valueOf_10 : decode cX12_valueOf 10 = .ok (.iaload, 1) := by decide +kernel
theorem dX12_valueOf_11 : decode cX12_valueOf 11 = .ok (.iconst 1, 1) := by decide +kernel
theorem dX12_valueOf_12 : decode cX12_valueOf 12 = .ok (.if_icmp .ne 19, 3) := by decide +kernel
theorem dX12_valueOf_15 : decode cX12_valueOf 15 = .ok (.aload_n 0, 1) := by decide +kernel
theorem dX12_valueOf_16 : decode cX12_valueOf 16 = .ok (.getfield 46, 3) := by decide +kernel
theorem dX12_valueOf_19 : decode cX12_valueOf 19 = .ok (.bipush 7, 2) := by decide +kernel
theorem dX12_valueOf_21 : decode cX12_valueOf 21 = .ok (.iload_n 1, 1) := by decide +kernel
theorem dX12_valueOf_22 : decode cX12_valueOf 22 = .ok (.imul, 1) := by decide +kernel
theorem dX12_valueOf_23 : decode cX12_valueOf 23 = .ok (.iaload, 1) := by decide +kernel
theorem dX12_valueOf_24 : decode cX12_valueOf 24 = .ok (.ifCond .le 7, 3) := by decide +kernel
theorem dX12_valueOf_27 : decode cX12_valueOf 27 = .ok (.iconst 1, 1) := by decide +kernel
theorem dX12_valueOf_28 : decode cX12_valueOf 28 = .ok (.goto 4, 3) := by decide +kernel
theorem dX12_valueOf_31 : decode cX12_valueOf 31 = .ok (.iconst 0, 1) := by decide +kernel
theorem dX12_valueOf_32 : decode cX12_valueOf 32 = .ok (.istore 6, 2) := by decide +kernel
theorem dX12_valueOf_34 : decode cX12_valueOf 34 = .ok (.iload 5, 2) := by decide +kernel
theorem dX12_valueOf_36 : decode cX12_valueOf 36 = .ok (.tableswitch 176 0 7 #[48, 60, 63, 77, 115, 131, 152, 164], 48) := by decide +kernel
theorem dX12_valueOf_84 : decode cX12_valueOf 84 = .ok (.aload_n 0, 1) := by decide +kernel
theorem dX12_valueOf_85 : decode cX12_valueOf 85 = .ok (.getfield 52, 3) := by decide +kernel
theorem dX12_valueOf_88 : decode cX12_valueOf 88 = .ok (.bipush 8, 2) := by decide +kernel
theorem dX12_valueOf_90 : decode cX12_valueOf 90 = .ok (.iload_n 1, 1) := by decide +kernel
theorem dX12_valueOf_91 : decode cX12_valueOf 91 = .ok (.imul, 1) := by decide +kernel
theorem dX12_valueOf_92 : decode cX12_valueOf 92 = .ok (.iload_n 2, 1) := by decide +kernel
theorem dX12_valueOf_93 : decode cX12_valueOf 93 = .ok (.iadd, 1) := by decide +kernel
theorem dX12_valueOf_94 : decode cX12_valueOf 94 = .ok (.iaload, 1) := by decide +kernel
theorem dX12_valueOf_95 : decode cX12_valueOf 95 = .ok (.ireturn, 1) := by decide +kernel
theorem dX12_valueOf_96 : decode cX12_valueOf 96 = .ok (.iload 4, 2) := by decide +kernel
theorem dX12_valueOf_98 : decode cX12_valueOf 98 = .ok (.ireturn, 1) := by decide +kernel
theorem dX12_valueOf_99 : decode cX12_valueOf 99 = .ok (.iload 6, 2) := by decide +kernel
theorem dX12_valueOf_101 : decode cX12_valueOf 101 = .ok (.ifCond .eq 10, 3) := by decide +kernel
theorem dX12_valueOf_104 : decode cX12_valueOf 104 = .ok (.iload_n 3, 1) := by decide +kernel
theorem dX12_valueOf_105 : decode cX12_valueOf 105 = .ok (.bipush 10, 2) := by decide +kernel
theorem dX12_valueOf_107 : decode cX12_valueOf 107 = .ok (.irem, 1) := by decide +kernel
theorem dX12_valueOf_108 : decode cX12_valueOf 108 = .ok (.goto 4, 3) := by decide +kernel
theorem dX12_valueOf_111 : decode cX12_valueOf 111 = .ok (.iconst 0, 1) := by decide +kernel
theorem dX12_valueOf_112 : decode cX12_valueOf 112 = .ok (.ireturn, 1) := by decide +kernel
theorem dX12_valueOf_113 : decode cX12_valueOf 113 = .ok (.iload 6, 2) := by decide +kernel
theorem dX12_valueOf_115 : decode cX12_valueOf 115 = .ok (.ifCond .ne 7, 3) := by decide +kernel
theorem dX12_valueOf_118 : decode cX12_valueOf 118 = .ok (.iconst 0, 1) := by decide +kernel
theorem dX12_valueOf_119 : decode cX12_valueOf 119 = .ok (.goto 31, 3) := by decide +kernel
theorem dX12_valueOf_122 : decode cX12_valueOf 122 = .ok (.aload_n 0, 1) := by decide +kernel
theorem dX12_valueOf_123 : decode cX12_valueOf 123 = .ok (.getfield 46, 3) := by decide +kernel
theorem dX12_valueOf_126 : decode cX12_valueOf 126 = .ok (.bipush 7, 2) := by decide +kernel
theorem dX12_valueOf_128 : decode cX12_valueOf 128 = .ok (.iload_n 1, 1) := by decide +kernel
theorem dX12_valueOf_129 : decode cX12_valueOf 129 = .ok (.imul, 1) := by decide +kernel
theorem dX12_valueOf_130 : decode cX12_valueOf 130 = .ok (.iaload, 1) := by decide +kernel
theorem dX12_valueOf_131 : decode cX12_valueOf 131 = .ok (.iconst 1, 1) := by decide +kernel
theorem dX12_valueOf_132 : decode cX12_valueOf 132 = .ok (.if_icmp .ne 7, 3) := by decide +kernel
theorem dX12_valueOf_135 : decode cX12_valueOf 135 = .ok (.iload_n 3, 1) := by decide +kernel
theorem dX12_valueOf_136 : decode cX12_valueOf 136 = .ok (.goto 14, 3) := by decide +kernel
theorem dX12_valueOf_139 : decode cX12_valueOf 139 = .ok (.iload_n 3, 1) := by decide +kernel
theorem dX12_valueOf_140 : decode cX12_valueOf 140 = .ok (.bipush 10, 2) := by decide +kernel
theorem dX12_valueOf_142 : decode cX12_valueOf 142 = .ok (.irem, 1) := by decide +kernel
theorem dX12_valueOf_143 : decode cX12_valueOf 143 = .ok (.iload_n 3, 1) := by decide +kernel
theorem dX12_valueOf_144 : decode cX12_valueOf 144 = .ok (.bipush 10, 2) := by decide +kernel
theorem dX12_valueOf_146 : decode cX12_valueOf 146 = .ok (.idiv, 1) := by decide +kernel
theorem dX12_valueOf_147 : decode cX12_valueOf 147 = .ok (.iadd, 1) := by decide +kernel
theorem dX12_valueOf_148 : decode cX12_valueOf 148 = .ok (.iconst 2, 1) := by decide +kernel
theorem dX12_valueOf_149 : decode cX12_valueOf 149 = .ok (.idiv, 1) := by decide +kernel
theorem dX12_valueOf_150 : decode cX12_valueOf 150 = .ok (.ireturn, 1) := by decide +kernel
theorem dX12_valueOf_151 : decode cX12_valueOf 151 = .ok (.iconst 0, 1) := by decide +kernel
theorem dX12_valueOf_152 : decode cX12_valueOf 152 = .ok (.aload_n 0, 1) := by decide +kernel
theorem dX12_valueOf_153 : decode cX12_valueOf 153 = .ok (.getfield 46, 3) := by decide +kernel
theorem dX12_valueOf_156 : decode cX12_valueOf 156 = .ok (.bipush 7, 2) := by decide +kernel
theorem dX12_valueOf_158 : decode cX12_valueOf 158 = .ok (.iload_n 1, 1) := by decide +kernel
theorem dX12_valueOf_159 : decode cX12_valueOf 159 = .ok (.imul, 1) := by decide +kernel
theorem dX12_valueOf_160 : decode cX12_valueOf 160 = .ok (.iconst 1, 1) := by decide +kernel
theorem dX12_valueOf_161 : decode cX12_valueOf 161 = .ok (.iadd, 1) := by decide +kernel
theorem dX12_valueOf_162 : decode cX12_valueOf 162 = .ok (.iaload, 1) := by decide +kernel
theorem dX12_valueOf_163 : decode cX12_valueOf 163 = .ok (.invokestatic 309, 3) := by decide +kernel
theorem dX12_valueOf_166 : decode cX12_valueOf 166 = .ok (.ireturn, 1) := by decide +kernel
theorem dX12_valueOf_167 : decode cX12_valueOf 167 = .ok (.aload_n 0, 1) := by decide +kernel
theorem dX12_valueOf_168 : decode cX12_valueOf 168 = .ok (.getfield 46, 3) := by decide +kernel
theorem dX12_valueOf_171 : decode cX12_valueOf 171 = .ok (.bipush 7, 2) := by decide +kernel
theorem dX12_valueOf_173 : decode cX12_valueOf 173 = .ok (.iload_n 1, 1) := by decide +kernel
theorem dX12_valueOf_174 : decode cX12_valueOf 174 = .ok (.imul, 1) := by decide +kernel
theorem dX12_valueOf_175 : decode cX12_valueOf 175 = .ok (.iconst 1, 1) := by decide +kernel
theorem dX12_valueOf_176 : decode cX12_valueOf 176 = .ok (.iadd, 1) := by decide +kernel
theorem dX12_valueOf_177 : decode cX12_valueOf 177 = .ok (.iaload, 1) := by decide +kernel
theorem dX12_valueOf_178 : decode cX12_valueOf 178 = .ok (.iconst (-1), 1) := by decide +kernel
theorem dX12_valueOf_179 : decode cX12_valueOf 179 = .ok (.if_icmp .ne 7, 3) := by decide +kernel
theorem dX12_valueOf_182 : decode cX12_valueOf 182 = .ok (.iconst 0, 1) := by decide +kernel
theorem dX12_valueOf_183 : decode cX12_valueOf 183 = .ok (.goto 4, 3) := by decide +kernel
theorem dX12_valueOf_186 : decode cX12_valueOf 186 = .ok (.iconst 1, 1) := by decide +kernel
theorem dX12_valueOf_187 : decode cX12_valueOf 187 = .ok (.ireturn, 1) := by decide +kernel
theorem dX12_valueOf_188 : decode cX12_valueOf 188 = .ok (.aload_n 0, 1) := by decide +kernel
theorem dX12_valueOf_189 : decode cX12_valueOf 189 = .ok (.getfield 46, 3) := by decide +kernel
theorem dX12_valueOf_192 : decode cX12_valueOf 192 = .ok (.bipush 7, 2) := by decide +kernel
theorem dX12_valueOf_194 : decode cX12_valueOf 194 = .ok (.iload_n 1, 1) := by decide +kernel
theorem dX12_valueOf_195 : decode cX12_valueOf 195 = .ok (.imul, 1) := by decide +kernel
theorem dX12_valueOf_196 : decode cX12_valueOf 196 = .ok (.iconst 2, 1) := by decide +kernel
theorem dX12_valueOf_197 : decode cX12_valueOf 197 = .ok (.iadd, 1) := by decide +kernel
theorem dX12_valueOf_198 : decode cX12_valueOf 198 = .ok (.iaload, 1) := by decide +kernel
theorem dX12_valueOf_199 : decode cX12_valueOf 199 = .ok (.ireturn, 1) := by decide +kernel
theorem dX12_valueOf_200 : decode cX12_valueOf 200 = .ok (.aload_n 0, 1) := by decide +kernel
theorem dX12_valueOf_201 : decode cX12_valueOf 201 = .ok (.getfield 46, 3) := by decide +kernel
theorem dX12_valueOf_204 : decode cX12_valueOf 204 = .ok (.bipush 7, 2) := by decide +kernel
theorem dX12_valueOf_206 : decode cX12_valueOf 206 = .ok (.iload_n 1, 1) := by decide +kernel
theorem dX12_valueOf_207 : decode cX12_valueOf 207 = .ok (.imul, 1) := by decide +kernel
theorem dX12_valueOf_208 : decode cX12_valueOf 208 = .ok (.iconst 3, 1) := by decide +kernel
theorem dX12_valueOf_209 : decode cX12_valueOf 209 = .ok (.iadd, 1) := by decide +kernel
theorem dX12_valueOf_210 : decode cX12_valueOf 210 = .ok (.iaload, 1) := by decide +kernel
theorem dX12_valueOf_211 : decode cX12_valueOf 211 = .ok (.ireturn, 1) := by decide +kernel
theorem dX12_valueOf_212 : decode cX12_valueOf 212 = .ok (.aload_n 0, 1) := by decide +kernel
theorem dX12_valueOf_213 : decode cX12_valueOf 213 = .ok (.getfield 46, 3) := by decide +kernel
theorem dX12_valueOf_216 : decode cX12_valueOf 216 = .ok (.bipush 7, 2) := by decide +kernel
theorem dX12_valueOf_218 : decode cX12_valueOf 218 = .ok (.iload_n 1, 1) := by decide +kernel
theorem dX12_valueOf_219 : decode cX12_valueOf 219 = .ok (.imul, 1) := by decide +kernel
theorem dX12_valueOf_220 : decode cX12_valueOf 220 = .ok (.iconst 4, 1) := by decide +kernel
theorem dX12_valueOf_221 : decode cX12_valueOf 221 = .ok (.iadd, 1) := by decide +kernel
theorem dX12_valueOf_222 : decode cX12_valueOf 222 = .ok (.iaload, 1) := by decide +kernel
theorem dX12_valueOf_223 : decode cX12_valueOf 223 = .ok (.ireturn, 1) := by decide +kernel
theorem dX12_reckon_0 : decode cX12_reckon 0 = .ok (.iload_n 0, 1) := by decide +kernel
theorem dX12_reckon_1 : decode cX12_reckon 1 = .ok (.tableswitch 103 (-26) (-20) #[89, 78, 67, 55, 51, 47, 43], 43) := by decide +kernel
theorem dX12_reckon_44 : decode cX12_reckon 44 = .ok (.iload_n 1, 1) := by decide +kernel
theorem dX12_reckon_45 : decode cX12_reckon 45 = .ok (.iload_n 2, 1) := by decide +kernel
theorem dX12_reckon_46 : decode cX12_reckon 46 = .ok (.iadd, 1) := by decide +kernel
theorem dX12_reckon_47 : decode cX12_reckon 47 = .ok (.ireturn, 1) := by decide +kernel
theorem dX12_reckon_48 : decode cX12_reckon 48 = .ok (.iload_n 1, 1) := by decide +kernel
theorem dX12_reckon_49 : decode cX12_reckon 49 = .ok (.iload_n 2, 1) := by decide +kernel
theorem dX12_reckon_50 : decode cX12_reckon 50 = .ok (.isub, 1) := by decide +kernel
theorem dX12_reckon_51 : decode cX12_reckon 51 = .ok (.ireturn, 1) := by decide +kernel
theorem dX12_reckon_52 : decode cX12_reckon 52 = .ok (.iload_n 1, 1) := by decide +kernel
theorem dX12_reckon_53 : decode cX12_reckon 53 = .ok (.iload_n 2, 1) := by decide +kernel
theorem dX12_reckon_54 : decode cX12_reckon 54 = .ok (.imul, 1) := by decide +kernel
theorem dX12_reckon_55 : decode cX12_reckon 55 = .ok (.ireturn, 1) := by decide +kernel
theorem dX12_reckon_56 : decode cX12_reckon 56 = .ok (.iload_n 2, 1) := by decide +kernel
theorem dX12_reckon_57 : decode cX12_reckon 57 = .ok (.ifCond .ne 7, 3) := by decide +kernel
theorem dX12_reckon_60 : decode cX12_reckon 60 = .ok (.iconst 0, 1) := by decide +kernel
theorem dX12_reckon_61 : decode cX12_reckon 61 = .ok (.goto 6, 3) := by decide +kernel
theorem dX12_reckon_64 : decode cX12_reckon 64 = .ok (.iload_n 1, 1) := by decide +kernel
theorem dX12_reckon_65 : decode cX12_reckon 65 = .ok (.iload_n 2, 1) := by decide +kernel
theorem dX12_reckon_66 : decode cX12_reckon 66 = .ok (.idiv, 1) := by decide +kernel
theorem dX12_reckon_67 : decode cX12_reckon 67 = .ok (.ireturn, 1) := by decide +kernel
theorem dX12_reckon_68 : decode cX12_reckon 68 = .ok (.iload_n 1, 1) := by decide +kernel
theorem dX12_reckon_69 : decode cX12_reckon 69 = .ok (.iload_n 2, 1) := by decide +kernel
theorem dX12_reckon_70 : decode cX12_reckon 70 = .ok (.if_icmp .ge 7, 3) := by decide +kernel
theorem dX12_reckon_73 : decode cX12_reckon 73 = .ok (.iconst 1, 1) := by decide +kernel
theorem dX12_reckon_74 : decode cX12_reckon 74 = .ok (.goto 4, 3) := by decide +kernel
theorem dX12_reckon_77 : decode cX12_reckon 77 = .ok (.iconst 0, 1) := by decide +kernel
theorem dX12_reckon_78 : decode cX12_reckon 78 = .ok (.ireturn, 1) := by decide +kernel
theorem dX12_reckon_79 : decode cX12_reckon 79 = .ok (.iload_n 1, 1) := by decide +kernel
theorem dX12_reckon_80 : decode cX12_reckon 80 = .ok (.iload_n 2, 1) := by decide +kernel
theorem dX12_reckon_81 : decode cX12_reckon 81 = .ok (.if_icmp .ne 7, 3) := by decide +kernel
theorem dX12_reckon_84 : decode cX12_reckon 84 = .ok (.iconst 1, 1) := by decide +kernel
theorem dX12_reckon_85 : decode cX12_reckon 85 = .ok (.goto 4, 3) := by decide +kernel
theorem dX12_reckon_88 : decode cX12_reckon 88 = .ok (.iconst 0, 1) := by decide +kernel
theorem dX12_reckon_89 : decode cX12_reckon 89 = .ok (.ireturn, 1) := by decide +kernel
theorem dX12_reckon_90 : decode cX12_reckon 90 = .ok (.iload_n 1, 1) := by decide +kernel
theorem dX12_reckon_91 : decode cX12_reckon 91 = .ok (.ifCond .eq 11, 3) := by decide +kernel
theorem dX12_reckon_94 : decode cX12_reckon 94 = .ok (.iload_n 2, 1) := by decide +kernel
theorem dX12_reckon_95 : decode cX12_reckon 95 = .ok (.ifCond .eq 7, 3) := by decide +kernel
theorem dX12_reckon_98 : decode cX12_reckon 98 = .ok (.iconst 1, 1) := by decide +kernel
theorem dX12_reckon_99 : decode cX12_reckon 99 = .ok (.goto 4, 3) := by decide +kernel
theorem dX12_reckon_102 : decode cX12_reckon 102 = .ok (.iconst 0, 1) := by decide +kernel
theorem dX12_reckon_103 : decode cX12_reckon 103 = .ok (.ireturn, 1) := by decide +kernel
theorem dX12_reckon_104 : decode cX12_reckon 104 = .ok (.iload_n 1, 1) := by decide +kernel
theorem dX12_reckon_105 : decode cX12_reckon 105 = .ok (.ifCond .ne 7, 3) := by decide +kernel
theorem dX12_reckon_108 : decode cX12_reckon 108 = .ok (.iload_n 2, 1) := by decide +kernel
theorem dX12_reckon_109 : decode cX12_reckon 109 = .ok (.ifCond .eq 7, 3) := by decide +kernel
theorem dX12_reckon_112 : decode cX12_reckon 112 = .ok (.iconst 1, 1) := by decide +kernel
theorem dX12_reckon_113 : decode cX12_reckon 113 = .ok (.goto 4, 3) := by decide +kernel
theorem dX12_reckon_116 : decode cX12_reckon 116 = .ok (.iconst 0, 1) := by decide +kernel
theorem dX12_reckon_117 : decode cX12_reckon 117 = .ok (.ireturn, 1) := by decide +kernel
theorem dX12_evaluate_0 : decode cX12_evaluate 0 = .ok (.iconst 0, 1) := by decide +kernel
theorem dX12_evaluate_1 : decode cX12_evaluate 1 = .ok (.istore 5, 2) := by decide +kernel
theorem dX12_evaluate_3 : decode cX12_evaluate 3 = .ok (.aload_n 0, 1) := by decide +kernel
theorem dX12_evaluate_4 : decode cX12_evaluate 4 = .ok (.getfield 56, 3) := by decide +kernel
theorem dX12_evaluate_7 : decode cX12_evaluate 7 = .ok (.bipush 8, 2) := by decide +kernel
theorem dX12_evaluate_9 : decode cX12_evaluate 9 = .ok (.iload_n 1, 1) := by decide +kernel
theorem dX12_evaluate_10 : decode cX12_evaluate 10 = .ok (.imul, 1) := by decide +kernel
theorem dX12_evaluate_11 : decode cX12_evaluate 11 = .ok (.iload_n 2, 1) := by decide +kernel
theorem dX12_evaluate_12 : decode cX12_evaluate 12 = .ok (.iadd, 1) := by decide +kernel
theorem dX12_evaluate_13 : decode cX12_evaluate 13 = .ok (.iaload, 1) := by decide +kernel
theorem dX12_evaluate_14 : decode cX12_evaluate 14 = .ok (.istore 6, 2) := by decide +kernel
theorem dX12_evaluate_16 : decode cX12_evaluate 16 = .ok (.iload 6, 2) := by decide +kernel
theorem dX12_evaluate_18 : decode cX12_evaluate 18 = .ok (.aload_n 0, 1) := by decide +kernel
theorem dX12_evaluate_19 : decode cX12_evaluate 19 = .ok (.getfield 59, 3) := by decide +kernel
theorem dX12_evaluate_22 : decode cX12_evaluate 22 = .ok (.bipush 8, 2) := by decide +kernel
theorem dX12_evaluate_24 : decode cX12_evaluate 24 = .ok (.iload_n 1, 1) := by decide +kernel
theorem dX12_evaluate_25 : decode cX12_evaluate 25 = .ok (.imul, 1) := by decide +kernel
theorem dX12_evaluate_26 : decode cX12_evaluate 26 = .ok (.iload_n 2, 1) := by decide +kernel
theorem dX12_evaluate_27 : decode cX12_evaluate 27 = .ok (.iadd, 1) := by decide +kernel
theorem dX12_evaluate_28 : decode cX12_evaluate 28 = .ok (.iaload, 1) := by decide +kernel
theorem dX12_evaluate_29 : decode cX12_evaluate 29 = .ok (.if_icmp .ge 146, 3) := by decide +kernel
theorem dX12_evaluate_32 : decode cX12_evaluate 32 = .ok (.aload_n 0, 1) := by decide +kernel
theorem dX12_evaluate_33 : decode cX12_evaluate 33 = .ok (.getfield 62, 3) := by decide +kernel
theorem dX12_evaluate_36 : decode cX12_evaluate 36 = .ok (.sipush 700, 3) := by decide +kernel
theorem dX12_evaluate_39 : decode cX12_evaluate 39 = .ok (.iload_n 1, 1) := by decide +kernel
theorem dX12_evaluate_40 : decode cX12_evaluate 40 = .ok (.imul, 1) := by decide +kernel
theorem dX12_evaluate_41 : decode cX12_evaluate 41 = .ok (.iload 6, 2) := by decide +kernel
theorem dX12_evaluate_43 : decode cX12_evaluate 43 = .ok (.iadd, 1) := by decide +kernel
theorem dX12_evaluate_44 : decode cX12_evaluate 44 = .ok (.iaload, 1) := by decide +kernel
theorem dX12_evaluate_45 : decode cX12_evaluate 45 = .ok (.istore 7, 2) := by decide +kernel
theorem dX12_evaluate_47 : decode cX12_evaluate 47 = .ok (.iload 7, 2) := by decide +kernel
theorem dX12_evaluate_49 : decode cX12_evaluate 49 = .ok (.ifCond .lt 18, 3) := by decide +kernel
theorem dX12_evaluate_52 : decode cX12_evaluate 52 = .ok (.aload_n 0, 1) := by decide +kernel
theorem dX12_evaluate_53 : decode cX12_evaluate 53 = .ok (.getfield 96, 3) := by decide +kernel
theorem dX12_evaluate_56 : decode cX12_evaluate 56 = .ok (.iload 5, 2) := by decide +kernel
theorem dX12_evaluate_58 : decode cX12_evaluate 58 = .ok (.iload 7, 2) := by decide +kernel
theorem dX12_evaluate_60 : decode cX12_evaluate 60 = .ok (.iastore, 1) := by decide +kernel
theorem dX12_evaluate_61 : decode cX12_evaluate 61 = .ok (.iinc 5 1, 3) := by decide +kernel
theorem dX12_evaluate_64 : decode cX12_evaluate 64 = .ok (.goto 105, 3) := by decide +kernel
theorem dX12_evaluate_67 : decode cX12_evaluate 67 = .ok (.iload 7, 2) := by decide +kernel
theorem dX12_evaluate_69 : decode cX12_evaluate 69 = .ok (.bipush (-20), 2) := by decide +kernel
theorem dX12_evaluate_71 : decode cX12_evaluate 71 = .ok (.if_icmp .le 29, 3) := by decide +kernel
theorem dX12_evaluate_74 : decode cX12_evaluate 74 = .ok (.aload_n 0, 1) := by decide +kernel
theorem dX12_evaluate_75 : decode cX12_evaluate 75 = .ok (.getfield 96, 3) := by decide +kernel
theorem dX12_evaluate_78 : decode cX12_evaluate 78 = .ok (.iload 5, 2) := by decide +kernel
theorem dX12_evaluate_80 : decode cX12_evaluate 80 = .ok (.aload_n 0, 1) := by decide +kernel
theorem dX12_evaluate_81 : decode cX12_evaluate 81 = .ok (.iload_n 1, 1) := by decide +kernel
theorem dX12_evaluate_82 : decode cX12_evaluate 82 = .ok (.iload_n 2, 1) := by decide +kernel
theorem dX12_evaluate_83 : decode cX12_evaluate 83 = .ok (.iload_n 3, 1) := by decide +kernel
theorem dX12_evaluate_84 : decode cX12_evaluate 84 = .ok (.iload 4, 2) := by decide +kernel
theorem dX12_evaluate_86 : decode cX12_evaluate 86 = .ok (.iconst (-1), 1) := by decide +kernel
theorem dX12_evaluate_87 : decode cX12_evaluate 87 = .ok (.iload 7, 2) := by decide +kernel
theorem dX12_evaluate_89 : decode cX12_evaluate 89 = .ok (.isub, 1) := by decide +kernel
theorem dX12_evaluate_90 : decode cX12_evaluate 90 = .ok (.invokevirtual 312, 3) := by decide +kernel
theorem dX12_evaluate_93 : decode cX12_evaluate 93 = .ok (.iastore, 1) := by decide +kernel
theorem dX12_evaluate_94 : decode cX12_evaluate 94 = .ok (.iinc 5 1, 3) := by decide +kernel
theorem dX12_evaluate_97 : decode cX12_evaluate 97 = .ok (.goto 72, 3) := by decide +kernel
theorem dX12_evaluate_100 : decode cX12_evaluate 100 = .ok (.iload 7, 2) := by decide +kernel
theorem dX12_evaluate_102 : decode cX12_evaluate 102 = .ok (.bipush (-28), 2) := by decide +kernel
theorem dX12_evaluate_104 : decode cX12_evaluate 104 = .ok (.if_icmp .ne 32, 3) := by decide +kernel
theorem dX12_evaluate_107 : decode cX12_evaluate 107 = .ok (.aload_n 0, 1) := by decide +kernel
theorem dX12_evaluate_108 : decode cX12_evaluate 108 = .ok (.getfield 96, 3) := by decide +kernel
theorem dX12_evaluate_111 : decode cX12_evaluate 111 = .ok (.iload 5, 2) := by decide +kernel
theorem dX12_evaluate_113 : decode cX12_evaluate 113 = .ok (.iconst 1, 1) := by decide +kernel
theorem dX12_evaluate_114 : decode cX12_evaluate 114 = .ok (.isub, 1) := by decide +kernel
theorem dX12_evaluate_115 : decode cX12_evaluate 115 = .ok (.aload_n 0, 1) := by decide +kernel
theorem dX12_evaluate_116 : decode cX12_evaluate 116 = .ok (.getfield 96, 3) := by decide +kernel
theorem dX12_evaluate_119 : decode cX12_evaluate 119 = .ok (.iload 5, 2) := by decide +kernel
theorem dX12_evaluate_121 : decode cX12_evaluate 121 = .ok (.iconst 1, 1) := by decide +kernel
theorem dX12_evaluate_122 : decode cX12_evaluate 122 = .ok (.isub, 1) := by decide +kernel
theorem dX12_evaluate_123 : decode cX12_evaluate 123 = .ok (.iaload, 1) := by decide +kernel
theorem dX12_evaluate_124 : decode cX12_evaluate 124 = .ok (.ifCond .eq 7, 3) := by decide +kernel
theorem dX12_evaluate_127 : decode cX12_evaluate 127 = .ok (.iconst 0, 1) := by decide +kernel
theorem dX12_evaluate_128 : decode cX12_evaluate 128 = .ok (.goto 4, 3) := by decide +kernel
theorem dX12_evaluate_131 : decode cX12_evaluate 131 = .ok (.iconst 1, 1) := by decide +kernel
theorem dX12_evaluate_132 : decode cX12_evaluate 132 = .ok (.iastore, 1) := by decide +kernel
theorem dX12_evaluate_133 : decode cX12_evaluate 133 = .ok (.goto 36, 3) := by decide +kernel
theorem dX12_evaluate_136 : decode cX12_evaluate 136 = .ok (.iinc 5 (-1), 3) := by decide +kernel
theorem dX12_evaluate_139 : decode cX12_evaluate 139 = .ok (.aload_n 0, 1) := by decide +kernel
theorem dX12_evaluate_140 : decode cX12_evaluate 140 = .ok (.getfield 96, 3) := by decide +kernel
theorem dX12_evaluate_143 : decode cX12_evaluate 143 = .ok (.iload 5, 2) := by decide +kernel
theorem dX12_evaluate_145 : decode cX12_evaluate 145 = .ok (.iconst 1, 1) := by decide +kernel
theorem dX12_evaluate_146 : decode cX12_evaluate 146 = .ok (.isub, 1) := by decide +kernel
theorem dX12_evaluate_147 : decode cX12_evaluate 147 = .ok (.iload 7, 2) := by decide +kernel
theorem dX12_evaluate_149 : decode cX12_evaluate 149 = .ok (.aload_n 0, 1) := by decide +kernel
theorem dX12_evaluate_150 : decode cX12_evaluate 150 = .ok (.getfield 96, 3) := by decide +kernel
theorem dX12_evaluate_153 : decode cX12_evaluate 153 = .ok (.iload 5, 2) := by decide +kernel
theorem dX12_evaluate_155 : decode cX12_evaluate 155 = .ok (.iconst 1, 1) := by decide +kernel
theorem dX12_evaluate_156 : decode cX12_evaluate 156 = .ok (.isub, 1) := by decide +kernel
theorem dX12_evaluate_157 : decode cX12_evaluate 157 = .ok (.iaload, 1) := by decide +kernel
theorem dX12_evaluate_158 : decode cX12_evaluate 158 = .ok (.aload_n 0, 1) := by decide +kernel
theorem dX12_evaluate_159 : decode cX12_evaluate 159 = .ok (.getfield 96, 3) := by decide +kernel
theorem dX12_evaluate_162 : decode cX12_evaluate 162 = .ok (.iload 5, 2) := by decide +kernel
theorem dX12_evaluate_164 : decode cX12_evaluate 164 = .ok (.iaload, 1) := by decide +kernel
theorem dX12_evaluate_165 : decode cX12_evaluate 165 = .ok (.invokestatic 316, 3) := by decide +kernel
theorem dX12_evaluate_168 : decode cX12_evaluate 168 = .ok (.iastore, 1) := by decide +kernel
theorem dX12_evaluate_169 : decode cX12_evaluate 169 = .ok (.iinc 6 1, 3) := by decide +kernel
theorem dX12_evaluate_172 : decode cX12_evaluate 172 = .ok (.goto (-156), 3) := by decide +kernel
theorem dX12_evaluate_175 : decode cX12_evaluate 175 = .ok (.aload_n 0, 1) := by decide +kernel
theorem dX12_evaluate_176 : decode cX12_evaluate 176 = .ok (.getfield 96, 3) := by decide +kernel
theorem dX12_evaluate_179 : decode cX12_evaluate 179 = .ok (.iconst 0, 1) := by decide +kernel
theorem dX12_evaluate_180 : decode cX12_evaluate 180 = .ok (.iaload, 1) := by decide +kernel
theorem dX12_evaluate_181 : decode cX12_evaluate 181 = .ok (.ireturn, 1) := by decide +kernel
theorem dX12_giftOf_0 : decode cX12_giftOf 0 = .ok (.iconst 0, 1) := by decide +kernel
theorem dX12_giftOf_1 : decode cX12_giftOf 1 = .ok (.iload 4, 2) := by decide +kernel
theorem dX12_giftOf_3 : decode cX12_giftOf 3 = .ok (.aload_n 0, 1) := by decide +kernel
theorem dX12_giftOf_4 : decode cX12_giftOf 4 = .ok (.iload_n 1, 1) := by decide +kernel
theorem dX12_giftOf_5 : decode cX12_giftOf 5 = .ok (.iload_n 2, 1) := by decide +kernel
theorem dX12_giftOf_6 : decode cX12_giftOf 6 = .ok (.iload_n 3, 1) := by decide +kernel
theorem dX12_giftOf_7 : decode cX12_giftOf 7 = .ok (.iload 4, 2) := by decide +kernel
theorem dX12_giftOf_9 : decode cX12_giftOf 9 = .ok (.invokevirtual 320, 3) := by decide +kernel
theorem dX12_giftOf_12 : decode cX12_giftOf 12 = .ok (.invokestatic 201, 3) := by decide +kernel
theorem dX12_giftOf_15 : decode cX12_giftOf 15 = .ok (.invokestatic 309, 3) := by decide +kernel
theorem dX12_giftOf_18 : decode cX12_giftOf 18 = .ok (.istore 5, 2) := by decide +kernel
theorem dX12_giftOf_20 : decode cX12_giftOf 20 = .ok (.aload_n 0, 1) := by decide +kernel
theorem dX12_giftOf_21 : decode cX12_giftOf 21 = .ok (.getfield 46, 3) := by decide +kernel
theorem dX12_giftOf_24 : decode cX12_giftOf 24 = .ok (.bipush 7, 2) := by decide +kernel
theorem dX12_giftOf_26 : decode cX12_giftOf 26 = .ok (.iload_n 1, 1) := by decide +kernel
theorem dX12_giftOf_27 : decode cX12_giftOf 27 = .ok (.imul, 1) := by decide +kernel
theorem dX12_giftOf_28 : decode cX12_giftOf 28 = .ok (.iconst 4, 1) := by decide +kernel
theorem dX12_giftOf_29 : decode cX12_giftOf 29 = .ok (.iadd, 1) := by decide +kernel
theorem dX12_giftOf_30 : decode cX12_giftOf 30 = .ok (.iaload, 1) := by decide +kernel
theorem dX12_giftOf_31 : decode cX12_giftOf 31 = .ok (.istore 6, 2) := by decide +kernel
theorem dX12_giftOf_33 : decode cX12_giftOf 33 = .ok (.iload 5, 2) := by decide +kernel
theorem dX12_giftOf_35 : decode cX12_giftOf 35 = .ok (.iload 6, 2) := by decide +kernel
theorem dX12_giftOf_37 : decode cX12_giftOf 37 = .ok (.if_icmp .lt 6, 3) := by decide +kernel
theorem dX12_giftOf_40 : decode cX12_giftOf 40 = .ok (.iload 5, 2) := by decide +kernel
theorem dX12_giftOf_42 : decode cX12_giftOf 42 = .ok (.ireturn, 1) := by decide +kernel
theorem dX12_giftOf_43 : decode cX12_giftOf 43 = .ok (.aload_n 0, 1) := by decide +kernel
theorem dX12_giftOf_44 : decode cX12_giftOf 44 = .ok (.getfield 52, 3) := by decide +kernel
theorem dX12_giftOf_47 : decode cX12_giftOf 47 = .ok (.bipush 8, 2) := by decide +kernel
theorem dX12_giftOf_49 : decode cX12_giftOf 49 = .ok (.iload_n 1, 1) := by decide +kernel
theorem dX12_giftOf_50 : decode cX12_giftOf 50 = .ok (.imul, 1) := by decide +kernel
theorem dX12_giftOf_51 : decode cX12_giftOf 51 = .ok (.iload_n 2, 1) := by decide +kernel
theorem dX12_giftOf_52 : decode cX12_giftOf 52 = .ok (.iadd, 1) := by decide +kernel
theorem dX12_giftOf_53 : decode cX12_giftOf 53 = .ok (.iaload, 1) := by decide +kernel
theorem dX12_giftOf_54 : decode cX12_giftOf 54 = .ok (.iload 6, 2) := by decide +kernel
theorem dX12_giftOf_56 : decode cX12_giftOf 56 = .ok (.if_icmp .lt 15, 3) := by decide +kernel
theorem dX12_giftOf_59 : decode cX12_giftOf 59 = .ok (.iload 4, 2) := by decide +kernel
theorem dX12_giftOf_61 : decode cX12_giftOf 61 = .ok (.iload 6, 2) := by decide +kernel
theorem dX12_giftOf_63 : decode cX12_giftOf 63 = .ok (.if_icmp .lt 8, 3) := by decide +kernel
theorem dX12_giftOf_66 : decode cX12_giftOf 66 = .ok (.iload 6, 2) := by decide +kernel
theorem dX12_giftOf_68 : decode cX12_giftOf 68 = .ok (.goto 4, 3) := by decide +kernel
theorem dX12_giftOf_71 : decode cX12_giftOf 71 = .ok (.iconst (-1), 1) := by decide +kernel
theorem dX12_giftOf_72 : decode cX12_giftOf 72 = .ok (.ireturn, 1) := by decide +kernel
theorem dX12_gift_0 : decode cX12_gift 0 = .ok (.aload_n 0, 1) := by decide +kernel
theorem dX12_gift_1 : decode cX12_gift 1 = .ok (.iload_n 1, 1) := by decide +kernel
theorem dX12_gift_2 : decode cX12_gift 2 = .ok (.iload_n 2, 1) := by decide +kernel
theorem dX12_gift_3 : decode cX12_gift 3 = .ok (.iload_n 3, 1) := by decide +kernel
theorem dX12_gift_4 : decode cX12_gift 4 = .ok (.aload_n 0, 1) := by decide +kernel
theorem dX12_gift_5 : decode cX12_gift 5 = .ok (.getfield 54, 3) := by decide +kernel
theorem dX12_gift_8 : decode cX12_gift 8 = .ok (.bipush 8, 2) := by decide +kernel
theorem dX12_gift_10 : decode cX12_gift 10 = .ok (.iload_n 1, 1) := by decide +kernel
theorem dX12_gift_11 : decode cX12_gift 11 = .ok (.imul, 1) := by decide +kernel
theorem dX12_gift_12 : decode cX12_gift 12 = .ok (.iload_n 2, 1) := by decide +kernel
theorem dX12_gift_13 : decode cX12_gift 13 = .ok (.iadd, 1) := by decide +kernel
theorem dX12_gift_14 : decode cX12_gift 14 = .ok (.iaload, 1) := by decide +kernel
theorem dX12_gift_15 : decode cX12_gift 15 = .ok (.invokevirtual 324, 3) := by decide +kernel
theorem dX12_gift_18 : decode cX12_gift 18 = .ok (.ireturn, 1) := by decide +kernel
theorem dX12_gives_0 : decode cX12_gives 0 = .ok (.aload_n 0, 1) := by decide +kernel
theorem dX12_gives_1 : decode cX12_gives 1 = .ok (.iconst 0, 1) := by decide +kernel
theorem dX12_gives_2 : decode cX12_gives 2 = .ok (.putfield 159, 3) := by decide +kernel
theorem dX12_gives_5 : decode cX12_gives 5 = .ok (.aload_n 0, 1) := by decide +kernel
theorem dX12_gives_6 : decode cX12_gives 6 = .ok (.iload_n 1, 1) := by decide +kernel
theorem dX12_gives_7 : decode cX12_gives 7 = .ok (.iload_n 2, 1) := by decide +kernel
theorem dX12_gives_8 : decode cX12_gives 8 = .ok (.invokevirtual 305, 3) := by decide +kernel
theorem dX12_gives_11 : decode cX12_gives 11 = .ok (.ifCond .eq 22, 3) := by decide +kernel
theorem dX12_gives_14 : decode cX12_gives 14 = .ok (.aload_n 0, 1) := by decide +kernel
theorem dX12_gives_15 : decode cX12_gives 15 = .ok (.iload_n 1, 1) := by decide +kernel
theorem dX12_gives_16 : decode cX12_gives 16 = .ok (.iload_n 3, 1) := by decide +kernel
theorem dX12_gives_17 : decode cX12_gives 17 = .ok (.invokevirtual 327, 3) := by decide +kernel
theorem dX12_gives_20 : decode cX12_gives 20 = .ok (.ifCond .eq 13, 3) := by decide +kernel
theorem dX12_gives_23 : decode cX12_gives 23 = .ok (.aload_n 0, 1) := by decide +kernel
theorem dX12_gives_24 : decode cX12_gives 24 = .ok (.iload_n 1, 1) := by decide +kernel
theorem dX12_gives_25 : decode cX12_gives 25 = .ok (.iload_n 2, 1) := by decide +kernel
theorem dX12_gives_26 : decode cX12_gives 26 = .ok (.iload_n 3, 1) := by decide +kernel
theorem dX12_gives_27 : decode cX12_gives 27 = .ok (.invokevirtual 330, 3) := by decide +kernel
theorem dX12_gives_30 : decode cX12_gives 30 = .ok (.goto 8, 3) := by decide +kernel
theorem dX12_gives_33 : decode cX12_gives 33 = .ok (.aload_n 0, 1) := by decide +kernel
theorem dX12_gives_34 : decode cX12_gives 34 = .ok (.iconst 1, 1) := by decide +kernel
theorem dX12_gives_35 : decode cX12_gives 35 = .ok (.invokevirtual 289, 3) := by decide +kernel
theorem dX12_gives_38 : decode cX12_gives 38 = .ok (.ireturn, 1) := by decide +kernel
theorem dX12_behind_0 : decode cX12_behind 0 = .ok (.aload_n 0, 1) := by decide +kernel
theorem dX12_behind_1 : decode cX12_behind 1 = .ok (.getfield 46, 3) := by decide +kernel
theorem dX12_behind_4 : decode cX12_behind 4 = .ok (.bipush 7, 2) := by decide +kernel
theorem dX12_behind_6 : decode cX12_behind 6 = .ok (.iload_n 1, 1) := by decide +kernel
theorem dX12_behind_7 : decode cX12_behind 7 = .ok (.imul, 1) := by decide +kernel
theorem dX12_behind_8 : decode cX12_behind 8 = .ok (.iaload, 1) := by decide +kernel
theorem dX12_behind_9 : decode cX12_behind 9 = .ok (.ifCond .ne 7, 3) := by decide +kernel
theorem dX12_behind_12 : decode cX12_behind 12 = .ok (.iconst 0, 1) := by decide +kernel
theorem dX12_behind_13 : decode cX12_behind 13 = .ok (.goto 29, 3) := by decide +kernel
theorem dX12_behind_16 : decode cX12_behind 16 = .ok (.aload_n 0, 1) := by decide +kernel
theorem dX12_behind_17 : decode cX12_behind 17 = .ok (.getfield 46, 3) := by decide +kernel
theorem dX12_behind_20 : decode cX12_behind 20 = .ok (.bipush 7, 2) := by decide +kernel
theorem dX12_behind_22 : decode cX12_behind 22 = .ok (.iload_n 1, 1) := by decide +kernel
theorem dX12_behind_23 : decode cX12_behind 23 = .ok (.imul, 1) := by decide +kernel
theorem dX12_behind_24 : decode cX12_behind 24 = .ok (.iaload, 1) := by decide +kernel
theorem dX12_behind_25 : decode cX12_behind 25 = .ok (.iconst 1, 1) := by decide +kernel
theorem dX12_behind_26 : decode cX12_behind 26 = .ok (.if_icmp .ne 7, 3) := by decide +kernel
theorem dX12_behind_29 : decode cX12_behind 29 = .ok (.iload_n 3, 1) := by decide +kernel
theorem dX12_behind_30 : decode cX12_behind 30 = .ok (.goto 12, 3) := by decide +kernel
theorem dX12_behind_33 : decode cX12_behind 33 = .ok (.iload_n 3, 1) := by decide +kernel
theorem dX12_behind_34 : decode cX12_behind 34 = .ok (.bipush 10, 2) := by decide +kernel
theorem dX12_behind_36 : decode cX12_behind 36 = .ok (.iload_n 2, 1) := by decide +kernel
theorem dX12_behind_37 : decode cX12_behind 37 = .ok (.bipush 10, 2) := by decide +kernel
theorem dX12_behind_39 : decode cX12_behind 39 = .ok (.irem, 1) := by decide +kernel
theorem dX12_behind_40 : decode cX12_behind 40 = .ok (.imul, 1) := by decide +kernel
theorem dX12_behind_41 : decode cX12_behind 41 = .ok (.iadd, 1) := by decide +kernel
theorem dX12_behind_42 : decode cX12_behind 42 = .ok (.ireturn, 1) := by decide +kernel
theorem dX12_goOn_0 : decode cX12_goOn 0 = .ok (.iload_n 3, 1) := by decide +kernel
theorem dX12_goOn_1 : decode cX12_goOn 1 = .ok (.iconst (-1), 1) := by decide +kernel
theorem dX12_goOn_2 : decode cX12_goOn 2 = .ok (.if_icmp .ne 7, 3) := by decide +kernel
theorem dX12_goOn_5 : decode cX12_goOn 5 = .ok (.iload_n 2, 1) := by decide +kernel
theorem dX12_goOn_6 : decode cX12_goOn 6 = .ok (.goto 10, 3) := by decide +kernel
theorem dX12_goOn_9 : decode cX12_goOn 9 = .ok (.aload_n 0, 1) := by decide +kernel
theorem dX12_goOn_10 : decode cX12_goOn 10 = .ok (.iload_n 1, 1) := by decide +kernel
theorem dX12_goOn_11 : decode cX12_goOn 11 = .ok (.iload_n 2, 1) := by decide +kernel
theorem dX12_goOn_12 : decode cX12_goOn 12 = .ok (.iload_n 3, 1) := by decide +kernel
theorem dX12_goOn_13 : decode cX12_goOn 13 = .ok (.invokevirtual 333, 3) := by decide +kernel
theorem dX12_goOn_16 : decode cX12_goOn 16 = .ok (.ireturn, 1) := by decide +kernel
theorem dX12_next_0 : decode cX12_next 0 = .ok (.aload_n 0, 1) := by decide +kernel
theorem dX12_next_1 : decode cX12_next 1 = .ok (.iconst 0, 1) := by decide +kernel
theorem dX12_next_2 : decode cX12_next 2 = .ok (.putfield 159, 3) := by decide +kernel
theorem dX12_next_5 : decode cX12_next 5 = .ok (.iload_n 1, 1) := by decide +kernel
theorem dX12_next_6 : decode cX12_next 6 = .ok (.invokestatic 166, 3) := by decide +kernel
theorem dX12_next_9 : decode cX12_next 9 = .ok (.ifCond .eq 32, 3) := by decide +kernel
theorem dX12_next_12 : decode cX12_next 12 = .ok (.aload_n 0, 1) := by decide +kernel
theorem dX12_next_13 : decode cX12_next 13 = .ok (.iload_n 1, 1) := by decide +kernel
theorem dX12_next_14 : decode cX12_next 14 = .ok (.iload_n 2, 1) := by decide +kernel
theorem dX12_next_15 : decode cX12_next 15 = .ok (.invokevirtual 327, 3) := by decide +kernel
theorem dX12_next_18 : decode cX12_next 18 = .ok (.ifCond .eq 23, 3) := by decide +kernel
theorem dX12_next_21 : decode cX12_next 21 = .ok (.iload_n 3, 1) := by decide +kernel
theorem dX12_next_22 : decode cX12_next 22 = .ok (.iconst 0, 1) := by decide +kernel
theorem dX12_next_23 : decode cX12_next 23 = .ok (.bipush 9, 2) := by decide +kernel
theorem dX12_next_25 : decode cX12_next 25 = .ok (.invokestatic 162, 3) := by decide +kernel
theorem dX12_next_28 : decode cX12_next 28 = .ok (.ifCond .eq 13, 3) := by decide +kernel
theorem dX12_next_31 : decode cX12_next 31 = .ok (.aload_n 0, 1) := by decide +kernel
theorem dX12_next_32 : decode cX12_next 32 = .ok (.iload_n 1, 1) := by decide +kernel
theorem dX12_next_33 : decode cX12_next 33 = .ok (.iload_n 2, 1) := by decide +kernel
theorem dX12_next_34 : decode cX12_next 34 = .ok (.iload_n 3, 1) := by decide +kernel
theorem dX12_next_35 : decode cX12_next 35 = .ok (.invokevirtual 333, 3) := by decide +kernel
theorem dX12_next_38 : decode cX12_next 38 = .ok (.goto 8, 3) := by decide +kernel
theorem dX12_next_41 : decode cX12_next 41 = .ok (.aload_n 0, 1) := by decide +kernel
theorem dX12_next_42 : decode cX12_next 42 = .ok (.iconst 1, 1) := by decide +kernel
theorem dX12_next_43 : decode cX12_next 43 = .ok (.invokevirtual 289, 3) := by decide +kernel
theorem dX12_next_46 : decode cX12_next 46 = .ok (.ireturn, 1) := by decide +kernel
theorem dX12_seed_0 : decode cX12_seed 0 = .ok (.aload_n 0, 1) := by decide +kernel
theorem dX12_seed_1 : decode cX12_seed 1 = .ok (.iconst 0, 1) := by decide +kernel
theorem dX12_seed_2 : decode cX12_seed 2 = .ok (.putfield 159, 3) := by decide +kernel
theorem dX12_seed_5 : decode cX12_seed 5 = .ok (.iload_n 1, 1) := by decide +kernel
theorem dX12_seed_6 : decode cX12_seed 6 = .ok (.invokestatic 166, 3) := by decide +kernel
theorem dX12_seed_9 : decode cX12_seed 9 = .ok (.ifCond .eq 12, 3) := by decide +kernel
theorem dX12_seed_12 : decode cX12_seed 12 = .ok (.aload_n 0, 1) := by decide +kernel
theorem dX12_seed_13 : decode cX12_seed 13 = .ok (.iload_n 1, 1) := by decide +kernel
theorem dX12_seed_14 : decode cX12_seed 14 = .ok (.iload_n 2, 1) := by decide +kernel
theorem dX12_seed_15 : decode cX12_seed 15 = .ok (.invokevirtual 327, 3) := by decide +kernel
theorem dX12_seed_18 : decode cX12_seed 18 = .ok (.ifCond .ne 9, 3) := by decide +kernel
theorem dX12_seed_21 : decode cX12_seed 21 = .ok (.aload_n 0, 1) := by decide +kernel
theorem dX12_seed_22 : decode cX12_seed 22 = .ok (.iconst 1, 1) := by decide +kernel
theorem dX12_seed_23 : decode cX12_seed 23 = .ok (.putfield 159, 3) := by decide +kernel
theorem dX12_seed_26 : decode cX12_seed 26 = .ok (.return_, 1) := by decide +kernel
theorem dX12_seed_27 : decode cX12_seed 27 = .ok (.aload_n 0, 1) := by decide +kernel
theorem dX12_seed_28 : decode cX12_seed 28 = .ok (.getfield 65, 3) := by decide +kernel
theorem dX12_seed_31 : decode cX12_seed 31 = .ok (.iload_n 1, 1) := by decide +kernel
theorem dX12_seed_32 : decode cX12_seed 32 = .ok (.iload_n 2, 1) := by decide +kernel
theorem dX12_seed_33 : decode cX12_seed 33 = .ok (.iastore, 1) := by decide +kernel
theorem dX12_seed_34 : decode cX12_seed 34 = .ok (.aload_n 0, 1) := by decide +kernel
theorem dX12_seed_35 : decode cX12_seed 35 = .ok (.getfield 68, 3) := by decide +kernel
theorem dX12_seed_38 : decode cX12_seed 38 = .ok (.iload_n 1, 1) := by decide +kernel
theorem dX12_seed_39 : decode cX12_seed 39 = .ok (.iload_n 2, 1) := by decide +kernel
theorem dX12_seed_40 : decode cX12_seed 40 = .ok (.iastore, 1) := by decide +kernel
theorem dX12_seed_41 : decode cX12_seed 41 = .ok (.aload_n 0, 1) := by decide +kernel
theorem dX12_seed_42 : decode cX12_seed 42 = .ok (.getfield 71, 3) := by decide +kernel
theorem dX12_seed_45 : decode cX12_seed 45 = .ok (.iload_n 1, 1) := by decide +kernel
theorem dX12_seed_46 : decode cX12_seed 46 = .ok (.iconst 0, 1) := by decide +kernel
theorem dX12_seed_47 : decode cX12_seed 47 = .ok (.iastore, 1) := by decide +kernel
theorem dX12_seed_48 : decode cX12_seed 48 = .ok (.return_, 1) := by decide +kernel
theorem dX12_put_0 : decode cX12_put 0 = .ok (.aload_n 0, 1) := by decide +kernel
theorem dX12_put_1 : decode cX12_put 1 = .ok (.getfield 46, 3) := by decide +kernel
theorem dX12_put_4 : decode cX12_put 4 = .ok (.bipush 7, 2) := by decide +kernel
theorem dX12_put_6 : decode cX12_put 6 = .ok (.iload_n 1, 1) := by decide +kernel
theorem dX12_put_7 : decode cX12_put 7 = .ok (.imul, 1) := by decide +kernel
theorem dX12_put_8 : decode cX12_put 8 = .ok (.iconst 4, 1) := by decide +kernel
theorem dX12_put_9 : decode cX12_put 9 = .ok (.iadd, 1) := by decide +kernel
theorem dX12_put_10 : decode cX12_put 10 = .ok (.iload_n 2, 1) := by decide +kernel
theorem dX12_put_11 : decode cX12_put 11 = .ok (.bipush 44, 2) := by decide +kernel
theorem dX12_put_13 : decode cX12_put 13 = .ok (.idiv, 1) := by decide +kernel
theorem dX12_put_14 : decode cX12_put 14 = .ok (.iastore, 1) := by decide +kernel
theorem dX12_put_15 : decode cX12_put 15 = .ok (.aload_n 0, 1) := by decide +kernel
theorem dX12_put_16 : decode cX12_put 16 = .ok (.getfield 46, 3) := by decide +kernel
theorem dX12_put_19 : decode cX12_put 19 = .ok (.bipush 7, 2) := by decide +kernel
theorem dX12_put_21 : decode cX12_put 21 = .ok (.iload_n 1, 1) := by decide +kernel
theorem dX12_put_22 : decode cX12_put 22 = .ok (.imul, 1) := by decide +kernel
theorem dX12_put_23 : decode cX12_put 23 = .ok (.iconst 2, 1) := by decide +kernel
theorem dX12_put_24 : decode cX12_put 24 = .ok (.iadd, 1) := by decide +kernel
theorem dX12_put_25 : decode cX12_put 25 = .ok (.iload_n 2, 1) := by decide +kernel
theorem dX12_put_26 : decode cX12_put 26 = .ok (.bipush 22, 2) := by decide +kernel
theorem dX12_put_28 : decode cX12_put 28 = .ok (.idiv, 1) := by decide +kernel
theorem dX12_put_29 : decode cX12_put 29 = .ok (.iconst 2, 1) := by decide +kernel
theorem dX12_put_30 : decode cX12_put 30 = .ok (.irem, 1) := by decide +kernel
theorem dX12_put_31 : decode cX12_put 31 = .ok (.iastore, 1) := by decide +kernel
theorem dX12_put_32 : decode cX12_put 32 = .ok (.aload_n 0, 1) := by decide +kernel
theorem dX12_put_33 : decode cX12_put 33 = .ok (.getfield 46, 3) := by decide +kernel
theorem dX12_put_36 : decode cX12_put 36 = .ok (.bipush 7, 2) := by decide +kernel
theorem dX12_put_38 : decode cX12_put 38 = .ok (.iload_n 1, 1) := by decide +kernel
theorem dX12_put_39 : decode cX12_put 39 = .ok (.imul, 1) := by decide +kernel
theorem dX12_put_40 : decode cX12_put 40 = .ok (.iconst 3, 1) := by decide +kernel
theorem dX12_put_41 : decode cX12_put 41 = .ok (.iadd, 1) := by decide +kernel
theorem dX12_put_42 : decode cX12_put 42 = .ok (.iload_n 2, 1) := by decide +kernel
theorem dX12_put_43 : decode cX12_put 43 = .ok (.bipush 11, 2) := by decide +kernel
theorem dX12_put_45 : decode cX12_put 45 = .ok (.idiv, 1) := by decide +kernel
theorem dX12_put_46 : decode cX12_put 46 = .ok (.iconst 2, 1) := by decide +kernel
theorem dX12_put_47 : decode cX12_put 47 = .ok (.irem, 1) := by decide +kernel
theorem dX12_put_48 : decode cX12_put 48 = .ok (.iastore, 1) := by decide +kernel
theorem dX12_put_49 : decode cX12_put 49 = .ok (.aload_n 0, 1) := by decide +kernel
theorem dX12_put_50 : decode cX12_put 50 = .ok (.getfield 46, 3) := by decide +kernel
theorem dX12_put_53 : decode cX12_put 53 = .ok (.bipush 7, 2) := by decide +kernel
theorem dX12_put_55 : decode cX12_put 55 = .ok (.iload_n 1, 1) := by decide +kernel
theorem dX12_put_56 : decode cX12_put 56 = .ok (.imul, 1) := by decide +kernel
theorem dX12_put_57 : decode cX12_put 57 = .ok (.iconst 1, 1) := by decide +kernel
theorem dX12_put_58 : decode cX12_put 58 = .ok (.iadd, 1) := by decide +kernel
theorem dX12_put_59 : decode cX12_put 59 = .ok (.iload_n 2, 1) := by decide +kernel
theorem dX12_put_60 : decode cX12_put 60 = .ok (.bipush 11, 2) := by decide +kernel
theorem dX12_put_62 : decode cX12_put 62 = .ok (.irem, 1) := by decide +kernel
theorem dX12_put_63 : decode cX12_put 63 = .ok (.iconst 1, 1) := by decide +kernel
theorem dX12_put_64 : decode cX12_put 64 = .ok (.isub, 1) := by decide +kernel
theorem dX12_put_65 : decode cX12_put 65 = .ok (.iastore, 1) := by decide +kernel
theorem dX12_put_66 : decode cX12_put 66 = .ok (.return_, 1) := by decide +kernel
theorem dX12_isSetting_0 : decode cX12_isSetting 0 = .ok (.iload_n 0, 1) := by decide +kernel
theorem dX12_isSetting_1 : decode cX12_isSetting 1 = .ok (.iconst 0, 1) := by decide +kernel
theorem dX12_isSetting_2 : decode cX12_isSetting 2 = .ok (.sipush 175, 3) := by decide +kernel
theorem dX12_isSetting_5 : decode cX12_isSetting 5 = .ok (.invokestatic 162, 3) := by decide +kernel
theorem dX12_isSetting_8 : decode cX12_isSetting 8 = .ok (.ireturn, 1) := by decide +kernel
theorem dX12_set_0 : decode cX12_set 0 = .ok (.aload_n 0, 1) := by decide +kernel
theorem dX12_set_1 : decode cX12_set 1 = .ok (.iconst 0, 1) := by decide +kernel
theorem dX12_set_2 : decode cX12_set 2 = .ok (.putfield 159, 3) := by decide +kernel
theorem dX12_set_5 : decode cX12_set 5 = .ok (.iload_n 1, 1) := by decide +kernel
theorem dX12_set_6 : decode cX12_set 6 = .ok (.invokestatic 166, 3) := by decide +kernel
theorem dX12_set_9 : decode cX12_set 9 = .ok (.ifCond .eq 10, 3) := by decide +kernel
theorem dX12_set_12 : decode cX12_set 12 = .ok (.iload_n 2, 1) := by decide +kernel
theorem dX12_set_13 : decode cX12_set 13 = .ok (.invokestatic 336, 3) := by decide +kernel
theorem dX12_set_16 : decode cX12_set 16 = .ok (.ifCond .ne 10, 3) := by decide +kernel
theorem dX12_set_19 : decode cX12_set 19 = .ok (.aload_n 0, 1) := by decide +kernel
theorem dX12_set_20 : decode cX12_set 20 = .ok (.iconst 1, 1) := by decide +kernel
theorem dX12_set_21 : decode cX12_set 21 = .ok (.putfield 159, 3) := by decide +kernel
theorem dX12_set_24 : decode cX12_set 24 = .ok (.iconst 0, 1) := by decide +kernel
theorem dX12_set_25 : decode cX12_set 25 = .ok (.ireturn, 1) := by decide +kernel
theorem dX12_set_26 : decode cX12_set 26 = .ok (.aload_n 0, 1) := by decide +kernel
theorem dX12_set_27 : decode cX12_set 27 = .ok (.iload_n 1, 1) := by decide +kernel
theorem dX12_set_28 : decode cX12_set 28 = .ok (.iload_n 2, 1) := by decide +kernel
theorem dX12_set_29 : decode cX12_set 29 = .ok (.invokevirtual 339, 3) := by decide +kernel
theorem dX12_set_32 : decode cX12_set 32 = .ok (.iconst 1, 1) := by decide +kernel
theorem dX12_set_33 : decode cX12_set 33 = .ok (.ireturn, 1) := by decide +kernel
theorem dX12_tellGifts_0 : decode cX12_tellGifts 0 = .ok (.iconst 0, 1) := by decide +kernel
theorem dX12_tellGifts_1 : decode cX12_tellGifts 1 = .ok (.istore_n 2, 1) := by decide +kernel
theorem dX12_tellGifts_2 : decode cX12_tellGifts 2 = .ok (.iload_n 2, 1) := by decide +kernel
theorem dX12_tellGifts_3 : decode cX12_tellGifts 3 = .ok (.aload_n 0, 1) := by decide +kernel
theorem dX12_tellGifts_4 : decode cX12_tellGifts 4 = .ok (.iload_n 1, 1) := by decide +kernel
theorem dX12_tellGifts_5 : decode cX12_tellGifts 5 = .ok (.invokevirtual 170, 3) := by decide +kernel
theorem dX12_tellGifts_8 : decode cX12_tellGifts 8 = .ok (.if_icmp .ge 45, 3) := by decide +kernel
theorem dX12_tellGifts_11 : decode cX12_tellGifts 11 = .ok (.iconst 0, 1) := by decide +kernel
theorem dX12_tellGifts_12 : decode cX12_tellGifts 12 = .ok (.istore_n 3, 1) := by decide +kernel
theorem dX12_tellGifts_13 : decode cX12_tellGifts 13 = .ok (.iload_n 3, 1) := by decide +kernel
theorem dX12_tellGifts_14 : decode cX12_tellGifts 14 = .ok (.aload_n 0, 1) := by decide +kernel
theorem dX12_tellGifts_15 : decode cX12_tellGifts 15 = .ok (.getfield 42, 3) := by decide +kernel
theorem dX12_tellGifts_18 : decode cX12_tellGifts 18 = .ok (.iload_n 1, 1) := by decide +kernel
theorem dX12_tellGifts_19 : decode cX12_tellGifts 19 = .ok (.iaload, 1) := by decide +kernel
theorem dX12_tellGifts_20 : decode cX12_tellGifts 20 = .ok (.if_icmp .ge 27, 3) := by decide +kernel
theorem dX12_tellGifts_23 : decode cX12_tellGifts 23 = .ok (.aload_n 0, 1) := by decide +kernel
theorem dX12_tellGifts_24 : decode cX12_tellGifts 24 = .ok (.getfield 106, 3) := by decide +kernel
theorem dX12_tellGifts_27 : decode cX12_tellGifts 27 = .ok (.bipush 8, 2) := by decide +kernel
theorem dX12_tellGifts_29 : decode cX12_tellGifts 29 = .ok (.iload_n 2, 1) := by decide +kernel
theorem dX12_tellGifts_30 : decode cX12_tellGifts 30 = .ok (.imul, 1) := by decide +kernel
theorem dX12_tellGifts_31 : decode cX12_tellGifts 31 = .ok (.iload_n 3, 1) := by decide +kernel
theorem dX12_tellGifts_32 : decode cX12_tellGifts 32 = .ok (.iadd, 1) := by decide +kernel
theorem dX12_tellGifts_33 : decode cX12_tellGifts 33 = .ok (.aload_n 0, 1) := by decide +kernel
theorem dX12_tellGifts_34 : decode cX12_tellGifts 34 = .ok (.iload_n 1, 1) := by decide +kernel
theorem dX12_tellGifts_35 : decode cX12_tellGifts 35 = .ok (.iload_n 3, 1) := by decide +kernel
theorem dX12_tellGifts_36 : decode cX12_tellGifts 36 = .ok (.iload_n 2, 1) := by decide +kernel
theorem dX12_tellGifts_37 : decode cX12_tellGifts 37 = .ok (.invokevirtual 330, 3) := by decide +kernel
theorem dX12_tellGifts_40 : decode cX12_tellGifts 40 = .ok (.iastore, 1) := by decide +kernel
theorem dX12_tellGifts_41 : decode cX12_tellGifts 41 = .ok (.iinc 3 1, 3) := by decide +kernel
theorem dX12_tellGifts_44 : decode cX12_tellGifts 44 = .ok (.goto (-31), 3) := by decide +kernel
theorem dX12_tellGifts_47 : decode cX12_tellGifts 47 = .ok (.iinc 2 1, 3) := by decide +kernel
theorem dX12_tellGifts_50 : decode cX12_tellGifts 50 = .ok (.goto (-48), 3) := by decide +kernel
theorem dX12_tellGifts_53 : decode cX12_tellGifts 53 = .ok (.return_, 1) := by decide +kernel
theorem dX12_startAt_0 : decode cX12_startAt 0 = .ok (.iconst 0, 1) := by decide +kernel
theorem dX12_startAt_1 : decode cX12_startAt 1 = .ok (.istore_n 2, 1) := by decide +kernel
theorem dX12_startAt_2 : decode cX12_startAt 2 = .ok (.iload_n 2, 1) := by decide +kernel
theorem dX12_startAt_3 : decode cX12_startAt 3 = .ok (.bipush 100, 2) := by decide +kernel
theorem dX12_startAt_5 : decode cX12_startAt 5 = .ok (.if_icmp .ge 16, 3) := by decide +kernel
theorem dX12_startAt_8 : decode cX12_startAt 8 = .ok (.aload_n 0, 1) := by decide +kernel
theorem dX12_startAt_9 : decode cX12_startAt 9 = .ok (.getfield 99, 3) := by decide +kernel
theorem dX12_startAt_12 : decode cX12_startAt 12 = .ok (.iload_n 2, 1) := by decide +kernel
theorem dX12_startAt_13 : decode cX12_startAt 13 = .ok (.lconst 0, 1) := by decide +kernel
theorem dX12_startAt_14 : decode cX12_startAt 14 = .ok (.lastore, 1) := by decide +kernel
theorem dX12_startAt_15 : decode cX12_startAt 15 = .ok (.iinc 2 1, 3) := by decide +kernel
theorem dX12_startAt_18 : decode cX12_startAt 18 = .ok (.goto (-16), 3) := by decide +kernel
theorem dX12_startAt_21 : decode cX12_startAt 21 = .ok (.aload_n 0, 1) := by decide +kernel
theorem dX12_startAt_22 : decode cX12_startAt 22 = .ok (.getfield 99, 3) := by decide +kernel
theorem dX12_startAt_25 : decode cX12_startAt 25 = .ok (.iload_n 1, 1) := by decide +kernel
theorem dX12_startAt_26 : decode cX12_startAt 26 = .ok (.ldc2_w 343, 3) := by decide +kernel
theorem dX12_startAt_29 : decode cX12_startAt 29 = .ok (.lastore, 1) := by decide +kernel
theorem dX12_startAt_30 : decode cX12_startAt 30 = .ok (.aload_n 0, 1) := by decide +kernel
theorem dX12_startAt_31 : decode cX12_startAt 31 = .ok (.lconst 0, 1) := by decide +kernel
theorem dX12_startAt_32 : decode cX12_startAt 32 = .ok (.putfield 345, 3) := by decide +kernel
theorem dX12_startAt_35 : decode cX12_startAt 35 = .ok (.aload_n 0, 1) := by decide +kernel
theorem dX12_startAt_36 : decode cX12_startAt 36 = .ok (.lconst 0, 1) := by decide +kernel
theorem dX12_startAt_37 : decode cX12_startAt 37 = .ok (.putfield 349, 3) := by decide +kernel
theorem dX12_startAt_40 : decode cX12_startAt 40 = .ok (.return_, 1) := by decide +kernel
theorem dX12_person_0 : decode cX12_person 0 = .ok (.aload_n 0, 1) := by decide +kernel
theorem dX12_person_1 : decode cX12_person 1 = .ok (.iload_n 1, 1) := by decide +kernel
theorem dX12_person_2 : decode cX12_person 2 = .ok (.invokevirtual 302, 3) := by decide +kernel
theorem dX12_person_5 : decode cX12_person 5 = .ok (.istore_n 2, 1) := by decide +kernel
theorem dX12_person_6 : decode cX12_person 6 = .ok (.aload_n 0, 1) := by decide +kernel
theorem dX12_person_7 : decode cX12_person 7 = .ok (.lconst 0, 1) := by decide +kernel
theorem dX12_person_8 : decode cX12_person 8 = .ok (.putfield 352, 3) := by decide +kernel
theorem dX12_person_11 : decode cX12_person 11 = .ok (.aload_n 0, 1) := by decide +kernel
theorem dX12_person_12 : decode cX12_person 12 = .ok (.getfield 42, 3) := by decide +kernel
theorem dX12_person_15 : decode cX12_person 15 = .ok (.iload_n 1, 1) := by decide +kernel
theorem dX12_person_16 : decode cX12_person 16 = .ok (.iaload, 1) := by decide +kernel
theorem dX12_person_17 : decode cX12_person 17 = .ok (.ifCond .ne 4, 3) := by decide +kernel
theorem dX12_person_20 : decode cX12_person 20 = .ok (.return_, 1) := by decide +kernel
theorem dX12_person_21 : decode cX12_person 21 = .ok (.iconst 0, 1) := by decide +kernel
theorem dX12_person_22 : decode cX12_person 22 = .ok (.istore_n 3, 1) := by decide +kernel
theorem dX12_person_23 : decode cX12_person 23 = .ok (.iload_n 3, 1) := by decide +kernel
theorem dX12_person_24 : decode cX12_person 24 = .ok (.bipush 100, 2) := by decide +kernel
theorem dX12_person_26 : decode cX12_person 26 = .ok (.if_icmp .ge 16, 3) := by decide +kernel
theorem dX12_person_29 : decode cX12_person 29 = .ok (.aload_n 0, 1) := by decide +kernel
theorem dX12_person_30 : decode cX12_person 30 = .ok (.getfield 103, 3) := by decide +kernel
theorem dX12_person_33 : decode cX12_person 33 = .ok (.iload_n 3, 1) := by decide +kernel
theorem dX12_person_34 : decode cX12_person 34 = .ok (.lconst 0, 1) := by decide +kernel
theorem dX12_person_35 : decode cX12_person 35 = .ok (.lastore, 1) := by decide +kernel
theorem dX12_person_36 : decode cX12_person 36 = .ok (.iinc 3 1, 3) := by decide +kernel
theorem dX12_person_39 : decode cX12_person 39 = .ok (.goto (-16), 3) := by decide +kernel
theorem dX12_person_42 : decode cX12_person 42 = .ok (.iconst 0, 1) := by decide +kernel
theorem dX12_person_43 : decode cX12_person 43 = .ok (.istore_n 3, 1) := by decide +kernel
theorem dX12_person_44 : decode cX12_person 44 = .ok (.iload_n 3, 1) := by decide +kernel
theorem dX12_person_45 : decode cX12_person 45 = .ok (.aload_n 0, 1) := by decide +kernel
theorem dX12_person_46 : decode cX12_person 46 = .ok (.iload_n 1, 1) := by decide +kernel
theorem dX12_person_47 : decode cX12_person 47 = .ok (.invokevirtual 170, 3) := by decide +kernel
theorem dX12_person_50 : decode cX12_person 50 = .ok (.if_icmp .ge 154, 3) := by decide +kernel
theorem dX12_person_53 : decode cX12_person 53 = .ok (.aload_n 0, 1) := by decide +kernel
theorem dX12_person_54 : decode cX12_person 54 = .ok (.getfield 99, 3) := by decide +kernel
theorem dX12_person_57 : decode cX12_person 57 = .ok (.iload_n 3, 1) := by decide +kernel
theorem dX12_person_58 : decode cX12_person 58 = .ok (.laload, 1) := by decide +kernel
theorem dX12_person_59 : decode cX12_person 59 = .ok (.lstore 4, 2) := by decide +kernel
theorem dX12_person_61 : decode cX12_person 61 = .ok (.iconst 0, 1) := by decide +kernel
theorem dX12_person_62 : decode cX12_person 62 = .ok (.istore 6, 2) := by decide +kernel
theorem dX12_person_64 : decode cX12_person 64 = .ok (.iload 6, 2) := by decide +kernel
theorem dX12_person_66 : decode cX12_person 66 = .ok (.aload_n 0, 1) := by decide +kernel
theorem dX12_person_67 : decode cX12_person 67 = .ok (.getfield 42, 3) := by decide +kernel
theorem dX12_person_70 : decode cX12_person 70 = .ok (.iload_n 1, 1) := by decide +kernel
theorem dX12_person_71 : decode cX12_person 71 = .ok (.iaload, 1) := by decide +kernel
theorem dX12_person_72 : decode cX12_person 72 = .ok (.if_icmp .ge 126, 3) := by decide +kernel
theorem dX12_person_75 : decode cX12_person 75 = .ok (.iload 6, 2) := by decide +kernel
theorem dX12_person_77 : decode cX12_person 77 = .ok (.aload_n 0, 1) := by decide +kernel
theorem dX12_person_78 : decode cX12_person 78 = .ok (.getfield 42, 3) := by decide +kernel
theorem dX12_person_81 : decode cX12_person 81 = .ok (.iload_n 1, 1) := by decide +kernel
theorem dX12_person_82 : decode cX12_person 82 = .ok (.iaload, 1) := by decide +kernel
theorem dX12_person_83 : decode cX12_person 83 = .ok (.iconst 1, 1) := by decide +kernel
theorem dX12_person_84 : decode cX12_person 84 = .ok (.isub, 1) := by decide +kernel
theorem dX12_person_85 : decode cX12_person 85 = .ok (.if_icmp .ne 8, 3) := by decide +kernel
theorem dX12_person_88 : decode cX12_person 88 = .ok (.lload 4, 2) := by decide +kernel
theorem dX12_person_90 : decode cX12_person 90 = .ok (.goto 26, 3) := by decide +kernel
theorem dX12_person_93 : decode cX12_person 93 = .ok (.aload_n 0, 1) := by decide +kernel
theorem dX12_person_94 : decode cX12_person 94 = .ok (.getfield 99, 3) := by decide +kernel
theorem dX12_person_97 : decode cX12_person 97 = .ok (.iload_n 3, 1) := by decide +kernel
theorem dX12_person_98 : decode cX12_person 98 = .ok (.laload, 1) := by decide +kernel
theorem dX12_person_99 : decode cX12_person 99 = .ok (.aload_n 0, 1) := by decide +kernel
theorem dX12_person_100 : decode cX12_person 100 = .ok (.getfield 49, 3) := by decide +kernel
theorem dX12_person_103 : decode cX12_person 103 = .ok (.bipush 8, 2) := by decide +kernel
theorem dX12_person_105 : decode cX12_person 105 = .ok (.iload_n 1, 1) := by decide +kernel
theorem dX12_person_106 : decode cX12_person 106 = .ok (.imul, 1) := by decide +kernel
theorem dX12_person_107 : decode cX12_person 107 = .ok (.iload 6, 2) := by decide +kernel
theorem dX12_person_109 : decode cX12_person 109 = .ok (.iadd, 1) := by decide +kernel
theorem dX12_person_110 : decode cX12_person 110 = .ok (.iaload, 1) := by decide +kernel
theorem dX12_person_111 : decode cX12_person 111 = .ok (.i2l, 1) := by decide +kernel
theorem dX12_person_112 : decode cX12_person 112 = .ok (.lmul, 1) := by decide +kernel
theorem dX12_person_113 : decode cX12_person 113 = .ok (.iload_n 2, 1) := by decide +kernel
theorem dX12_person_114 : decode cX12_person 114 = .ok (.i2l, 1) := by decide +kernel
theorem dX12_person_115 : decode cX12_person 115 = .ok (.ldiv, 1) := by decide +kernel
theorem dX12_person_116 : decode cX12_person 116 = .ok (.lstore 7, 2) := by decide +kernel
theorem dX12_person_118 : decode cX12_person 118 = .ok (.aload_n 0, 1) := by decide +kernel
theorem dX12_person_119 : decode cX12_person 119 = .ok (.getfield 106, 3) := by decide +kernel
theorem dX12_person_122 : decode cX12_person 122 = .ok (.bipush 8, 2) := by decide +kernel
theorem dX12_person_124 : decode cX12_person 124 = .ok (.iload_n 3, 1) := by decide +kernel
theorem dX12_person_125 : decode cX12_person 125 = .ok (.imul, 1) := by decide +kernel
theorem dX12_person_126 : decode cX12_person 126 = .ok (.iload 6, 2) := by decide +kernel
theorem dX12_person_128 : decode cX12_person 128 = .ok (.iadd, 1) := by decide +kernel
theorem dX12_person_129 : decode cX12_person 129 = .ok (.iaload, 1) := by decide +kernel
theorem dX12_person_130 : decode cX12_person 130 = .ok (.istore 9, 2) := by decide +kernel
theorem dX12_person_132 : decode cX12_person 132 = .ok (.lload 4, 2) := by decide +kernel
theorem dX12_person_134 : decode cX12_person 134 = .ok (.lload 7, 2) := by decide +kernel
theorem dX12_person_136 : decode cX12_person 136 = .ok (.lsub, 1) := by decide +kernel
theorem dX12_person_137 : decode cX12_person 137 = .ok (.lstore 4, 2) := by decide +kernel
theorem dX12_person_139 : decode cX12_person 139 = .ok (.aload_n 0, 1) := by decide +kernel
theorem dX12_person_140 : decode cX12_person 140 = .ok (.getfield 103, 3) := by decide +kernel
theorem dX12_person_143 : decode cX12_person 143 = .ok (.aload_n 0, 1) := by decide +kernel
theorem dX12_person_144 : decode cX12_person 144 = .ok (.iload_n 1, 1) := by decide +kernel
theorem dX12_person_145 : decode cX12_person 145 = .ok (.iload_n 3, 1) := by decide +kernel
theorem dX12_person_146 : decode cX12_person 146 = .ok (.iload 9, 2) := by decide +kernel
theorem dX12_person_148 : decode cX12_person 148 = .ok (.invokevirtual 355, 3) := by decide +kernel
theorem dX12_person_151 : decode cX12_person 151 = .ok (.dup2, 1) := by decide +kernel
theorem dX12_person_152 : decode cX12_person 152 = .ok (.laload, 1) := by decide +kernel
theorem dX12_person_153 : decode cX12_person 153 = .ok (.lload 7, 2) := by decide +kernel
theorem dX12_person_155 : decode cX12_person 155 = .ok (.ladd, 1) := by decide +kernel
theorem dX12_person_156 : decode cX12_person 156 = .ok (.lastore, 1) := by decide +kernel
theorem dX12_person_157 : decode cX12_person 157 = .ok (.iload 9, 2) := by decide +kernel
theorem dX12_person_159 : decode cX12_person 159 = .ok (.iconst (-1), 1) := by decide +kernel
theorem dX12_person_160 : decode cX12_person 160 = .ok (.if_icmp .ne 17, 3) := by decide +kernel
theorem dX12_person_163 : decode cX12_person 163 = .ok (.aload_n 0, 1) := by decide +kernel
theorem dX12_person_164 : decode cX12_person 164 = .ok (.dup, 1) := by decide +kernel
theorem dX12_person_165 : decode cX12_person 165 = .ok (.getfield 349, 3) := by decide +kernel
theorem dX12_person_168 : decode cX12_person 168 = .ok (.lload 7, 2) := by decide +kernel
theorem dX12_person_170 : decode cX12_person 170 = .ok (.ladd, 1) := by decide +kernel
theorem dX12_person_171 : decode cX12_person 171 = .ok (.putfield 349, 3) := by decide +kernel
theorem dX12_person_174 : decode cX12_person 174 = .ok (.goto 18, 3) := by decide +kernel
theorem dX12_person_177 : decode cX12_person 177 = .ok (.aload_n 0, 1) := by decide +kernel
theorem dX12_person_178 : decode cX12_person 178 = .ok (.dup, 1) := by decide +kernel
theorem dX12_person_179 : decode cX12_person 179 = .ok (.getfield 352, 3) := by decide +kernel
theorem dX12_person_182 : decode cX12_person 182 = .ok (.lload 7, 2) := by decide +kernel
theorem dX12_person_184 : decode cX12_person 184 = .ok (.iload 9, 2) := by decide +kernel
theorem dX12_person_186 : decode cX12_person 186 = .ok (.i2l, 1) := by decide +kernel
theorem dX12_person_187 : decode cX12_person 187 = .ok (.lmul, 1) := by decide +kernel
theorem dX12_person_188 : decode cX12_person 188 = .ok (.ladd, 1) := by decide +kernel
theorem dX12_person_189 : decode cX12_person 189 = .ok (.putfield 352, 3) := by decide +kernel
theorem dX12_person_192 : decode cX12_person 192 = .ok (.iinc 6 1, 3) := by decide +kernel
theorem dX12_person_195 : decode cX12_person 195 = .ok (.goto (-131), 3) := by decide +kernel
theorem dX12_person_198 : decode cX12_person 198 = .ok (.iinc 3 1, 3) := by decide +kernel
theorem dX12_person_201 : decode cX12_person 201 = .ok (.goto (-157), 3) := by decide +kernel
theorem dX12_person_204 : decode cX12_person 204 = .ok (.aload_n 0, 1) := by decide +kernel
theorem dX12_person_205 : decode cX12_person 205 = .ok (.dup, 1) := by decide +kernel
theorem dX12_person_206 : decode cX12_person 206 = .ok (.getfield 345, 3) := by decide +kernel
theorem dX12_person_209 : decode cX12_person 209 = .ok (.aload_n 0, 1) := by decide +kernel
theorem dX12_person_210 : decode cX12_person 210 = .ok (.getfield 352, 3) := by decide +kernel
theorem dX12_person_213 : decode cX12_person 213 = .ok (.ladd, 1) := by decide +kernel
theorem dX12_person_214 : decode cX12_person 214 = .ok (.putfield 345, 3) := by decide +kernel
theorem dX12_person_217 : decode cX12_person 217 = .ok (.iconst 0, 1) := by decide +kernel
theorem dX12_person_218 : decode cX12_person 218 = .ok (.istore_n 3, 1) := by decide +kernel
theorem dX12_person_219 : decode cX12_person 219 = .ok (.iload_n 3, 1) := by decide +kernel
theorem dX12_person_220 : decode cX12_person 220 = .ok (.bipush 100, 2) := by decide +kernel
theorem dX12_person_222 : decode cX12_person 222 = .ok (.if_icmp .ge 21, 3) := by decide +kernel
theorem dX12_person_225 : decode cX12_person 225 = .ok (.aload_n 0, 1) := by decide +kernel
theorem dX12_person_226 : decode cX12_person 226 = .ok (.getfield 99, 3) := by decide +kernel
theorem dX12_person_229 : decode cX12_person 229 = .ok (.iload_n 3, 1) := by decide +kernel
theorem dX12_person_230 : decode cX12_person 230 = .ok (.aload_n 0, 1) := by decide +kernel
theorem dX12_person_231 : decode cX12_person 231 = .ok (.getfield 103, 3) := by decide +kernel
theorem dX12_person_234 : decode cX12_person 234 = .ok (.iload_n 3, 1) := by decide +kernel
theorem dX12_person_235 : decode cX12_person 235 = .ok (.laload, 1) := by decide +kernel
theorem dX12_person_236 : decode cX12_person 236 = .ok (.lastore, 1) := by decide +kernel
theorem dX12_person_237 : decode cX12_person 237 = .ok (.iinc 3 1, 3) := by decide +kernel
theorem dX12_person_240 : decode cX12_person 240 = .ok (.goto (-21), 3) := by decide +kernel
theorem dX12_person_243 : decode cX12_person 243 = .ok (.return_, 1) := by decide +kernel
theorem dX12_lead_0 : decode cX12_lead 0 = .ok (.aload_n 0, 1) := by decide +kernel
theorem dX12_lead_1 : decode cX12_lead 1 = .ok (.iload_n 1, 1) := by decide +kernel
