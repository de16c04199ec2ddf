theorem dM_init_0 : decode cM_init 0 = .ok (.aload_n 0, 1) := by decide +kernel
theorem dM_init_1 : decode cM_init 1 = .ok (.invokespecial 1, 3) := by decide +kernel
theorem dM_init_4 : decode cM_init 4 = .ok (.aload_n 0, 1) := by decide +kernel
theorem dM_init_5 : decode cM_init 5 = .ok (.bipush 19, 2) := by decide +kernel
theorem dM_init_7 : decode cM_init 7 = .ok (.newarray .int, 2) := by decide +kernel
theorem dM_init_9 : decode cM_init 9 = .ok (.dup, 1) := by decide +kernel
theorem dM_init_10 : decode cM_init 10 = .ok (.iconst 0, 1) := by decide +kernel
theorem dM_init_11 : decode cM_init 11 = .ok (.iconst 2, 1) := by decide +kernel
theorem dM_init_12 : decode cM_init 12 = .ok (.iastore, 1) := by decide +kernel
theorem dM_init_13 : decode cM_init 13 = .ok (.dup, 1) := by decide +kernel
theorem dM_init_14 : decode cM_init 14 = .ok (.iconst 1, 1) := by decide +kernel
theorem dM_init_15 : decode cM_init 15 = .ok (.iconst 3, 1) := by decide +kernel
theorem dM_init_16 : decode cM_init 16 = .ok (.iastore, 1) := by decide +kernel
theorem dM_init_17 : decode cM_init 17 = .ok (.dup, 1) := by decide +kernel
theorem dM_init_18 : decode cM_init 18 = .ok (.iconst 2, 1) := by decide +kernel
theorem dM_init_19 : decode cM_init 19 = .ok (.iconst 5, 1) := by decide +kernel
theorem dM_init_20 : decode cM_init 20 = .ok (.iastore, 1) := by decide +kernel
theorem dM_init_21 : decode cM_init 21 = .ok (.dup, 1) := by decide +kernel
theorem dM_init_22 : decode cM_init 22 = .ok (.iconst 3, 1) := by decide +kernel
theorem dM_init_23 : decode cM_init 23 = .ok (.bipush 7, 2) := by decide +kernel
theorem dM_init_25 : decode cM_init 25 = .ok (.iastore, 1) := by decide +kernel
theorem dM_init_26 : decode cM_init 26 = .ok (.dup, 1) := by decide +kernel
theorem dM_init_27 : decode cM_init 27 = .ok (.iconst 4, 1) := by decide +kernel
theorem dM_init_28 : decode cM_init 28 = .ok (.bipush 11, 2) := by decide +kernel
theorem dM_init_30 : decode cM_init 30 = .ok (.iastore, 1) := by decide +kernel
theorem dM_init_31 : decode cM_init 31 = .ok (.dup, 1) := by decide +kernel
theorem dM_init_32 : decode cM_init 32 = .ok (.iconst 5, 1) := by decide +kernel
theorem dM_init_33 : decode cM_init 33 = .ok (.bipush 13, 2) := by decide +kernel
theorem dM_init_35 : decode cM_init 35 = .ok (.iastore, 1) := by decide +kernel
theorem dM_init_36 : decode cM_init 36 = .ok (.dup, 1) := by decide +kernel
theorem dM_init_37 : decode cM_init 37 = .ok (.bipush 6, 2) := by decide +kernel
theorem dM_init_39 : decode cM_init 39 = .ok (.bipush 17, 2) := by decide +kernel
theorem dM_init_41 : decode cM_init 41 = .ok (.iastore, 1) := by decide +kernel
theorem dM_init_42 : decode cM_init 42 = .ok (.dup, 1) := by decide +kernel
theorem dM_init_43 : decode cM_init 43 = .ok (.bipush 7, 2) := by decide +kernel
theorem dM_init_45 : decode cM_init 45 = .ok (.bipush 19, 2) := by decide +kernel
theorem dM_init_47 : decode cM_init 47 = .ok (.iastore, 1) := by decide +kernel
theorem dM_init_48 : decode cM_init 48 = .ok (.dup, 1) := by decide +kernel
theorem dM_init_49 : decode cM_init 49 = .ok (.bipush 8, 2) := by decide +kernel
theorem dM_init_51 : decode cM_init 51 = .ok (.bipush 23, 2) := by decide +kernel
theorem dM_init_53 : decode cM_init 53 = .ok (.iastore, 1) := by decide +kernel
theorem dM_init_54 : decode cM_init 54 = .ok (.dup, 1) := by decide +kernel
theorem dM_init_55 : decode cM_init 55 = .ok (.bipush 9, 2) := by decide +kernel
theorem dM_init_57 : decode cM_init 57 = .ok (.bipush 29, 2) := by decide +kernel
theorem dM_init_59 : decode cM_init 59 = .ok (.iastore, 1) := by decide +kernel
theorem dM_init_60 : decode cM_init 60 = .ok (.dup, 1) := by decide +kernel
theorem dM_init_61 : decode cM_init 61 = .ok (.bipush 10, 2) := by decide +kernel
theorem dM_init_63 : decode cM_init 63 = .ok (.bipush 31, 2) := by decide +kernel
theorem dM_init_65 : decode cM_init 65 = .ok (.iastore, 1) := by decide +kernel
theorem dM_init_66 : decode cM_init 66 = .ok (.dup, 1) := by decide +kernel
theorem dM_init_67 : decode cM_init 67 = .ok (.bipush 11, 2) := by decide +kernel
theorem dM_init_69 : decode cM_init 69 = .ok (.bipush 37, 2) := by decide +kernel
theorem dM_init_71 : decode cM_init 71 = .ok (.iastore, 1) := by decide +kernel
theorem dM_init_72 : decode cM_init 72 = .ok (.dup, 1) := by decide +kernel
theorem dM_init_73 : decode cM_init 73 = .ok (.bipush 12, 2) := by decide +kernel
theorem dM_init_75 : decode cM_init 75 = .ok (.bipush 41, 2) := by decide +kernel
theorem dM_init_77 : decode cM_init 77 = .ok (.iastore, 1) := by decide +kernel
theorem dM_init_78 : decode cM_init 78 = .ok (.dup, 1) := by decide +kernel
theorem dM_init_79 : decode cM_init 79 = .ok (.bipush 13, 2) := by decide +kernel
theorem dM_init_81 : decode cM_init 81 = .ok (.bipush 43, 2) := by decide +kernel
theorem dM_init_83 : decode cM_init 83 = .ok (.iastore, 1) := by decide +kernel
theorem dM_init_84 : decode cM_init 84 = .ok (.dup, 1) := by decide +kernel
theorem dM_init_85 : decode cM_init 85 = .ok (.bipush 14, 2) := by decide +kernel
theorem dM_init_87 : decode cM_init 87 = .ok (.bipush 47, 2) := by decide +kernel
theorem dM_init_89 : decode cM_init 89 = .ok (.iastore, 1) := by decide +kernel
theorem dM_init_90 : decode cM_init 90 = .ok (.dup, 1) := by decide +kernel
theorem dM_init_91 : decode cM_init 91 = .ok (.bipush 15, 2) := by decide +kernel
theorem dM_init_93 : decode cM_init 93 = .ok (.bipush 53, 2) := by decide +kernel
theorem dM_init_95 : decode cM_init 95 = .ok (.iastore, 1) := by decide +kernel
theorem dM_init_96 : decode cM_init 96 = .ok (.dup, 1) := by decide +kernel
theorem dM_init_97 : decode cM_init 97 = .ok (.bipush 16, 2) := by decide +kernel
theorem dM_init_99 : decode cM_init 99 = .ok (.bipush 59, 2) := by decide +kernel
theorem dM_init_101 : decode cM_init 101 = .ok (.iastore, 1) := by decide +kernel
theorem dM_init_102 : decode cM_init 102 = .ok (.dup, 1) := by decide +kernel
theorem dM_init_103 : decode cM_init 103 = .ok (.bipush 17, 2) := by decide +kernel
theorem dM_init_105 : decode cM_init 105 = .ok (.bipush 61, 2) := by decide +kernel
theorem dM_init_107 : decode cM_init 107 = .ok (.iastore, 1) := by decide +kernel
theorem dM_init_108 : decode cM_init 108 = .ok (.dup, 1) := by decide +kernel
theorem dM_init_109 : decode cM_init 109 = .ok (.bipush 18, 2) := by decide +kernel
theorem dM_init_111 : decode cM_init 111 = .ok (.bipush 67, 2) := by decide +kernel
theorem dM_init_113 : decode cM_init 113 = .ok (.iastore, 1) := by decide +kernel
theorem dM_init_114 : decode cM_init 114 = .ok (.putfield 7, 3) := by decide +kernel
theorem dM_init_117 : decode cM_init 117 = .ok (.aload_n 0, 1) := by decide +kernel
theorem dM_init_118 : decode cM_init 118 = .ok (.bipush 48, 2) := by decide +kernel
theorem dM_init_120 : decode cM_init 120 = .ok (.newarray .int, 2) := by decide +kernel
theorem dM_init_122 : decode cM_init 122 = .ok (.putfield 13, 3) := by decide +kernel
theorem dM_init_125 : decode cM_init 125 = .ok (.aload_n 0, 1) := by decide +kernel
theorem dM_init_126 : decode cM_init 126 = .ok (.sipush 288, 3) := by decide +kernel
theorem dM_init_129 : decode cM_init 129 = .ok (.newarray .int, 2) := by decide +kernel
theorem dM_init_131 : decode cM_init 131 = .ok (.putfield 16, 3) := by decide +kernel
theorem dM_init_134 : decode cM_init 134 = .ok (.aload_n 0, 1) := by decide +kernel
theorem dM_init_135 : decode cM_init 135 = .ok (.bipush 6, 2) := by decide +kernel
theorem dM_init_137 : decode cM_init 137 = .ok (.newarray .boolean, 2) := by decide +kernel
theorem dM_init_139 : decode cM_init 139 = .ok (.putfield 19, 3) := by decide +kernel
theorem dM_init_142 : decode cM_init 142 = .ok (.aload_n 0, 1) := by decide +kernel
theorem dM_init_143 : decode cM_init 143 = .ok (.bipush 66, 2) := by decide +kernel
theorem dM_init_145 : decode cM_init 145 = .ok (.newarray .int, 2) := by decide +kernel
theorem dM_init_147 : decode cM_init 147 = .ok (.putfield 23, 3) := by decide +kernel
theorem dM_init_150 : decode cM_init 150 = .ok (.aload_n 0, 1) := by decide +kernel
theorem dM_init_151 : decode cM_init 151 = .ok (.bipush 6, 2) := by decide +kernel
theorem dM_init_153 : decode cM_init 153 = .ok (.newarray .int, 2) := by decide +kernel
theorem dM_init_155 : decode cM_init 155 = .ok (.putfield 26, 3) := by decide +kernel
theorem dM_init_158 : decode cM_init 158 = .ok (.aload_n 0, 1) := by decide +kernel
theorem dM_init_159 : decode cM_init 159 = .ok (.bipush 6, 2) := by decide +kernel
theorem dM_init_161 : decode cM_init 161 = .ok (.newarray .int, 2) := by decide +kernel
theorem dM_init_163 : decode cM_init 163 = .ok (.putfield 29, 3) := by decide +kernel
theorem dM_init_166 : decode cM_init 166 = .ok (.aload_n 0, 1) := by decide +kernel
theorem dM_init_167 : decode cM_init 167 = .ok (.bipush 16, 2) := by decide +kernel
theorem dM_init_169 : decode cM_init 169 = .ok (.newarray .int, 2) := by decide +kernel
theorem dM_init_171 : decode cM_init 171 = .ok (.putfield 32, 3) := by decide +kernel
theorem dM_init_174 : decode cM_init 174 = .ok (.aload_n 0, 1) := by decide +kernel
theorem dM_init_175 : decode cM_init 175 = .ok (.sipush 496, 3) := by decide +kernel
theorem dM_init_178 : decode cM_init 178 = .ok (.newarray .int, 2) := by decide +kernel
theorem dM_init_180 : decode cM_init 180 = .ok (.putfield 35, 3) := by decide +kernel
theorem dM_init_183 : decode cM_init 183 = .ok (.aload_n 0, 1) := by decide +kernel
theorem dM_init_184 : decode cM_init 184 = .ok (.sipush 496, 3) := by decide +kernel
theorem dM_init_187 : decode cM_init 187 = .ok (.newarray .int, 2) := by decide +kernel
theorem dM_init_189 : decode cM_init 189 = .ok (.putfield 38, 3) := by decide +kernel
theorem dM_init_192 : decode cM_init 192 = .ok (.aload_n 0, 1) := by decide +kernel
theorem dM_init_193 : decode cM_init 193 = .ok (.sipush 496, 3) := by decide +kernel
theorem dM_init_196 : decode cM_init 196 = .ok (.newarray .boolean, 2) := by decide +kernel
theorem dM_init_198 : decode cM_init 198 = .ok (.putfield 41, 3) := by decide +kernel
theorem dM_init_201 : decode cM_init 201 = .ok (.aload_n 0, 1) := by decide +kernel
theorem dM_init_202 : decode cM_init 202 = .ok (.sipush 496, 3) := by decide +kernel
theorem dM_init_205 : decode cM_init 205 = .ok (.newarray .int, 2) := by decide +kernel
theorem dM_init_207 : decode cM_init 207 = .ok (.putfield 44, 3) := by decide +kernel
theorem dM_init_210 : decode cM_init 210 = .ok (.aload_n 0, 1) := by decide +kernel
theorem dM_init_211 : decode cM_init 211 = .ok (.sipush 496, 3) := by decide +kernel
theorem dM_init_214 : decode cM_init 214 = .ok (.newarray .int, 2) := by decide +kernel
theorem dM_init_216 : decode cM_init 216 = .ok (.putfield 47, 3) := by decide +kernel
theorem dM_init_219 : decode cM_init 219 = .ok (.aload_n 0, 1) := by decide +kernel
theorem dM_init_220 : decode cM_init 220 = .ok (.sipush 496, 3) := by decide +kernel
theorem dM_init_223 : decode cM_init 223 = .ok (.newarray .int, 2) := by decide +kernel
theorem dM_init_225 : decode cM_init 225 = .ok (.putfield 50, 3) := by decide +kernel
theorem dM_init_228 : decode cM_init 228 = .ok (.aload_n 0, 1) := by decide +kernel
theorem dM_init_229 : decode cM_init 229 = .ok (.sipush 496, 3) := by decide +kernel
theorem dM_init_232 : decode cM_init 232 = .ok (.newarray .int, 2) := by decide +kernel
theorem dM_init_234 : decode cM_init 234 = .ok (.putfield 53, 3) := by decide +kernel
theorem dM_init_237 : decode cM_init 237 = .ok (.aload_n 0, 1) := by decide +kernel
theorem dM_init_238 : decode cM_init 238 = .ok (.sipush 496, 3) := by decide +kernel
theorem dM_init_241 : decode cM_init 241 = .ok (.newarray .boolean, 2) := by decide +kernel
theorem dM_init_243 : decode cM_init 243 = .ok (.putfield 56, 3) := by decide +kernel
theorem dM_init_246 : decode cM_init 246 = .ok (.aload_n 0, 1) := by decide +kernel
theorem dM_init_247 : decode cM_init 247 = .ok (.ldc 59, 2) := by decide +kernel
theorem dM_init_249 : decode cM_init 249 = .ok (.newarray .int, 2) := by decide +kernel
theorem dM_init_251 : decode cM_init 251 = .ok (.putfield 60, 3) := by decide +kernel
theorem dM_init_254 : decode cM_init 254 = .ok (.aload_n 0, 1) := by decide +kernel
theorem dM_init_255 : decode cM_init 255 = .ok (.sipush 9424, 3) := by decide +kernel
theorem dM_init_258 : decode cM_init 258 = .ok (.newarray .int, 2) := by decide +kernel
theorem dM_init_260 : decode cM_init 260 = .ok (.putfield 63, 3) := by decide +kernel
theorem dM_init_263 : decode cM_init 263 = .ok (.aload_n 0, 1) := by decide +kernel
theorem dM_init_264 : decode cM_init 264 = .ok (.sipush 302, 3) := by decide +kernel
theorem dM_init_267 : decode cM_init 267 = .ok (.newarray .int, 2) := by decide +kernel
theorem dM_init_269 : decode cM_init 269 = .ok (.putfield 66, 3) := by decide +kernel
theorem dM_init_272 : decode cM_init 272 = .ok (.aload_n 0, 1) := by decide +kernel
theorem dM_init_273 : decode cM_init 273 = .ok (.sipush 302, 3) := by decide +kernel
theorem dM_init_276 : decode cM_init 276 = .ok (.newarray .int, 2) := by decide +kernel
theorem dM_init_278 : decode cM_init 278 = .ok (.putfield 69, 3) := by decide +kernel
theorem dM_init_281 : decode cM_init 281 = .ok (.aload_n 0, 1) := by decide +kernel
theorem dM_init_282 : decode cM_init 282 = .ok (.sipush 302, 3) := by decide +kernel
theorem dM_init_285 : decode cM_init 285 = .ok (.newarray .int, 2) := by decide +kernel
theorem dM_init_287 : decode cM_init 287 = .ok (.putfield 72, 3) := by decide +kernel
theorem dM_init_290 : decode cM_init 290 = .ok (.aload_n 0, 1) := by decide +kernel
theorem dM_init_291 : decode cM_init 291 = .ok (.sipush 302, 3) := by decide +kernel
theorem dM_init_294 : decode cM_init 294 = .ok (.newarray .int, 2) := by decide +kernel
theorem dM_init_296 : decode cM_init 296 = .ok (.putfield 75, 3) := by decide +kernel
theorem dM_init_299 : decode cM_init 299 = .ok (.aload_n 0, 1) := by decide +kernel
theorem dM_init_300 : decode cM_init 300 = .ok (.sipush 302, 3) := by decide +kernel
theorem dM_init_303 : decode cM_init 303 = .ok (.newarray .int, 2) := by decide +kernel
theorem dM_init_305 : decode cM_init 305 = .ok (.putfield 78, 3) := by decide +kernel
theorem dM_init_308 : decode cM_init 308 = .ok (.aload_n 0, 1) := by decide +kernel
theorem dM_init_309 : decode cM_init 309 = .ok (.sipush 302, 3) := by decide +kernel
theorem dM_init_312 : decode cM_init 312 = .ok (.newarray .int, 2) := by decide +kernel
theorem dM_init_314 : decode cM_init 314 = .ok (.putfield 81, 3) := by decide +kernel
theorem dM_init_317 : decode cM_init 317 = .ok (.aload_n 0, 1) := by decide +kernel
theorem dM_init_318 : decode cM_init 318 = .ok (.sipush 302, 3) := by decide +kernel
theorem dM_init_321 : decode cM_init 321 = .ok (.newarray .int, 2) := by decide +kernel
theorem dM_init_323 : decode cM_init 323 = .ok (.putfield 84, 3) := by decide +kernel
theorem dM_init_326 : decode cM_init 326 = .ok (.aload_n 0, 1) := by decide +kernel
theorem dM_init_327 : decode cM_init 327 = .ok (.sipush 302, 3) := by decide +kernel
theorem dM_init_330 : decode cM_init 330 = .ok (.newarray .int, 2) := by decide +kernel
theorem dM_init_332 : decode cM_init 332 = .ok (.putfield 87, 3) := by decide +kernel
theorem dM_init_335 : decode cM_init 335 = .ok (.aload_n 0, 1) := by decide +kernel
theorem dM_init_336 : decode cM_init 336 = .ok (.sipush 302, 3) := by decide +kernel
theorem dM_init_339 : decode cM_init 339 = .ok (.newarray .int, 2) := by decide +kernel
theorem dM_init_341 : decode cM_init 341 = .ok (.putfield 90, 3) := by decide +kernel
theorem dM_init_344 : decode cM_init 344 = .ok (.aload_n 0, 1) := by decide +kernel
theorem dM_init_345 : decode cM_init 345 = .ok (.sipush 302, 3) := by decide +kernel
theorem dM_init_348 : decode cM_init 348 = .ok (.newarray .int, 2) := by decide +kernel
theorem dM_init_350 : decode cM_init 350 = .ok (.putfield 93, 3) := by decide +kernel
theorem dM_init_353 : decode cM_init 353 = .ok (.aload_n 0, 1) := by decide +kernel
theorem dM_init_354 : decode cM_init 354 = .ok (.sipush 302, 3) := by decide +kernel
theorem dM_init_357 : decode cM_init 357 = .ok (.newarray .int, 2) := by decide +kernel
theorem dM_init_359 : decode cM_init 359 = .ok (.putfield 96, 3) := by decide +kernel
theorem dM_init_362 : decode cM_init 362 = .ok (.aload_n 0, 1) := by decide +kernel
theorem dM_init_363 : decode cM_init 363 = .ok (.bipush 19, 2) := by decide +kernel
theorem dM_init_365 : decode cM_init 365 = .ok (.newarray .int, 2) := by decide +kernel
theorem dM_init_367 : decode cM_init 367 = .ok (.putfield 99, 3) := by decide +kernel
theorem dM_init_370 : decode cM_init 370 = .ok (.aload_n 0, 1) := by decide +kernel
theorem dM_init_371 : decode cM_init 371 = .ok (.bipush 19, 2) := by decide +kernel
theorem dM_init_373 : decode cM_init 373 = .ok (.newarray .int, 2) := by decide +kernel
theorem dM_init_375 : decode cM_init 375 = .ok (.putfield 102, 3) := by decide +kernel
theorem dM_init_378 : decode cM_init 378 = .ok (.aload_n 0, 1) := by decide +kernel
theorem dM_init_379 : decode cM_init 379 = .ok (.bipush 19, 2) := by decide +kernel
theorem dM_init_381 : decode cM_init 381 = .ok (.newarray .int, 2) := by decide +kernel
theorem dM_init_383 : decode cM_init 383 = .ok (.putfield 105, 3) := by decide +kernel
theorem dM_init_386 : decode cM_init 386 = .ok (.aload_n 0, 1) := by decide +kernel
theorem dM_init_387 : decode cM_init 387 = .ok (.bipush 19, 2) := by decide +kernel
theorem dM_init_389 : decode cM_init 389 = .ok (.newarray .int, 2) := by decide +kernel
theorem dM_init_391 : decode cM_init 391 = .ok (.putfield 108, 3) := by decide +kernel
theorem dM_init_394 : decode cM_init 394 = .ok (.aload_n 0, 1) := by decide +kernel
theorem dM_init_395 : decode cM_init 395 = .ok (.bipush 19, 2) := by decide +kernel
theorem dM_init_397 : decode cM_init 397 = .ok (.newarray .int, 2) := by decide +kernel
theorem dM_init_399 : decode cM_init 399 = .ok (.putfield 111, 3) := by decide +kernel
theorem dM_init_402 : decode cM_init 402 = .ok (.aload_n 0, 1) := by decide +kernel
theorem dM_init_403 : decode cM_init 403 = .ok (.sipush 6336, 3) := by decide +kernel
theorem dM_init_406 : decode cM_init 406 = .ok (.newarray .int, 2) := by decide +kernel
theorem dM_init_408 : decode cM_init 408 = .ok (.putfield 114, 3) := by decide +kernel
theorem dM_init_411 : decode cM_init 411 = .ok (.aload_n 0, 1) := by decide +kernel
theorem dM_init_412 : decode cM_init 412 = .ok (.sipush 912, 3) := by decide +kernel
theorem dM_init_415 : decode cM_init 415 = .ok (.newarray .int, 2) := by decide +kernel
theorem dM_init_417 : decode cM_init 417 = .ok (.putfield 117, 3) := by decide +kernel
theorem dM_init_420 : decode cM_init 420 = .ok (.aload_n 0, 1) := by decide +kernel
theorem dM_init_421 : decode cM_init 421 = .ok (.sipush 6000, 3) := by decide +kernel
theorem dM_init_424 : decode cM_init 424 = .ok (.newarray .byte, 2) := by decide +kernel
theorem dM_init_426 : decode cM_init 426 = .ok (.putfield 120, 3) := by decide +kernel
theorem dM_init_429 : decode cM_init 429 = .ok (.aload_n 0, 1) := by decide +kernel
theorem dM_init_430 : decode cM_init 430 = .ok (.sipush 3000, 3) := by decide +kernel
theorem dM_init_433 : decode cM_init 433 = .ok (.newarray .byte, 2) := by decide +kernel
theorem dM_init_435 : decode cM_init 435 = .ok (.putfield 124, 3) := by decide +kernel
theorem dM_init_438 : decode cM_init 438 = .ok (.aload_n 0, 1) := by decide +kernel
theorem dM_init_439 : decode cM_init 439 = .ok (.bipush 12, 2) := by decide +kernel
theorem dM_init_441 : decode cM_init 441 = .ok (.newarray .long, 2) := by decide +kernel
theorem dM_init_443 : decode cM_init 443 = .ok (.putfield 127, 3) := by decide +kernel
theorem dM_init_446 : decode cM_init 446 = .ok (.aload_n 0, 1) := by decide +kernel
theorem dM_init_447 : decode cM_init 447 = .ok (.bipush 12, 2) := by decide +kernel
theorem dM_init_449 : decode cM_init 449 = .ok (.newarray .int, 2) := by decide +kernel
theorem dM_init_451 : decode cM_init 451 = .ok (.putfield 131, 3) := by decide +kernel
theorem dM_init_454 : decode cM_init 454 = .ok (.aload_n 0, 1) := by decide +kernel
theorem dM_init_455 : decode cM_init 455 = .ok (.bipush 12, 2) := by decide +kernel
theorem dM_init_457 : decode cM_init 457 = .ok (.newarray .int, 2) := by decide +kernel
theorem dM_init_459 : decode cM_init 459 = .ok (.putfield 134, 3) := by decide +kernel
theorem dM_init_462 : decode cM_init 462 = .ok (.aload_n 0, 1) := by decide +kernel
theorem dM_init_463 : decode cM_init 463 = .ok (.bipush 12, 2) := by decide +kernel
theorem dM_init_465 : decode cM_init 465 = .ok (.newarray .boolean, 2) := by decide +kernel
theorem dM_init_467 : decode cM_init 467 = .ok (.putfield 137, 3) := by decide +kernel
theorem dM_init_470 : decode cM_init 470 = .ok (.aload_n 0, 1) := by decide +kernel
theorem dM_init_471 : decode cM_init 471 = .ok (.iconst 1, 1) := by decide +kernel
theorem dM_init_472 : decode cM_init 472 = .ok (.invokevirtual 140, 3) := by decide +kernel
theorem dM_init_475 : decode cM_init 475 = .ok (.return_, 1) := by decide +kernel
