theorem dL_law_0 : decode code 0 = .ok (.new 8, 3) := by decide +kernel
theorem dL_law_3 : decode code 3 = .ok (.dup, 1) := by decide +kernel
theorem dL_law_4 : decode code 4 = .ok (.invokespecial 85, 3) := by decide +kernel
theorem dL_law_7 : decode code 7 = .ok (.astore_n 1, 1) := by decide +kernel
theorem dL_law_8 : decode code 8 = .ok (.new 86, 3) := by decide +kernel
theorem dL_law_11 : decode code 11 = .ok (.dup, 1) := by decide +kernel
theorem dL_law_12 : decode code 12 = .ok (.invokespecial 88, 3) := by decide +kernel
theorem dL_law_15 : decode code 15 = .ok (.astore_n 2, 1) := by decide +kernel
theorem dL_law_16 : decode code 16 = .ok (.iconst 1, 1) := by decide +kernel
theorem dL_law_17 : decode code 17 = .ok (.newarray .long, 2) := by decide +kernel
theorem dL_law_19 : decode code 19 = .ok (.astore_n 3, 1) := by decide +kernel
theorem dL_law_20 : decode code 20 = .ok (.iconst 0, 1) := by decide +kernel
theorem dL_law_21 : decode code 21 = .ok (.istore 4, 2) := by decide +kernel
theorem dL_law_23 : decode code 23 = .ok (.iload 4, 2) := by decide +kernel
theorem dL_law_25 : decode code 25 = .ok (.aload_n 0, 1) := by decide +kernel
theorem dL_law_26 : decode code 26 = .ok (.arraylength, 1) := by decide +kernel
theorem dL_law_27 : decode code 27 = .ok (.iconst 4, 1) := by decide +kernel
theorem dL_law_28 : decode code 28 = .ok (.isub, 1) := by decide +kernel
theorem dL_law_29 : decode code 29 = .ok (.if_icmp .gt 1667, 3) := by decide +kernel
theorem dL_law_32 : decode code 32 = .ok (.aload_n 0, 1) := by decide +kernel
theorem dL_law_33 : decode code 33 = .ok (.iload 4, 2) := by decide +kernel
theorem dL_law_35 : decode code 35 = .ok (.iaload, 1) := by decide +kernel
theorem dL_law_36 : decode code 36 = .ok (.bipush 31, 2) := by decide +kernel
theorem dL_law_38 : decode code 38 = .ok (.iand, 1) := by decide +kernel
theorem dL_law_39 : decode code 39 = .ok (.tableswitch 1651 0 23 #[109, 145, 201, 281, 349, 440, 536, 604, 672, 732, 780, 849, 905, 961, 1041, 1097, 1153, 1209, 1277, 1345, 1413, 1469, 1569, 1626], 109) := by decide +kernel
theorem dL_law_148 : decode code 148 = .ok (.aload_n 1, 1) := by decide +kernel
theorem dL_law_149 : decode code 149 = .ok (.aload_n 0, 1) := by decide +kernel
theorem dL_law_150 : decode code 150 = .ok (.iload 4, 2) := by decide +kernel
theorem dL_law_152 : decode code 152 = .ok (.iconst 1, 1) := by decide +kernel
theorem dL_law_153 : decode code 153 = .ok (.iadd, 1) := by decide +kernel
theorem dL_law_154 : decode code 154 = .ok (.iaload, 1) := by decide +kernel
theorem dL_law_155 : decode code 155 = .ok (.invokestatic 89, 3) := by decide +kernel
theorem dL_law_158 : decode code 158 = .ok (.istore 5, 2) := by decide +kernel
theorem dL_law_160 : decode code 160 = .ok (.aload_n 2, 1) := by decide +kernel
theorem dL_law_161 : decode code 161 = .ok (.aload_n 0, 1) := by decide +kernel
theorem dL_law_162 : decode code 162 = .ok (.iload 4, 2) := by decide +kernel
theorem dL_law_164 : decode code 164 = .ok (.iconst 1, 1) := by decide +kernel
theorem dL_law_165 : decode code 165 = .ok (.iadd, 1) := by decide +kernel
theorem dL_law_166 : decode code 166 = .ok (.iaload, 1) := by decide +kernel
theorem dL_law_167 : decode code 167 = .ok (.invokevirtual 94, 3) := by decide +kernel
theorem dL_law_170 : decode code 170 = .ok (.aload_n 2, 1) := by decide +kernel
theorem dL_law_171 : decode code 171 = .ok (.invokevirtual 95, 3) := by decide +kernel
theorem dL_law_174 : decode code 174 = .ok (.iload 5, 2) := by decide +kernel
theorem dL_law_176 : decode code 176 = .ok (.if_icmp .eq 5, 3) := by decide +kernel
theorem dL_law_179 : decode code 179 = .ok (.iconst 0, 1) := by decide +kernel
theorem dL_law_180 : decode code 180 = .ok (.ireturn, 1) := by decide +kernel
theorem dL_law_181 : decode code 181 = .ok (.goto 1509, 3) := by decide +kernel
theorem dL_law_184 : decode code 184 = .ok (.aload_n 1, 1) := by decide +kernel
theorem dL_law_185 : decode code 185 = .ok (.aload_n 0, 1) := by decide +kernel
theorem dL_law_186 : decode code 186 = .ok (.iload 4, 2) := by decide +kernel
theorem dL_law_188 : decode code 188 = .ok (.iconst 1, 1) := by decide +kernel
theorem dL_law_189 : decode code 189 = .ok (.iadd, 1) := by decide +kernel
theorem dL_law_190 : decode code 190 = .ok (.iaload, 1) := by decide +kernel
theorem dL_law_191 : decode code 191 = .ok (.aload_n 3, 1) := by decide +kernel
theorem dL_law_192 : decode code 192 = .ok (.invokestatic 99, 3) := by decide +kernel
theorem dL_law_195 : decode code 195 = .ok (.istore 5, 2) := by decide +kernel
theorem dL_law_197 : decode code 197 = .ok (.aload_n 2, 1) := by decide +kernel
theorem dL_law_198 : decode code 198 = .ok (.aload_n 0, 1) := by decide +kernel
theorem dL_law_199 : decode code 199 = .ok (.iload 4, 2) := by decide +kernel
theorem dL_law_201 : decode code 201 = .ok (.iconst 1, 1) := by decide +kernel
theorem dL_law_202 : decode code 202 = .ok (.iadd, 1) := by decide +kernel
theorem dL_law_203 : decode code 203 = .ok (.iaload, 1) := by decide +kernel
theorem dL_law_204 : decode code 204 = .ok (.invokevirtual 102, 3) := by decide +kernel
theorem dL_law_207 : decode code 207 = .ok (.istore 6, 2) := by decide +kernel
theorem dL_law_209 : decode code 209 = .ok (.aload_n 2, 1) := by decide +kernel
theorem dL_law_210 : decode code 210 = .ok (.invokevirtual 95, 3) := by decide +kernel
theorem dL_law_213 : decode code 213 = .ok (.iload 5, 2) := by decide +kernel
theorem dL_law_215 : decode code 215 = .ok (.if_icmp .eq 5, 3) := by decide +kernel
theorem dL_law_218 : decode code 218 = .ok (.iconst 0, 1) := by decide +kernel
theorem dL_law_219 : decode code 219 = .ok (.ireturn, 1) := by decide +kernel
theorem dL_law_220 : decode code 220 = .ok (.iload 5, 2) := by decide +kernel
theorem dL_law_222 : decode code 222 = .ok (.ifCond .ne 15, 3) := by decide +kernel
theorem dL_law_225 : decode code 225 = .ok (.aload_n 3, 1) := by decide +kernel
theorem dL_law_226 : decode code 226 = .ok (.iconst 0, 1) := by decide +kernel
theorem dL_law_227 : decode code 227 = .ok (.laload, 1) := by decide +kernel
theorem dL_law_228 : decode code 228 = .ok (.iload 6, 2) := by decide +kernel
theorem dL_law_230 : decode code 230 = .ok (.i2l, 1) := by decide +kernel
theorem dL_law_231 : decode code 231 = .ok (.lcmp, 1) := by decide +kernel
theorem dL_law_232 : decode code 232 = .ok (.ifCond .eq 5, 3) := by decide +kernel
theorem dL_law_235 : decode code 235 = .ok (.iconst 0, 1) := by decide +kernel
theorem dL_law_236 : decode code 236 = .ok (.ireturn, 1) := by decide +kernel
theorem dL_law_237 : decode code 237 = .ok (.goto 1453, 3) := by decide +kernel
theorem dL_law_240 : decode code 240 = .ok (.aload_n 1, 1) := by decide +kernel
theorem dL_law_241 : decode code 241 = .ok (.aload_n 0, 1) := by decide +kernel
theorem dL_law_242 : decode code 242 = .ok (.iload 4, 2) := by decide +kernel
theorem dL_law_244 : decode code 244 = .ok (.iconst 1, 1) := by decide +kernel
theorem dL_law_245 : decode code 245 = .ok (.iadd, 1) := by decide +kernel
theorem dL_law_246 : decode code 246 = .ok (.iaload, 1) := by decide +kernel
theorem dL_law_247 : decode code 247 = .ok (.aload_n 0, 1) := by decide +kernel
theorem dL_law_248 : decode code 248 = .ok (.iload 4, 2) := by decide +kernel
theorem dL_law_250 : decode code 250 = .ok (.iconst 2, 1) := by decide +kernel
theorem dL_law_251 : decode code 251 = .ok (.iadd, 1) := by decide +kernel
theorem dL_law_252 : decode code 252 = .ok (.iaload, 1) := by decide +kernel
theorem dL_law_253 : decode code 253 = .ok (.aload_n 0, 1) := by decide +kernel
theorem dL_law_254 : decode code 254 = .ok (.iload 4, 2) := by decide +kernel
theorem dL_law_256 : decode code 256 = .ok (.iconst 3, 1) := by decide +kernel
theorem dL_law_257 : decode code 257 = .ok (.iadd, 1) := by decide +kernel
theorem dL_law_258 : decode code 258 = .ok (.iaload, 1) := by decide +kernel
theorem dL_law_259 : decode code 259 = .ok (.aload_n 3, 1) := by decide +kernel
theorem dL_law_260 : decode code 260 = .ok (.invokestatic 103, 3) := by decide +kernel
theorem dL_law_263 : decode code 263 = .ok (.istore 5, 2) := by decide +kernel
theorem dL_law_265 : decode code 265 = .ok (.aload_n 2, 1) := by decide +kernel
theorem dL_law_266 : decode code 266 = .ok (.aload_n 0, 1) := by decide +kernel
theorem dL_law_267 : decode code 267 = .ok (.iload 4, 2) := by decide +kernel
theorem dL_law_269 : decode code 269 = .ok (.iconst 1, 1) := by decide +kernel
theorem dL_law_270 : decode code 270 = .ok (.iadd, 1) := by decide +kernel
theorem dL_law_271 : decode code 271 = .ok (.iaload, 1) := by decide +kernel
theorem dL_law_272 : decode code 272 = .ok (.aload_n 0, 1) := by decide +kernel
theorem dL_law_273 : decode code 273 = .ok (.iload 4, 2) := by decide +kernel
theorem dL_law_275 : decode code 275 = .ok (.iconst 2, 1) := by decide +kernel
theorem dL_law_276 : decode code 276 = .ok (.iadd, 1) := by decide +kernel
theorem dL_law_277 : decode code 277 = .ok (.iaload, 1) := by decide +kernel
theorem dL_law_278 : decode code 278 = .ok (.aload_n 0, 1) := by decide +kernel
theorem dL_law_279 : decode code 279 = .ok (.iload 4, 2) := by decide +kernel
theorem dL_law_281 : decode code 281 = .ok (.iconst 3, 1) := by decide +kernel
theorem dL_law_282 : decode code 282 = .ok (.iadd, 1) := by decide +kernel
theorem dL_law_283 : decode code 283 = .ok (.iaload, 1) := by decide +kernel
theorem dL_law_284 : decode code 284 = .ok (.invokevirtual 106, 3) := by decide +kernel
theorem dL_law_287 : decode code 287 = .ok (.istore 6, 2) := by decide +kernel
theorem dL_law_289 : decode code 289 = .ok (.aload_n 2, 1) := by decide +kernel
theorem dL_law_290 : decode code 290 = .ok (.invokevirtual 95, 3) := by decide +kernel
theorem dL_law_293 : decode code 293 = .ok (.iload 5, 2) := by decide +kernel
theorem dL_law_295 : decode code 295 = .ok (.if_icmp .eq 5, 3) := by decide +kernel
theorem dL_law_298 : decode code 298 = .ok (.iconst 0, 1) := by decide +kernel
theorem dL_law_299 : decode code 299 = .ok (.ireturn, 1) := by decide +kernel
theorem dL_law_300 : decode code 300 = .ok (.iload 5, 2) := by decide +kernel
theorem dL_law_302 : decode code 302 = .ok (.ifCond .ne 15, 3) := by decide +kernel
theorem dL_law_305 : decode code 305 = .ok (.aload_n 3, 1) := by decide +kernel
theorem dL_law_306 : decode code 306 = .ok (.iconst 0, 1) := by decide +kernel
theorem dL_law_307 : decode code 307 = .ok (.laload, 1) := by decide +kernel
theorem dL_law_308 : decode code 308 = .ok (.iload 6, 2) := by decide +kernel
theorem dL_law_310 : decode code 310 = .ok (.i2l, 1) := by decide +kernel
theorem dL_law_311 : decode code 311 = .ok (.lcmp, 1) := by decide +kernel
theorem dL_law_312 : decode code 312 = .ok (.ifCond .eq 5, 3) := by decide +kernel
theorem dL_law_315 : decode code 315 = .ok (.iconst 0, 1) := by decide +kernel
theorem dL_law_316 : decode code 316 = .ok (.ireturn, 1) := by decide +kernel
theorem dL_law_317 : decode code 317 = .ok (.goto 1373, 3) := by decide +kernel
theorem dL_law_320 : decode code 320 = .ok (.aload_n 1, 1) := by decide +kernel
theorem dL_law_321 : decode code 321 = .ok (.aload_n 0, 1) := by decide +kernel
theorem dL_law_322 : decode code 322 = .ok (.iload 4, 2) := by decide +kernel
theorem dL_law_324 : decode code 324 = .ok (.iconst 1, 1) := by decide +kernel
theorem dL_law_325 : decode code 325 = .ok (.iadd, 1) := by decide +kernel
theorem dL_law_326 : decode code 326 = .ok (.iaload, 1) := by decide +kernel
theorem dL_law_327 : decode code 327 = .ok (.aload_n 0, 1) := by decide +kernel
theorem dL_law_328 : decode code 328 = .ok (.iload 4, 2) := by decide +kernel
theorem dL_law_330 : decode code 330 = .ok (.iconst 2, 1) := by decide +kernel
theorem dL_law_331 : decode code 331 = .ok (.iadd, 1) := by decide +kernel
theorem dL_law_332 : decode code 332 = .ok (.iaload, 1) := by decide +kernel
theorem dL_law_333 : decode code 333 = .ok (.aload_n 3, 1) := by decide +kernel
theorem dL_law_334 : decode code 334 = .ok (.invokestatic 107, 3) := by decide +kernel
theorem dL_law_337 : decode code 337 = .ok (.istore 5, 2) := by decide +kernel
theorem dL_law_339 : decode code 339 = .ok (.aload_n 2, 1) := by decide +kernel
theorem dL_law_340 : decode code 340 = .ok (.aload_n 0, 1) := by decide +kernel
theorem dL_law_341 : decode code 341 = .ok (.iload 4, 2) := by decide +kernel
theorem dL_law_343 : decode code 343 = .ok (.iconst 1, 1) := by decide +kernel
theorem dL_law_344 : decode code 344 = .ok (.iadd, 1) := by decide +kernel
theorem dL_law_345 : decode code 345 = .ok (.iaload, 1) := by decide +kernel
theorem dL_law_346 : decode code 346 = .ok (.aload_n 0, 1) := by decide +kernel
theorem dL_law_347 : decode code 347 = .ok (.iload 4, 2) := by decide +kernel
theorem dL_law_349 : decode code 349 = .ok (.iconst 2, 1) := by decide +kernel
theorem dL_law_350 : decode code 350 = .ok (.iadd, 1) := by decide +kernel
theorem dL_law_351 : decode code 351 = .ok (.iaload, 1) := by decide +kernel
theorem dL_law_352 : decode code 352 = .ok (.invokevirtual 110, 3) := by decide +kernel
theorem dL_law_355 : decode code 355 = .ok (.istore 6, 2) := by decide +kernel
theorem dL_law_357 : decode code 357 = .ok (.aload_n 2, 1) := by decide +kernel
theorem dL_law_358 : decode code 358 = .ok (.invokevirtual 95, 3) := by decide +kernel
theorem dL_law_361 : decode code 361 = .ok (.iload 5, 2) := by decide +kernel
theorem dL_law_363 : decode code 363 = .ok (.if_icmp .eq 5, 3) := by decide +kernel
theorem dL_law_366 : decode code 366 = .ok (.iconst 0, 1) := by decide +kernel
theorem dL_law_367 : decode code 367 = .ok (.ireturn, 1) := by decide +kernel
theorem dL_law_368 : decode code 368 = .ok (.iload 5, 2) := by decide +kernel
theorem dL_law_370 : decode code 370 = .ok (.ifCond .ne 15, 3) := by decide +kernel
theorem dL_law_373 : decode code 373 = .ok (.aload_n 3, 1) := by decide +kernel
theorem dL_law_374 : decode code 374 = .ok (.iconst 0, 1) := by decide +kernel
theorem dL_law_375 : decode code 375 = .ok (.laload, 1) := by decide +kernel
theorem dL_law_376 : decode code 376 = .ok (.iload 6, 2) := by decide +kernel
theorem dL_law_378 : decode code 378 = .ok (.i2l, 1) := by decide +kernel
theorem dL_law_379 : decode code 379 = .ok (.lcmp, 1) := by decide +kernel
theorem dL_law_380 : decode code 380 = .ok (.ifCond .eq 5, 3) := by decide +kernel
theorem dL_law_383 : decode code 383 = .ok (.iconst 0, 1) := by decide +kernel
theorem dL_law_384 : decode code 384 = .ok (.ireturn, 1) := by decide +kernel
theorem dL_law_385 : decode code 385 = .ok (.goto 1305, 3) := by decide +kernel
theorem dL_law_388 : decode code 388 = .ok (.aload_n 1, 1) := by decide +kernel
theorem dL_law_389 : decode code 389 = .ok (.aload_n 0, 1) := by decide +kernel
theorem dL_law_390 : decode code 390 = .ok (.iload 4, 2) := by decide +kernel
theorem dL_law_392 : decode code 392 = .ok (.iconst 1, 1) := by decide +kernel
theorem dL_law_393 : decode code 393 = .ok (.iadd, 1) := by decide +kernel
theorem dL_law_394 : decode code 394 = .ok (.iaload, 1) := by decide +kernel
theorem dL_law_395 : decode code 395 = .ok (.aload_n 0, 1) := by decide +kernel
theorem dL_law_396 : decode code 396 = .ok (.iload 4, 2) := by decide +kernel
theorem dL_law_398 : decode code 398 = .ok (.iconst 2, 1) := by decide +kernel
theorem dL_law_399 : decode code 399 = .ok (.iadd, 1) := by decide +kernel
theorem dL_law_400 : decode code 400 = .ok (.iaload, 1) := by decide +kernel
theorem dL_law_401 : decode code 401 = .ok (.ifCond .eq 7, 3) := by decide +kernel
theorem dL_law_404 : decode code 404 = .ok (.iconst 1, 1) := by decide +kernel
theorem dL_law_405 : decode code 405 = .ok (.goto 4, 3) := by decide +kernel
theorem dL_law_408 : decode code 408 = .ok (.iconst 0, 1) := by decide +kernel
theorem dL_law_409 : decode code 409 = .ok (.aload_n 3, 1) := by decide +kernel
theorem dL_law_410 : decode code 410 = .ok (.invokestatic 111, 3) := by decide +kernel
theorem dL_law_413 : decode code 413 = .ok (.istore 5, 2) := by decide +kernel
theorem dL_law_415 : decode code 415 = .ok (.aload_n 2, 1) := by decide +kernel
theorem dL_law_416 : decode code 416 = .ok (.aload_n 0, 1) := by decide +kernel
theorem dL_law_417 : decode code 417 = .ok (.iload 4, 2) := by decide +kernel
theorem dL_law_419 : decode code 419 = .ok (.iconst 1, 1) := by decide +kernel
theorem dL_law_420 : decode code 420 = .ok (.iadd, 1) := by decide +kernel
theorem dL_law_421 : decode code 421 = .ok (.iaload, 1) := by decide +kernel
theorem dL_law_422 : decode code 422 = .ok (.aload_n 0, 1) := by decide +kernel
theorem dL_law_423 : decode code 423 = .ok (.iload 4, 2) := by decide +kernel
theorem dL_law_425 : decode code 425 = .ok (.iconst 2, 1) := by decide +kernel
theorem dL_law_426 : decode code 426 = .ok (.iadd, 1) := by decide +kernel
theorem dL_law_427 : decode code 427 = .ok (.iaload, 1) := by decide +kernel
theorem dL_law_428 : decode code 428 = .ok (.ifCond .eq 7, 3) := by decide +kernel
theorem dL_law_431 : decode code 431 = .ok (.iconst 1, 1) := by decide +kernel
theorem dL_law_432 : decode code 432 = .ok (.goto 4, 3) := by decide +kernel
theorem dL_law_435 : decode code 435 = .ok (.iconst 0, 1) := by decide +kernel
theorem dL_law_436 : decode code 436 = .ok (.invokevirtual 114, 3) := by decide +kernel
theorem dL_law_439 : decode code 439 = .ok (.istore 6, 2) := by decide +kernel
theorem dL_law_441 : decode code 441 = .ok (.aload_n 2, 1) := by decide +kernel
theorem dL_law_442 : decode code 442 = .ok (.invokevirtual 95, 3) := by decide +kernel
theorem dL_law_445 : decode code 445 = .ok (.iload 5, 2) := by decide +kernel
theorem dL_law_447 : decode code 447 = .ok (.if_icmp .eq 5, 3) := by decide +kernel
theorem dL_law_450 : decode code 450 = .ok (.iconst 0, 1) := by decide +kernel
theorem dL_law_451 : decode code 451 = .ok (.ireturn, 1) := by decide +kernel
theorem dL_law_452 : decode code 452 = .ok (.iload 5, 2) := by decide +kernel
theorem dL_law_454 : decode code 454 = .ok (.ifCond .ne 22, 3) := by decide +kernel
theorem dL_law_457 : decode code 457 = .ok (.aload_n 3, 1) := by decide +kernel
theorem dL_law_458 : decode code 458 = .ok (.iconst 0, 1) := by decide +kernel
theorem dL_law_459 : decode code 459 = .ok (.laload, 1) := by decide +kernel
theorem dL_law_460 : decode code 460 = .ok (.iload 6, 2) := by decide +kernel
theorem dL_law_462 : decode code 462 = .ok (.ifCond .eq 7, 3) := by decide +kernel
theorem dL_law_465 : decode code 465 = .ok (.lconst 1, 1) := by decide +kernel
theorem dL_law_466 : decode code 466 = .ok (.goto 4, 3) := by decide +kernel
theorem dL_law_469 : decode code 469 = .ok (.lconst 0, 1) := by decide +kernel
theorem dL_law_470 : decode code 470 = .ok (.lcmp, 1) := by decide +kernel
theorem dL_law_471 : decode code 471 = .ok (.ifCond .eq 5, 3) := by decide +kernel
theorem dL_law_474 : decode code 474 = .ok (.iconst 0, 1) := by decide +kernel
theorem dL_law_475 : decode code 475 = .ok (.ireturn, 1) := by decide +kernel
theorem dL_law_476 : decode code 476 = .ok (.goto 1214, 3) := by decide +kernel
theorem dL_law_479 : decode code 479 = .ok (.aload_n 1, 1) := by decide +kernel
theorem dL_law_480 : decode code 480 = .ok (.aload_n 0, 1) := by decide +kernel
theorem dL_law_481 : decode code 481 = .ok (.iload 4, 2) := by decide +kernel
theorem dL_law_483 : decode code 483 = .ok (.iconst 1, 1) := by decide +kernel
theorem dL_law_484 : decode code 484 = .ok (.iadd, 1) := by decide +kernel
theorem dL_law_485 : decode code 485 = .ok (.iaload, 1) := by decide +kernel
theorem dL_law_486 : decode code 486 = .ok (.aload_n 0, 1) := by decide +kernel
theorem dL_law_487 : decode code 487 = .ok (.iload 4, 2) := by decide +kernel
theorem dL_law_489 : decode code 489 = .ok (.iconst 2, 1) := by decide +kernel
theorem dL_law_490 : decode code 490 = .ok (.iadd, 1) := by decide +kernel
theorem dL_law_491 : decode code 491 = .ok (.iaload, 1) := by decide +kernel
theorem dL_law_492 : decode code 492 = .ok (.ifCond .eq 7, 3) := by decide +kernel
theorem dL_law_495 : decode code 495 = .ok (.iconst 1, 1) := by decide +kernel
theorem dL_law_496 : decode code 496 = .ok (.goto 4, 3) := by decide +kernel
theorem dL_law_499 : decode code 499 = .ok (.iconst 0, 1) := by decide +kernel
theorem dL_law_500 : decode code 500 = .ok (.aload_n 0, 1) := by decide +kernel
theorem dL_law_501 : decode code 501 = .ok (.iload 4, 2) := by decide +kernel
theorem dL_law_503 : decode code 503 = .ok (.iconst 3, 1) := by decide +kernel
theorem dL_law_504 : decode code 504 = .ok (.iadd, 1) := by decide +kernel
theorem dL_law_505 : decode code 505 = .ok (.iaload, 1) := by decide +kernel
theorem dL_law_506 : decode code 506 = .ok (.aload_n 3, 1) := by decide +kernel
theorem dL_law_507 : decode code 507 = .ok (.invokestatic 115, 3) := by decide +kernel
theorem dL_law_510 : decode code 510 = .ok (.istore 5, 2) := by decide +kernel
theorem dL_law_512 : decode code 512 = .ok (.aload_n 2, 1) := by decide +kernel
theorem dL_law_513 : decode code 513 = .ok (.aload_n 0, 1) := by decide +kernel
theorem dL_law_514 : decode code 514 = .ok (.iload 4, 2) := by decide +kernel
theorem dL_law_516 : decode code 516 = .ok (.iconst 1, 1) := by decide +kernel
theorem dL_law_517 : decode code 517 = .ok (.iadd, 1) := by decide +kernel
theorem dL_law_518 : decode code 518 = .ok (.iaload, 1) := by decide +kernel
theorem dL_law_519 : decode code 519 = .ok (.aload_n 0, 1) := by decide +kernel
theorem dL_law_520 : decode code 520 = .ok (.iload 4, 2) := by decide +kernel
theorem dL_law_522 : decode code 522 = .ok (.iconst 2, 1) := by decide +kernel
theorem dL_law_523 : decode code 523 = .ok (.iadd, 1) := by decide +kernel
theorem dL_law_524 : decode code 524 = .ok (.iaload, 1) := by decide +kernel
theorem dL_law_525 : decode code 525 = .ok (.ifCond .eq 7, 3) := by decide +kernel
theorem dL_law_528 : decode code 528 = .ok (.iconst 1, 1) := by decide +kernel
theorem dL_law_529 : decode code 529 = .ok (.goto 4, 3) := by decide +kernel
theorem dL_law_532 : decode code 532 = .ok (.iconst 0, 1) := by decide +kernel
theorem dL_law_533 : decode code 533 = .ok (.aload_n 0, 1) := by decide +kernel
theorem dL_law_534 : decode code 534 = .ok (.iload 4, 2) := by decide +kernel
theorem dL_law_536 : decode code 536 = .ok (.iconst 3, 1) := by decide +kernel
theorem dL_law_537 : decode code 537 = .ok (.iadd, 1) := by decide +kernel
theorem dL_law_538 : decode code 538 = .ok (.iaload, 1) := by decide +kernel
theorem dL_law_539 : decode code 539 = .ok (.invokevirtual 118, 3) := by decide +kernel
theorem dL_law_542 : decode code 542 = .ok (.istore 6, 2) := by decide +kernel
theorem dL_law_544 : decode code 544 = .ok (.aload_n 2, 1) := by decide +kernel
theorem dL_law_545 : decode code 545 = .ok (.invokevirtual 95, 3) := by decide +kernel
theorem dL_law_548 : decode code 548 = .ok (.iload 5, 2) := by decide +kernel
theorem dL_law_550 : decode code 550 = .ok (.if_icmp .eq 5, 3) := by decide +kernel
theorem dL_law_553 : decode code 553 = .ok (.iconst 0, 1) := by decide +kernel
theorem dL_law_554 : decode code 554 = .ok (.ireturn, 1) := by decide +kernel
theorem dL_law_555 : decode code 555 = .ok (.iload 5, 2) := by decide +kernel
theorem dL_law_557 : decode code 557 = .ok (.ifCond .ne 15, 3) := by decide +kernel
theorem dL_law_560 : decode code 560 = .ok (.aload_n 3, 1) := by decide +kernel
theorem dL_law_561 : decode code 561 = .ok (.iconst 0, 1) := by decide +kernel
theorem dL_law_562 : decode code 562 = .ok (.laload, 1) := by decide +kernel
theorem dL_law_563 : decode code 563 = .ok (.iload 6, 2) := by decide +kernel
theorem dL_law_565 : decode code 565 = .ok (.i2l, 1) := by decide +kernel
theorem dL_law_566 : decode code 566 = .ok (.lcmp, 1) := by decide +kernel
theorem dL_law_567 : decode code 567 = .ok (.ifCond .eq 5, 3) := by decide +kernel
theorem dL_law_570 : decode code 570 = .ok (.iconst 0, 1) := by decide +kernel
theorem dL_law_571 : decode code 571 = .ok (.ireturn, 1) := by decide +kernel
theorem dL_law_572 : decode code 572 = .ok (.goto 1118, 3) := by decide +kernel
theorem dL_law_575 : decode code 575 = .ok (.aload_n 1, 1) := by decide +kernel
theorem dL_law_576 : decode code 576 = .ok (.aload_n 0, 1) := by decide +kernel
theorem dL_law_577 : decode code 577 = .ok (.iload 4, 2) := by decide +kernel
theorem dL_law_579 : decode code 579 = .ok (.iconst 1, 1) := by decide +kernel
theorem dL_law_580 : decode code 580 = .ok (.iadd, 1) := by decide +kernel
theorem dL_law_581 : decode code 581 = .ok (.iaload, 1) := by decide +kernel
theorem dL_law_582 : decode code 582 = .ok (.aload_n 0, 1) := by decide +kernel
theorem dL_law_583 : decode code 583 = .ok (.iload 4, 2) := by decide +kernel
theorem dL_law_585 : decode code 585 = .ok (.iconst 2, 1) := by decide +kernel
theorem dL_law_586 : decode code 586 = .ok (.iadd, 1) := by decide +kernel
theorem dL_law_587 : decode code 587 = .ok (.iaload, 1) := by decide +kernel
theorem dL_law_588 : decode code 588 = .ok (.aload_n 3, 1) := by decide +kernel
theorem dL_law_589 : decode code 589 = .ok (.invokestatic 119, 3) := by decide +kernel
theorem dL_law_592 : decode code 592 = .ok (.istore 5, 2) := by decide +kernel
theorem dL_law_594 : decode code 594 = .ok (.aload_n 2, 1) := by decide +kernel
theorem dL_law_595 : decode code 595 = .ok (.aload_n 0, 1) := by decide +kernel
theorem dL_law_596 : decode code 596 = .ok (.iload 4, 2) := by decide +kernel
theorem dL_law_598 : decode code 598 = .ok (.iconst 1, 1) := by decide +kernel
theorem dL_law_599 : decode code 599 = .ok (.iadd, 1) := by decide +kernel
theorem dL_law_600 : decode code 600 = .ok (.iaload, 1) := by decide +kernel
theorem dL_law_601 : decode code 601 = .ok (.aload_n 0, 1) := by decide +kernel
theorem dL_law_602 : decode code 602 = .ok (.iload 4, 2) := by decide +kernel
theorem dL_law_604 : decode code 604 = .ok (.iconst 2, 1) := by decide +kernel
theorem dL_law_605 : decode code 605 = .ok (.iadd, 1) := by decide +kernel
theorem dL_law_606 : decode code 606 = .ok (.iaload, 1) := by decide +kernel
theorem dL_law_607 : decode code 607 = .ok (.invokevirtual 121, 3) := by decide +kernel
theorem dL_law_610 : decode code 610 = .ok (.istore 6, 2) := by decide +kernel
theorem dL_law_612 : decode code 612 = .ok (.aload_n 2, 1) := by decide +kernel
theorem dL_law_613 : decode code 613 = .ok (.invokevirtual 95, 3) := by decide +kernel
theorem dL_law_616 : decode code 616 = .ok (.iload 5, 2) := by decide +kernel
theorem dL_law_618 : decode code 618 = .ok (.if_icmp .eq 5, 3) := by decide +kernel
theorem dL_law_621 : decode code 621 = .ok (.iconst 0, 1) := by decide +kernel
theorem dL_law_622 : decode code 622 = .ok (.ireturn, 1) := by decide +kernel
theorem dL_law_623 : decode code 623 = .ok (.iload 5, 2) := by decide +kernel
theorem dL_law_625 : decode code 625 = .ok (.ifCond .ne 15, 3) := by decide +kernel
theorem dL_law_628 : decode code 628 = .ok (.aload_n 3, 1) := by decide +kernel
theorem dL_law_629 : decode code 629 = .ok (.iconst 0, 1) := by decide +kernel
theorem dL_law_630 : decode code 630 = .ok (.laload, 1) := by decide +kernel
theorem dL_law_631 : decode code 631 = .ok (.iload 6, 2) := by decide +kernel
theorem dL_law_633 : decode code 633 = .ok (.i2l, 1) := by decide +kernel
theorem dL_law_634 : decode code 634 = .ok (.lcmp, 1) := by decide +kernel
theorem dL_law_635 : decode code 635 = .ok (.ifCond .eq 5, 3) := by decide +kernel
theorem dL_law_638 : decode code 638 = .ok (.iconst 0, 1) := by decide +kernel
theorem dL_law_639 : decode code 639 = .ok (.ireturn, 1) := by decide +kernel
theorem dL_law_640 : decode code 640 = .ok (.goto 1050, 3) := by decide +kernel
theorem dL_law_643 : decode code 643 = .ok (.aload_n 1, 1) := by decide +kernel
theorem dL_law_644 : decode code 644 = .ok (.aload_n 0, 1) := by decide +kernel
theorem dL_law_645 : decode code 645 = .ok (.iload 4, 2) := by decide +kernel
theorem dL_law_647 : decode code 647 = .ok (.iconst 1, 1) := by decide +kernel
theorem dL_law_648 : decode code 648 = .ok (.iadd, 1) := by decide +kernel
theorem dL_law_649 : decode code 649 = .ok (.iaload, 1) := by decide +kernel
theorem dL_law_650 : decode code 650 = .ok (.aload_n 0, 1) := by decide +kernel
theorem dL_law_651 : decode code 651 = .ok (.iload 4, 2) := by decide +kernel
theorem dL_law_653 : decode code 653 = .ok (.iconst 2, 1) := by decide +kernel
theorem dL_law_654 : decode code 654 = .ok (.iadd, 1) := by decide +kernel
theorem dL_law_655 : decode code 655 = .ok (.iaload, 1) := by decide +kernel
theorem dL_law_656 : decode code 656 = .ok (.aload_n 3, 1) := by decide +kernel
theorem dL_law_657 : decode code 657 = .ok (.invokestatic 122, 3) := by decide +kernel
theorem dL_law_660 : decode code 660 = .ok (.istore 5, 2) := by decide +kernel
theorem dL_law_662 : decode code 662 = .ok (.aload_n 2, 1) := by decide +kernel
theorem dL_law_663 : decode code 663 = .ok (.aload_n 0, 1) := by decide +kernel
theorem dL_law_664 : decode code 664 = .ok (.iload 4, 2) := by decide +kernel
theorem dL_law_666 : decode code 666 = .ok (.iconst 1, 1) := by decide +kernel
theorem dL_law_667 : decode code 667 = .ok (.iadd, 1) := by decide +kernel
theorem dL_law_668 : decode code 668 = .ok (.iaload, 1) := by decide +kernel
theorem dL_law_669 : decode code 669 = .ok (.aload_n 0, 1) := by decide +kernel
theorem dL_law_670 : decode code 670 = .ok (.iload 4, 2) := by decide +kernel
theorem dL_law_672 : decode code 672 = .ok (.iconst 2, 1) := by decide +kernel
theorem dL_law_673 : decode code 673 = .ok (.iadd, 1) := by decide +kernel
theorem dL_law_674 : decode code 674 = .ok (.iaload, 1) := by decide +kernel
theorem dL_law_675 : decode code 675 = .ok (.invokevirtual 124, 3) := by decide +kernel
theorem dL_law_678 : decode code 678 = .ok (.istore 6, 2) := by decide +kernel
theorem dL_law_680 : decode code 680 = .ok (.aload_n 2, 1) := by decide +kernel
theorem dL_law_681 : decode code 681 = .ok (.invokevirtual 95, 3) := by decide +kernel
theorem dL_law_684 : decode code 684 = .ok (.iload 5, 2) := by decide +kernel
theorem dL_law_686 : decode code 686 = .ok (.if_icmp .eq 5, 3) := by decide +kernel
theorem dL_law_689 : decode code 689 = .ok (.iconst 0, 1) := by decide +kernel
theorem dL_law_690 : decode code 690 = .ok (.ireturn, 1) := by decide +kernel
theorem dL_law_691 : decode code 691 = .ok (.iload 5, 2) := by decide +kernel
theorem dL_law_693 : decode code 693 = .ok (.ifCond .ne 15, 3) := by decide +kernel
theorem dL_law_696 : decode code 696 = .ok (.aload_n 3, 1) := by decide +kernel
theorem dL_law_697 : decode code 697 = .ok (.iconst 0, 1) := by decide +kernel
theorem dL_law_698 : decode code 698 = .ok (.laload, 1) := by decide +kernel
theorem dL_law_699 : decode code 699 = .ok (.iload 6, 2) := by decide +kernel
theorem dL_law_701 : decode code 701 = .ok (.i2l, 1) := by decide +kernel
theorem dL_law_702 : decode code 702 = .ok (.lcmp, 1) := by decide +kernel
theorem dL_law_703 : decode code 703 = .ok (.ifCond .eq 5, 3) := by decide +kernel
theorem dL_law_706 : decode code 706 = .ok (.iconst 0, 1) := by decide +kernel
theorem dL_law_707 : decode code 707 = .ok (.ireturn, 1) := by decide +kernel
theorem dL_law_708 : decode code 708 = .ok (.goto 982, 3) := by decide +kernel
theorem dL_law_711 : decode code 711 = .ok (.aload_n 1, 1) := by decide +kernel
theorem dL_law_712 : decode code 712 = .ok (.aload_n 0, 1) := by decide +kernel
theorem dL_law_713 : decode code 713 = .ok (.iload 4, 2) := by decide +kernel
theorem dL_law_715 : decode code 715 = .ok (.iconst 1, 1) := by decide +kernel
theorem dL_law_716 : decode code 716 = .ok (.iadd, 1) := by decide +kernel
theorem dL_law_717 : decode code 717 = .ok (.iaload, 1) := by decide +kernel
theorem dL_law_718 : decode code 718 = .ok (.aload_n 0, 1) := by decide +kernel
theorem dL_law_719 : decode code 719 = .ok (.iload 4, 2) := by decide +kernel
theorem dL_law_721 : decode code 721 = .ok (.iconst 2, 1) := by decide +kernel
theorem dL_law_722 : decode code 722 = .ok (.iadd, 1) := by decide +kernel
theorem dL_law_723 : decode code 723 = .ok (.iaload, 1) := by decide +kernel
theorem dL_law_724 : decode code 724 = .ok (.aload_n 0, 1) := by decide +kernel
theorem dL_law_725 : decode code 725 = .ok (.iload 4, 2) := by decide +kernel
theorem dL_law_727 : decode code 727 = .ok (.iconst 3, 1) := by decide +kernel
theorem dL_law_728 : decode code 728 = .ok (.iadd, 1) := by decide +kernel
theorem dL_law_729 : decode code 729 = .ok (.iaload, 1) := by decide +kernel
theorem dL_law_730 : decode code 730 = .ok (.invokestatic 125, 3) := by decide +kernel
theorem dL_law_733 : decode code 733 = .ok (.istore 5, 2) := by decide +kernel
theorem dL_law_735 : decode code 735 = .ok (.aload_n 2, 1) := by decide +kernel
theorem dL_law_736 : decode code 736 = .ok (.aload_n 0, 1) := by decide +kernel
theorem dL_law_737 : decode code 737 = .ok (.iload 4, 2) := by decide +kernel
theorem dL_law_739 : decode code 739 = .ok (.iconst 1, 1) := by decide +kernel
theorem dL_law_740 : decode code 740 = .ok (.iadd, 1) := by decide +kernel
theorem dL_law_741 : decode code 741 = .ok (.iaload, 1) := by decide +kernel
theorem dL_law_742 : decode code 742 = .ok (.aload_n 0, 1) := by decide +kernel
theorem dL_law_743 : decode code 743 = .ok (.iload 4, 2) := by decide +kernel
theorem dL_law_745 : decode code 745 = .ok (.iconst 2, 1) := by decide +kernel
theorem dL_law_746 : decode code 746 = .ok (.iadd, 1) := by decide +kernel
theorem dL_law_747 : decode code 747 = .ok (.iaload, 1) := by decide +kernel
theorem dL_law_748 : decode code 748 = .ok (.aload_n 0, 1) := by decide +kernel
theorem dL_law_749 : decode code 749 = .ok (.iload 4, 2) := by decide +kernel
theorem dL_law_751 : decode code 751 = .ok (.iconst 3, 1) := by decide +kernel
theorem dL_law_752 : decode code 752 = .ok (.iadd, 1) := by decide +kernel
theorem dL_law_753 : decode code 753 = .ok (.iaload, 1) := by decide +kernel
theorem dL_law_754 : decode code 754 = .ok (.invokevirtual 128, 3) := by decide +kernel
theorem dL_law_757 : decode code 757 = .ok (.aload_n 2, 1) := by decide +kernel
theorem dL_law_758 : decode code 758 = .ok (.invokevirtual 95, 3) := by decide +kernel
theorem dL_law_761 : decode code 761 = .ok (.iload 5, 2) := by decide +kernel
theorem dL_law_763 : decode code 763 = .ok (.if_icmp .eq 5, 3) := by decide +kernel
theorem dL_law_766 : decode code 766 = .ok (.iconst 0, 1) := by decide +kernel
theorem dL_law_767 : decode code 767 = .ok (.ireturn, 1) := by decide +kernel
theorem dL_law_768 : decode code 768 = .ok (.goto 922, 3) := by decide +kernel
theorem dL_law_771 : decode code 771 = .ok (.aload_n 1, 1) := by decide +kernel
theorem dL_law_772 : decode code 772 = .ok (.aload_n 0, 1) := by decide +kernel
theorem dL_law_773 : decode code 773 = .ok (.iload 4, 2) := by decide +kernel
theorem dL_law_775 : decode code 775 = .ok (.iconst 1, 1) := by decide +kernel
theorem dL_law_776 : decode code 776 = .ok (.iadd, 1) := by decide +kernel
theorem dL_law_777 : decode code 777 = .ok (.iaload, 1) := by decide +kernel
theorem dL_law_778 : decode code 778 = .ok (.aload_n 0, 1) := by decide +kernel
theorem dL_law_779 : decode code 779 = .ok (.iload 4, 2) := by decide +kernel
theorem dL_law_781 : decode code 781 = .ok (.iconst 2, 1) := by decide +kernel
theorem dL_law_782 : decode code 782 = .ok (.iadd, 1) := by decide +kernel
theorem dL_law_783 : decode code 783 = .ok (.iaload, 1) := by decide +kernel
theorem dL_law_784 : decode code 784 = .ok (.invokestatic 129, 3) := by decide +kernel
theorem dL_law_787 : decode code 787 = .ok (.istore 5, 2) := by decide +kernel
theorem dL_law_789 : decode code 789 = .ok (.aload_n 2, 1) := by decide +kernel
theorem dL_law_790 : decode code 790 = .ok (.aload_n 0, 1) := by decide +kernel
theorem dL_law_791 : decode code 791 = .ok (.iload 4, 2) := by decide +kernel
theorem dL_law_793 : decode code 793 = .ok (.iconst 1, 1) := by decide +kernel
theorem dL_law_794 : decode code 794 = .ok (.iadd, 1) := by decide +kernel
theorem dL_law_795 : decode code 795 = .ok (.iaload, 1) := by decide +kernel
theorem dL_law_796 : decode code 796 = .ok (.aload_n 0, 1) := by decide +kernel
theorem dL_law_797 : decode code 797 = .ok (.iload 4, 2) := by decide +kernel
theorem dL_law_799 : decode code 799 = .ok (.iconst 2, 1) := by decide +kernel
theorem dL_law_800 : decode code 800 = .ok (.iadd, 1) := by decide +kernel
theorem dL_law_801 : decode code 801 = .ok (.iaload, 1) := by decide +kernel
theorem dL_law_802 : decode code 802 = .ok (.invokevirtual 132, 3) := by decide +kernel
theorem dL_law_805 : decode code 805 = .ok (.aload_n 2, 1) := by decide +kernel
theorem dL_law_806 : decode code 806 = .ok (.invokevirtual 95, 3) := by decide +kernel
theorem dL_law_809 : decode code 809 = .ok (.iload 5, 2) := by decide +kernel
theorem dL_law_811 : decode code 811 = .ok (.if_icmp .eq 5, 3) := by decide +kernel
theorem dL_law_814 : decode code 814 = .ok (.iconst 0, 1) := by decide +kernel
theorem dL_law_815 : decode code 815 = .ok (.ireturn, 1) := by decide +kernel
theorem dL_law_816 : decode code 816 = .ok (.goto 874, 3) := by decide +kernel
theorem dL_law_819 : decode code 819 = .ok (.aload_n 1, 1) := by decide +kernel
theorem dL_law_820 : decode code 820 = .ok (.aload_n 0, 1) := by decide +kernel
theorem dL_law_821 : decode code 821 = .ok (.iload 4, 2) := by decide +kernel
theorem dL_law_823 : decode code 823 = .ok (.iconst 1, 1) := by decide +kernel
theorem dL_law_824 : decode code 824 = .ok (.iadd, 1) := by decide +kernel
theorem dL_law_825 : decode code 825 = .ok (.iaload, 1) := by decide +kernel
theorem dL_law_826 : decode code 826 = .ok (.i2l, 1) := by decide +kernel
theorem dL_law_827 : decode code 827 = .ok (.bipush 32, 2) := by decide +kernel
theorem dL_law_829 : decode code 829 = .ok (.lshl, 1) := by decide +kernel
theorem dL_law_830 : decode code 830 = .ok (.aload_n 0, 1) := by decide +kernel
theorem dL_law_831 : decode code 831 = .ok (.iload 4, 2) := by decide +kernel
theorem dL_law_833 : decode code 833 = .ok (.iconst 2, 1) := by decide +kernel
theorem dL_law_834 : decode code 834 = .ok (.iadd, 1) := by decide +kernel
theorem dL_law_835 : decode code 835 = .ok (.iaload, 1) := by decide +kernel
theorem dL_law_836 : decode code 836 = .ok (.i2l, 1) := by decide +kernel
theorem dL_law_837 : decode code 837 = .ok (.ldc2_w 133, 3) := by decide +kernel
theorem dL_law_840 : decode code 840 = .ok (.land, 1) := by decide +kernel
theorem dL_law_841 : decode code 841 = .ok (.lor, 1) := by decide +kernel
theorem dL_law_842 : decode code 842 = .ok (.aload_n 0, 1) := by decide +kernel
theorem dL_law_843 : decode code 843 = .ok (.iload 4, 2) := by decide +kernel
theorem dL_law_845 : decode code 845 = .ok (.iconst 3, 1) := by decide +kernel
theorem dL_law_846 : decode code 846 = .ok (.iadd, 1) := by decide +kernel
theorem dL_law_847 : decode code 847 = .ok (.iaload, 1) := by decide +kernel
theorem dL_law_848 : decode code 848 = .ok (.invokevirtual 135, 3) := by decide +kernel
theorem dL_law_851 : decode code 851 = .ok (.aload_n 2, 1) := by decide +kernel
theorem dL_law_852 : decode code 852 = .ok (.aload_n 0, 1) := by decide +kernel
theorem dL_law_853 : decode code 853 = .ok (.iload 4, 2) := by decide +kernel
theorem dL_law_855 : decode code 855 = .ok (.iconst 1, 1) := by decide +kernel
theorem dL_law_856 : decode code 856 = .ok (.iadd, 1) := by decide +kernel
theorem dL_law_857 : decode code 857 = .ok (.iaload, 1) := by decide +kernel
theorem dL_law_858 : decode code 858 = .ok (.i2l, 1) := by decide +kernel
theorem dL_law_859 : decode code 859 = .ok (.bipush 32, 2) := by decide +kernel
theorem dL_law_861 : decode code 861 = .ok (.lshl, 1) := by decide +kernel
theorem dL_law_862 : decode code 862 = .ok (.aload_n 0, 1) := by decide +kernel
theorem dL_law_863 : decode code 863 = .ok (.iload 4, 2) := by decide +kernel
theorem dL_law_865 : decode code 865 = .ok (.iconst 2, 1) := by decide +kernel
theorem dL_law_866 : decode code 866 = .ok (.iadd, 1) := by decide +kernel
theorem dL_law_867 : decode code 867 = .ok (.iaload, 1) := by decide +kernel
theorem dL_law_868 : decode code 868 = .ok (.i2l, 1) := by decide +kernel
theorem dL_law_869 : decode code 869 = .ok (.ldc2_w 133, 3) := by decide +kernel
theorem dL_law_872 : decode code 872 = .ok (.land, 1) := by decide +kernel
theorem dL_law_873 : decode code 873 = .ok (.lor, 1) := by decide +kernel
theorem dL_law_874 : decode code 874 = .ok (.aload_n 0, 1) := by decide +kernel
theorem dL_law_875 : decode code 875 = .ok (.iload 4, 2) := by decide +kernel
theorem dL_law_877 : decode code 877 = .ok (.iconst 3, 1) := by decide +kernel
theorem dL_law_878 : decode code 878 = .ok (.iadd, 1) := by decide +kernel
theorem dL_law_879 : decode code 879 = .ok (.iaload, 1) := by decide +kernel
theorem dL_law_880 : decode code 880 = .ok (.invokevirtual 138, 3) := by decide +kernel
theorem dL_law_883 : decode code 883 = .ok (.if_icmp .eq 807, 3) := by decide +kernel
theorem dL_law_886 : decode code 886 = .ok (.iconst 0, 1) := by decide +kernel
theorem dL_law_887 : decode code 887 = .ok (.ireturn, 1) := by decide +kernel
theorem dL_law_888 : decode code 888 = .ok (.aload_n 1, 1) := by decide +kernel
theorem dL_law_889 : decode code 889 = .ok (.aload_n 0, 1) := by decide +kernel
theorem dL_law_890 : decode code 890 = .ok (.iload 4, 2) := by decide +kernel
theorem dL_law_892 : decode code 892 = .ok (.iconst 1, 1) := by decide +kernel
theorem dL_law_893 : decode code 893 = .ok (.iadd, 1) := by decide +kernel
theorem dL_law_894 : decode code 894 = .ok (.iaload, 1) := by decide +kernel
theorem dL_law_895 : decode code 895 = .ok (.aload_n 3, 1) := by decide +kernel
theorem dL_law_896 : decode code 896 = .ok (.invokestatic 139, 3) := by decide +kernel
theorem dL_law_899 : decode code 899 = .ok (.istore 5, 2) := by decide +kernel
theorem dL_law_901 : decode code 901 = .ok (.aload_n 2, 1) := by decide +kernel
theorem dL_law_902 : decode code 902 = .ok (.aload_n 0, 1) := by decide +kernel
theorem dL_law_903 : decode code 903 = .ok (.iload 4, 2) := by decide +kernel
theorem dL_law_905 : decode code 905 = .ok (.iconst 1, 1) := by decide +kernel
theorem dL_law_906 : decode code 906 = .ok (.iadd, 1) := by decide +kernel
theorem dL_law_907 : decode code 907 = .ok (.iaload, 1) := by decide +kernel
theorem dL_law_908 : decode code 908 = .ok (.invokevirtual 141, 3) := by decide +kernel
theorem dL_law_911 : decode code 911 = .ok (.istore 6, 2) := by decide +kernel
theorem dL_law_913 : decode code 913 = .ok (.aload_n 2, 1) := by decide +kernel
theorem dL_law_914 : decode code 914 = .ok (.invokevirtual 95, 3) := by decide +kernel
theorem dL_law_917 : decode code 917 = .ok (.iload 5, 2) := by decide +kernel
theorem dL_law_919 : decode code 919 = .ok (.if_icmp .eq 5, 3) := by decide +kernel
theorem dL_law_922 : decode code 922 = .ok (.iconst 0, 1) := by decide +kernel
theorem dL_law_923 : decode code 923 = .ok (.ireturn, 1) := by decide +kernel
theorem dL_law_924 : decode code 924 = .ok (.iload 5, 2) := by decide +kernel
theorem dL_law_926 : decode code 926 = .ok (.ifCond .ne 15, 3) := by decide +kernel
theorem dL_law_929 : decode code 929 = .ok (.aload_n 3, 1) := by decide +kernel
theorem dL_law_930 : decode code 930 = .ok (.iconst 0, 1) := by decide +kernel
theorem dL_law_931 : decode code 931 = .ok (.laload, 1) := by decide +kernel
theorem dL_law_932 : decode code 932 = .ok (.iload 6, 2) := by decide +kernel
theorem dL_law_934 : decode code 934 = .ok (.i2l, 1) := by decide +kernel
theorem dL_law_935 : decode code 935 = .ok (.lcmp, 1) := by decide +kernel
theorem dL_law_936 : decode code 936 = .ok (.ifCond .eq 5, 3) := by decide +kernel
theorem dL_law_939 : decode code 939 = .ok (.iconst 0, 1) := by decide +kernel
theorem dL_law_940 : decode code 940 = .ok (.ireturn, 1) := by decide +kernel
theorem dL_law_941 : decode code 941 = .ok (.goto 749, 3) := by decide +kernel
theorem dL_law_944 : decode code 944 = .ok (.aload_n 1, 1) := by decide +kernel
theorem dL_law_945 : decode code 945 = .ok (.aload_n 0, 1) := by decide +kernel
theorem dL_law_946 : decode code 946 = .ok (.iload 4, 2) := by decide +kernel
theorem dL_law_948 : decode code 948 = .ok (.iconst 1, 1) := by decide +kernel
theorem dL_law_949 : decode code 949 = .ok (.iadd, 1) := by decide +kernel
theorem dL_law_950 : decode code 950 = .ok (.iaload, 1) := by decide +kernel
theorem dL_law_951 : decode code 951 = .ok (.aload_n 3, 1) := by decide +kernel
theorem dL_law_952 : decode code 952 = .ok (.invokestatic 142, 3) := by decide +kernel
theorem dL_law_955 : decode code 955 = .ok (.istore 5, 2) := by decide +kernel
theorem dL_law_957 : decode code 957 = .ok (.aload_n 2, 1) := by decide +kernel
theorem dL_law_958 : decode code 958 = .ok (.aload_n 0, 1) := by decide +kernel
theorem dL_law_959 : decode code 959 = .ok (.iload 4, 2) := by decide +kernel
theorem dL_law_961 : decode code 961 = .ok (.iconst 1, 1) := by decide +kernel
theorem dL_law_962 : decode code 962 = .ok (.iadd, 1) := by decide +kernel
theorem dL_law_963 : decode code 963 = .ok (.iaload, 1) := by decide +kernel
theorem dL_law_964 : decode code 964 = .ok (.invokevirtual 144, 3) := by decide +kernel
theorem dL_law_967 : decode code 967 = .ok (.istore 6, 2) := by decide +kernel
theorem dL_law_969 : decode code 969 = .ok (.aload_n 2, 1) := by decide +kernel
theorem dL_law_970 : decode code 970 = .ok (.invokevirtual 95, 3) := by decide +kernel
theorem dL_law_973 : decode code 973 = .ok (.iload 5, 2) := by decide +kernel
theorem dL_law_975 : decode code 975 = .ok (.if_icmp .eq 5, 3) := by decide +kernel
theorem dL_law_978 : decode code 978 = .ok (.iconst 0, 1) := by decide +kernel
theorem dL_law_979 : decode code 979 = .ok (.ireturn, 1) := by decide +kernel
theorem dL_law_980 : decode code 980 = .ok (.iload 5, 2) := by decide +kernel
theorem dL_law_982 : decode code 982 = .ok (.ifCond .ne 15, 3) := by decide +kernel
theorem dL_law_985 : decode code 985 = .ok (.aload_n 3, 1) := by decide +kernel
theorem dL_law_986 : decode code 986 = .ok (.iconst 0, 1) := by decide +kernel
theorem dL_law_987 : decode code 987 = .ok (.laload, 1) := by decide +kernel
theorem dL_law_988 : decode code 988 = .ok (.iload 6, 2) := by decide +kernel
theorem dL_law_990 : decode code 990 = .ok (.i2l, 1) := by decide +kernel
theorem dL_law_991 : decode code 991 = .ok (.lcmp, 1) := by decide +kernel
theorem dL_law_992 : decode code 992 = .ok (.ifCond .eq 5, 3) := by decide +kernel
theorem dL_law_995 : decode code 995 = .ok (.iconst 0, 1) := by decide +kernel
theorem dL_law_996 : decode code 996 = .ok (.ireturn, 1) := by decide +kernel
theorem dL_law_997 : decode code 997 = .ok (.goto 693, 3) := by decide +kernel
theorem dL_law_1000 : decode code 1000 = .ok (.aload_n 1, 1) := by decide +kernel
theorem dL_law_1001 : decode code 1001 = .ok (.aload_n 0, 1) := by decide +kernel
theorem dL_law_1002 : decode code 1002 = .ok (.iload 4, 2) := by decide +kernel
theorem dL_law_1004 : decode code 1004 = .ok (.iconst 1, 1) := by decide +kernel
theorem dL_law_1005 : decode code 1005 = .ok (.iadd, 1) := by decide +kernel
theorem dL_law_1006 : decode code 1006 = .ok (.iaload, 1) := by decide +kernel
theorem dL_law_1007 : decode code 1007 = .ok (.aload_n 0, 1) := by decide +kernel
theorem dL_law_1008 : decode code 1008 = .ok (.iload 4, 2) := by decide +kernel
theorem dL_law_1010 : decode code 1010 = .ok (.iconst 2, 1) := by decide +kernel
theorem dL_law_1011 : decode code 1011 = .ok (.iadd, 1) := by decide +kernel
theorem dL_law_1012 : decode code 1012 = .ok (.iaload, 1) := by decide +kernel
theorem dL_law_1013 : decode code 1013 = .ok (.aload_n 0, 1) := by decide +kernel
theorem dL_law_1014 : decode code 1014 = .ok (.iload 4, 2) := by decide +kernel
theorem dL_law_1016 : decode code 1016 = .ok (.iconst 3, 1) := by decide +kernel
theorem dL_law_1017 : decode code 1017 = .ok (.iadd, 1) := by decide +kernel
theorem dL_law_1018 : decode code 1018 = .ok (.iaload, 1) := by decide +kernel
theorem dL_law_1019 : decode code 1019 = .ok (.aload_n 3, 1) := by decide +kernel
theorem dL_law_1020 : decode code 1020 = .ok (.invokestatic 145, 3) := by decide +kernel
theorem dL_law_1023 : decode code 1023 = .ok (.istore 5, 2) := by decide +kernel
theorem dL_law_1025 : decode code 1025 = .ok (.aload_n 2, 1) := by decide +kernel
theorem dL_law_1026 : decode code 1026 = .ok (.aload_n 0, 1) := by decide +kernel
theorem dL_law_1027 : decode code 1027 = .ok (.iload 4, 2) := by decide +kernel
theorem dL_law_1029 : decode code 1029 = .ok (.iconst 1, 1) := by decide +kernel
theorem dL_law_1030 : decode code 1030 = .ok (.iadd, 1) := by decide +kernel
theorem dL_law_1031 : decode code 1031 = .ok (.iaload, 1) := by decide +kernel
theorem dL_law_1032 : decode code 1032 = .ok (.aload_n 0, 1) := by decide +kernel
theorem dL_law_1033 : decode code 1033 = .ok (.iload 4, 2) := by decide +kernel
theorem dL_law_1035 : decode code 1035 = .ok (.iconst 2, 1) := by decide +kernel
theorem dL_law_1036 : decode code 1036 = .ok (.iadd, 1) := by decide +kernel
theorem dL_law_1037 : decode code 1037 = .ok (.iaload, 1) := by decide +kernel
theorem dL_law_1038 : decode code 1038 = .ok (.aload_n 0, 1) := by decide +kernel
theorem dL_law_1039 : decode code 1039 = .ok (.iload 4, 2) := by decide +kernel
theorem dL_law_1041 : decode code 1041 = .ok (.iconst 3, 1) := by decide +kernel
theorem dL_law_1042 : decode code 1042 = .ok (.iadd, 1) := by decide +kernel
theorem dL_law_1043 : decode code 1043 = .ok (.iaload, 1) := by decide +kernel
theorem dL_law_1044 : decode code 1044 = .ok (.invokevirtual 147, 3) := by decide +kernel
theorem dL_law_1047 : decode code 1047 = .ok (.istore 6, 2) := by decide +kernel
theorem dL_law_1049 : decode code 1049 = .ok (.aload_n 2, 1) := by decide +kernel
theorem dL_law_1050 : decode code 1050 = .ok (.invokevirtual 95, 3) := by decide +kernel
theorem dL_law_1053 : decode code 1053 = .ok (.iload 5, 2) := by decide +kernel
theorem dL_law_1055 : decode code 1055 = .ok (.if_icmp .eq 5, 3) := by decide +kernel
theorem dL_law_1058 : decode code 1058 = .ok (.iconst 0, 1) := by decide +kernel
theorem dL_law_1059 : decode code 1059 = .ok (.ireturn, 1) := by decide +kernel
theorem dL_law_1060 : decode code 1060 = .ok (.iload 5, 2) := by decide +kernel
theorem dL_law_1062 : decode code 1062 = .ok (.ifCond .ne 15, 3) := by decide +kernel
theorem dL_law_1065 : decode code 1065 = .ok (.aload_n 3, 1) := by decide +kernel
theorem dL_law_1066 : decode code 1066 = .ok (.iconst 0, 1) := by decide +kernel
theorem dL_law_1067 : decode code 1067 = .ok (.laload, 1) := by decide +kernel
theorem dL_law_1068 : decode code 1068 = .ok (.iload 6, 2) := by decide +kernel
theorem dL_law_1070 : decode code 1070 = .ok (.i2l, 1) := by decide +kernel
theorem dL_law_1071 : decode code 1071 = .ok (.lcmp, 1) := by decide +kernel
theorem dL_law_1072 : decode code 1072 = .ok (.ifCond .eq 5, 3) := by decide +kernel
theorem dL_law_1075 : decode code 1075 = .ok (.iconst 0, 1) := by decide +kernel
theorem dL_law_1076 : decode code 1076 = .ok (.ireturn, 1) := by decide +kernel
theorem dL_law_1077 : decode code 1077 = .ok (.goto 613, 3) := by decide +kernel
theorem dL_law_1080 : decode code 1080 = .ok (.aload_n 1, 1) := by decide +kernel
theorem dL_law_1081 : decode code 1081 = .ok (.aload_n 0, 1) := by decide +kernel
theorem dL_law_1082 : decode code 1082 = .ok (.iload 4, 2) := by decide +kernel
theorem dL_law_1084 : decode code 1084 = .ok (.iconst 1, 1) := by decide +kernel
theorem dL_law_1085 : decode code 1085 = .ok (.iadd, 1) := by decide +kernel
theorem dL_law_1086 : decode code 1086 = .ok (.iaload, 1) := by decide +kernel
theorem dL_law_1087 : decode code 1087 = .ok (.aload_n 3, 1) := by decide +kernel
theorem dL_law_1088 : decode code 1088 = .ok (.invokestatic 148, 3) := by decide +kernel
theorem dL_law_1091 : decode code 1091 = .ok (.istore 5, 2) := by decide +kernel
theorem dL_law_1093 : decode code 1093 = .ok (.aload_n 2, 1) := by decide +kernel
theorem dL_law_1094 : decode code 1094 = .ok (.aload_n 0, 1) := by decide +kernel
theorem dL_law_1095 : decode code 1095 = .ok (.iload 4, 2) := by decide +kernel
theorem dL_law_1097 : decode code 1097 = .ok (.iconst 1, 1) := by decide +kernel
theorem dL_law_1098 : decode code 1098 = .ok (.iadd, 1) := by decide +kernel
theorem dL_law_1099 : decode code 1099 = .ok (.iaload, 1) := by decide +kernel
theorem dL_law_1100 : decode code 1100 = .ok (.invokevirtual 150, 3) := by decide +kernel
theorem dL_law_1103 : decode code 1103 = .ok (.istore 6, 2) := by decide +kernel
theorem dL_law_1105 : decode code 1105 = .ok (.aload_n 2, 1) := by decide +kernel
theorem dL_law_1106 : decode code 1106 = .ok (.invokevirtual 95, 3) := by decide +kernel
theorem dL_law_1109 : decode code 1109 = .ok (.iload 5, 2) := by decide +kernel
theorem dL_law_1111 : decode code 1111 = .ok (.if_icmp .eq 5, 3) := by decide +kernel
theorem dL_law_1114 : decode code 1114 = .ok (.iconst 0, 1) := by decide +kernel
theorem dL_law_1115 : decode code 1115 = .ok (.ireturn, 1) := by decide +kernel
theorem dL_law_1116 : decode code 1116 = .ok (.iload 5, 2) := by decide +kernel
theorem dL_law_1118 : decode code 1118 = .ok (.ifCond .ne 15, 3) := by decide +kernel
theorem dL_law_1121 : decode code 1121 = .ok (.aload_n 3, 1) := by decide +kernel
theorem dL_law_1122 : decode code 1122 = .ok (.iconst 0, 1) := by decide +kernel
theorem dL_law_1123 : decode code 1123 = .ok (.laload, 1) := by decide +kernel
theorem dL_law_1124 : decode code 1124 = .ok (.iload 6, 2) := by decide +kernel
theorem dL_law_1126 : decode code 1126 = .ok (.i2l, 1) := by decide +kernel
theorem dL_law_1127 : decode code 1127 = .ok (.lcmp, 1) := by decide +kernel
theorem dL_law_1128 : decode code 1128 = .ok (.ifCond .eq 5, 3) := by decide +kernel
theorem dL_law_1131 : decode code 1131 = .ok (.iconst 0, 1) := by decide +kernel
theorem dL_law_1132 : decode code 1132 = .ok (.ireturn, 1) := by decide +kernel
theorem dL_law_1133 : decode code 1133 = .ok (.goto 557, 3) := by decide +kernel
theorem dL_law_1136 : decode code 1136 = .ok (.aload_n 1, 1) := by decide +kernel
theorem dL_law_1137 : decode code 1137 = .ok (.aload_n 0, 1) := by decide +kernel
theorem dL_law_1138 : decode code 1138 = .ok (.iload 4, 2) := by decide +kernel
theorem dL_law_1140 : decode code 1140 = .ok (.iconst 1, 1) := by decide +kernel
theorem dL_law_1141 : decode code 1141 = .ok (.iadd, 1) := by decide +kernel
theorem dL_law_1142 : decode code 1142 = .ok (.iaload, 1) := by decide +kernel
theorem dL_law_1143 : decode code 1143 = .ok (.aload_n 3, 1) := by decide +kernel
theorem dL_law_1144 : decode code 1144 = .ok (.invokestatic 151, 3) := by decide +kernel
theorem dL_law_1147 : decode code 1147 = .ok (.istore 5, 2) := by decide +kernel
theorem dL_law_1149 : decode code 1149 = .ok (.aload_n 2, 1) := by decide +kernel
theorem dL_law_1150 : decode code 1150 = .ok (.aload_n 0, 1) := by decide +kernel
theorem dL_law_1151 : decode code 1151 = .ok (.iload 4, 2) := by decide +kernel
theorem dL_law_1153 : decode code 1153 = .ok (.iconst 1, 1) := by decide +kernel
theorem dL_law_1154 : decode code 1154 = .ok (.iadd, 1) := by decide +kernel
theorem dL_law_1155 : decode code 1155 = .ok (.iaload, 1) := by decide +kernel
theorem dL_law_1156 : decode code 1156 = .ok (.invokevirtual 153, 3) := by decide +kernel
theorem dL_law_1159 : decode code 1159 = .ok (.istore 6, 2) := by decide +kernel
theorem dL_law_1161 : decode code 1161 = .ok (.aload_n 2, 1) := by decide +kernel
theorem dL_law_1162 : decode code 1162 = .ok (.invokevirtual 95, 3) := by decide +kernel
theorem dL_law_1165 : decode code 1165 = .ok (.iload 5, 2) := by decide +kernel
theorem dL_law_1167 : decode code 1167 = .ok (.if_icmp .eq 5, 3) := by decide +kernel
theorem dL_law_1170 : decode code 1170 = .ok (.iconst 0, 1) := by decide +kernel
theorem dL_law_1171 : decode code 1171 = .ok (.ireturn, 1) := by decide +kernel
theorem dL_law_1172 : decode code 1172 = .ok (.iload 5, 2) := by decide +kernel
theorem dL_law_1174 : decode code 1174 = .ok (.ifCond .ne 15, 3) := by decide +kernel
theorem dL_law_1177 : decode code 1177 = .ok (.aload_n 3, 1) := by decide +kernel
theorem dL_law_1178 : decode code 1178 = .ok (.iconst 0, 1) := by decide +kernel
theorem dL_law_1179 : decode code 1179 = .ok (.laload, 1) := by decide +kernel
theorem dL_law_1180 : decode code 1180 = .ok (.iload 6, 2) := by decide +kernel
theorem dL_law_1182 : decode code 1182 = .ok (.i2l, 1) := by decide +kernel
theorem dL_law_1183 : decode code 1183 = .ok (.lcmp, 1) := by decide +kernel
theorem dL_law_1184 : decode code 1184 = .ok (.ifCond .eq 5, 3) := by decide +kernel
theorem dL_law_1187 : decode code 1187 = .ok (.iconst 0, 1) := by decide +kernel
theorem dL_law_1188 : decode code 1188 = .ok (.ireturn, 1) := by decide +kernel
theorem dL_law_1189 : decode code 1189 = .ok (.goto 501, 3) := by decide +kernel
theorem dL_law_1192 : decode code 1192 = .ok (.aload_n 1, 1) := by decide +kernel
theorem dL_law_1193 : decode code 1193 = .ok (.aload_n 0, 1) := by decide +kernel
theorem dL_law_1194 : decode code 1194 = .ok (.iload 4, 2) := by decide +kernel
theorem dL_law_1196 : decode code 1196 = .ok (.iconst 1, 1) := by decide +kernel
theorem dL_law_1197 : decode code 1197 = .ok (.iadd, 1) := by decide +kernel
theorem dL_law_1198 : decode code 1198 = .ok (.iaload, 1) := by decide +kernel
theorem dL_law_1199 : decode code 1199 = .ok (.aload_n 3, 1) := by decide +kernel
theorem dL_law_1200 : decode code 1200 = .ok (.invokestatic 154, 3) := by decide +kernel
theorem dL_law_1203 : decode code 1203 = .ok (.istore 5, 2) := by decide +kernel
theorem dL_law_1205 : decode code 1205 = .ok (.aload_n 2, 1) := by decide +kernel
theorem dL_law_1206 : decode code 1206 = .ok (.aload_n 0, 1) := by decide +kernel
theorem dL_law_1207 : decode code 1207 = .ok (.iload 4, 2) := by decide +kernel
theorem dL_law_1209 : decode code 1209 = .ok (.iconst 1, 1) := by decide +kernel
theorem dL_law_1210 : decode code 1210 = .ok (.iadd, 1) := by decide +kernel
theorem dL_law_1211 : decode code 1211 = .ok (.iaload, 1) := by decide +kernel
theorem dL_law_1212 : decode code 1212 = .ok (.invokevirtual 156, 3) := by decide +kernel
theorem dL_law_1215 : decode code 1215 = .ok (.istore 6, 2) := by decide +kernel
theorem dL_law_1217 : decode code 1217 = .ok (.aload_n 2, 1) := by decide +kernel
theorem dL_law_1218 : decode code 1218 = .ok (.invokevirtual 95, 3) := by decide +kernel
theorem dL_law_1221 : decode code 1221 = .ok (.iload 5, 2) := by decide +kernel
theorem dL_law_1223 : decode code 1223 = .ok (.if_icmp .eq 5, 3) := by decide +kernel
theorem dL_law_1226 : decode code 1226 = .ok (.iconst 0, 1) := by decide +kernel
theorem dL_law_1227 : decode code 1227 = .ok (.ireturn, 1) := by decide +kernel
theorem dL_law_1228 : decode code 1228 = .ok (.iload 5, 2) := by decide +kernel
theorem dL_law_1230 : decode code 1230 = .ok (.ifCond .ne 15, 3) := by decide +kernel
theorem dL_law_1233 : decode code 1233 = .ok (.aload_n 3, 1) := by decide +kernel
theorem dL_law_1234 : decode code 1234 = .ok (.iconst 0, 1) := by decide +kernel
theorem dL_law_1235 : decode code 1235 = .ok (.laload, 1) := by decide +kernel
theorem dL_law_1236 : decode code 1236 = .ok (.iload 6, 2) := by decide +kernel
theorem dL_law_1238 : decode code 1238 = .ok (.i2l, 1) := by decide +kernel
theorem dL_law_1239 : decode code 1239 = .ok (.lcmp, 1) := by decide +kernel
theorem dL_law_1240 : decode code 1240 = .ok (.ifCond .eq 5, 3) := by decide +kernel
theorem dL_law_1243 : decode code 1243 = .ok (.iconst 0, 1) := by decide +kernel
theorem dL_law_1244 : decode code 1244 = .ok (.ireturn, 1) := by decide +kernel
theorem dL_law_1245 : decode code 1245 = .ok (.goto 445, 3) := by decide +kernel
theorem dL_law_1248 : decode code 1248 = .ok (.aload_n 1, 1) := by decide +kernel
theorem dL_law_1249 : decode code 1249 = .ok (.aload_n 0, 1) := by decide +kernel
theorem dL_law_1250 : decode code 1250 = .ok (.iload 4, 2) := by decide +kernel
theorem dL_law_1252 : decode code 1252 = .ok (.iconst 1, 1) := by decide +kernel
theorem dL_law_1253 : decode code 1253 = .ok (.iadd, 1) := by decide +kernel
theorem dL_law_1254 : decode code 1254 = .ok (.iaload, 1) := by decide +kernel
theorem dL_law_1255 : decode code 1255 = .ok (.aload_n 0, 1) := by decide +kernel
theorem dL_law_1256 : decode code 1256 = .ok (.iload 4, 2) := by decide +kernel
theorem dL_law_1258 : decode code 1258 = .ok (.iconst 2, 1) := by decide +kernel
theorem dL_law_1259 : decode code 1259 = .ok (.iadd, 1) := by decide +kernel
theorem dL_law_1260 : decode code 1260 = .ok (.iaload, 1) := by decide +kernel
theorem dL_law_1261 : decode code 1261 = .ok (.aload_n 3, 1) := by decide +kernel
theorem dL_law_1262 : decode code 1262 = .ok (.invokestatic 157, 3) := by decide +kernel
theorem dL_law_1265 : decode code 1265 = .ok (.istore 5, 2) := by decide +kernel
theorem dL_law_1267 : decode code 1267 = .ok (.aload_n 2, 1) := by decide +kernel
theorem dL_law_1268 : decode code 1268 = .ok (.aload_n 0, 1) := by decide +kernel
theorem dL_law_1269 : decode code 1269 = .ok (.iload 4, 2) := by decide +kernel
theorem dL_law_1271 : decode code 1271 = .ok (.iconst 1, 1) := by decide +kernel
theorem dL_law_1272 : decode code 1272 = .ok (.iadd, 1) := by decide +kernel
theorem dL_law_1273 : decode code 1273 = .ok (.iaload, 1) := by decide +kernel
theorem dL_law_1274 : decode code 1274 = .ok (.aload_n 0, 1) := by decide +kernel
theorem dL_law_1275 : decode code 1275 = .ok (.iload 4, 2) := by decide +kernel
theorem dL_law_1277 : decode code 1277 = .ok (.iconst 2, 1) := by decide +kernel
theorem dL_law_1278 : decode code 1278 = .ok (.iadd, 1) := by decide +kernel
theorem dL_law_1279 : decode code 1279 = .ok (.iaload, 1) := by decide +kernel
theorem dL_law_1280 : decode code 1280 = .ok (.invokevirtual 159, 3) := by decide +kernel
theorem dL_law_1283 : decode code 1283 = .ok (.istore 6, 2) := by decide +kernel
theorem dL_law_1285 : decode code 1285 = .ok (.aload_n 2, 1) := by decide +kernel
theorem dL_law_1286 : decode code 1286 = .ok (.invokevirtual 95, 3) := by decide +kernel
theorem dL_law_1289 : decode code 1289 = .ok (.iload 5, 2) := by decide +kernel
theorem dL_law_1291 : decode code 1291 = .ok (.if_icmp .eq 5, 3) := by decide +kernel
theorem dL_law_1294 : decode code 1294 = .ok (.iconst 0, 1) := by decide +kernel
theorem dL_law_1295 : decode code 1295 = .ok (.ireturn, 1) := by decide +kernel
theorem dL_law_1296 : decode code 1296 = .ok (.iload 5, 2) := by decide +kernel
theorem dL_law_1298 : decode code 1298 = .ok (.ifCond .ne 15, 3) := by decide +kernel
theorem dL_law_1301 : decode code 1301 = .ok (.aload_n 3, 1) := by decide +kernel
theorem dL_law_1302 : decode code 1302 = .ok (.iconst 0, 1) := by decide +kernel
theorem dL_law_1303 : decode code 1303 = .ok (.laload, 1) := by decide +kernel
theorem dL_law_1304 : decode code 1304 = .ok (.iload 6, 2) := by decide +kernel
theorem dL_law_1306 : decode code 1306 = .ok (.i2l, 1) := by decide +kernel
theorem dL_law_1307 : decode code 1307 = .ok (.lcmp, 1) := by decide +kernel
theorem dL_law_1308 : decode code 1308 = .ok (.ifCond .eq 5, 3) := by decide +kernel
theorem dL_law_1311 : decode code 1311 = .ok (.iconst 0, 1) := by decide +kernel
theorem dL_law_1312 : decode code 1312 = .ok (.ireturn, 1) := by decide +kernel
theorem dL_law_1313 : decode code 1313 = .ok (.goto 377, 3) := by decide +kernel
theorem dL_law_1316 : decode code 1316 = .ok (.aload_n 1, 1) := by decide +kernel
theorem dL_law_1317 : decode code 1317 = .ok (.aload_n 0, 1) := by decide +kernel
theorem dL_law_1318 : decode code 1318 = .ok (.iload 4, 2) := by decide +kernel
theorem dL_law_1320 : decode code 1320 = .ok (.iconst 1, 1) := by decide +kernel
theorem dL_law_1321 : decode code 1321 = .ok (.iadd, 1) := by decide +kernel
theorem dL_law_1322 : decode code 1322 = .ok (.iaload, 1) := by decide +kernel
theorem dL_law_1323 : decode code 1323 = .ok (.aload_n 0, 1) := by decide +kernel
theorem dL_law_1324 : decode code 1324 = .ok (.iload 4, 2) := by decide +kernel
theorem dL_law_1326 : decode code 1326 = .ok (.iconst 2, 1) := by decide +kernel
theorem dL_law_1327 : decode code 1327 = .ok (.iadd, 1) := by decide +kernel
theorem dL_law_1328 : decode code 1328 = .ok (.iaload, 1) := by decide +kernel
theorem dL_law_1329 : decode code 1329 = .ok (.aload_n 3, 1) := by decide +kernel
theorem dL_law_1330 : decode code 1330 = .ok (.invokestatic 160, 3) := by decide +kernel
theorem dL_law_1333 : decode code 1333 = .ok (.istore 5, 2) := by decide +kernel
theorem dL_law_1335 : decode code 1335 = .ok (.aload_n 2, 1) := by decide +kernel
theorem dL_law_1336 : decode code 1336 = .ok (.aload_n 0, 1) := by decide +kernel
theorem dL_law_1337 : decode code 1337 = .ok (.iload 4, 2) := by decide +kernel
theorem dL_law_1339 : decode code 1339 = .ok (.iconst 1, 1) := by decide +kernel
theorem dL_law_1340 : decode code 1340 = .ok (.iadd, 1) := by decide +kernel
theorem dL_law_1341 : decode code 1341 = .ok (.iaload, 1) := by decide +kernel
theorem dL_law_1342 : decode code 1342 = .ok (.aload_n 0, 1) := by decide +kernel
theorem dL_law_1343 : decode code 1343 = .ok (.iload 4, 2) := by decide +kernel
theorem dL_law_1345 : decode code 1345 = .ok (.iconst 2, 1) := by decide +kernel
theorem dL_law_1346 : decode code 1346 = .ok (.iadd, 1) := by decide +kernel
theorem dL_law_1347 : decode code 1347 = .ok (.iaload, 1) := by decide +kernel
theorem dL_law_1348 : decode code 1348 = .ok (.invokevirtual 162, 3) := by decide +kernel
theorem dL_law_1351 : decode code 1351 = .ok (.istore 6, 2) := by decide +kernel
theorem dL_law_1353 : decode code 1353 = .ok (.aload_n 2, 1) := by decide +kernel
theorem dL_law_1354 : decode code 1354 = .ok (.invokevirtual 95, 3) := by decide +kernel
theorem dL_law_1357 : decode code 1357 = .ok (.iload 5, 2) := by decide +kernel
theorem dL_law_1359 : decode code 1359 = .ok (.if_icmp .eq 5, 3) := by decide +kernel
theorem dL_law_1362 : decode code 1362 = .ok (.iconst 0, 1) := by decide +kernel
theorem dL_law_1363 : decode code 1363 = .ok (.ireturn, 1) := by decide +kernel
theorem dL_law_1364 : decode code 1364 = .ok (.iload 5, 2) := by decide +kernel
theorem dL_law_1366 : decode code 1366 = .ok (.ifCond .ne 15, 3) := by decide +kernel
theorem dL_law_1369 : decode code 1369 = .ok (.aload_n 3, 1) := by decide +kernel
theorem dL_law_1370 : decode code 1370 = .ok (.iconst 0, 1) := by decide +kernel
theorem dL_law_1371 : decode code 1371 = .ok (.laload, 1) := by decide +kernel
theorem dL_law_1372 : decode code 1372 = .ok (.iload 6, 2) := by decide +kernel
theorem dL_law_1374 : decode code 1374 = .ok (.i2l, 1) := by decide +kernel
theorem dL_law_1375 : decode code 1375 = .ok (.lcmp, 1) := by decide +kernel
theorem dL_law_1376 : decode code 1376 = .ok (.ifCond .eq 5, 3) := by decide +kernel
theorem dL_law_1379 : decode code 1379 = .ok (.iconst 0, 1) := by decide +kernel
theorem dL_law_1380 : decode code 1380 = .ok (.ireturn, 1) := by decide +kernel
theorem dL_law_1381 : decode code 1381 = .ok (.goto 309, 3) := by decide +kernel
theorem dL_law_1384 : decode code 1384 = .ok (.aload_n 1, 1) := by decide +kernel
theorem dL_law_1385 : decode code 1385 = .ok (.aload_n 0, 1) := by decide +kernel
theorem dL_law_1386 : decode code 1386 = .ok (.iload 4, 2) := by decide +kernel
theorem dL_law_1388 : decode code 1388 = .ok (.iconst 1, 1) := by decide +kernel
theorem dL_law_1389 : decode code 1389 = .ok (.iadd, 1) := by decide +kernel
theorem dL_law_1390 : decode code 1390 = .ok (.iaload, 1) := by decide +kernel
theorem dL_law_1391 : decode code 1391 = .ok (.aload_n 0, 1) := by decide +kernel
theorem dL_law_1392 : decode code 1392 = .ok (.iload 4, 2) := by decide +kernel
theorem dL_law_1394 : decode code 1394 = .ok (.iconst 2, 1) := by decide +kernel
theorem dL_law_1395 : decode code 1395 = .ok (.iadd, 1) := by decide +kernel
theorem dL_law_1396 : decode code 1396 = .ok (.iaload, 1) := by decide +kernel
theorem dL_law_1397 : decode code 1397 = .ok (.aload_n 3, 1) := by decide +kernel
theorem dL_law_1398 : decode code 1398 = .ok (.invokestatic 163, 3) := by decide +kernel
theorem dL_law_1401 : decode code 1401 = .ok (.istore 5, 2) := by decide +kernel
theorem dL_law_1403 : decode code 1403 = .ok (.aload_n 2, 1) := by decide +kernel
theorem dL_law_1404 : decode code 1404 = .ok (.aload_n 0, 1) := by decide +kernel
theorem dL_law_1405 : decode code 1405 = .ok (.iload 4, 2) := by decide +kernel
theorem dL_law_1407 : decode code 1407 = .ok (.iconst 1, 1) := by decide +kernel
theorem dL_law_1408 : decode code 1408 = .ok (.iadd, 1) := by decide +kernel
theorem dL_law_1409 : decode code 1409 = .ok (.iaload, 1) := by decide +kernel
theorem dL_law_1410 : decode code 1410 = .ok (.aload_n 0, 1) := by decide +kernel
theorem dL_law_1411 : decode code 1411 = .ok (.iload 4, 2) := by decide +kernel
theorem dL_law_1413 : decode code 1413 = .ok (.iconst 2, 1) := by decide +kernel
theorem dL_law_1414 : decode code 1414 = .ok (.iadd, 1) := by decide +kernel
theorem dL_law_1415 : decode code 1415 = .ok (.iaload, 1) := by decide +kernel
theorem dL_law_1416 : decode code 1416 = .ok (.invokevirtual 165, 3) := by decide +kernel
theorem dL_law_1419 : decode code 1419 = .ok (.istore 6, 2) := by decide +kernel
theorem dL_law_1421 : decode code 1421 = .ok (.aload_n 2, 1) := by decide +kernel
theorem dL_law_1422 : decode code 1422 = .ok (.invokevirtual 95, 3) := by decide +kernel
theorem dL_law_1425 : decode code 1425 = .ok (.iload 5, 2) := by decide +kernel
theorem dL_law_1427 : decode code 1427 = .ok (.if_icmp .eq 5, 3) := by decide +kernel
theorem dL_law_1430 : decode code 1430 = .ok (.iconst 0, 1) := by decide +kernel
theorem dL_law_1431 : decode code 1431 = .ok (.ireturn, 1) := by decide +kernel
theorem dL_law_1432 : decode code 1432 = .ok (.iload 5, 2) := by decide +kernel
theorem dL_law_1434 : decode code 1434 = .ok (.ifCond .ne 15, 3) := by decide +kernel
theorem dL_law_1437 : decode code 1437 = .ok (.aload_n 3, 1) := by decide +kernel
theorem dL_law_1438 : decode code 1438 = .ok (.iconst 0, 1) := by decide +kernel
theorem dL_law_1439 : decode code 1439 = .ok (.laload, 1) := by decide +kernel
theorem dL_law_1440 : decode code 1440 = .ok (.iload 6, 2) := by decide +kernel
theorem dL_law_1442 : decode code 1442 = .ok (.i2l, 1) := by decide +kernel
theorem dL_law_1443 : decode code 1443 = .ok (.lcmp, 1) := by decide +kernel
theorem dL_law_1444 : decode code 1444 = .ok (.ifCond .eq 5, 3) := by decide +kernel
theorem dL_law_1447 : decode code 1447 = .ok (.iconst 0, 1) := by decide +kernel
theorem dL_law_1448 : decode code 1448 = .ok (.ireturn, 1) := by decide +kernel
theorem dL_law_1449 : decode code 1449 = .ok (.goto 241, 3) := by decide +kernel
theorem dL_law_1452 : decode code 1452 = .ok (.aload_n 1, 1) := by decide +kernel
theorem dL_law_1453 : decode code 1453 = .ok (.aload_n 0, 1) := by decide +kernel
theorem dL_law_1454 : decode code 1454 = .ok (.iload 4, 2) := by decide +kernel
theorem dL_law_1456 : decode code 1456 = .ok (.iconst 1, 1) := by decide +kernel
theorem dL_law_1457 : decode code 1457 = .ok (.iadd, 1) := by decide +kernel
theorem dL_law_1458 : decode code 1458 = .ok (.iaload, 1) := by decide +kernel
theorem dL_law_1459 : decode code 1459 = .ok (.aload_n 3, 1) := by decide +kernel
theorem dL_law_1460 : decode code 1460 = .ok (.invokestatic 166, 3) := by decide +kernel
theorem dL_law_1463 : decode code 1463 = .ok (.istore 5, 2) := by decide +kernel
theorem dL_law_1465 : decode code 1465 = .ok (.aload_n 2, 1) := by decide +kernel
theorem dL_law_1466 : decode code 1466 = .ok (.aload_n 0, 1) := by decide +kernel
theorem dL_law_1467 : decode code 1467 = .ok (.iload 4, 2) := by decide +kernel
theorem dL_law_1469 : decode code 1469 = .ok (.iconst 1, 1) := by decide +kernel
theorem dL_law_1470 : decode code 1470 = .ok (.iadd, 1) := by decide +kernel
theorem dL_law_1471 : decode code 1471 = .ok (.iaload, 1) := by decide +kernel
theorem dL_law_1472 : decode code 1472 = .ok (.invokevirtual 168, 3) := by decide +kernel
theorem dL_law_1475 : decode code 1475 = .ok (.istore 6, 2) := by decide +kernel
theorem dL_law_1477 : decode code 1477 = .ok (.aload_n 2, 1) := by decide +kernel
theorem dL_law_1478 : decode code 1478 = .ok (.invokevirtual 95, 3) := by decide +kernel
theorem dL_law_1481 : decode code 1481 = .ok (.iload 5, 2) := by decide +kernel
theorem dL_law_1483 : decode code 1483 = .ok (.if_icmp .eq 5, 3) := by decide +kernel
theorem dL_law_1486 : decode code 1486 = .ok (.iconst 0, 1) := by decide +kernel
theorem dL_law_1487 : decode code 1487 = .ok (.ireturn, 1) := by decide +kernel
theorem dL_law_1488 : decode code 1488 = .ok (.iload 5, 2) := by decide +kernel
theorem dL_law_1490 : decode code 1490 = .ok (.ifCond .ne 15, 3) := by decide +kernel
theorem dL_law_1493 : decode code 1493 = .ok (.aload_n 3, 1) := by decide +kernel
theorem dL_law_1494 : decode code 1494 = .ok (.iconst 0, 1) := by decide +kernel
theorem dL_law_1495 : decode code 1495 = .ok (.laload, 1) := by decide +kernel
theorem dL_law_1496 : decode code 1496 = .ok (.iload 6, 2) := by decide +kernel
theorem dL_law_1498 : decode code 1498 = .ok (.i2l, 1) := by decide +kernel
theorem dL_law_1499 : decode code 1499 = .ok (.lcmp, 1) := by decide +kernel
theorem dL_law_1500 : decode code 1500 = .ok (.ifCond .eq 5, 3) := by decide +kernel
theorem dL_law_1503 : decode code 1503 = .ok (.iconst 0, 1) := by decide +kernel
theorem dL_law_1504 : decode code 1504 = .ok (.ireturn, 1) := by decide +kernel
theorem dL_law_1505 : decode code 1505 = .ok (.goto 185, 3) := by decide +kernel
theorem dL_law_1508 : decode code 1508 = .ok (.aload_n 1, 1) := by decide +kernel
theorem dL_law_1509 : decode code 1509 = .ok (.aload_n 0, 1) := by decide +kernel
theorem dL_law_1510 : decode code 1510 = .ok (.iload 4, 2) := by decide +kernel
theorem dL_law_1512 : decode code 1512 = .ok (.iconst 1, 1) := by decide +kernel
theorem dL_law_1513 : decode code 1513 = .ok (.iadd, 1) := by decide +kernel
theorem dL_law_1514 : decode code 1514 = .ok (.iaload, 1) := by decide +kernel
theorem dL_law_1515 : decode code 1515 = .ok (.i2l, 1) := by decide +kernel
theorem dL_law_1516 : decode code 1516 = .ok (.bipush 32, 2) := by decide +kernel
theorem dL_law_1518 : decode code 1518 = .ok (.lshl, 1) := by decide +kernel
theorem dL_law_1519 : decode code 1519 = .ok (.aload_n 0, 1) := by decide +kernel
theorem dL_law_1520 : decode code 1520 = .ok (.iload 4, 2) := by decide +kernel
theorem dL_law_1522 : decode code 1522 = .ok (.iconst 2, 1) := by decide +kernel
theorem dL_law_1523 : decode code 1523 = .ok (.iadd, 1) := by decide +kernel
theorem dL_law_1524 : decode code 1524 = .ok (.iaload, 1) := by decide +kernel
theorem dL_law_1525 : decode code 1525 = .ok (.i2l, 1) := by decide +kernel
theorem dL_law_1526 : decode code 1526 = .ok (.ldc2_w 133, 3) := by decide +kernel
theorem dL_law_1529 : decode code 1529 = .ok (.land, 1) := by decide +kernel
theorem dL_law_1530 : decode code 1530 = .ok (.lor, 1) := by decide +kernel
theorem dL_law_1531 : decode code 1531 = .ok (.aload_n 0, 1) := by decide +kernel
theorem dL_law_1532 : decode code 1532 = .ok (.iload 4, 2) := by decide +kernel
theorem dL_law_1534 : decode code 1534 = .ok (.iconst 3, 1) := by decide +kernel
theorem dL_law_1535 : decode code 1535 = .ok (.iadd, 1) := by decide +kernel
theorem dL_law_1536 : decode code 1536 = .ok (.iaload, 1) := by decide +kernel
theorem dL_law_1537 : decode code 1537 = .ok (.aload_n 3, 1) := by decide +kernel
theorem dL_law_1538 : decode code 1538 = .ok (.invokestatic 169, 3) := by decide +kernel
theorem dL_law_1541 : decode code 1541 = .ok (.istore 5, 2) := by decide +kernel
theorem dL_law_1543 : decode code 1543 = .ok (.aload_n 2, 1) := by decide +kernel
theorem dL_law_1544 : decode code 1544 = .ok (.aload_n 0, 1) := by decide +kernel
theorem dL_law_1545 : decode code 1545 = .ok (.iload 4, 2) := by decide +kernel
theorem dL_law_1547 : decode code 1547 = .ok (.iconst 1, 1) := by decide +kernel
theorem dL_law_1548 : decode code 1548 = .ok (.iadd, 1) := by decide +kernel
theorem dL_law_1549 : decode code 1549 = .ok (.iaload, 1) := by decide +kernel
theorem dL_law_1550 : decode code 1550 = .ok (.i2l, 1) := by decide +kernel
theorem dL_law_1551 : decode code 1551 = .ok (.bipush 32, 2) := by decide +kernel
theorem dL_law_1553 : decode code 1553 = .ok (.lshl, 1) := by decide +kernel
theorem dL_law_1554 : decode code 1554 = .ok (.aload_n 0, 1) := by decide +kernel
theorem dL_law_1555 : decode code 1555 = .ok (.iload 4, 2) := by decide +kernel
theorem dL_law_1557 : decode code 1557 = .ok (.iconst 2, 1) := by decide +kernel
theorem dL_law_1558 : decode code 1558 = .ok (.iadd, 1) := by decide +kernel
theorem dL_law_1559 : decode code 1559 = .ok (.iaload, 1) := by decide +kernel
theorem dL_law_1560 : decode code 1560 = .ok (.i2l, 1) := by decide +kernel
theorem dL_law_1561 : decode code 1561 = .ok (.ldc2_w 133, 3) := by decide +kernel
theorem dL_law_1564 : decode code 1564 = .ok (.land, 1) := by decide +kernel
theorem dL_law_1565 : decode code 1565 = .ok (.lor, 1) := by decide +kernel
theorem dL_law_1566 : decode code 1566 = .ok (.aload_n 0, 1) := by decide +kernel
theorem dL_law_1567 : decode code 1567 = .ok (.iload 4, 2) := by decide +kernel
theorem dL_law_1569 : decode code 1569 = .ok (.iconst 3, 1) := by decide +kernel
theorem dL_law_1570 : decode code 1570 = .ok (.iadd, 1) := by decide +kernel
theorem dL_law_1571 : decode code 1571 = .ok (.iaload, 1) := by decide +kernel
theorem dL_law_1572 : decode code 1572 = .ok (.invokevirtual 172, 3) := by decide +kernel
theorem dL_law_1575 : decode code 1575 = .ok (.istore 6, 2) := by decide +kernel
theorem dL_law_1577 : decode code 1577 = .ok (.aload_n 2, 1) := by decide +kernel
theorem dL_law_1578 : decode code 1578 = .ok (.invokevirtual 95, 3) := by decide +kernel
theorem dL_law_1581 : decode code 1581 = .ok (.iload 5, 2) := by decide +kernel
theorem dL_law_1583 : decode code 1583 = .ok (.if_icmp .eq 5, 3) := by decide +kernel
theorem dL_law_1586 : decode code 1586 = .ok (.iconst 0, 1) := by decide +kernel
theorem dL_law_1587 : decode code 1587 = .ok (.ireturn, 1) := by decide +kernel
theorem dL_law_1588 : decode code 1588 = .ok (.iload 5, 2) := by decide +kernel
theorem dL_law_1590 : decode code 1590 = .ok (.ifCond .ne 15, 3) := by decide +kernel
theorem dL_law_1593 : decode code 1593 = .ok (.aload_n 3, 1) := by decide +kernel
theorem dL_law_1594 : decode code 1594 = .ok (.iconst 0, 1) := by decide +kernel
theorem dL_law_1595 : decode code 1595 = .ok (.laload, 1) := by decide +kernel
theorem dL_law_1596 : decode code 1596 = .ok (.iload 6, 2) := by decide +kernel
theorem dL_law_1598 : decode code 1598 = .ok (.i2l, 1) := by decide +kernel
theorem dL_law_1599 : decode code 1599 = .ok (.lcmp, 1) := by decide +kernel
theorem dL_law_1600 : decode code 1600 = .ok (.ifCond .eq 5, 3) := by decide +kernel
theorem dL_law_1603 : decode code 1603 = .ok (.iconst 0, 1) := by decide +kernel
theorem dL_law_1604 : decode code 1604 = .ok (.ireturn, 1) := by decide +kernel
theorem dL_law_1605 : decode code 1605 = .ok (.goto 85, 3) := by decide +kernel
theorem dL_law_1608 : decode code 1608 = .ok (.aload_n 1, 1) := by decide +kernel
theorem dL_law_1609 : decode code 1609 = .ok (.aload_n 0, 1) := by decide +kernel
theorem dL_law_1610 : decode code 1610 = .ok (.iload 4, 2) := by decide +kernel
theorem dL_law_1612 : decode code 1612 = .ok (.iconst 1, 1) := by decide +kernel
theorem dL_law_1613 : decode code 1613 = .ok (.iadd, 1) := by decide +kernel
theorem dL_law_1614 : decode code 1614 = .ok (.iaload, 1) := by decide +kernel
theorem dL_law_1615 : decode code 1615 = .ok (.i2l, 1) := by decide +kernel
theorem dL_law_1616 : decode code 1616 = .ok (.bipush 32, 2) := by decide +kernel
theorem dL_law_1618 : decode code 1618 = .ok (.lshl, 1) := by decide +kernel
theorem dL_law_1619 : decode code 1619 = .ok (.aload_n 0, 1) := by decide +kernel
theorem dL_law_1620 : decode code 1620 = .ok (.iload 4, 2) := by decide +kernel
theorem dL_law_1622 : decode code 1622 = .ok (.iconst 2, 1) := by decide +kernel
theorem dL_law_1623 : decode code 1623 = .ok (.iadd, 1) := by decide +kernel
theorem dL_law_1624 : decode code 1624 = .ok (.iaload, 1) := by decide +kernel
theorem dL_law_1625 : decode code 1625 = .ok (.i2l, 1) := by decide +kernel
theorem dL_law_1626 : decode code 1626 = .ok (.ldc2_w 133, 3) := by decide +kernel
theorem dL_law_1629 : decode code 1629 = .ok (.land, 1) := by decide +kernel
theorem dL_law_1630 : decode code 1630 = .ok (.lor, 1) := by decide +kernel
theorem dL_law_1631 : decode code 1631 = .ok (.invokevirtual 173, 3) := by decide +kernel
theorem dL_law_1634 : decode code 1634 = .ok (.aload_n 2, 1) := by decide +kernel
theorem dL_law_1635 : decode code 1635 = .ok (.aload_n 0, 1) := by decide +kernel
theorem dL_law_1636 : decode code 1636 = .ok (.iload 4, 2) := by decide +kernel
theorem dL_law_1638 : decode code 1638 = .ok (.iconst 1, 1) := by decide +kernel
theorem dL_law_1639 : decode code 1639 = .ok (.iadd, 1) := by decide +kernel
theorem dL_law_1640 : decode code 1640 = .ok (.iaload, 1) := by decide +kernel
theorem dL_law_1641 : decode code 1641 = .ok (.i2l, 1) := by decide +kernel
theorem dL_law_1642 : decode code 1642 = .ok (.bipush 32, 2) := by decide +kernel
theorem dL_law_1644 : decode code 1644 = .ok (.lshl, 1) := by decide +kernel
theorem dL_law_1645 : decode code 1645 = .ok (.aload_n 0, 1) := by decide +kernel
theorem dL_law_1646 : decode code 1646 = .ok (.iload 4, 2) := by decide +kernel
theorem dL_law_1648 : decode code 1648 = .ok (.iconst 2, 1) := by decide +kernel
theorem dL_law_1649 : decode code 1649 = .ok (.iadd, 1) := by decide +kernel
theorem dL_law_1650 : decode code 1650 = .ok (.iaload, 1) := by decide +kernel
theorem dL_law_1651 : decode code 1651 = .ok (.i2l, 1) := by decide +kernel
theorem dL_law_1652 : decode code 1652 = .ok (.ldc2_w 133, 3) := by decide +kernel
theorem dL_law_1655 : decode code 1655 = .ok (.land, 1) := by decide +kernel
theorem dL_law_1656 : decode code 1656 = .ok (.lor, 1) := by decide +kernel
theorem dL_law_1657 : decode code 1657 = .ok (.invokevirtual 177, 3) := by decide +kernel
theorem dL_law_1660 : decode code 1660 = .ok (.if_icmp .eq 30, 3) := by decide +kernel
theorem dL_law_1663 : decode code 1663 = .ok (.iconst 0, 1) := by decide +kernel
theorem dL_law_1664 : decode code 1664 = .ok (.ireturn, 1) := by decide +kernel
theorem dL_law_1665 : decode code 1665 = .ok (.aload_n 1, 1) := by decide +kernel
theorem dL_law_1666 : decode code 1666 = .ok (.aload_n 0, 1) := by decide +kernel
theorem dL_law_1667 : decode code 1667 = .ok (.iload 4, 2) := by decide +kernel
theorem dL_law_1669 : decode code 1669 = .ok (.iconst 1, 1) := by decide +kernel
theorem dL_law_1670 : decode code 1670 = .ok (.iadd, 1) := by decide +kernel
theorem dL_law_1671 : decode code 1671 = .ok (.iaload, 1) := by decide +kernel
theorem dL_law_1672 : decode code 1672 = .ok (.invokevirtual 178, 3) := by decide +kernel
theorem dL_law_1675 : decode code 1675 = .ok (.aload_n 2, 1) := by decide +kernel
theorem dL_law_1676 : decode code 1676 = .ok (.aload_n 0, 1) := by decide +kernel
theorem dL_law_1677 : decode code 1677 = .ok (.iload 4, 2) := by decide +kernel
theorem dL_law_1679 : decode code 1679 = .ok (.iconst 1, 1) := by decide +kernel
theorem dL_law_1680 : decode code 1680 = .ok (.iadd, 1) := by decide +kernel
theorem dL_law_1681 : decode code 1681 = .ok (.iaload, 1) := by decide +kernel
theorem dL_law_1682 : decode code 1682 = .ok (.invokevirtual 181, 3) := by decide +kernel
theorem dL_law_1685 : decode code 1685 = .ok (.if_icmp .eq 5, 3) := by decide +kernel
theorem dL_law_1688 : decode code 1688 = .ok (.iconst 0, 1) := by decide +kernel
theorem dL_law_1689 : decode code 1689 = .ok (.ireturn, 1) := by decide +kernel
theorem dL_law_1690 : decode code 1690 = .ok (.iinc 4 4, 3) := by decide +kernel
theorem dL_law_1693 : decode code 1693 = .ok (.goto (-1670), 3) := by decide +kernel
theorem dL_law_1696 : decode code 1696 = .ok (.iconst 1, 1) := by decide +kernel
theorem dL_law_1697 : decode code 1697 = .ok (.ireturn, 1) := by decide +kernel
