theorem dL_agrees_176 : decode cL_agrees 176 = .ok (.iaload, 1) := by decide +kernel
theorem dL_agrees_177 : decode cL_agrees 177 = .ok (.aload 9, 2) := by decide +kernel
theorem dL_agrees_179 : decode cL_agrees 179 = .ok (.iload 10, 2) := by decide +kernel
theorem dL_agrees_181 : decode cL_agrees 181 = .ok (.iaload, 1) := by decide +kernel
theorem dL_agrees_182 : decode cL_agrees 182 = .ok (.isub, 1) := by decide +kernel
theorem dL_agrees_183 : decode cL_agrees 183 = .ok (.if_icmp .ne 12, 3) := by decide +kernel
theorem dL_agrees_186 : decode cL_agrees 186 = .ok (.aload_n 0, 1) := by decide +kernel
theorem dL_agrees_187 : decode cL_agrees 187 = .ok (.iload 10, 2) := by decide +kernel
theorem dL_agrees_189 : decode cL_agrees 189 = .ok (.invokevirtual 57, 3) := by decide +kernel
theorem dL_agrees_192 : decode cL_agrees 192 = .ok (.ifCond .ge 5, 3) := by decide +kernel
theorem dL_agrees_195 : decode cL_agrees 195 = .ok (.iconst 0, 1) := by decide +kernel
theorem dL_agrees_196 : decode cL_agrees 196 = .ok (.ireturn, 1) := by decide +kernel
theorem dL_agrees_197 : decode cL_agrees 197 = .ok (.iinc 10 1, 3) := by decide +kernel
theorem dL_agrees_200 : decode cL_agrees 200 = .ok (.goto (-39), 3) := by decide +kernel
theorem dL_agrees_203 : decode cL_agrees 203 = .ok (.iconst 0, 1) := by decide +kernel
theorem dL_agrees_204 : decode cL_agrees 204 = .ok (.istore 10, 2) := by decide +kernel
theorem dL_agrees_206 : decode cL_agrees 206 = .ok (.iconst 0, 1) := by decide +kernel
theorem dL_agrees_207 : decode cL_agrees 207 = .ok (.istore 11, 2) := by decide +kernel
theorem dL_agrees_209 : decode cL_agrees 209 = .ok (.iload 11, 2) := by decide +kernel
theorem dL_agrees_211 : decode cL_agrees 211 = .ok (.iconst 4, 1) := by decide +kernel
theorem dL_agrees_212 : decode cL_agrees 212 = .ok (.if_icmp .ge 24, 3) := by decide +kernel
theorem dL_agrees_215 : decode cL_agrees 215 = .ok (.iload 10, 2) := by decide +kernel
theorem dL_agrees_217 : decode cL_agrees 217 = .ok (.aload_n 0, 1) := by decide +kernel
theorem dL_agrees_218 : decode cL_agrees 218 = .ok (.iload 11, 2) := by decide +kernel
theorem dL_agrees_220 : decode cL_agrees 220 = .ok (.iconst 0, 1) := by decide +kernel
theorem dL_agrees_221 : decode cL_agrees 221 = .ok (.sipush 10080, 3) := by decide +kernel
theorem dL_agrees_224 : decode cL_agrees 224 = .ok (.invokevirtual 66, 3) := by decide +kernel
theorem dL_agrees_227 : decode cL_agrees 227 = .ok (.iadd, 1) := by decide +kernel
theorem dL_agrees_228 : decode cL_agrees 228 = .ok (.istore 10, 2) := by decide +kernel
theorem dL_agrees_230 : decode cL_agrees 230 = .ok (.iinc 11 1, 3) := by decide +kernel
theorem dL_agrees_233 : decode cL_agrees 233 = .ok (.goto (-24), 3) := by decide +kernel
theorem dL_agrees_236 : decode cL_agrees 236 = .ok (.iload 4, 2) := by decide +kernel
theorem dL_agrees_238 : decode cL_agrees 238 = .ok (.sipush 9000, 3) := by decide +kernel
theorem dL_agrees_241 : decode cL_agrees 241 = .ok (.invokestatic 78, 3) := by decide +kernel
theorem dL_agrees_244 : decode cL_agrees 244 = .ok (.istore 11, 2) := by decide +kernel
theorem dL_agrees_246 : decode cL_agrees 246 = .ok (.iload 11, 2) := by decide +kernel
theorem dL_agrees_248 : decode cL_agrees 248 = .ok (.iconst 1, 1) := by decide +kernel
theorem dL_agrees_249 : decode cL_agrees 249 = .ok (.iadd, 1) := by decide +kernel
theorem dL_agrees_250 : decode cL_agrees 250 = .ok (.iload 4, 2) := by decide +kernel
theorem dL_agrees_252 : decode cL_agrees 252 = .ok (.bipush 13, 2) := by decide +kernel
theorem dL_agrees_254 : decode cL_agrees 254 = .ok (.ishr, 1) := by decide +kernel
theorem dL_agrees_255 : decode cL_agrees 255 = .ok (.sipush 1000, 3) := by decide +kernel
theorem dL_agrees_258 : decode cL_agrees 258 = .ok (.invokestatic 78, 3) := by decide +kernel
theorem dL_agrees_261 : decode cL_agrees 261 = .ok (.iadd, 1) := by decide +kernel
theorem dL_agrees_262 : decode cL_agrees 262 = .ok (.istore 12, 2) := by decide +kernel
theorem dL_agrees_264 : decode cL_agrees 264 = .ok (.iconst 0, 1) := by decide +kernel
theorem dL_agrees_265 : decode cL_agrees 265 = .ok (.istore 13, 2) := by decide +kernel
theorem dL_agrees_267 : decode cL_agrees 267 = .ok (.iconst 0, 1) := by decide +kernel
theorem dL_agrees_268 : decode cL_agrees 268 = .ok (.istore 14, 2) := by decide +kernel
theorem dL_agrees_270 : decode cL_agrees 270 = .ok (.iload 14, 2) := by decide +kernel
theorem dL_agrees_272 : decode cL_agrees 272 = .ok (.iconst 5, 1) := by decide +kernel
theorem dL_agrees_273 : decode cL_agrees 273 = .ok (.if_icmp .ge 24, 3) := by decide +kernel
theorem dL_agrees_276 : decode cL_agrees 276 = .ok (.iload 13, 2) := by decide +kernel
theorem dL_agrees_278 : decode cL_agrees 278 = .ok (.aload_n 0, 1) := by decide +kernel
theorem dL_agrees_279 : decode cL_agrees 279 = .ok (.iload 14, 2) := by decide +kernel
theorem dL_agrees_281 : decode cL_agrees 281 = .ok (.iload 11, 2) := by decide +kernel
theorem dL_agrees_283 : decode cL_agrees 283 = .ok (.iload 12, 2) := by decide +kernel
theorem dL_agrees_285 : decode cL_agrees 285 = .ok (.invokevirtual 66, 3) := by decide +kernel
theorem dL_agrees_288 : decode cL_agrees 288 = .ok (.iadd, 1) := by decide +kernel
theorem dL_agrees_289 : decode cL_agrees 289 = .ok (.istore 13, 2) := by decide +kernel
theorem dL_agrees_291 : decode cL_agrees 291 = .ok (.iinc 14 1, 3) := by decide +kernel
theorem dL_agrees_294 : decode cL_agrees 294 = .ok (.goto (-24), 3) := by decide +kernel
theorem dL_agrees_297 : decode cL_agrees 297 = .ok (.aload_n 0, 1) := by decide +kernel
theorem dL_agrees_298 : decode cL_agrees 298 = .ok (.iload 11, 2) := by decide +kernel
theorem dL_agrees_300 : decode cL_agrees 300 = .ok (.iload 12, 2) := by decide +kernel
theorem dL_agrees_302 : decode cL_agrees 302 = .ok (.invokevirtual 69, 3) := by decide +kernel
theorem dL_agrees_305 : decode cL_agrees 305 = .ok (.istore 14, 2) := by decide +kernel
theorem dL_agrees_307 : decode cL_agrees 307 = .ok (.aload_n 0, 1) := by decide +kernel
theorem dL_agrees_308 : decode cL_agrees 308 = .ok (.iconst 4, 1) := by decide +kernel
theorem dL_agrees_309 : decode cL_agrees 309 = .ok (.iload 11, 2) := by decide +kernel
theorem dL_agrees_311 : decode cL_agrees 311 = .ok (.iload 12, 2) := by decide +kernel
theorem dL_agrees_313 : decode cL_agrees 313 = .ok (.invokevirtual 66, 3) := by decide +kernel
theorem dL_agrees_316 : decode cL_agrees 316 = .ok (.istore 15, 2) := by decide +kernel
theorem dL_agrees_318 : decode cL_agrees 318 = .ok (.iload 14, 2) := by decide +kernel
theorem dL_agrees_320 : decode cL_agrees 320 = .ok (.ifCond .ge 23, 3) := by decide +kernel
theorem dL_agrees_323 : decode cL_agrees 323 = .ok (.iload 14, 2) := by decide +kernel
theorem dL_agrees_325 : decode cL_agrees 325 = .ok (.bipush (-9), 2) := by decide +kernel
theorem dL_agrees_327 : decode cL_agrees 327 = .ok (.if_icmp .ne 12, 3) := by decide +kernel
theorem dL_agrees_330 : decode cL_agrees 330 = .ok (.iload 15, 2) := by decide +kernel
theorem dL_agrees_332 : decode cL_agrees 332 = .ok (.ifCond .ne 7, 3) := by decide +kernel
theorem dL_agrees_335 : decode cL_agrees 335 = .ok (.iconst 1, 1) := by decide +kernel
theorem dL_agrees_336 : decode cL_agrees 336 = .ok (.goto 92, 3) := by decide +kernel
theorem dL_agrees_339 : decode cL_agrees 339 = .ok (.iconst 0, 1) := by decide +kernel
theorem dL_agrees_340 : decode cL_agrees 340 = .ok (.goto 88, 3) := by decide +kernel
theorem dL_agrees_343 : decode cL_agrees 343 = .ok (.iload 14, 2) := by decide +kernel
theorem dL_agrees_345 : decode cL_agrees 345 = .ok (.sipush 10081, 3) := by decide +kernel
theorem dL_agrees_348 : decode cL_agrees 348 = .ok (.idiv, 1) := by decide +kernel
theorem dL_agrees_349 : decode cL_agrees 349 = .ok (.iload 15, 2) := by decide +kernel
theorem dL_agrees_351 : decode cL_agrees 351 = .ok (.if_icmp .gt 76, 3) := by decide +kernel
theorem dL_agrees_354 : decode cL_agrees 354 = .ok (.iload 14, 2) := by decide +kernel
theorem dL_agrees_356 : decode cL_agrees 356 = .ok (.sipush 10081, 3) := by decide +kernel
theorem dL_agrees_359 : decode cL_agrees 359 = .ok (.idiv, 1) := by decide +kernel
theorem dL_agrees_360 : decode cL_agrees 360 = .ok (.iconst 1, 1) := by decide +kernel
theorem dL_agrees_361 : decode cL_agrees 361 = .ok (.if_icmp .lt 66, 3) := by decide +kernel
theorem dL_agrees_364 : decode cL_agrees 364 = .ok (.iload 14, 2) := by decide +kernel
theorem dL_agrees_366 : decode cL_agrees 366 = .ok (.sipush 10081, 3) := by decide +kernel
theorem dL_agrees_369 : decode cL_agrees 369 = .ok (.irem, 1) := by decide +kernel
theorem dL_agrees_370 : decode cL_agrees 370 = .ok (.iload 11, 2) := by decide +kernel
theorem dL_agrees_372 : decode cL_agrees 372 = .ok (.if_icmp .lt 55, 3) := by decide +kernel
theorem dL_agrees_375 : decode cL_agrees 375 = .ok (.aload_n 0, 1) := by decide +kernel
theorem dL_agrees_376 : decode cL_agrees 376 = .ok (.iload 14, 2) := by decide +kernel
theorem dL_agrees_378 : decode cL_agrees 378 = .ok (.sipush 10081, 3) := by decide +kernel
theorem dL_agrees_381 : decode cL_agrees 381 = .ok (.irem, 1) := by decide +kernel
theorem dL_agrees_382 : decode cL_agrees 382 = .ok (.invokevirtual 54, 3) := by decide +kernel
theorem dL_agrees_385 : decode cL_agrees 385 = .ok (.bipush (-9), 2) := by decide +kernel
theorem dL_agrees_387 : decode cL_agrees 387 = .ok (.if_icmp .ne 40, 3) := by decide +kernel
theorem dL_agrees_390 : decode cL_agrees 390 = .ok (.aload_n 0, 1) := by decide +kernel
theorem dL_agrees_391 : decode cL_agrees 391 = .ok (.iconst 4, 1) := by decide +kernel
theorem dL_agrees_392 : decode cL_agrees 392 = .ok (.iload 14, 2) := by decide +kernel
theorem dL_agrees_394 : decode cL_agrees 394 = .ok (.sipush 10081, 3) := by decide +kernel
theorem dL_agrees_397 : decode cL_agrees 397 = .ok (.irem, 1) := by decide +kernel
theorem dL_agrees_398 : decode cL_agrees 398 = .ok (.iload 14, 2) := by decide +kernel
theorem dL_agrees_400 : decode cL_agrees 400 = .ok (.sipush 10081, 3) := by decide +kernel
theorem dL_agrees_403 : decode cL_agrees 403 = .ok (.irem, 1) := by decide +kernel
theorem dL_agrees_404 : decode cL_agrees 404 = .ok (.iload 14, 2) := by decide +kernel
theorem dL_agrees_406 : decode cL_agrees 406 = .ok (.sipush 10081, 3) := by decide +kernel
theorem dL_agrees_409 : decode cL_agrees 409 = .ok (.idiv, 1) := by decide +kernel
theorem dL_agrees_410 : decode cL_agrees 410 = .ok (.iadd, 1) := by decide +kernel
theorem dL_agrees_411 : decode cL_agrees 411 = .ok (.invokevirtual 66, 3) := by decide +kernel
theorem dL_agrees_414 : decode cL_agrees 414 = .ok (.iload 14, 2) := by decide +kernel
theorem dL_agrees_416 : decode cL_agrees 416 = .ok (.sipush 10081, 3) := by decide +kernel
theorem dL_agrees_419 : decode cL_agrees 419 = .ok (.idiv, 1) := by decide +kernel
theorem dL_agrees_420 : decode cL_agrees 420 = .ok (.if_icmp .ne 7, 3) := by decide +kernel
theorem dL_agrees_423 : decode cL_agrees 423 = .ok (.iconst 1, 1) := by decide +kernel
theorem dL_agrees_424 : decode cL_agrees 424 = .ok (.goto 4, 3) := by decide +kernel
theorem dL_agrees_427 : decode cL_agrees 427 = .ok (.iconst 0, 1) := by decide +kernel
theorem dL_agrees_428 : decode cL_agrees 428 = .ok (.istore 16, 2) := by decide +kernel
theorem dL_agrees_430 : decode cL_agrees 430 = .ok (.iload 16, 2) := by decide +kernel
theorem dL_agrees_432 : decode cL_agrees 432 = .ok (.ifCond .eq 67, 3) := by decide +kernel
theorem dL_agrees_435 : decode cL_agrees 435 = .ok (.iload 10, 2) := by decide +kernel
theorem dL_agrees_437 : decode cL_agrees 437 = .ok (.iload 7, 2) := by decide +kernel
theorem dL_agrees_439 : decode cL_agrees 439 = .ok (.if_icmp .ne 60, 3) := by decide +kernel
theorem dL_agrees_442 : decode cL_agrees 442 = .ok (.aload_n 0, 1) := by decide +kernel
theorem dL_agrees_443 : decode cL_agrees 443 = .ok (.iconst 4, 1) := by decide +kernel
theorem dL_agrees_444 : decode cL_agrees 444 = .ok (.iconst 0, 1) := by decide +kernel
theorem dL_agrees_445 : decode cL_agrees 445 = .ok (.sipush 10080, 3) := by decide +kernel
theorem dL_agrees_448 : decode cL_agrees 448 = .ok (.invokevirtual 66, 3) := by decide +kernel
theorem dL_agrees_451 : decode cL_agrees 451 = .ok (.sipush 10080, 3) := by decide +kernel
theorem dL_agrees_454 : decode cL_agrees 454 = .ok (.iload 7, 2) := by decide +kernel
theorem dL_agrees_456 : decode cL_agrees 456 = .ok (.isub, 1) := by decide +kernel
theorem dL_agrees_457 : decode cL_agrees 457 = .ok (.if_icmp .ne 42, 3) := by decide +kernel
theorem dL_agrees_460 : decode cL_agrees 460 = .ok (.iload 13, 2) := by decide +kernel
theorem dL_agrees_462 : decode cL_agrees 462 = .ok (.iload 12, 2) := by decide +kernel
theorem dL_agrees_464 : decode cL_agrees 464 = .ok (.iload 11, 2) := by decide +kernel
theorem dL_agrees_466 : decode cL_agrees 466 = .ok (.isub, 1) := by decide +kernel
theorem dL_agrees_467 : decode cL_agrees 467 = .ok (.if_icmp .ne 32, 3) := by decide +kernel
theorem dL_agrees_470 : decode cL_agrees 470 = .ok (.iload 5, 2) := by decide +kernel
theorem dL_agrees_472 : decode cL_agrees 472 = .ok (.bipush 60, 2) := by decide +kernel
theorem dL_agrees_474 : decode cL_agrees 474 = .ok (.if_icmp .gt 25, 3) := by decide +kernel
theorem dL_agrees_477 : decode cL_agrees 477 = .ok (.aload_n 0, 1) := by decide +kernel
theorem dL_agrees_478 : decode cL_agrees 478 = .ok (.invokevirtual 83, 3) := by decide +kernel
theorem dL_agrees_481 : decode cL_agrees 481 = .ok (.iload 8, 2) := by decide +kernel
theorem dL_agrees_483 : decode cL_agrees 483 = .ok (.if_icmp .lt 16, 3) := by decide +kernel
theorem dL_agrees_486 : decode cL_agrees 486 = .ok (.aload_n 0, 1) := by decide +kernel
theorem dL_agrees_487 : decode cL_agrees 487 = .ok (.invokevirtual 83, 3) := by decide +kernel
theorem dL_agrees_490 : decode cL_agrees 490 = .ok (.iload 5, 2) := by decide +kernel
theorem dL_agrees_492 : decode cL_agrees 492 = .ok (.if_icmp .gt 7, 3) := by decide +kernel
theorem dL_agrees_495 : decode cL_agrees 495 = .ok (.iconst 1, 1) := by decide +kernel
theorem dL_agrees_496 : decode cL_agrees 496 = .ok (.goto 4, 3) := by decide +kernel
theorem dL_agrees_499 : decode cL_agrees 499 = .ok (.iconst 0, 1) := by decide +kernel
theorem dL_agrees_500 : decode cL_agrees 500 = .ok (.ireturn, 1) := by decide +kernel
theorem dL_places_0 : decode cL_places 0 = .ok (.aload_n 0, 1) := by decide +kernel
theorem dL_places_1 : decode cL_places 1 = .ok (.iload_n 1, 1) := by decide +kernel
theorem dL_places_2 : decode cL_places 2 = .ok (.iload_n 2, 1) := by decide +kernel
theorem dL_places_3 : decode cL_places 3 = .ok (.invokevirtual 60, 3) := by decide +kernel
theorem dL_places_6 : decode cL_places 6 = .ok (.istore 4, 2) := by decide +kernel
theorem dL_places_8 : decode cL_places 8 = .ok (.aload_n 0, 1) := by decide +kernel
theorem dL_places_9 : decode cL_places 9 = .ok (.invokevirtual 15, 3) := by decide +kernel
theorem dL_places_12 : decode cL_places 12 = .ok (.istore 5, 2) := by decide +kernel
theorem dL_places_14 : decode cL_places 14 = .ok (.aload_n 0, 1) := by decide +kernel
theorem dL_places_15 : decode cL_places 15 = .ok (.invokevirtual 9, 3) := by decide +kernel
theorem dL_places_18 : decode cL_places 18 = .ok (.lstore 6, 2) := by decide +kernel
theorem dL_places_20 : decode cL_places 20 = .ok (.aload_n 0, 1) := by decide +kernel
theorem dL_places_21 : decode cL_places 21 = .ok (.iload_n 1, 1) := by decide +kernel
theorem dL_places_22 : decode cL_places 22 = .ok (.iload_n 2, 1) := by decide +kernel
theorem dL_places_23 : decode cL_places 23 = .ok (.iload_n 3, 1) := by decide +kernel
theorem dL_places_24 : decode cL_places 24 = .ok (.invokevirtual 30, 3) := by decide +kernel
theorem dL_places_27 : decode cL_places 27 = .ok (.istore 8, 2) := by decide +kernel
theorem dL_places_29 : decode cL_places 29 = .ok (.iload 4, 2) := by decide +kernel
theorem dL_places_31 : decode cL_places 31 = .ok (.ifCond .eq 40, 3) := by decide +kernel
theorem dL_places_34 : decode cL_places 34 = .ok (.iload 8, 2) := by decide +kernel
theorem dL_places_36 : decode cL_places 36 = .ok (.iload 4, 2) := by decide +kernel
theorem dL_places_38 : decode cL_places 38 = .ok (.if_icmp .ne 31, 3) := by decide +kernel
theorem dL_places_41 : decode cL_places 41 = .ok (.iload 8, 2) := by decide +kernel
theorem dL_places_43 : decode cL_places 43 = .ok (.bipush (-3), 2) := by decide +kernel
theorem dL_places_45 : decode cL_places 45 = .ok (.if_icmp .gt 24, 3) := by decide +kernel
theorem dL_places_48 : decode cL_places 48 = .ok (.iload 8, 2) := by decide +kernel
theorem dL_places_50 : decode cL_places 50 = .ok (.bipush (-6), 2) := by decide +kernel
theorem dL_places_52 : decode cL_places 52 = .ok (.if_icmp .lt 17, 3) := by decide +kernel
theorem dL_places_55 : decode cL_places 55 = .ok (.aload_n 0, 1) := by decide +kernel
theorem dL_places_56 : decode cL_places 56 = .ok (.invokevirtual 9, 3) := by decide +kernel
theorem dL_places_59 : decode cL_places 59 = .ok (.lload 6, 2) := by decide +kernel
theorem dL_places_61 : decode cL_places 61 = .ok (.lcmp, 1) := by decide +kernel
theorem dL_places_62 : decode cL_places 62 = .ok (.ifCond .ne 7, 3) := by decide +kernel
theorem dL_places_65 : decode cL_places 65 = .ok (.iconst 1, 1) := by decide +kernel
theorem dL_places_66 : decode cL_places 66 = .ok (.goto 4, 3) := by decide +kernel
theorem dL_places_69 : decode cL_places 69 = .ok (.iconst 0, 1) := by decide +kernel
theorem dL_places_70 : decode cL_places 70 = .ok (.ireturn, 1) := by decide +kernel
theorem dL_places_71 : decode cL_places 71 = .ok (.iload 8, 2) := by decide +kernel
theorem dL_places_73 : decode cL_places 73 = .ok (.ifCond .lt 76, 3) := by decide +kernel
theorem dL_places_76 : decode cL_places 76 = .ok (.iload 8, 2) := by decide +kernel
theorem dL_places_78 : decode cL_places 78 = .ok (.iload 5, 2) := by decide +kernel
theorem dL_places_80 : decode cL_places 80 = .ok (.if_icmp .gt 69, 3) := by decide +kernel
theorem dL_places_83 : decode cL_places 83 = .ok (.aload_n 0, 1) := by decide +kernel
theorem dL_places_84 : decode cL_places 84 = .ok (.invokevirtual 15, 3) := by decide +kernel
theorem dL_places_87 : decode cL_places 87 = .ok (.iload 5, 2) := by decide +kernel
theorem dL_places_89 : decode cL_places 89 = .ok (.iconst 1, 1) := by decide +kernel
theorem dL_places_90 : decode cL_places 90 = .ok (.iadd, 1) := by decide +kernel
theorem dL_places_91 : decode cL_places 91 = .ok (.if_icmp .ne 58, 3) := by decide +kernel
theorem dL_places_94 : decode cL_places 94 = .ok (.aload_n 0, 1) := by decide +kernel
theorem dL_places_95 : decode cL_places 95 = .ok (.iload 8, 2) := by decide +kernel
theorem dL_places_97 : decode cL_places 97 = .ok (.iconst 0, 1) := by decide +kernel
theorem dL_places_98 : decode cL_places 98 = .ok (.invokevirtual 51, 3) := by decide +kernel
theorem dL_places_101 : decode cL_places 101 = .ok (.iload_n 1, 1) := by decide +kernel
theorem dL_places_102 : decode cL_places 102 = .ok (.if_icmp .ne 47, 3) := by decide +kernel
theorem dL_places_105 : decode cL_places 105 = .ok (.aload_n 0, 1) := by decide +kernel
theorem dL_places_106 : decode cL_places 106 = .ok (.iload 8, 2) := by decide +kernel
theorem dL_places_108 : decode cL_places 108 = .ok (.iconst 1, 1) := by decide +kernel
theorem dL_places_109 : decode cL_places 109 = .ok (.invokevirtual 51, 3) := by decide +kernel
theorem dL_places_112 : decode cL_places 112 = .ok (.iload_n 2, 1) := by decide +kernel
theorem dL_places_113 : decode cL_places 113 = .ok (.if_icmp .ne 36, 3) := by decide +kernel
theorem dL_places_116 : decode cL_places 116 = .ok (.aload_n 0, 1) := by decide +kernel
theorem dL_places_117 : decode cL_places 117 = .ok (.iload 8, 2) := by decide +kernel
theorem dL_places_119 : decode cL_places 119 = .ok (.iconst 3, 1) := by decide +kernel
theorem dL_places_120 : decode cL_places 120 = .ok (.invokevirtual 51, 3) := by decide +kernel
theorem dL_places_123 : decode cL_places 123 = .ok (.iload_n 3, 1) := by decide +kernel
theorem dL_places_124 : decode cL_places 124 = .ok (.ifCond .eq 7, 3) := by decide +kernel
theorem dL_places_127 : decode cL_places 127 = .ok (.iconst 1, 1) := by decide +kernel
theorem dL_places_128 : decode cL_places 128 = .ok (.goto 4, 3) := by decide +kernel
theorem dL_places_131 : decode cL_places 131 = .ok (.iconst 0, 1) := by decide +kernel
theorem dL_places_132 : decode cL_places 132 = .ok (.if_icmp .ne 17, 3) := by decide +kernel
theorem dL_places_135 : decode cL_places 135 = .ok (.aload_n 0, 1) := by decide +kernel
theorem dL_places_136 : decode cL_places 136 = .ok (.iload_n 2, 1) := by decide +kernel
theorem dL_places_137 : decode cL_places 137 = .ok (.invokevirtual 54, 3) := by decide +kernel
theorem dL_places_140 : decode cL_places 140 = .ok (.iload 8, 2) := by decide +kernel
theorem dL_places_142 : decode cL_places 142 = .ok (.if_icmp .ne 7, 3) := by decide +kernel
theorem dL_places_145 : decode cL_places 145 = .ok (.iconst 1, 1) := by decide +kernel
theorem dL_places_146 : decode cL_places 146 = .ok (.goto 4, 3) := by decide +kernel
theorem dL_places_149 : decode cL_places 149 = .ok (.iconst 0, 1) := by decide +kernel
theorem dL_places_150 : decode cL_places 150 = .ok (.ireturn, 1) := by decide +kernel
theorem dL_finds_0 : decode cL_finds 0 = .ok (.aload_n 0, 1) := by decide +kernel
theorem dL_finds_1 : decode cL_finds 1 = .ok (.iload_n 1, 1) := by decide +kernel
theorem dL_finds_2 : decode cL_finds 2 = .ok (.iload_n 2, 1) := by decide +kernel
theorem dL_finds_3 : decode cL_finds 3 = .ok (.invokevirtual 38, 3) := by decide +kernel
theorem dL_finds_6 : decode cL_finds 6 = .ok (.istore_n 3, 1) := by decide +kernel
theorem dL_finds_7 : decode cL_finds 7 = .ok (.iload_n 3, 1) := by decide +kernel
theorem dL_finds_8 : decode cL_finds 8 = .ok (.ifCond .ge 24, 3) := by decide +kernel
theorem dL_finds_11 : decode cL_finds 11 = .ok (.iload_n 3, 1) := by decide +kernel
theorem dL_finds_12 : decode cL_finds 12 = .ok (.bipush (-9), 2) := by decide +kernel
theorem dL_finds_14 : decode cL_finds 14 = .ok (.if_icmp .ne 16, 3) := by decide +kernel
theorem dL_finds_17 : decode cL_finds 17 = .ok (.aload_n 0, 1) := by decide +kernel
theorem dL_finds_18 : decode cL_finds 18 = .ok (.iload_n 1, 1) := by decide +kernel
theorem dL_finds_19 : decode cL_finds 19 = .ok (.iload_n 2, 1) := by decide +kernel
theorem dL_finds_20 : decode cL_finds 20 = .ok (.invokevirtual 60, 3) := by decide +kernel
theorem dL_finds_23 : decode cL_finds 23 = .ok (.ifCond .eq 7, 3) := by decide +kernel
theorem dL_finds_26 : decode cL_finds 26 = .ok (.iconst 1, 1) := by decide +kernel
theorem dL_finds_27 : decode cL_finds 27 = .ok (.goto 4, 3) := by decide +kernel
theorem dL_finds_30 : decode cL_finds 30 = .ok (.iconst 0, 1) := by decide +kernel
theorem dL_finds_31 : decode cL_finds 31 = .ok (.ireturn, 1) := by decide +kernel
theorem dL_finds_32 : decode cL_finds 32 = .ok (.iload_n 3, 1) := by decide +kernel
theorem dL_finds_33 : decode cL_finds 33 = .ok (.iload_n 2, 1) := by decide +kernel
theorem dL_finds_34 : decode cL_finds 34 = .ok (.if_icmp .lt 50, 3) := by decide +kernel
theorem dL_finds_37 : decode cL_finds 37 = .ok (.iload_n 3, 1) := by decide +kernel
theorem dL_finds_38 : decode cL_finds 38 = .ok (.iload_n 2, 1) := by decide +kernel
theorem dL_finds_39 : decode cL_finds 39 = .ok (.sipush 1440, 3) := by decide +kernel
theorem dL_finds_42 : decode cL_finds 42 = .ok (.iadd, 1) := by decide +kernel
theorem dL_finds_43 : decode cL_finds 43 = .ok (.if_icmp .ge 41, 3) := by decide +kernel
theorem dL_finds_46 : decode cL_finds 46 = .ok (.aload_n 0, 1) := by decide +kernel
theorem dL_finds_47 : decode cL_finds 47 = .ok (.iload_n 1, 1) := by decide +kernel
theorem dL_finds_48 : decode cL_finds 48 = .ok (.iload_n 3, 1) := by decide +kernel
theorem dL_finds_49 : decode cL_finds 49 = .ok (.invokevirtual 60, 3) := by decide +kernel
theorem dL_finds_52 : decode cL_finds 52 = .ok (.ifCond .ne 32, 3) := by decide +kernel
theorem dL_finds_55 : decode cL_finds 55 = .ok (.iload_n 3, 1) := by decide +kernel
theorem dL_finds_56 : decode cL_finds 56 = .ok (.iload_n 2, 1) := by decide +kernel
theorem dL_finds_57 : decode cL_finds 57 = .ok (.if_icmp .eq 23, 3) := by decide +kernel
theorem dL_finds_60 : decode cL_finds 60 = .ok (.aload_n 0, 1) := by decide +kernel
theorem dL_finds_61 : decode cL_finds 61 = .ok (.iload_n 1, 1) := by decide +kernel
theorem dL_finds_62 : decode cL_finds 62 = .ok (.iload_n 2, 1) := by decide +kernel
theorem dL_finds_63 : decode cL_finds 63 = .ok (.invokevirtual 60, 3) := by decide +kernel
theorem dL_finds_66 : decode cL_finds 66 = .ok (.ifCond .eq 18, 3) := by decide +kernel
theorem dL_finds_69 : decode cL_finds 69 = .ok (.aload_n 0, 1) := by decide +kernel
theorem dL_finds_70 : decode cL_finds 70 = .ok (.iload_n 1, 1) := by decide +kernel
theorem dL_finds_71 : decode cL_finds 71 = .ok (.iload_n 3, 1) := by decide +kernel
theorem dL_finds_72 : decode cL_finds 72 = .ok (.iconst 1, 1) := by decide +kernel
theorem dL_finds_73 : decode cL_finds 73 = .ok (.isub, 1) := by decide +kernel
theorem dL_finds_74 : decode cL_finds 74 = .ok (.invokevirtual 60, 3) := by decide +kernel
theorem dL_finds_77 : decode cL_finds 77 = .ok (.ifCond .eq 7, 3) := by decide +kernel
theorem dL_finds_80 : decode cL_finds 80 = .ok (.iconst 1, 1) := by decide +kernel
theorem dL_finds_81 : decode cL_finds 81 = .ok (.goto 4, 3) := by decide +kernel
theorem dL_finds_84 : decode cL_finds 84 = .ok (.iconst 0, 1) := by decide +kernel
theorem dL_finds_85 : decode cL_finds 85 = .ok (.ireturn, 1) := by decide +kernel
theorem dL_fills_0 : decode cL_fills 0 = .ok (.aload_n 0, 1) := by decide +kernel
theorem dL_fills_1 : decode cL_fills 1 = .ok (.invokevirtual 15, 3) := by decide +kernel
theorem dL_fills_4 : decode cL_fills 4 = .ok (.istore 4, 2) := by decide +kernel
theorem dL_fills_6 : decode cL_fills 6 = .ok (.aload_n 0, 1) := by decide +kernel
theorem dL_fills_7 : decode cL_fills 7 = .ok (.iconst 4, 1) := by decide +kernel
theorem dL_fills_8 : decode cL_fills 8 = .ok (.iload_n 2, 1) := by decide +kernel
theorem dL_fills_9 : decode cL_fills 9 = .ok (.iload_n 3, 1) := by decide +kernel
theorem dL_fills_10 : decode cL_fills 10 = .ok (.invokevirtual 66, 3) := by decide +kernel
theorem dL_fills_13 : decode cL_fills 13 = .ok (.istore 5, 2) := by decide +kernel
theorem dL_fills_15 : decode cL_fills 15 = .ok (.aload_n 0, 1) := by decide +kernel
theorem dL_fills_16 : decode cL_fills 16 = .ok (.invokevirtual 9, 3) := by decide +kernel
theorem dL_fills_19 : decode cL_fills 19 = .ok (.lstore 6, 2) := by decide +kernel
theorem dL_fills_21 : decode cL_fills 21 = .ok (.aload_n 0, 1) := by decide +kernel
theorem dL_fills_22 : decode cL_fills 22 = .ok (.iload_n 2, 1) := by decide +kernel
theorem dL_fills_23 : decode cL_fills 23 = .ok (.iload_n 3, 1) := by decide +kernel
theorem dL_fills_24 : decode cL_fills 24 = .ok (.invokevirtual 42, 3) := by decide +kernel
theorem dL_fills_27 : decode cL_fills 27 = .ok (.istore 8, 2) := by decide +kernel
theorem dL_fills_29 : decode cL_fills 29 = .ok (.iload 8, 2) := by decide +kernel
theorem dL_fills_31 : decode cL_fills 31 = .ok (.ifCond .ge 51, 3) := by decide +kernel
theorem dL_fills_34 : decode cL_fills 34 = .ok (.aload_n 0, 1) := by decide +kernel
theorem dL_fills_35 : decode cL_fills 35 = .ok (.invokevirtual 9, 3) := by decide +kernel
theorem dL_fills_38 : decode cL_fills 38 = .ok (.lload 6, 2) := by decide +kernel
theorem dL_fills_40 : decode cL_fills 40 = .ok (.lcmp, 1) := by decide +kernel
theorem dL_fills_41 : decode cL_fills 41 = .ok (.ifCond .ne 39, 3) := by decide +kernel
theorem dL_fills_44 : decode cL_fills 44 = .ok (.iload 5, 2) := by decide +kernel
theorem dL_fills_46 : decode cL_fills 46 = .ok (.iload_n 3, 1) := by decide +kernel
theorem dL_fills_47 : decode cL_fills 47 = .ok (.iload_n 2, 1) := by decide +kernel
theorem dL_fills_48 : decode cL_fills 48 = .ok (.isub, 1) := by decide +kernel
theorem dL_fills_49 : decode cL_fills 49 = .ok (.if_icmp .ge 13, 3) := by decide +kernel
theorem dL_fills_52 : decode cL_fills 52 = .ok (.iload 8, 2) := by decide +kernel
theorem dL_fills_54 : decode cL_fills 54 = .ok (.bipush (-4), 2) := by decide +kernel
theorem dL_fills_56 : decode cL_fills 56 = .ok (.if_icmp .ne 24, 3) := by decide +kernel
theorem dL_fills_59 : decode cL_fills 59 = .ok (.goto 17, 3) := by decide +kernel
theorem dL_fills_62 : decode cL_fills 62 = .ok (.iload 8, 2) := by decide +kernel
theorem dL_fills_64 : decode cL_fills 64 = .ok (.bipush (-9), 2) := by decide +kernel
theorem dL_fills_66 : decode cL_fills 66 = .ok (.if_icmp .eq 10, 3) := by decide +kernel
theorem dL_fills_69 : decode cL_fills 69 = .ok (.iload 8, 2) := by decide +kernel
theorem dL_fills_71 : decode cL_fills 71 = .ok (.bipush (-3), 2) := by decide +kernel
theorem dL_fills_73 : decode cL_fills 73 = .ok (.if_icmp .ne 7, 3) := by decide +kernel
theorem dL_fills_76 : decode cL_fills 76 = .ok (.iconst 1, 1) := by decide +kernel
theorem dL_fills_77 : decode cL_fills 77 = .ok (.goto 4, 3) := by decide +kernel
theorem dL_fills_80 : decode cL_fills 80 = .ok (.iconst 0, 1) := by decide +kernel
theorem dL_fills_81 : decode cL_fills 81 = .ok (.ireturn, 1) := by decide +kernel
theorem dL_fills_82 : decode cL_fills 82 = .ok (.iload 5, 2) := by decide +kernel
theorem dL_fills_84 : decode cL_fills 84 = .ok (.iload_n 3, 1) := by decide +kernel
theorem dL_fills_85 : decode cL_fills 85 = .ok (.iload_n 2, 1) := by decide +kernel
theorem dL_fills_86 : decode cL_fills 86 = .ok (.isub, 1) := by decide +kernel
theorem dL_fills_87 : decode cL_fills 87 = .ok (.if_icmp .ne 70, 3) := by decide +kernel
theorem dL_fills_90 : decode cL_fills 90 = .ok (.iload 8, 2) := by decide +kernel
theorem dL_fills_92 : decode cL_fills 92 = .ok (.iconst 1, 1) := by decide +kernel
theorem dL_fills_93 : decode cL_fills 93 = .ok (.if_icmp .lt 64, 3) := by decide +kernel
theorem dL_fills_96 : decode cL_fills 96 = .ok (.aload_n 0, 1) := by decide +kernel
theorem dL_fills_97 : decode cL_fills 97 = .ok (.invokevirtual 15, 3) := by decide +kernel
theorem dL_fills_100 : decode cL_fills 100 = .ok (.iload 4, 2) := by decide +kernel
theorem dL_fills_102 : decode cL_fills 102 = .ok (.iload 8, 2) := by decide +kernel
theorem dL_fills_104 : decode cL_fills 104 = .ok (.iadd, 1) := by decide +kernel
theorem dL_fills_105 : decode cL_fills 105 = .ok (.if_icmp .ne 52, 3) := by decide +kernel
theorem dL_fills_108 : decode cL_fills 108 = .ok (.aload_n 0, 1) := by decide +kernel
theorem dL_fills_109 : decode cL_fills 109 = .ok (.iconst 4, 1) := by decide +kernel
theorem dL_fills_110 : decode cL_fills 110 = .ok (.iload_n 2, 1) := by decide +kernel
theorem dL_fills_111 : decode cL_fills 111 = .ok (.iload_n 3, 1) := by decide +kernel
theorem dL_fills_112 : decode cL_fills 112 = .ok (.invokevirtual 66, 3) := by decide +kernel
theorem dL_fills_115 : decode cL_fills 115 = .ok (.ifCond .ne 42, 3) := by decide +kernel
theorem dL_fills_118 : decode cL_fills 118 = .ok (.aload_n 0, 1) := by decide +kernel
theorem dL_fills_119 : decode cL_fills 119 = .ok (.iload_n 2, 1) := by decide +kernel
theorem dL_fills_120 : decode cL_fills 120 = .ok (.invokevirtual 54, 3) := by decide +kernel
theorem dL_fills_123 : decode cL_fills 123 = .ok (.ifCond .lt 34, 3) := by decide +kernel
theorem dL_fills_126 : decode cL_fills 126 = .ok (.aload_n 0, 1) := by decide +kernel
theorem dL_fills_127 : decode cL_fills 127 = .ok (.aload_n 0, 1) := by decide +kernel
theorem dL_fills_128 : decode cL_fills 128 = .ok (.iload_n 2, 1) := by decide +kernel
theorem dL_fills_129 : decode cL_fills 129 = .ok (.invokevirtual 54, 3) := by decide +kernel
theorem dL_fills_132 : decode cL_fills 132 = .ok (.iconst 1, 1) := by decide +kernel
theorem dL_fills_133 : decode cL_fills 133 = .ok (.invokevirtual 51, 3) := by decide +kernel
theorem dL_fills_136 : decode cL_fills 136 = .ok (.iload_n 2, 1) := by decide +kernel
theorem dL_fills_137 : decode cL_fills 137 = .ok (.if_icmp .ne 20, 3) := by decide +kernel
theorem dL_fills_140 : decode cL_fills 140 = .ok (.aload_n 0, 1) := by decide +kernel
theorem dL_fills_141 : decode cL_fills 141 = .ok (.iconst 2, 1) := by decide +kernel
theorem dL_fills_142 : decode cL_fills 142 = .ok (.iload_n 2, 1) := by decide +kernel
theorem dL_fills_143 : decode cL_fills 143 = .ok (.iload_n 3, 1) := by decide +kernel
theorem dL_fills_144 : decode cL_fills 144 = .ok (.invokevirtual 66, 3) := by decide +kernel
theorem dL_fills_147 : decode cL_fills 147 = .ok (.iload_n 3, 1) := by decide +kernel
theorem dL_fills_148 : decode cL_fills 148 = .ok (.iload_n 2, 1) := by decide +kernel
theorem dL_fills_149 : decode cL_fills 149 = .ok (.isub, 1) := by decide +kernel
theorem dL_fills_150 : decode cL_fills 150 = .ok (.if_icmp .ne 7, 3) := by decide +kernel
theorem dL_fills_153 : decode cL_fills 153 = .ok (.iconst 1, 1) := by decide +kernel
theorem dL_fills_154 : decode cL_fills 154 = .ok (.goto 4, 3) := by decide +kernel
theorem dL_fills_157 : decode cL_fills 157 = .ok (.iconst 0, 1) := by decide +kernel
theorem dL_fills_158 : decode cL_fills 158 = .ok (.istore 9, 2) := by decide +kernel
theorem dL_fills_160 : decode cL_fills 160 = .ok (.iload 9, 2) := by decide +kernel
theorem dL_fills_162 : decode cL_fills 162 = .ok (.ifCond .eq 11, 3) := by decide +kernel
theorem dL_fills_165 : decode cL_fills 165 = .ok (.aload_n 0, 1) := by decide +kernel
theorem dL_fills_166 : decode cL_fills 166 = .ok (.iload_n 2, 1) := by decide +kernel
theorem dL_fills_167 : decode cL_fills 167 = .ok (.invokevirtual 54, 3) := by decide +kernel
theorem dL_fills_170 : decode cL_fills 170 = .ok (.goto 4, 3) := by decide +kernel
theorem dL_fills_173 : decode cL_fills 173 = .ok (.iconst 0, 1) := by decide +kernel
theorem dL_fills_174 : decode cL_fills 174 = .ok (.istore 10, 2) := by decide +kernel
theorem dL_fills_176 : decode cL_fills 176 = .ok (.iconst 0, 1) := by decide +kernel
theorem dL_fills_177 : decode cL_fills 177 = .ok (.istore 11, 2) := by decide +kernel
theorem dL_fills_179 : decode cL_fills 179 = .ok (.iload 11, 2) := by decide +kernel
theorem dL_fills_181 : decode cL_fills 181 = .ok (.iload 8, 2) := by decide +kernel
theorem dL_fills_183 : decode cL_fills 183 = .ok (.if_icmp .ge 121, 3) := by decide +kernel
theorem dL_fills_186 : decode cL_fills 186 = .ok (.iload 9, 2) := by decide +kernel
theorem dL_fills_188 : decode cL_fills 188 = .ok (.ifCond .eq 116, 3) := by decide +kernel
theorem dL_fills_191 : decode cL_fills 191 = .ok (.aload_n 1, 1) := by decide +kernel
theorem dL_fills_192 : decode cL_fills 192 = .ok (.aload_n 0, 1) := by decide +kernel
theorem dL_fills_193 : decode cL_fills 193 = .ok (.iload 10, 2) := by decide +kernel
theorem dL_fills_195 : decode cL_fills 195 = .ok (.iload 11, 2) := by decide +kernel
theorem dL_fills_197 : decode cL_fills 197 = .ok (.iadd, 1) := by decide +kernel
theorem dL_fills_198 : decode cL_fills 198 = .ok (.iconst 0, 1) := by decide +kernel
theorem dL_fills_199 : decode cL_fills 199 = .ok (.invokevirtual 51, 3) := by decide +kernel
theorem dL_fills_202 : decode cL_fills 202 = .ok (.iaload, 1) := by decide +kernel
theorem dL_fills_203 : decode cL_fills 203 = .ok (.iconst 2, 1) := by decide +kernel
theorem dL_fills_204 : decode cL_fills 204 = .ok (.if_icmp .ne 91, 3) := by decide +kernel
theorem dL_fills_207 : decode cL_fills 207 = .ok (.iload 10, 2) := by decide +kernel
theorem dL_fills_209 : decode cL_fills 209 = .ok (.iload 11, 2) := by decide +kernel
theorem dL_fills_211 : decode cL_fills 211 = .ok (.iadd, 1) := by decide +kernel
theorem dL_fills_212 : decode cL_fills 212 = .ok (.ifCond .eq 66, 3) := by decide +kernel
theorem dL_fills_215 : decode cL_fills 215 = .ok (.aload_n 0, 1) := by decide +kernel
theorem dL_fills_216 : decode cL_fills 216 = .ok (.iload 10, 2) := by decide +kernel
theorem dL_fills_218 : decode cL_fills 218 = .ok (.iload 11, 2) := by decide +kernel
theorem dL_fills_220 : decode cL_fills 220 = .ok (.iadd, 1) := by decide +kernel
theorem dL_fills_221 : decode cL_fills 221 = .ok (.iconst 1, 1) := by decide +kernel
theorem dL_fills_222 : decode cL_fills 222 = .ok (.isub, 1) := by decide +kernel
theorem dL_fills_223 : decode cL_fills 223 = .ok (.iconst 1, 1) := by decide +kernel
theorem dL_fills_224 : decode cL_fills 224 = .ok (.invokevirtual 51, 3) := by decide +kernel
theorem dL_fills_227 : decode cL_fills 227 = .ok (.aload_n 0, 1) := by decide +kernel
theorem dL_fills_228 : decode cL_fills 228 = .ok (.iload 10, 2) := by decide +kernel
theorem dL_fills_230 : decode cL_fills 230 = .ok (.iload 11, 2) := by decide +kernel
theorem dL_fills_232 : decode cL_fills 232 = .ok (.iadd, 1) := by decide +kernel
theorem dL_fills_233 : decode cL_fills 233 = .ok (.iconst 1, 1) := by decide +kernel
theorem dL_fills_234 : decode cL_fills 234 = .ok (.isub, 1) := by decide +kernel
theorem dL_fills_235 : decode cL_fills 235 = .ok (.iconst 2, 1) := by decide +kernel
theorem dL_fills_236 : decode cL_fills 236 = .ok (.invokevirtual 51, 3) := by decide +kernel
theorem dL_fills_239 : decode cL_fills 239 = .ok (.iadd, 1) := by decide +kernel
theorem dL_fills_240 : decode cL_fills 240 = .ok (.aload_n 0, 1) := by decide +kernel
theorem dL_fills_241 : decode cL_fills 241 = .ok (.iload 10, 2) := by decide +kernel
theorem dL_fills_243 : decode cL_fills 243 = .ok (.iload 11, 2) := by decide +kernel
theorem dL_fills_245 : decode cL_fills 245 = .ok (.iadd, 1) := by decide +kernel
theorem dL_fills_246 : decode cL_fills 246 = .ok (.iconst 1, 1) := by decide +kernel
theorem dL_fills_247 : decode cL_fills 247 = .ok (.invokevirtual 51, 3) := by decide +kernel
theorem dL_fills_250 : decode cL_fills 250 = .ok (.if_icmp .lt 28, 3) := by decide +kernel
theorem dL_fills_253 : decode cL_fills 253 = .ok (.aload_n 0, 1) := by decide +kernel
theorem dL_fills_254 : decode cL_fills 254 = .ok (.iload 10, 2) := by decide +kernel
theorem dL_fills_256 : decode cL_fills 256 = .ok (.iload 11, 2) := by decide +kernel
theorem dL_fills_258 : decode cL_fills 258 = .ok (.iadd, 1) := by decide +kernel
theorem dL_fills_259 : decode cL_fills 259 = .ok (.iconst 1, 1) := by decide +kernel
theorem dL_fills_260 : decode cL_fills 260 = .ok (.isub, 1) := by decide +kernel
theorem dL_fills_261 : decode cL_fills 261 = .ok (.iconst 0, 1) := by decide +kernel
theorem dL_fills_262 : decode cL_fills 262 = .ok (.invokevirtual 51, 3) := by decide +kernel
theorem dL_fills_265 : decode cL_fills 265 = .ok (.aload_n 0, 1) := by decide +kernel
theorem dL_fills_266 : decode cL_fills 266 = .ok (.iload 10, 2) := by decide +kernel
theorem dL_fills_268 : decode cL_fills 268 = .ok (.iload 11, 2) := by decide +kernel
theorem dL_fills_270 : decode cL_fills 270 = .ok (.iadd, 1) := by decide +kernel
theorem dL_fills_271 : decode cL_fills 271 = .ok (.iconst 0, 1) := by decide +kernel
theorem dL_fills_272 : decode cL_fills 272 = .ok (.invokevirtual 51, 3) := by decide +kernel
theorem dL_fills_275 : decode cL_fills 275 = .ok (.if_icmp .eq 20, 3) := by decide +kernel
theorem dL_fills_278 : decode cL_fills 278 = .ok (.aload_n 0, 1) := by decide +kernel
theorem dL_fills_279 : decode cL_fills 279 = .ok (.iload 10, 2) := by decide +kernel
theorem dL_fills_281 : decode cL_fills 281 = .ok (.iload 11, 2) := by decide +kernel
theorem dL_fills_283 : decode cL_fills 283 = .ok (.iadd, 1) := by decide +kernel
theorem dL_fills_284 : decode cL_fills 284 = .ok (.iconst 3, 1) := by decide +kernel
theorem dL_fills_285 : decode cL_fills 285 = .ok (.invokevirtual 51, 3) := by decide +kernel
theorem dL_fills_288 : decode cL_fills 288 = .ok (.ifCond .ne 7, 3) := by decide +kernel
theorem dL_fills_291 : decode cL_fills 291 = .ok (.iconst 1, 1) := by decide +kernel
theorem dL_fills_292 : decode cL_fills 292 = .ok (.goto 4, 3) := by decide +kernel
theorem dL_fills_295 : decode cL_fills 295 = .ok (.iconst 0, 1) := by decide +kernel
theorem dL_fills_296 : decode cL_fills 296 = .ok (.istore 9, 2) := by decide +kernel
theorem dL_fills_298 : decode cL_fills 298 = .ok (.iinc 11 1, 3) := by decide +kernel
theorem dL_fills_301 : decode cL_fills 301 = .ok (.goto (-122), 3) := by decide +kernel
theorem dL_fills_304 : decode cL_fills 304 = .ok (.iload 9, 2) := by decide +kernel
theorem dL_fills_306 : decode cL_fills 306 = .ok (.ireturn, 1) := by decide +kernel
theorem dL_runs_0 : decode cL_runs 0 = .ok (.aload_n 0, 1) := by decide +kernel
theorem dL_runs_1 : decode cL_runs 1 = .ok (.iload_n 3, 1) := by decide +kernel
theorem dL_runs_2 : decode cL_runs 2 = .ok (.iconst 0, 1) := by decide +kernel
theorem dL_runs_3 : decode cL_runs 3 = .ok (.invokevirtual 51, 3) := by decide +kernel
theorem dL_runs_6 : decode cL_runs 6 = .ok (.istore 5, 2) := by decide +kernel
theorem dL_runs_8 : decode cL_runs 8 = .ok (.aload_n 0, 1) := by decide +kernel
theorem dL_runs_9 : decode cL_runs 9 = .ok (.iload_n 3, 1) := by decide +kernel
theorem dL_runs_10 : decode cL_runs 10 = .ok (.iconst 1, 1) := by decide +kernel
theorem dL_runs_11 : decode cL_runs 11 = .ok (.invokevirtual 51, 3) := by decide +kernel
theorem dL_runs_14 : decode cL_runs 14 = .ok (.aload_n 0, 1) := by decide +kernel
theorem dL_runs_15 : decode cL_runs 15 = .ok (.iload_n 3, 1) := by decide +kernel
theorem dL_runs_16 : decode cL_runs 16 = .ok (.iconst 2, 1) := by decide +kernel
theorem dL_runs_17 : decode cL_runs 17 = .ok (.invokevirtual 51, 3) := by decide +kernel
theorem dL_runs_20 : decode cL_runs 20 = .ok (.iadd, 1) := by decide +kernel
theorem dL_runs_21 : decode cL_runs 21 = .ok (.istore 6, 2) := by decide +kernel
theorem dL_runs_23 : decode cL_runs 23 = .ok (.aload_n 0, 1) := by decide +kernel
theorem dL_runs_24 : decode cL_runs 24 = .ok (.invokevirtual 15, 3) := by decide +kernel
theorem dL_runs_27 : decode cL_runs 27 = .ok (.istore 7, 2) := by decide +kernel
theorem dL_runs_29 : decode cL_runs 29 = .ok (.iconst 0, 1) := by decide +kernel
theorem dL_runs_30 : decode cL_runs 30 = .ok (.istore 8, 2) := by decide +kernel
theorem dL_runs_32 : decode cL_runs 32 = .ok (.iconst 0, 1) := by decide +kernel
theorem dL_runs_33 : decode cL_runs 33 = .ok (.istore 9, 2) := by decide +kernel
theorem dL_runs_35 : decode cL_runs 35 = .ok (.iload 9, 2) := by decide +kernel
theorem dL_runs_37 : decode cL_runs 37 = .ok (.iload_n 2, 1) := by decide +kernel
theorem dL_runs_38 : decode cL_runs 38 = .ok (.if_icmp .ge 20, 3) := by decide +kernel
theorem dL_runs_41 : decode cL_runs 41 = .ok (.iload 8, 2) := by decide +kernel
theorem dL_runs_43 : decode cL_runs 43 = .ok (.aload_n 0, 1) := by decide +kernel
theorem dL_runs_44 : decode cL_runs 44 = .ok (.iload 9, 2) := by decide +kernel
theorem dL_runs_46 : decode cL_runs 46 = .ok (.invokevirtual 63, 3) := by decide +kernel
theorem dL_runs_49 : decode cL_runs 49 = .ok (.iadd, 1) := by decide +kernel
theorem dL_runs_50 : decode cL_runs 50 = .ok (.istore 8, 2) := by decide +kernel
theorem dL_runs_52 : decode cL_runs 52 = .ok (.iinc 9 1, 3) := by decide +kernel
theorem dL_runs_55 : decode cL_runs 55 = .ok (.goto (-20), 3) := by decide +kernel
theorem dL_runs_58 : decode cL_runs 58 = .ok (.aload_n 0, 1) := by decide +kernel
theorem dL_runs_59 : decode cL_runs 59 = .ok (.invokevirtual 9, 3) := by decide +kernel
theorem dL_runs_62 : decode cL_runs 62 = .ok (.lstore 9, 2) := by decide +kernel
theorem dL_runs_64 : decode cL_runs 64 = .ok (.aload_n 0, 1) := by decide +kernel
theorem dL_runs_65 : decode cL_runs 65 = .ok (.iload_n 3, 1) := by decide +kernel
theorem dL_runs_66 : decode cL_runs 66 = .ok (.iload 4, 2) := by decide +kernel
theorem dL_runs_68 : decode cL_runs 68 = .ok (.invokevirtual 45, 3) := by decide +kernel
theorem dL_runs_71 : decode cL_runs 71 = .ok (.istore 11, 2) := by decide +kernel
theorem dL_runs_73 : decode cL_runs 73 = .ok (.iload 11, 2) := by decide +kernel
theorem dL_runs_75 : decode cL_runs 75 = .ok (.ifCond .ge 55, 3) := by decide +kernel
theorem dL_runs_78 : decode cL_runs 78 = .ok (.aload_n 0, 1) := by decide +kernel
theorem dL_runs_79 : decode cL_runs 79 = .ok (.invokevirtual 9, 3) := by decide +kernel
theorem dL_runs_82 : decode cL_runs 82 = .ok (.lload 9, 2) := by decide +kernel
theorem dL_runs_84 : decode cL_runs 84 = .ok (.lcmp, 1) := by decide +kernel
theorem dL_runs_85 : decode cL_runs 85 = .ok (.ifCond .ne 43, 3) := by decide +kernel
theorem dL_runs_88 : decode cL_runs 88 = .ok (.aload_n 1, 1) := by decide +kernel
theorem dL_runs_89 : decode cL_runs 89 = .ok (.iload 5, 2) := by decide +kernel
theorem dL_runs_91 : decode cL_runs 91 = .ok (.iaload, 1) := by decide +kernel
theorem dL_runs_92 : decode cL_runs 92 = .ok (.iconst 1, 1) := by decide +kernel
theorem dL_runs_93 : decode cL_runs 93 = .ok (.if_icmp .eq 13, 3) := by decide +kernel
theorem dL_runs_96 : decode cL_runs 96 = .ok (.iload 11, 2) := by decide +kernel
theorem dL_runs_98 : decode cL_runs 98 = .ok (.bipush (-2), 2) := by decide +kernel
theorem dL_runs_100 : decode cL_runs 100 = .ok (.if_icmp .ne 28, 3) := by decide +kernel
theorem dL_runs_103 : decode cL_runs 103 = .ok (.goto 21, 3) := by decide +kernel
theorem dL_runs_106 : decode cL_runs 106 = .ok (.iload 6, 2) := by decide +kernel
theorem dL_runs_108 : decode cL_runs 108 = .ok (.iload 4, 2) := by decide +kernel
theorem dL_runs_110 : decode cL_runs 110 = .ok (.iadd, 1) := by decide +kernel
theorem dL_runs_111 : decode cL_runs 111 = .ok (.sipush 10080, 3) := by decide +kernel
theorem dL_runs_114 : decode cL_runs 114 = .ok (.if_icmp .le 14, 3) := by decide +kernel
theorem dL_runs_117 : decode cL_runs 117 = .ok (.iload 11, 2) := by decide +kernel
theorem dL_runs_119 : decode cL_runs 119 = .ok (.bipush (-4), 2) := by decide +kernel
theorem dL_runs_121 : decode cL_runs 121 = .ok (.if_icmp .ne 7, 3) := by decide +kernel
theorem dL_runs_124 : decode cL_runs 124 = .ok (.iconst 1, 1) := by decide +kernel
theorem dL_runs_125 : decode cL_runs 125 = .ok (.goto 4, 3) := by decide +kernel
theorem dL_runs_128 : decode cL_runs 128 = .ok (.iconst 0, 1) := by decide +kernel
theorem dL_runs_129 : decode cL_runs 129 = .ok (.ireturn, 1) := by decide +kernel
theorem dL_runs_130 : decode cL_runs 130 = .ok (.iconst 0, 1) := by decide +kernel
theorem dL_runs_131 : decode cL_runs 131 = .ok (.istore 12, 2) := by decide +kernel
theorem dL_runs_133 : decode cL_runs 133 = .ok (.iconst 0, 1) := by decide +kernel
theorem dL_runs_134 : decode cL_runs 134 = .ok (.istore 13, 2) := by decide +kernel
theorem dL_runs_136 : decode cL_runs 136 = .ok (.iload 13, 2) := by decide +kernel
theorem dL_runs_138 : decode cL_runs 138 = .ok (.iload_n 2, 1) := by decide +kernel
theorem dL_runs_139 : decode cL_runs 139 = .ok (.if_icmp .ge 20, 3) := by decide +kernel
theorem dL_runs_142 : decode cL_runs 142 = .ok (.iload 12, 2) := by decide +kernel
theorem dL_runs_144 : decode cL_runs 144 = .ok (.aload_n 0, 1) := by decide +kernel
theorem dL_runs_145 : decode cL_runs 145 = .ok (.iload 13, 2) := by decide +kernel
theorem dL_runs_147 : decode cL_runs 147 = .ok (.invokevirtual 63, 3) := by decide +kernel
theorem dL_runs_150 : decode cL_runs 150 = .ok (.iadd, 1) := by decide +kernel
theorem dL_runs_151 : decode cL_runs 151 = .ok (.istore 12, 2) := by decide +kernel
theorem dL_runs_153 : decode cL_runs 153 = .ok (.iinc 13 1, 3) := by decide +kernel
theorem dL_runs_156 : decode cL_runs 156 = .ok (.goto (-20), 3) := by decide +kernel
theorem dL_runs_159 : decode cL_runs 159 = .ok (.aload_n 1, 1) := by decide +kernel
theorem dL_runs_160 : decode cL_runs 160 = .ok (.iload 5, 2) := by decide +kernel
theorem dL_runs_162 : decode cL_runs 162 = .ok (.iaload, 1) := by decide +kernel
theorem dL_runs_163 : decode cL_runs 163 = .ok (.iconst 1, 1) := by decide +kernel
theorem dL_runs_164 : decode cL_runs 164 = .ok (.if_icmp .ne 57, 3) := by decide +kernel
theorem dL_runs_167 : decode cL_runs 167 = .ok (.aload_n 0, 1) := by decide +kernel
theorem dL_runs_168 : decode cL_runs 168 = .ok (.invokevirtual 15, 3) := by decide +kernel
theorem dL_runs_171 : decode cL_runs 171 = .ok (.iload 7, 2) := by decide +kernel
theorem dL_runs_173 : decode cL_runs 173 = .ok (.iload 11, 2) := by decide +kernel
theorem dL_runs_175 : decode cL_runs 175 = .ok (.isub, 1) := by decide +kernel
theorem dL_runs_176 : decode cL_runs 176 = .ok (.if_icmp .ne 45, 3) := by decide +kernel
theorem dL_runs_179 : decode cL_runs 179 = .ok (.aload_n 0, 1) := by decide +kernel
theorem dL_runs_180 : decode cL_runs 180 = .ok (.iload_n 3, 1) := by decide +kernel
theorem dL_runs_181 : decode cL_runs 181 = .ok (.iconst 1, 1) := by decide +kernel
theorem dL_runs_182 : decode cL_runs 182 = .ok (.invokevirtual 51, 3) := by decide +kernel
theorem dL_runs_185 : decode cL_runs 185 = .ok (.aload_n 0, 1) := by decide +kernel
theorem dL_runs_186 : decode cL_runs 186 = .ok (.iload_n 3, 1) := by decide +kernel
theorem dL_runs_187 : decode cL_runs 187 = .ok (.iconst 2, 1) := by decide +kernel
theorem dL_runs_188 : decode cL_runs 188 = .ok (.invokevirtual 51, 3) := by decide +kernel
theorem dL_runs_191 : decode cL_runs 191 = .ok (.iadd, 1) := by decide +kernel
theorem dL_runs_192 : decode cL_runs 192 = .ok (.iload 6, 2) := by decide +kernel
theorem dL_runs_194 : decode cL_runs 194 = .ok (.iload 4, 2) := by decide +kernel
theorem dL_runs_196 : decode cL_runs 196 = .ok (.iadd, 1) := by decide +kernel
theorem dL_runs_197 : decode cL_runs 197 = .ok (.if_icmp .ne 24, 3) := by decide +kernel
theorem dL_runs_200 : decode cL_runs 200 = .ok (.iload 12, 2) := by decide +kernel
theorem dL_runs_202 : decode cL_runs 202 = .ok (.iload 8, 2) := by decide +kernel
theorem dL_runs_204 : decode cL_runs 204 = .ok (.if_icmp .lt 17, 3) := by decide +kernel
theorem dL_runs_207 : decode cL_runs 207 = .ok (.iload 12, 2) := by decide +kernel
theorem dL_runs_209 : decode cL_runs 209 = .ok (.iload 8, 2) := by decide +kernel
theorem dL_runs_211 : decode cL_runs 211 = .ok (.iload 11, 2) := by decide +kernel
theorem dL_runs_213 : decode cL_runs 213 = .ok (.iadd, 1) := by decide +kernel
theorem dL_runs_214 : decode cL_runs 214 = .ok (.if_icmp .gt 7, 3) := by decide +kernel
theorem dL_runs_217 : decode cL_runs 217 = .ok (.iconst 1, 1) := by decide +kernel
theorem dL_runs_218 : decode cL_runs 218 = .ok (.goto 4, 3) := by decide +kernel
theorem dL_runs_221 : decode cL_runs 221 = .ok (.iconst 0, 1) := by decide +kernel
theorem dL_runs_222 : decode cL_runs 222 = .ok (.ireturn, 1) := by decide +kernel
theorem dL_law_0 : decode code 0 = .ok (.new 10, 3) := by decide +kernel
theorem dL_law_3 : decode code 3 = .ok (.dup, 1) := by decide +kernel
theorem dL_law_4 : decode code 4 = .ok (.invokespecial 86, 3) := by decide +kernel
theorem dL_law_7 : decode code 7 = .ok (.astore_n 1, 1) := by decide +kernel
theorem dL_law_8 : decode code 8 = .ok (.bipush 16, 2) := by decide +kernel
theorem dL_law_10 : decode code 10 = .ok (.newarray .int, 2) := by decide +kernel
theorem dL_law_12 : decode code 12 = .ok (.astore_n 2, 1) := by decide +kernel
theorem dL_law_13 : decode code 13 = .ok (.bipush 30, 2) := by decide +kernel
theorem dL_law_15 : decode code 15 = .ok (.newarray .int, 2) := by decide +kernel
theorem dL_law_17 : decode code 17 = .ok (.astore_n 3, 1) := by decide +kernel
theorem dL_law_18 : decode code 18 = .ok (.aload_n 1, 1) := by decide +kernel
theorem dL_law_19 : decode code 19 = .ok (.invokevirtual 87, 3) := by decide +kernel
theorem dL_law_22 : decode code 22 = .ok (.bipush (-9), 2) := by decide +kernel
theorem dL_law_24 : decode code 24 = .ok (.if_icmp .ne 25, 3) := by decide +kernel
theorem dL_law_27 : decode code 27 = .ok (.aload_n 1, 1) := by decide +kernel
theorem dL_law_28 : decode code 28 = .ok (.iconst 0, 1) := by decide +kernel
theorem dL_law_29 : decode code 29 = .ok (.sipush 10080, 3) := by decide +kernel
theorem dL_law_32 : decode code 32 = .ok (.invokevirtual 69, 3) := by decide +kernel
theorem dL_law_35 : decode code 35 = .ok (.ldc 90, 2) := by decide +kernel
theorem dL_law_37 : decode code 37 = .ok (.if_icmp .ne 12, 3) := by decide +kernel
theorem dL_law_40 : decode code 40 = .ok (.aload_n 1, 1) := by decide +kernel
theorem dL_law_41 : decode code 41 = .ok (.iconst 0, 1) := by decide +kernel
theorem dL_law_42 : decode code 42 = .ok (.iconst 0, 1) := by decide +kernel
theorem dL_law_43 : decode code 43 = .ok (.invokestatic 91, 3) := by decide +kernel
theorem dL_law_46 : decode code 46 = .ok (.ifCond .ne 5, 3) := by decide +kernel
theorem dL_law_49 : decode code 49 = .ok (.iconst 0, 1) := by decide +kernel
theorem dL_law_50 : decode code 50 = .ok (.ireturn, 1) := by decide +kernel
theorem dL_law_51 : decode code 51 = .ok (.iconst 3, 1) := by decide +kernel
theorem dL_law_52 : decode code 52 = .ok (.aload_n 0, 1) := by decide +kernel
theorem dL_law_53 : decode code 53 = .ok (.iconst 0, 1) := by decide +kernel
theorem dL_law_54 : decode code 54 = .ok (.invokestatic 95, 3) := by decide +kernel
theorem dL_law_57 : decode code 57 = .ok (.bipush 7, 2) := by decide +kernel
theorem dL_law_59 : decode code 59 = .ok (.invokestatic 78, 3) := by decide +kernel
theorem dL_law_62 : decode code 62 = .ok (.iadd, 1) := by decide +kernel
theorem dL_law_63 : decode code 63 = .ok (.istore 4, 2) := by decide +kernel
theorem dL_law_65 : decode code 65 = .ok (.iconst 0, 1) := by decide +kernel
theorem dL_law_66 : decode code 66 = .ok (.istore 5, 2) := by decide +kernel
theorem dL_law_68 : decode code 68 = .ok (.iload 5, 2) := by decide +kernel
theorem dL_law_70 : decode code 70 = .ok (.iload 4, 2) := by decide +kernel
theorem dL_law_72 : decode code 72 = .ok (.if_icmp .ge 87, 3) := by decide +kernel
theorem dL_law_75 : decode code 75 = .ok (.aload_n 0, 1) := by decide +kernel
theorem dL_law_76 : decode code 76 = .ok (.iconst 1, 1) := by decide +kernel
theorem dL_law_77 : decode code 77 = .ok (.iload 5, 2) := by decide +kernel
theorem dL_law_79 : decode code 79 = .ok (.iadd, 1) := by decide +kernel
theorem dL_law_80 : decode code 80 = .ok (.invokestatic 95, 3) := by decide +kernel
theorem dL_law_83 : decode code 83 = .ok (.istore 6, 2) := by decide +kernel
theorem dL_law_85 : decode code 85 = .ok (.aload_n 2, 1) := by decide +kernel
theorem dL_law_86 : decode code 86 = .ok (.iload 5, 2) := by decide +kernel
theorem dL_law_88 : decode code 88 = .ok (.iload 5, 2) := by decide +kernel
theorem dL_law_90 : decode code 90 = .ok (.iconst 2, 1) := by decide +kernel
theorem dL_law_91 : decode code 91 = .ok (.if_icmp .ge 7, 3) := by decide +kernel
theorem dL_law_94 : decode code 94 = .ok (.iconst 2, 1) := by decide +kernel
theorem dL_law_95 : decode code 95 = .ok (.goto 9, 3) := by decide +kernel
theorem dL_law_98 : decode code 98 = .ok (.iload 6, 2) := by decide +kernel
theorem dL_law_100 : decode code 100 = .ok (.iconst 4, 1) := by decide +kernel
theorem dL_law_101 : decode code 101 = .ok (.invokestatic 78, 3) := by decide +kernel
theorem dL_law_104 : decode code 104 = .ok (.iastore, 1) := by decide +kernel
theorem dL_law_105 : decode code 105 = .ok (.aload_n 1, 1) := by decide +kernel
theorem dL_law_106 : decode code 106 = .ok (.aload_n 2, 1) := by decide +kernel
theorem dL_law_107 : decode code 107 = .ok (.iload 5, 2) := by decide +kernel
theorem dL_law_109 : decode code 109 = .ok (.iaload, 1) := by decide +kernel
theorem dL_law_110 : decode code 110 = .ok (.iconst 1, 1) := by decide +kernel
theorem dL_law_111 : decode code 111 = .ok (.iload 6, 2) := by decide +kernel
theorem dL_law_113 : decode code 113 = .ok (.iconst 2, 1) := by decide +kernel
theorem dL_law_114 : decode code 114 = .ok (.ishr, 1) := by decide +kernel
theorem dL_law_115 : decode code 115 = .ok (.aload_n 2, 1) := by decide +kernel
theorem dL_law_116 : decode code 116 = .ok (.iload 5, 2) := by decide +kernel
theorem dL_law_118 : decode code 118 = .ok (.iaload, 1) := by decide +kernel
theorem dL_law_119 : decode code 119 = .ok (.iconst 2, 1) := by decide +kernel
theorem dL_law_120 : decode code 120 = .ok (.if_icmp .ne 8, 3) := by decide +kernel
theorem dL_law_123 : decode code 123 = .ok (.bipush 15, 2) := by decide +kernel
theorem dL_law_125 : decode code 125 = .ok (.goto 5, 3) := by decide +kernel
theorem dL_law_128 : decode code 128 = .ok (.bipush 90, 2) := by decide +kernel
theorem dL_law_130 : decode code 130 = .ok (.invokestatic 78, 3) := by decide +kernel
theorem dL_law_133 : decode code 133 = .ok (.iadd, 1) := by decide +kernel
theorem dL_law_134 : decode code 134 = .ok (.iload 6, 2) := by decide +kernel
theorem dL_law_136 : decode code 136 = .ok (.bipush 9, 2) := by decide +kernel
theorem dL_law_138 : decode code 138 = .ok (.ishr, 1) := by decide +kernel
theorem dL_law_139 : decode code 139 = .ok (.iconst 4, 1) := by decide +kernel
theorem dL_law_140 : decode code 140 = .ok (.invokestatic 78, 3) := by decide +kernel
theorem dL_law_143 : decode code 143 = .ok (.invokevirtual 19, 3) := by decide +kernel
theorem dL_law_146 : decode code 146 = .ok (.iload 5, 2) := by decide +kernel
theorem dL_law_148 : decode code 148 = .ok (.if_icmp .eq 5, 3) := by decide +kernel
theorem dL_law_151 : decode code 151 = .ok (.iconst 0, 1) := by decide +kernel
theorem dL_law_152 : decode code 152 = .ok (.ireturn, 1) := by decide +kernel
theorem dL_law_153 : decode code 153 = .ok (.iinc 5 1, 3) := by decide +kernel
theorem dL_law_156 : decode code 156 = .ok (.goto (-88), 3) := by decide +kernel
theorem dL_law_159 : decode code 159 = .ok (.iconst 2, 1) := by decide +kernel
theorem dL_law_160 : decode code 160 = .ok (.aload_n 0, 1) := by decide +kernel
theorem dL_law_161 : decode code 161 = .ok (.iconst 0, 1) := by decide +kernel
theorem dL_law_162 : decode code 162 = .ok (.invokestatic 95, 3) := by decide +kernel
theorem dL_law_165 : decode code 165 = .ok (.iconst 3, 1) := by decide +kernel
theorem dL_law_166 : decode code 166 = .ok (.ishr, 1) := by decide +kernel
theorem dL_law_167 : decode code 167 = .ok (.bipush 8, 2) := by decide +kernel
theorem dL_law_169 : decode code 169 = .ok (.invokestatic 78, 3) := by decide +kernel
theorem dL_law_172 : decode code 172 = .ok (.iadd, 1) := by decide +kernel
theorem dL_law_173 : decode code 173 = .ok (.istore 5, 2) := by decide +kernel
theorem dL_law_175 : decode code 175 = .ok (.iconst 0, 1) := by decide +kernel
theorem dL_law_176 : decode code 176 = .ok (.istore 6, 2) := by decide +kernel
theorem dL_law_178 : decode code 178 = .ok (.iload 6, 2) := by decide +kernel
theorem dL_law_180 : decode code 180 = .ok (.iload 5, 2) := by decide +kernel
theorem dL_law_182 : decode code 182 = .ok (.if_icmp .ge 105, 3) := by decide +kernel
theorem dL_law_185 : decode code 185 = .ok (.aload_n 0, 1) := by decide +kernel
theorem dL_law_186 : decode code 186 = .ok (.bipush 10, 2) := by decide +kernel
theorem dL_law_188 : decode code 188 = .ok (.iload 6, 2) := by decide +kernel
theorem dL_law_190 : decode code 190 = .ok (.iadd, 1) := by decide +kernel
theorem dL_law_191 : decode code 191 = .ok (.invokestatic 95, 3) := by decide +kernel
theorem dL_law_194 : decode code 194 = .ok (.istore 7, 2) := by decide +kernel
theorem dL_law_196 : decode code 196 = .ok (.iload 7, 2) := by decide +kernel
theorem dL_law_198 : decode code 198 = .ok (.iconst 4, 1) := by decide +kernel
theorem dL_law_199 : decode code 199 = .ok (.invokestatic 78, 3) := by decide +kernel
theorem dL_law_202 : decode code 202 = .ok (.ifCond .ne 16, 3) := by decide +kernel
theorem dL_law_205 : decode code 205 = .ok (.iload 7, 2) := by decide +kernel
theorem dL_law_207 : decode code 207 = .ok (.iconst 2, 1) := by decide +kernel
theorem dL_law_208 : decode code 208 = .ok (.ishr, 1) := by decide +kernel
theorem dL_law_209 : decode code 209 = .ok (.sipush 2000, 3) := by decide +kernel
theorem dL_law_212 : decode code 212 = .ok (.invokestatic 78, 3) := by decide +kernel
theorem dL_law_215 : decode code 215 = .ok (.goto 4, 3) := by decide +kernel
theorem dL_law_218 : decode code 218 = .ok (.iconst 0, 1) := by decide +kernel
theorem dL_law_219 : decode code 219 = .ok (.istore 8, 2) := by decide +kernel
theorem dL_law_221 : decode code 221 = .ok (.aload_n 3, 1) := by decide +kernel
theorem dL_law_222 : decode code 222 = .ok (.iload 6, 2) := by decide +kernel
theorem dL_law_224 : decode code 224 = .ok (.iconst 1, 1) := by decide +kernel
theorem dL_law_225 : decode code 225 = .ok (.iload 7, 2) := by decide +kernel
theorem dL_law_227 : decode code 227 = .ok (.bipush 13, 2) := by decide +kernel
theorem dL_law_229 : decode code 229 = .ok (.ishr, 1) := by decide +kernel
theorem dL_law_230 : decode code 230 = .ok (.bipush 6, 2) := by decide +kernel
theorem dL_law_232 : decode code 232 = .ok (.invokestatic 78, 3) := by decide +kernel
theorem dL_law_235 : decode code 235 = .ok (.iadd, 1) := by decide +kernel
theorem dL_law_236 : decode code 236 = .ok (.iastore, 1) := by decide +kernel
theorem dL_law_237 : decode code 237 = .ok (.aload_n 1, 1) := by decide +kernel
theorem dL_law_238 : decode code 238 = .ok (.iload 7, 2) := by decide +kernel
theorem dL_law_240 : decode code 240 = .ok (.bipush 18, 2) := by decide +kernel
theorem dL_law_242 : decode code 242 = .ok (.ishr, 1) := by decide +kernel
theorem dL_law_243 : decode code 243 = .ok (.iload 4, 2) := by decide +kernel
theorem dL_law_245 : decode code 245 = .ok (.invokestatic 78, 3) := by decide +kernel
theorem dL_law_248 : decode code 248 = .ok (.iload 8, 2) := by decide +kernel
theorem dL_law_250 : decode code 250 = .ok (.iload 8, 2) := by decide +kernel
theorem dL_law_252 : decode code 252 = .ok (.sipush 200, 3) := by decide +kernel
theorem dL_law_255 : decode code 255 = .ok (.iadd, 1) := by decide +kernel
theorem dL_law_256 : decode code 256 = .ok (.iload 7, 2) := by decide +kernel
theorem dL_law_258 : decode code 258 = .ok (.iconst 5, 1) := by decide +kernel
theorem dL_law_259 : decode code 259 = .ok (.ishr, 1) := by decide +kernel
theorem dL_law_260 : decode code 260 = .ok (.sipush 6000, 3) := by decide +kernel
theorem dL_law_263 : decode code 263 = .ok (.invokestatic 78, 3) := by decide +kernel
theorem dL_law_266 : decode code 266 = .ok (.iadd, 1) := by decide +kernel
theorem dL_law_267 : decode code 267 = .ok (.aload_n 3, 1) := by decide +kernel
theorem dL_law_268 : decode code 268 = .ok (.iload 6, 2) := by decide +kernel
theorem dL_law_270 : decode code 270 = .ok (.iaload, 1) := by decide +kernel
theorem dL_law_271 : decode code 271 = .ok (.invokevirtual 23, 3) := by decide +kernel
theorem dL_law_274 : decode code 274 = .ok (.iload 6, 2) := by decide +kernel
theorem dL_law_276 : decode code 276 = .ok (.if_icmp .eq 5, 3) := by decide +kernel
theorem dL_law_279 : decode code 279 = .ok (.iconst 0, 1) := by decide +kernel
theorem dL_law_280 : decode code 280 = .ok (.ireturn, 1) := by decide +kernel
theorem dL_law_281 : decode code 281 = .ok (.iinc 6 1, 3) := by decide +kernel
theorem dL_law_284 : decode code 284 = .ok (.goto (-106), 3) := by decide +kernel
theorem dL_law_287 : decode code 287 = .ok (.aload_n 0, 1) := by decide +kernel
theorem dL_law_288 : decode code 288 = .ok (.iconst 0, 1) := by decide +kernel
theorem dL_law_289 : decode code 289 = .ok (.invokestatic 95, 3) := by decide +kernel
theorem dL_law_292 : decode code 292 = .ok (.sipush 256, 3) := by decide +kernel
theorem dL_law_295 : decode code 295 = .ok (.iand, 1) := by decide +kernel
theorem dL_law_296 : decode code 296 = .ok (.ifCond .eq 43, 3) := by decide +kernel
theorem dL_law_299 : decode code 299 = .ok (.aload_n 1, 1) := by decide +kernel
theorem dL_law_300 : decode code 300 = .ok (.aload_n 0, 1) := by decide +kernel
theorem dL_law_301 : decode code 301 = .ok (.iconst 0, 1) := by decide +kernel
theorem dL_law_302 : decode code 302 = .ok (.invokestatic 95, 3) := by decide +kernel
theorem dL_law_305 : decode code 305 = .ok (.bipush 9, 2) := by decide +kernel
theorem dL_law_307 : decode code 307 = .ok (.ishr, 1) := by decide +kernel
theorem dL_law_308 : decode code 308 = .ok (.sipush 1000, 3) := by decide +kernel
theorem dL_law_311 : decode code 311 = .ok (.invokestatic 78, 3) := by decide +kernel
theorem dL_law_314 : decode code 314 = .ok (.sipush 1100, 3) := by decide +kernel
theorem dL_law_317 : decode code 317 = .ok (.iconst 1, 1) := by decide +kernel
theorem dL_law_318 : decode code 318 = .ok (.aload_n 0, 1) := by decide +kernel
theorem dL_law_319 : decode code 319 = .ok (.iconst 0, 1) := by decide +kernel
theorem dL_law_320 : decode code 320 = .ok (.invokestatic 95, 3) := by decide +kernel
theorem dL_law_323 : decode code 323 = .ok (.bipush 20, 2) := by decide +kernel
theorem dL_law_325 : decode code 325 = .ok (.ishr, 1) := by decide +kernel
theorem dL_law_326 : decode code 326 = .ok (.iconst 3, 1) := by decide +kernel
theorem dL_law_327 : decode code 327 = .ok (.invokestatic 78, 3) := by decide +kernel
theorem dL_law_330 : decode code 330 = .ok (.iadd, 1) := by decide +kernel
theorem dL_law_331 : decode code 331 = .ok (.invokevirtual 27, 3) := by decide +kernel
theorem dL_law_334 : decode code 334 = .ok (.ifCond .eq 5, 3) := by decide +kernel
theorem dL_law_337 : decode code 337 = .ok (.iconst 0, 1) := by decide +kernel
theorem dL_law_338 : decode code 338 = .ok (.ireturn, 1) := by decide +kernel
theorem dL_law_339 : decode code 339 = .ok (.iconst 0, 1) := by decide +kernel
theorem dL_law_340 : decode code 340 = .ok (.istore 6, 2) := by decide +kernel
theorem dL_law_342 : decode code 342 = .ok (.iload 6, 2) := by decide +kernel
theorem dL_law_344 : decode code 344 = .ok (.bipush 20, 2) := by decide +kernel
theorem dL_law_346 : decode code 346 = .ok (.if_icmp .ge 382, 3) := by decide +kernel
theorem dL_law_349 : decode code 349 = .ok (.aload_n 0, 1) := by decide +kernel
theorem dL_law_350 : decode code 350 = .ok (.bipush 20, 2) := by decide +kernel
theorem dL_law_352 : decode code 352 = .ok (.iload 6, 2) := by decide +kernel
theorem dL_law_354 : decode code 354 = .ok (.iadd, 1) := by decide +kernel
theorem dL_law_355 : decode code 355 = .ok (.invokestatic 95, 3) := by decide +kernel
theorem dL_law_358 : decode code 358 = .ok (.istore 7, 2) := by decide +kernel
theorem dL_law_360 : decode code 360 = .ok (.iload 7, 2) := by decide +kernel
theorem dL_law_362 : decode code 362 = .ok (.iconst 3, 1) := by decide +kernel
theorem dL_law_363 : decode code 363 = .ok (.ishr, 1) := by decide +kernel
theorem dL_law_364 : decode code 364 = .ok (.iload 4, 2) := by decide +kernel
theorem dL_law_366 : decode code 366 = .ok (.invokestatic 78, 3) := by decide +kernel
theorem dL_law_369 : decode code 369 = .ok (.istore 8, 2) := by decide +kernel
theorem dL_law_371 : decode code 371 = .ok (.aload_n 1, 1) := by decide +kernel
theorem dL_law_372 : decode code 372 = .ok (.invokevirtual 15, 3) := by decide +kernel
theorem dL_law_375 : decode code 375 = .ok (.istore 9, 2) := by decide +kernel
theorem dL_law_377 : decode code 377 = .ok (.iconst 1, 1) := by decide +kernel
theorem dL_law_378 : decode code 378 = .ok (.istore 10, 2) := by decide +kernel
theorem dL_law_380 : decode code 380 = .ok (.aload_n 1, 1) := by decide +kernel
theorem dL_law_381 : decode code 381 = .ok (.invokevirtual 9, 3) := by decide +kernel
theorem dL_law_384 : decode code 384 = .ok (.lstore 11, 2) := by decide +kernel
theorem dL_law_386 : decode code 386 = .ok (.iload 7, 2) := by decide +kernel
theorem dL_law_388 : decode code 388 = .ok (.bipush 8, 2) := by decide +kernel
theorem dL_law_390 : decode code 390 = .ok (.invokestatic 78, 3) := by decide +kernel
theorem dL_law_393 : decode code 393 = .ok (.istore 13, 2) := by decide +kernel
theorem dL_law_395 : decode code 395 = .ok (.iload 13, 2) := by decide +kernel
theorem dL_law_397 : decode code 397 = .ok (.iconst 3, 1) := by decide +kernel
theorem dL_law_398 : decode code 398 = .ok (.if_icmp .ge 40, 3) := by decide +kernel
theorem dL_law_401 : decode code 401 = .ok (.aload_n 1, 1) := by decide +kernel
theorem dL_law_402 : decode code 402 = .ok (.iload 8, 2) := by decide +kernel
theorem dL_law_404 : decode code 404 = .ok (.iload 7, 2) := by decide +kernel
theorem dL_law_406 : decode code 406 = .ok (.bipush 7, 2) := by decide +kernel
theorem dL_law_408 : decode code 408 = .ok (.ishr, 1) := by decide +kernel
theorem dL_law_409 : decode code 409 = .ok (.sipush 900, 3) := by decide +kernel
theorem dL_law_412 : decode code 412 = .ok (.invokestatic 78, 3) := by decide +kernel
theorem dL_law_415 : decode code 415 = .ok (.iload 7, 2) := by decide +kernel
theorem dL_law_417 : decode code 417 = .ok (.bipush 17, 2) := by decide +kernel
theorem dL_law_419 : decode code 419 = .ok (.ishr, 1) := by decide +kernel
theorem dL_law_420 : decode code 420 = .ok (.iconst 3, 1) := by decide +kernel
theorem dL_law_421 : decode code 421 = .ok (.iand, 1) := by decide +kernel
theorem dL_law_422 : decode code 422 = .ok (.ifCond .ne 7, 3) := by decide +kernel
theorem dL_law_425 : decode code 425 = .ok (.iconst 1, 1) := by decide +kernel
theorem dL_law_426 : decode code 426 = .ok (.goto 4, 3) := by decide +kernel
theorem dL_law_429 : decode code 429 = .ok (.iconst 0, 1) := by decide +kernel
theorem dL_law_430 : decode code 430 = .ok (.invokestatic 99, 3) := by decide +kernel
theorem dL_law_433 : decode code 433 = .ok (.istore 10, 2) := by decide +kernel
theorem dL_law_435 : decode code 435 = .ok (.goto 219, 3) := by decide +kernel
theorem dL_law_438 : decode code 438 = .ok (.iload 13, 2) := by decide +kernel
theorem dL_law_440 : decode code 440 = .ok (.iconst 3, 1) := by decide +kernel
theorem dL_law_441 : decode code 441 = .ok (.if_icmp .ne 25, 3) := by decide +kernel
theorem dL_law_444 : decode code 444 = .ok (.aload_n 1, 1) := by decide +kernel
theorem dL_law_445 : decode code 445 = .ok (.iload 8, 2) := by decide +kernel
theorem dL_law_447 : decode code 447 = .ok (.iload 7, 2) := by decide +kernel
theorem dL_law_449 : decode code 449 = .ok (.bipush 7, 2) := by decide +kernel
theorem dL_law_451 : decode code 451 = .ok (.ishr, 1) := by decide +kernel
theorem dL_law_452 : decode code 452 = .ok (.sipush 1500, 3) := by decide +kernel
theorem dL_law_455 : decode code 455 = .ok (.invokestatic 78, 3) := by decide +kernel
theorem dL_law_458 : decode code 458 = .ok (.invokestatic 103, 3) := by decide +kernel
theorem dL_law_461 : decode code 461 = .ok (.istore 10, 2) := by decide +kernel
theorem dL_law_463 : decode code 463 = .ok (.goto 191, 3) := by decide +kernel
theorem dL_law_466 : decode code 466 = .ok (.iload 13, 2) := by decide +kernel
theorem dL_law_468 : decode code 468 = .ok (.iconst 4, 1) := by decide +kernel
theorem dL_law_469 : decode code 469 = .ok (.if_icmp .ne 106, 3) := by decide +kernel
theorem dL_law_472 : decode code 472 = .ok (.iload 9, 2) := by decide +kernel
theorem dL_law_474 : decode code 474 = .ok (.ifCond .le 45, 3) := by decide +kernel
theorem dL_law_477 : decode code 477 = .ok (.iload 7, 2) := by decide +kernel
theorem dL_law_479 : decode code 479 = .ok (.bipush 16, 2) := by decide +kernel
theorem dL_law_481 : decode code 481 = .ok (.iand, 1) := by decide +kernel
theorem dL_law_482 : decode code 482 = .ok (.ifCond .eq 37, 3) := by decide +kernel
theorem dL_law_485 : decode code 485 = .ok (.aload_n 1, 1) := by decide +kernel
theorem dL_law_486 : decode code 486 = .ok (.iload 7, 2) := by decide +kernel
theorem dL_law_488 : decode code 488 = .ok (.bipush 7, 2) := by decide +kernel
theorem dL_law_490 : decode code 490 = .ok (.ishr, 1) := by decide +kernel
theorem dL_law_491 : decode code 491 = .ok (.iload 9, 2) := by decide +kernel
theorem dL_law_493 : decode code 493 = .ok (.invokestatic 78, 3) := by decide +kernel
theorem dL_law_496 : decode code 496 = .ok (.iconst 1, 1) := by decide +kernel
theorem dL_law_497 : decode code 497 = .ok (.invokevirtual 51, 3) := by decide +kernel
theorem dL_law_500 : decode code 500 = .ok (.aload_n 1, 1) := by decide +kernel
theorem dL_law_501 : decode code 501 = .ok (.iload 7, 2) := by decide +kernel
theorem dL_law_503 : decode code 503 = .ok (.bipush 7, 2) := by decide +kernel
theorem dL_law_505 : decode code 505 = .ok (.ishr, 1) := by decide +kernel
theorem dL_law_506 : decode code 506 = .ok (.iload 9, 2) := by decide +kernel
theorem dL_law_508 : decode code 508 = .ok (.invokestatic 78, 3) := by decide +kernel
theorem dL_law_511 : decode code 511 = .ok (.iconst 2, 1) := by decide +kernel
theorem dL_law_512 : decode code 512 = .ok (.invokevirtual 51, 3) := by decide +kernel
theorem dL_law_515 : decode code 515 = .ok (.iadd, 1) := by decide +kernel
theorem dL_law_516 : decode code 516 = .ok (.goto 14, 3) := by decide +kernel
theorem dL_law_519 : decode code 519 = .ok (.iload 7, 2) := by decide +kernel
theorem dL_law_521 : decode code 521 = .ok (.bipush 7, 2) := by decide +kernel
theorem dL_law_523 : decode code 523 = .ok (.ishr, 1) := by decide +kernel
theorem dL_law_524 : decode code 524 = .ok (.sipush 900, 3) := by decide +kernel
theorem dL_law_527 : decode code 527 = .ok (.invokestatic 78, 3) := by decide +kernel
theorem dL_law_530 : decode code 530 = .ok (.istore 14, 2) := by decide +kernel
theorem dL_law_532 : decode code 532 = .ok (.iload 14, 2) := by decide +kernel
theorem dL_law_534 : decode code 534 = .ok (.sipush 10000, 3) := by decide +kernel
theorem dL_law_537 : decode code 537 = .ok (.if_icmp .ge 28, 3) := by decide +kernel
theorem dL_law_540 : decode code 540 = .ok (.aload_n 1, 1) := by decide +kernel
theorem dL_law_541 : decode code 541 = .ok (.aload_n 2, 1) := by decide +kernel
theorem dL_law_542 : decode code 542 = .ok (.iload 14, 2) := by decide +kernel
theorem dL_law_544 : decode code 544 = .ok (.iload 14, 2) := by decide +kernel
theorem dL_law_546 : decode code 546 = .ok (.iconst 1, 1) := by decide +kernel
theorem dL_law_547 : decode code 547 = .ok (.iadd, 1) := by decide +kernel
theorem dL_law_548 : decode code 548 = .ok (.iload 7, 2) := by decide +kernel
theorem dL_law_550 : decode code 550 = .ok (.bipush 17, 2) := by decide +kernel
theorem dL_law_552 : decode code 552 = .ok (.ishr, 1) := by decide +kernel
theorem dL_law_553 : decode code 553 = .ok (.bipush 40, 2) := by decide +kernel
theorem dL_law_555 : decode code 555 = .ok (.invokestatic 78, 3) := by decide +kernel
theorem dL_law_558 : decode code 558 = .ok (.iadd, 1) := by decide +kernel
theorem dL_law_559 : decode code 559 = .ok (.invokestatic 106, 3) := by decide +kernel
theorem dL_law_562 : decode code 562 = .ok (.ifCond .eq 7, 3) := by decide +kernel
theorem dL_law_565 : decode code 565 = .ok (.iconst 1, 1) := by decide +kernel
theorem dL_law_566 : decode code 566 = .ok (.goto 4, 3) := by decide +kernel
theorem dL_law_569 : decode code 569 = .ok (.iconst 0, 1) := by decide +kernel
theorem dL_law_570 : decode code 570 = .ok (.istore 10, 2) := by decide +kernel
theorem dL_law_572 : decode code 572 = .ok (.goto 82, 3) := by decide +kernel
theorem dL_law_575 : decode code 575 = .ok (.iload 13, 2) := by decide +kernel
theorem dL_law_577 : decode code 577 = .ok (.bipush 7, 2) := by decide +kernel
theorem dL_law_579 : decode code 579 = .ok (.if_icmp .ge 42, 3) := by decide +kernel
theorem dL_law_582 : decode code 582 = .ok (.iload 9, 2) := by decide +kernel
theorem dL_law_584 : decode code 584 = .ok (.ifCond .le 37, 3) := by decide +kernel
theorem dL_law_587 : decode code 587 = .ok (.aload_n 1, 1) := by decide +kernel
theorem dL_law_588 : decode code 588 = .ok (.aload_n 2, 1) := by decide +kernel
theorem dL_law_589 : decode code 589 = .ok (.iload 4, 2) := by decide +kernel
theorem dL_law_591 : decode code 591 = .ok (.iload 7, 2) := by decide +kernel
theorem dL_law_593 : decode code 593 = .ok (.bipush 7, 2) := by decide +kernel
theorem dL_law_595 : decode code 595 = .ok (.ishr, 1) := by decide +kernel
theorem dL_law_596 : decode code 596 = .ok (.iload 9, 2) := by decide +kernel
theorem dL_law_598 : decode code 598 = .ok (.invokestatic 78, 3) := by decide +kernel
theorem dL_law_601 : decode code 601 = .ok (.iconst 1, 1) := by decide +kernel
theorem dL_law_602 : decode code 602 = .ok (.iload 7, 2) := by decide +kernel
theorem dL_law_604 : decode code 604 = .ok (.bipush 13, 2) := by decide +kernel
theorem dL_law_606 : decode code 606 = .ok (.ishr, 1) := by decide +kernel
theorem dL_law_607 : decode code 607 = .ok (.bipush 120, 2) := by decide +kernel
theorem dL_law_609 : decode code 609 = .ok (.invokestatic 78, 3) := by decide +kernel
theorem dL_law_612 : decode code 612 = .ok (.iadd, 1) := by decide +kernel
theorem dL_law_613 : decode code 613 = .ok (.invokestatic 110, 3) := by decide +kernel
theorem dL_law_616 : decode code 616 = .ok (.istore 10, 2) := by decide +kernel
theorem dL_law_618 : decode code 618 = .ok (.goto 36, 3) := by decide +kernel
theorem dL_law_621 : decode code 621 = .ok (.iload 9, 2) := by decide +kernel
theorem dL_law_623 : decode code 623 = .ok (.ifCond .le 31, 3) := by decide +kernel
theorem dL_law_626 : decode code 626 = .ok (.aload_n 1, 1) := by decide +kernel
theorem dL_law_627 : decode code 627 = .ok (.iload 7, 2) := by decide +kernel
theorem dL_law_629 : decode code 629 = .ok (.bipush 7, 2) := by decide +kernel
theorem dL_law_631 : decode code 631 = .ok (.ishr, 1) := by decide +kernel
theorem dL_law_632 : decode code 632 = .ok (.iload 9, 2) := by decide +kernel
theorem dL_law_634 : decode code 634 = .ok (.invokestatic 78, 3) := by decide +kernel
theorem dL_law_637 : decode code 637 = .ok (.invokevirtual 34, 3) := by decide +kernel
theorem dL_law_640 : decode code 640 = .ok (.iload 9, 2) := by decide +kernel
theorem dL_law_642 : decode code 642 = .ok (.iconst 1, 1) := by decide +kernel
theorem dL_law_643 : decode code 643 = .ok (.isub, 1) := by decide +kernel
theorem dL_law_644 : decode code 644 = .ok (.if_icmp .ne 7, 3) := by decide +kernel
theorem dL_law_647 : decode code 647 = .ok (.iconst 1, 1) := by decide +kernel
theorem dL_law_648 : decode code 648 = .ok (.goto 4, 3) := by decide +kernel
theorem dL_law_651 : decode code 651 = .ok (.iconst 0, 1) := by decide +kernel
theorem dL_law_652 : decode code 652 = .ok (.istore 10, 2) := by decide +kernel
theorem dL_law_654 : decode code 654 = .ok (.iload 10, 2) := by decide +kernel
theorem dL_law_656 : decode code 656 = .ok (.ifCond .eq 24, 3) := by decide +kernel
theorem dL_law_659 : decode code 659 = .ok (.aload_n 1, 1) := by decide +kernel
theorem dL_law_660 : decode code 660 = .ok (.iload 4, 2) := by decide +kernel
theorem dL_law_662 : decode code 662 = .ok (.iload 5, 2) := by decide +kernel
theorem dL_law_664 : decode code 664 = .ok (.aload_n 3, 1) := by decide +kernel
theorem dL_law_665 : decode code 665 = .ok (.aload_n 0, 1) := by decide +kernel
theorem dL_law_666 : decode code 666 = .ok (.bipush 40, 2) := by decide +kernel
theorem dL_law_668 : decode code 668 = .ok (.iload 6, 2) := by decide +kernel
theorem dL_law_670 : decode code 670 = .ok (.iadd, 1) := by decide +kernel
theorem dL_law_671 : decode code 671 = .ok (.invokestatic 95, 3) := by decide +kernel
theorem dL_law_674 : decode code 674 = .ok (.invokestatic 114, 3) := by decide +kernel
theorem dL_law_677 : decode code 677 = .ok (.ifCond .ne 5, 3) := by decide +kernel
theorem dL_law_680 : decode code 680 = .ok (.iconst 0, 1) := by decide +kernel
theorem dL_law_681 : decode code 681 = .ok (.ireturn, 1) := by decide +kernel
theorem dL_law_682 : decode code 682 = .ok (.iload 7, 2) := by decide +kernel
theorem dL_law_684 : decode code 684 = .ok (.bipush 27, 2) := by decide +kernel
theorem dL_law_686 : decode code 686 = .ok (.ishr, 1) := by decide +kernel
theorem dL_law_687 : decode code 687 = .ok (.bipush 7, 2) := by decide +kernel
theorem dL_law_689 : decode code 689 = .ok (.iand, 1) := by decide +kernel
theorem dL_law_690 : decode code 690 = .ok (.ifCond .ne 32, 3) := by decide +kernel
theorem dL_law_693 : decode code 693 = .ok (.aload_n 1, 1) := by decide +kernel
theorem dL_law_694 : decode code 694 = .ok (.invokevirtual 9, 3) := by decide +kernel
theorem dL_law_697 : decode code 697 = .ok (.lload 11, 2) := by decide +kernel
theorem dL_law_699 : decode code 699 = .ok (.lcmp, 1) := by decide +kernel
theorem dL_law_700 : decode code 700 = .ok (.ifCond .eq 22, 3) := by decide +kernel
theorem dL_law_703 : decode code 703 = .ok (.aload_n 1, 1) := by decide +kernel
theorem dL_law_704 : decode code 704 = .ok (.invokevirtual 87, 3) := by decide +kernel
theorem dL_law_707 : decode code 707 = .ok (.ifCond .lt 13, 3) := by decide +kernel
theorem dL_law_710 : decode code 710 = .ok (.aload_n 1, 1) := by decide +kernel
theorem dL_law_711 : decode code 711 = .ok (.invokevirtual 9, 3) := by decide +kernel
theorem dL_law_714 : decode code 714 = .ok (.lload 11, 2) := by decide +kernel
theorem dL_law_716 : decode code 716 = .ok (.lcmp, 1) := by decide +kernel
theorem dL_law_717 : decode code 717 = .ok (.ifCond .eq 5, 3) := by decide +kernel
theorem dL_law_720 : decode code 720 = .ok (.iconst 0, 1) := by decide +kernel
theorem dL_law_721 : decode code 721 = .ok (.ireturn, 1) := by decide +kernel
theorem dL_law_722 : decode code 722 = .ok (.iinc 6 1, 3) := by decide +kernel
theorem dL_law_725 : decode code 725 = .ok (.goto (-383), 3) := by decide +kernel
theorem dL_law_728 : decode code 728 = .ok (.iconst 0, 1) := by decide +kernel
theorem dL_law_729 : decode code 729 = .ok (.istore 6, 2) := by decide +kernel
theorem dL_law_731 : decode code 731 = .ok (.iload 6, 2) := by decide +kernel
theorem dL_law_733 : decode code 733 = .ok (.iload 4, 2) := by decide +kernel
theorem dL_law_735 : decode code 735 = .ok (.if_icmp .ge 111, 3) := by decide +kernel
theorem dL_law_738 : decode code 738 = .ok (.aload_n 1, 1) := by decide +kernel
theorem dL_law_739 : decode code 739 = .ok (.invokevirtual 9, 3) := by decide +kernel
theorem dL_law_742 : decode code 742 = .ok (.lstore 7, 2) := by decide +kernel
theorem dL_law_744 : decode code 744 = .ok (.aload_n 1, 1) := by decide +kernel
theorem dL_law_745 : decode code 745 = .ok (.iload 6, 2) := by decide +kernel
theorem dL_law_747 : decode code 747 = .ok (.invokevirtual 63, 3) := by decide +kernel
theorem dL_law_750 : decode code 750 = .ok (.istore 9, 2) := by decide +kernel
theorem dL_law_752 : decode code 752 = .ok (.aload_n 1, 1) := by decide +kernel
theorem dL_law_753 : decode code 753 = .ok (.iload 6, 2) := by decide +kernel
theorem dL_law_755 : decode code 755 = .ok (.bipush 100, 2) := by decide +kernel
theorem dL_law_757 : decode code 757 = .ok (.invokevirtual 38, 3) := by decide +kernel
theorem dL_law_760 : decode code 760 = .ok (.istore 10, 2) := by decide +kernel
theorem dL_law_762 : decode code 762 = .ok (.aload_n 1, 1) := by decide +kernel
theorem dL_law_763 : decode code 763 = .ok (.iload 6, 2) := by decide +kernel
theorem dL_law_765 : decode code 765 = .ok (.bipush 100, 2) := by decide +kernel
theorem dL_law_767 : decode code 767 = .ok (.invokevirtual 48, 3) := by decide +kernel
theorem dL_law_770 : decode code 770 = .ok (.istore 11, 2) := by decide +kernel
theorem dL_law_772 : decode code 772 = .ok (.iload 9, 2) := by decide +kernel
theorem dL_law_774 : decode code 774 = .ok (.ifCond .ne 13, 3) := by decide +kernel
theorem dL_law_777 : decode code 777 = .ok (.iload 11, 2) := by decide +kernel
theorem dL_law_779 : decode code 779 = .ok (.bipush (-2), 2) := by decide +kernel
theorem dL_law_781 : decode code 781 = .ok (.if_icmp .eq 59, 3) := by decide +kernel
theorem dL_law_784 : decode code 784 = .ok (.goto 54, 3) := by decide +kernel
theorem dL_law_787 : decode code 787 = .ok (.iload 11, 2) := by decide +kernel
theorem dL_law_789 : decode code 789 = .ok (.iload 10, 2) := by decide +kernel
theorem dL_law_791 : decode code 791 = .ok (.if_icmp .ne 47, 3) := by decide +kernel
theorem dL_law_794 : decode code 794 = .ok (.iload 10, 2) := by decide +kernel
theorem dL_law_796 : decode code 796 = .ok (.ifCond .lt 44, 3) := by decide +kernel
theorem dL_law_799 : decode code 799 = .ok (.aload_n 1, 1) := by decide +kernel
theorem dL_law_800 : decode code 800 = .ok (.iload 6, 2) := by decide +kernel
theorem dL_law_802 : decode code 802 = .ok (.invokevirtual 63, 3) := by decide +kernel
theorem dL_law_805 : decode code 805 = .ok (.iload 9, 2) := by decide +kernel
theorem dL_law_807 : decode code 807 = .ok (.iconst 1, 1) := by decide +kernel
theorem dL_law_808 : decode code 808 = .ok (.isub, 1) := by decide +kernel
theorem dL_law_809 : decode code 809 = .ok (.if_icmp .ne 29, 3) := by decide +kernel
theorem dL_law_812 : decode code 812 = .ok (.aload_n 1, 1) := by decide +kernel
theorem dL_law_813 : decode code 813 = .ok (.iload 10, 2) := by decide +kernel
theorem dL_law_815 : decode code 815 = .ok (.invokevirtual 54, 3) := by decide +kernel
theorem dL_law_818 : decode code 818 = .ok (.ifCond .lt 20, 3) := by decide +kernel
theorem dL_law_821 : decode code 821 = .ok (.aload_n 1, 1) := by decide +kernel
theorem dL_law_822 : decode code 822 = .ok (.invokevirtual 87, 3) := by decide +kernel
theorem dL_law_825 : decode code 825 = .ok (.ifCond .lt 13, 3) := by decide +kernel
theorem dL_law_828 : decode code 828 = .ok (.aload_n 1, 1) := by decide +kernel
theorem dL_law_829 : decode code 829 = .ok (.invokevirtual 9, 3) := by decide +kernel
theorem dL_law_832 : decode code 832 = .ok (.lload 7, 2) := by decide +kernel
theorem dL_law_834 : decode code 834 = .ok (.lcmp, 1) := by decide +kernel
theorem dL_law_835 : decode code 835 = .ok (.ifCond .eq 5, 3) := by decide +kernel
theorem dL_law_838 : decode code 838 = .ok (.iconst 0, 1) := by decide +kernel
theorem dL_law_839 : decode code 839 = .ok (.ireturn, 1) := by decide +kernel
theorem dL_law_840 : decode code 840 = .ok (.iinc 6 1, 3) := by decide +kernel
theorem dL_law_843 : decode code 843 = .ok (.goto (-112), 3) := by decide +kernel
theorem dL_law_846 : decode code 846 = .ok (.aload_n 1, 1) := by decide +kernel
theorem dL_law_847 : decode code 847 = .ok (.iload 4, 2) := by decide +kernel
theorem dL_law_849 : decode code 849 = .ok (.iload 5, 2) := by decide +kernel
theorem dL_law_851 : decode code 851 = .ok (.invokestatic 91, 3) := by decide +kernel
theorem dL_law_854 : decode code 854 = .ok (.ireturn, 1) := by decide +kernel
theorem dJ4_init_da8c8_0 : decode cJ4_init_da8c8 0 = .ok (.aload_n 0, 1) := by decide +kernel
theorem dJ4_init_da8c8_1 : decode cJ4_init_da8c8 1 = .ok (.bipush 16, 2) := by decide +kernel
theorem dJ4_init_da8c8_3 : decode cJ4_init_da8c8 3 = .ok (.invokespecial 1, 3) := by decide +kernel
theorem dJ4_init_da8c8_6 : decode cJ4_init_da8c8 6 = .ok (.return_, 1) := by decide +kernel
theorem dJ4_append_15ec4_0 : decode cJ4_append_15ec4 0 = .ok (.aload_n 0, 1) := by decide +kernel
theorem dJ4_append_15ec4_1 : decode cJ4_append_15ec4 1 = .ok (.aload_n 1, 1) := by decide +kernel
theorem dJ4_append_15ec4_2 : decode cJ4_append_15ec4 2 = .ok (.invokespecial 29, 3) := by decide +kernel
theorem dJ4_append_15ec4_5 : decode cJ4_append_15ec4 5 = .ok (.pop, 1) := by decide +kernel
theorem dJ4_append_15ec4_6 : decode cJ4_append_15ec4 6 = .ok (.aload_n 0, 1) := by decide +kernel
theorem dJ4_append_15ec4_7 : decode cJ4_append_15ec4 7 = .ok (.areturn, 1) := by decide +kernel
theorem dJ4_append_cf468_0 : decode cJ4_append_cf468 0 = .ok (.aload_n 0, 1) := by decide +kernel
theorem dJ4_append_cf468_1 : decode cJ4_append_cf468 1 = .ok (.iload_n 1, 1) := by decide +kernel
theorem dJ4_append_cf468_2 : decode cJ4_append_cf468 2 = .ok (.invokespecial 50, 3) := by decide +kernel
theorem dJ4_append_cf468_5 : decode cJ4_append_cf468 5 = .ok (.pop, 1) := by decide +kernel
theorem dJ4_append_cf468_6 : decode cJ4_append_cf468 6 = .ok (.aload_n 0, 1) := by decide +kernel
theorem dJ4_append_cf468_7 : decode cJ4_append_cf468 7 = .ok (.areturn, 1) := by decide +kernel
theorem dJ4_append_bf812_0 : decode cJ4_append_bf812 0 = .ok (.aload_n 0, 1) := by decide +kernel
theorem dJ4_append_bf812_1 : decode cJ4_append_bf812 1 = .ok (.iload_n 1, 1) := by decide +kernel
theorem dJ4_append_bf812_2 : decode cJ4_append_bf812 2 = .ok (.invokespecial 53, 3) := by decide +kernel
theorem dJ4_append_bf812_5 : decode cJ4_append_bf812 5 = .ok (.pop, 1) := by decide +kernel
theorem dJ4_append_bf812_6 : decode cJ4_append_bf812 6 = .ok (.aload_n 0, 1) := by decide +kernel
theorem dJ4_append_bf812_7 : decode cJ4_append_bf812 7 = .ok (.areturn, 1) := by decide +kernel
theorem dJ4_charAt_5068e_0 : decode cJ4_charAt_5068e 0 = .ok (.aload_n 0, 1) := by decide +kernel
theorem dJ4_charAt_5068e_1 : decode cJ4_charAt_5068e 1 = .ok (.iload_n 1, 1) := by decide +kernel
theorem dJ4_charAt_5068e_2 : decode cJ4_charAt_5068e 2 = .ok (.invokespecial 329, 3) := by decide +kernel
theorem dJ4_charAt_5068e_5 : decode cJ4_charAt_5068e 5 = .ok (.ireturn, 1) := by decide +kernel
theorem dJ4_setLength_d00df_0 : decode cJ4_setLength_d00df 0 = .ok (.aload_n 0, 1) := by decide +kernel
theorem dJ4_setLength_d00df_1 : decode cJ4_setLength_d00df 1 = .ok (.iload_n 1, 1) := by decide +kernel
theorem dJ4_setLength_d00df_2 : decode cJ4_setLength_d00df 2 = .ok (.invokespecial 333, 3) := by decide +kernel
theorem dJ4_setLength_d00df_5 : decode cJ4_setLength_d00df 5 = .ok (.return_, 1) := by decide +kernel
theorem dJ4_length_8abf5_0 : decode cJ4_length_8abf5 0 = .ok (.aload_n 0, 1) := by decide +kernel
theorem dJ4_length_8abf5_1 : decode cJ4_length_8abf5 1 = .ok (.invokespecial 343, 3) := by decide +kernel
theorem dJ4_length_8abf5_4 : decode cJ4_length_8abf5 4 = .ok (.ireturn, 1) := by decide +kernel
theorem dJ5_init_d00df_0 : decode cJ5_init_d00df 0 = .ok (.aload_n 0, 1) := by decide +kernel
theorem dJ5_init_d00df_1 : decode cJ5_init_d00df 1 = .ok (.invokespecial 3, 3) := by decide +kernel
theorem dJ5_init_d00df_4 : decode cJ5_init_d00df 4 = .ok (.getstatic 18, 3) := by decide +kernel
theorem dJ5_init_d00df_7 : decode cJ5_init_d00df 7 = .ok (.ifCond .eq 18, 3) := by decide +kernel
theorem dJ5_init_d00df_10 : decode cJ5_init_d00df 10 = .ok (.aload_n 0, 1) := by decide +kernel
theorem dJ5_init_d00df_11 : decode cJ5_init_d00df 11 = .ok (.iload_n 1, 1) := by decide +kernel
theorem dJ5_init_d00df_12 : decode cJ5_init_d00df 12 = .ok (.newarray .byte, 2) := by decide +kernel
theorem dJ5_init_d00df_14 : decode cJ5_init_d00df 14 = .ok (.putfield 15, 3) := by decide +kernel
theorem dJ5_init_d00df_17 : decode cJ5_init_d00df 17 = .ok (.aload_n 0, 1) := by decide +kernel
theorem dJ5_init_d00df_18 : decode cJ5_init_d00df 18 = .ok (.iconst 0, 1) := by decide +kernel
theorem dJ5_init_d00df_19 : decode cJ5_init_d00df 19 = .ok (.putfield 22, 3) := by decide +kernel
theorem dJ5_init_d00df_22 : decode cJ5_init_d00df 22 = .ok (.goto 16, 3) := by decide +kernel
theorem dJ5_init_d00df_25 : decode cJ5_init_d00df 25 = .ok (.aload_n 0, 1) := by decide +kernel
theorem dJ5_init_d00df_26 : decode cJ5_init_d00df 26 = .ok (.iload_n 1, 1) := by decide +kernel
theorem dJ5_init_d00df_27 : decode cJ5_init_d00df 27 = .ok (.invokestatic 26, 3) := by decide +kernel
theorem dJ5_init_d00df_30 : decode cJ5_init_d00df 30 = .ok (.putfield 15, 3) := by decide +kernel
theorem dJ5_init_d00df_33 : decode cJ5_init_d00df 33 = .ok (.aload_n 0, 1) := by decide +kernel
theorem dJ5_init_d00df_34 : decode cJ5_init_d00df 34 = .ok (.iconst 1, 1) := by decide +kernel
theorem dJ5_init_d00df_35 : decode cJ5_init_d00df 35 = .ok (.putfield 22, 3) := by decide +kernel
theorem dJ5_init_d00df_38 : decode cJ5_init_d00df 38 = .ok (.return_, 1) := by decide +kernel
theorem dJ5_length_8abf5_0 : decode cJ5_length_8abf5 0 = .ok (.aload_n 0, 1) := by decide +kernel
theorem dJ5_length_8abf5_1 : decode cJ5_length_8abf5 1 = .ok (.getfield 79, 3) := by decide +kernel
theorem dJ5_length_8abf5_4 : decode cJ5_length_8abf5 4 = .ok (.ireturn, 1) := by decide +kernel
theorem dJ5_ensureCapacityInternal_d00df_0 : decode cJ5_ensureCapacityInternal_d00df 0 = .ok (.aload_n 0, 1) := by decide +kernel
theorem dJ5_ensureCapacityInternal_d00df_1 : decode cJ5_ensureCapacityInternal_d00df 1 = .ok (.getfield 15, 3) := by decide +kernel
theorem dJ5_ensureCapacityInternal_d00df_4 : decode cJ5_ensureCapacityInternal_d00df 4 = .ok (.arraylength, 1) := by decide +kernel
theorem dJ5_ensureCapacityInternal_d00df_5 : decode cJ5_ensureCapacityInternal_d00df 5 = .ok (.aload_n 0, 1) := by decide +kernel
theorem dJ5_ensureCapacityInternal_d00df_6 : decode cJ5_ensureCapacityInternal_d00df 6 = .ok (.getfield 22, 3) := by decide +kernel
theorem dJ5_ensureCapacityInternal_d00df_9 : decode cJ5_ensureCapacityInternal_d00df 9 = .ok (.ishr, 1) := by decide +kernel
theorem dJ5_ensureCapacityInternal_d00df_10 : decode cJ5_ensureCapacityInternal_d00df 10 = .ok (.istore_n 2, 1) := by decide +kernel
theorem dJ5_ensureCapacityInternal_d00df_11 : decode cJ5_ensureCapacityInternal_d00df 11 = .ok (.iload_n 1, 1) := by decide +kernel
theorem dJ5_ensureCapacityInternal_d00df_12 : decode cJ5_ensureCapacityInternal_d00df 12 = .ok (.iload_n 2, 1) := by decide +kernel
theorem dJ5_ensureCapacityInternal_d00df_13 : decode cJ5_ensureCapacityInternal_d00df 13 = .ok (.isub, 1) := by decide +kernel
theorem dJ5_ensureCapacityInternal_d00df_14 : decode cJ5_ensureCapacityInternal_d00df 14 = .ok (.ifCond .le 24, 3) := by decide +kernel
theorem dJ5_ensureCapacityInternal_d00df_17 : decode cJ5_ensureCapacityInternal_d00df 17 = .ok (.aload_n 0, 1) := by decide +kernel
theorem dJ5_ensureCapacityInternal_d00df_18 : decode cJ5_ensureCapacityInternal_d00df 18 = .ok (.aload_n 0, 1) := by decide +kernel
theorem dJ5_ensureCapacityInternal_d00df_19 : decode cJ5_ensureCapacityInternal_d00df 19 = .ok (.getfield 15, 3) := by decide +kernel
theorem dJ5_ensureCapacityInternal_d00df_22 : decode cJ5_ensureCapacityInternal_d00df 22 = .ok (.aload_n 0, 1) := by decide +kernel
theorem dJ5_ensureCapacityInternal_d00df_23 : decode cJ5_ensureCapacityInternal_d00df 23 = .ok (.iload_n 1, 1) := by decide +kernel
theorem dJ5_ensureCapacityInternal_d00df_24 : decode cJ5_ensureCapacityInternal_d00df 24 = .ok (.invokevirtual 104, 3) := by decide +kernel
theorem dJ5_ensureCapacityInternal_d00df_27 : decode cJ5_ensureCapacityInternal_d00df 27 = .ok (.aload_n 0, 1) := by decide +kernel
theorem dJ5_ensureCapacityInternal_d00df_28 : decode cJ5_ensureCapacityInternal_d00df 28 = .ok (.getfield 22, 3) := by decide +kernel
theorem dJ5_ensureCapacityInternal_d00df_31 : decode cJ5_ensureCapacityInternal_d00df 31 = .ok (.ishl, 1) := by decide +kernel
theorem dJ5_ensureCapacityInternal_d00df_32 : decode cJ5_ensureCapacityInternal_d00df 32 = .ok (.invokestatic 108, 3) := by decide +kernel
theorem dJ5_ensureCapacityInternal_d00df_35 : decode cJ5_ensureCapacityInternal_d00df 35 = .ok (.putfield 15, 3) := by decide +kernel
theorem dJ5_ensureCapacityInternal_d00df_38 : decode cJ5_ensureCapacityInternal_d00df 38 = .ok (.return_, 1) := by decide +kernel
theorem dJ5_newCapacity_0f7a4_0 : decode cJ5_newCapacity_0f7a4 0 = .ok (.aload_n 0, 1) := by decide +kernel
theorem dJ5_newCapacity_0f7a4_1 : decode cJ5_newCapacity_0f7a4 1 = .ok (.getfield 15, 3) := by decide +kernel
theorem dJ5_newCapacity_0f7a4_4 : decode cJ5_newCapacity_0f7a4 4 = .ok (.arraylength, 1) := by decide +kernel
theorem dJ5_newCapacity_0f7a4_5 : decode cJ5_newCapacity_0f7a4 5 = .ok (.istore_n 2, 1) := by decide +kernel
theorem dJ5_newCapacity_0f7a4_6 : decode cJ5_newCapacity_0f7a4 6 = .ok (.iload_n 1, 1) := by decide +kernel
theorem dJ5_newCapacity_0f7a4_7 : decode cJ5_newCapacity_0f7a4 7 = .ok (.aload_n 0, 1) := by decide +kernel
theorem dJ5_newCapacity_0f7a4_8 : decode cJ5_newCapacity_0f7a4 8 = .ok (.getfield 22, 3) := by decide +kernel
theorem dJ5_newCapacity_0f7a4_11 : decode cJ5_newCapacity_0f7a4 11 = .ok (.ishl, 1) := by decide +kernel
theorem dJ5_newCapacity_0f7a4_12 : decode cJ5_newCapacity_0f7a4 12 = .ok (.istore_n 3, 1) := by decide +kernel
theorem dJ5_newCapacity_0f7a4_13 : decode cJ5_newCapacity_0f7a4 13 = .ok (.iload_n 3, 1) := by decide +kernel
theorem dJ5_newCapacity_0f7a4_14 : decode cJ5_newCapacity_0f7a4 14 = .ok (.iload_n 2, 1) := by decide +kernel
theorem dJ5_newCapacity_0f7a4_15 : decode cJ5_newCapacity_0f7a4 15 = .ok (.isub, 1) := by decide +kernel
theorem dJ5_newCapacity_0f7a4_16 : decode cJ5_newCapacity_0f7a4 16 = .ok (.istore 4, 2) := by decide +kernel
theorem dJ5_newCapacity_0f7a4_18 : decode cJ5_newCapacity_0f7a4 18 = .ok (.iload_n 2, 1) := by decide +kernel
theorem dJ5_newCapacity_0f7a4_19 : decode cJ5_newCapacity_0f7a4 19 = .ok (.iload 4, 2) := by decide +kernel
theorem dJ5_newCapacity_0f7a4_21 : decode cJ5_newCapacity_0f7a4 21 = .ok (.iload_n 2, 1) := by decide +kernel
theorem dJ5_newCapacity_0f7a4_22 : decode cJ5_newCapacity_0f7a4 22 = .ok (.iconst 2, 1) := by decide +kernel
theorem dJ5_newCapacity_0f7a4_23 : decode cJ5_newCapacity_0f7a4 23 = .ok (.aload_n 0, 1) := by decide +kernel
theorem dJ5_newCapacity_0f7a4_24 : decode cJ5_newCapacity_0f7a4 24 = .ok (.getfield 22, 3) := by decide +kernel
theorem dJ5_newCapacity_0f7a4_27 : decode cJ5_newCapacity_0f7a4 27 = .ok (.ishl, 1) := by decide +kernel
theorem dJ5_newCapacity_0f7a4_28 : decode cJ5_newCapacity_0f7a4 28 = .ok (.iadd, 1) := by decide +kernel
theorem dJ5_newCapacity_0f7a4_29 : decode cJ5_newCapacity_0f7a4 29 = .ok (.invokestatic 114, 3) := by decide +kernel
theorem dJ5_newCapacity_0f7a4_32 : decode cJ5_newCapacity_0f7a4 32 = .ok (.istore 5, 2) := by decide +kernel
theorem dJ5_newCapacity_0f7a4_34 : decode cJ5_newCapacity_0f7a4 34 = .ok (.iload 5, 2) := by decide +kernel
theorem dJ5_newCapacity_0f7a4_36 : decode cJ5_newCapacity_0f7a4 36 = .ok (.ldc 39, 2) := by decide +kernel
theorem dJ5_newCapacity_0f7a4_38 : decode cJ5_newCapacity_0f7a4 38 = .ok (.if_icmp .ne 13, 3) := by decide +kernel
theorem dJ5_newCapacity_0f7a4_41 : decode cJ5_newCapacity_0f7a4 41 = .ok (.new 120, 3) := by decide +kernel
theorem dJ5_newCapacity_0f7a4_44 : decode cJ5_newCapacity_0f7a4 44 = .ok (.dup, 1) := by decide +kernel
theorem dJ5_newCapacity_0f7a4_45 : decode cJ5_newCapacity_0f7a4 45 = .ok (.ldc 122, 2) := by decide +kernel
theorem dJ5_newCapacity_0f7a4_47 : decode cJ5_newCapacity_0f7a4 47 = .ok (.invokespecial 124, 3) := by decide +kernel
theorem dJ5_newCapacity_0f7a4_50 : decode cJ5_newCapacity_0f7a4 50 = .ok (.athrow, 1) := by decide +kernel
theorem dJ5_newCapacity_0f7a4_51 : decode cJ5_newCapacity_0f7a4 51 = .ok (.iload 5, 2) := by decide +kernel
theorem dJ5_newCapacity_0f7a4_53 : decode cJ5_newCapacity_0f7a4 53 = .ok (.aload_n 0, 1) := by decide +kernel
theorem dJ5_newCapacity_0f7a4_54 : decode cJ5_newCapacity_0f7a4 54 = .ok (.getfield 22, 3) := by decide +kernel
theorem dJ5_newCapacity_0f7a4_57 : decode cJ5_newCapacity_0f7a4 57 = .ok (.ishr, 1) := by decide +kernel
theorem dJ5_newCapacity_0f7a4_58 : decode cJ5_newCapacity_0f7a4 58 = .ok (.ireturn, 1) := by decide +kernel
theorem dJ5_setLength_d00df_0 : decode cJ5_setLength_d00df 0 = .ok (.iload_n 1, 1) := by decide +kernel
theorem dJ5_setLength_d00df_1 : decode cJ5_setLength_d00df 1 = .ok (.ifCond .ge 12, 3) := by decide +kernel
theorem dJ5_setLength_d00df_4 : decode cJ5_setLength_d00df 4 = .ok (.new 129, 3) := by decide +kernel
theorem dJ5_setLength_d00df_7 : decode cJ5_setLength_d00df 7 = .ok (.dup, 1) := by decide +kernel
theorem dJ5_setLength_d00df_8 : decode cJ5_setLength_d00df 8 = .ok (.iload_n 1, 1) := by decide +kernel
theorem dJ5_setLength_d00df_9 : decode cJ5_setLength_d00df 9 = .ok (.invokespecial 131, 3) := by decide +kernel
theorem dJ5_setLength_d00df_12 : decode cJ5_setLength_d00df 12 = .ok (.athrow, 1) := by decide +kernel
theorem dJ5_setLength_d00df_13 : decode cJ5_setLength_d00df 13 = .ok (.aload_n 0, 1) := by decide +kernel
theorem dJ5_setLength_d00df_14 : decode cJ5_setLength_d00df 14 = .ok (.iload_n 1, 1) := by decide +kernel
theorem dJ5_setLength_d00df_15 : decode cJ5_setLength_d00df 15 = .ok (.invokevirtual 100, 3) := by decide +kernel
theorem dJ5_setLength_d00df_18 : decode cJ5_setLength_d00df 18 = .ok (.aload_n 0, 1) := by decide +kernel
theorem dJ5_setLength_d00df_19 : decode cJ5_setLength_d00df 19 = .ok (.getfield 79, 3) := by decide +kernel
theorem dJ5_setLength_d00df_22 : decode cJ5_setLength_d00df 22 = .ok (.iload_n 1, 1) := by decide +kernel
theorem dJ5_setLength_d00df_23 : decode cJ5_setLength_d00df 23 = .ok (.if_icmp .ge 40, 3) := by decide +kernel
theorem dJ5_setLength_d00df_26 : decode cJ5_setLength_d00df 26 = .ok (.aload_n 0, 1) := by decide +kernel
theorem dJ5_setLength_d00df_27 : decode cJ5_setLength_d00df 27 = .ok (.invokevirtual 83, 3) := by decide +kernel
theorem dJ5_setLength_d00df_30 : decode cJ5_setLength_d00df 30 = .ok (.ifCond .eq 18, 3) := by decide +kernel
theorem dJ5_setLength_d00df_33 : decode cJ5_setLength_d00df 33 = .ok (.aload_n 0, 1) := by decide +kernel
theorem dJ5_setLength_d00df_34 : decode cJ5_setLength_d00df 34 = .ok (.getfield 15, 3) := by decide +kernel
theorem dJ5_setLength_d00df_37 : decode cJ5_setLength_d00df 37 = .ok (.aload_n 0, 1) := by decide +kernel
theorem dJ5_setLength_d00df_38 : decode cJ5_setLength_d00df 38 = .ok (.getfield 79, 3) := by decide +kernel
theorem dJ5_setLength_d00df_41 : decode cJ5_setLength_d00df 41 = .ok (.iload_n 1, 1) := by decide +kernel
theorem dJ5_setLength_d00df_42 : decode cJ5_setLength_d00df 42 = .ok (.invokestatic 133, 3) := by decide +kernel
theorem dJ5_setLength_d00df_45 : decode cJ5_setLength_d00df 45 = .ok (.goto 31, 3) := by decide +kernel
theorem dJ5_setLength_d00df_48 : decode cJ5_setLength_d00df 48 = .ok (.aload_n 0, 1) := by decide +kernel
theorem dJ5_setLength_d00df_49 : decode cJ5_setLength_d00df 49 = .ok (.getfield 15, 3) := by decide +kernel
theorem dJ5_setLength_d00df_52 : decode cJ5_setLength_d00df 52 = .ok (.aload_n 0, 1) := by decide +kernel
theorem dJ5_setLength_d00df_53 : decode cJ5_setLength_d00df 53 = .ok (.getfield 79, 3) := by decide +kernel
theorem dJ5_setLength_d00df_56 : decode cJ5_setLength_d00df 56 = .ok (.iload_n 1, 1) := by decide +kernel
theorem dJ5_setLength_d00df_57 : decode cJ5_setLength_d00df 57 = .ok (.invokestatic 137, 3) := by decide +kernel
theorem dJ5_setLength_d00df_60 : decode cJ5_setLength_d00df 60 = .ok (.goto 16, 3) := by decide +kernel
theorem dJ5_setLength_d00df_63 : decode cJ5_setLength_d00df 63 = .ok (.aload_n 0, 1) := by decide +kernel
theorem dJ5_setLength_d00df_64 : decode cJ5_setLength_d00df 64 = .ok (.getfield 79, 3) := by decide +kernel
theorem dJ5_setLength_d00df_67 : decode cJ5_setLength_d00df 67 = .ok (.iload_n 1, 1) := by decide +kernel
theorem dJ5_setLength_d00df_68 : decode cJ5_setLength_d00df 68 = .ok (.if_icmp .le 8, 3) := by decide +kernel
theorem dJ5_setLength_d00df_71 : decode cJ5_setLength_d00df 71 = .ok (.aload_n 0, 1) := by decide +kernel
theorem dJ5_setLength_d00df_72 : decode cJ5_setLength_d00df 72 = .ok (.iconst 1, 1) := by decide +kernel
theorem dJ5_setLength_d00df_73 : decode cJ5_setLength_d00df 73 = .ok (.putfield 73, 3) := by decide +kernel
theorem dJ5_setLength_d00df_76 : decode cJ5_setLength_d00df 76 = .ok (.aload_n 0, 1) := by decide +kernel
theorem dJ5_setLength_d00df_77 : decode cJ5_setLength_d00df 77 = .ok (.iload_n 1, 1) := by decide +kernel
theorem dJ5_setLength_d00df_78 : decode cJ5_setLength_d00df 78 = .ok (.putfield 79, 3) := by decide +kernel
theorem dJ5_setLength_d00df_81 : decode cJ5_setLength_d00df 81 = .ok (.return_, 1) := by decide +kernel
theorem dJ5_charAt_5068e_0 : decode cJ5_charAt_5068e 0 = .ok (.aload_n 0, 1) := by decide +kernel
theorem dJ5_charAt_5068e_1 : decode cJ5_charAt_5068e 1 = .ok (.getfield 22, 3) := by decide +kernel
theorem dJ5_charAt_5068e_4 : decode cJ5_charAt_5068e 4 = .ok (.istore_n 2, 1) := by decide +kernel
theorem dJ5_charAt_5068e_5 : decode cJ5_charAt_5068e 5 = .ok (.aload_n 0, 1) := by decide +kernel
theorem dJ5_charAt_5068e_6 : decode cJ5_charAt_5068e 6 = .ok (.getfield 15, 3) := by decide +kernel
theorem dJ5_charAt_5068e_9 : decode cJ5_charAt_5068e 9 = .ok (.astore_n 3, 1) := by decide +kernel
theorem dJ5_charAt_5068e_10 : decode cJ5_charAt_5068e 10 = .ok (.aload_n 0, 1) := by decide +kernel
theorem dJ5_charAt_5068e_11 : decode cJ5_charAt_5068e 11 = .ok (.getfield 79, 3) := by decide +kernel
theorem dJ5_charAt_5068e_14 : decode cJ5_charAt_5068e 14 = .ok (.aload_n 3, 1) := by decide +kernel
theorem dJ5_charAt_5068e_15 : decode cJ5_charAt_5068e 15 = .ok (.arraylength, 1) := by decide +kernel
theorem dJ5_charAt_5068e_16 : decode cJ5_charAt_5068e 16 = .ok (.iload_n 2, 1) := by decide +kernel
theorem dJ5_charAt_5068e_17 : decode cJ5_charAt_5068e 17 = .ok (.ishr, 1) := by decide +kernel
theorem dJ5_charAt_5068e_18 : decode cJ5_charAt_5068e 18 = .ok (.invokestatic 138, 3) := by decide +kernel
theorem dJ5_charAt_5068e_21 : decode cJ5_charAt_5068e 21 = .ok (.istore 4, 2) := by decide +kernel
theorem dJ5_charAt_5068e_23 : decode cJ5_charAt_5068e 23 = .ok (.iload_n 1, 1) := by decide +kernel
theorem dJ5_charAt_5068e_24 : decode cJ5_charAt_5068e 24 = .ok (.iload 4, 2) := by decide +kernel
theorem dJ5_charAt_5068e_26 : decode cJ5_charAt_5068e 26 = .ok (.invokestatic 144, 3) := by decide +kernel
theorem dJ5_charAt_5068e_29 : decode cJ5_charAt_5068e 29 = .ok (.iload_n 2, 1) := by decide +kernel
theorem dJ5_charAt_5068e_30 : decode cJ5_charAt_5068e 30 = .ok (.ifCond .ne 12, 3) := by decide +kernel
theorem dJ5_charAt_5068e_33 : decode cJ5_charAt_5068e 33 = .ok (.aload_n 3, 1) := by decide +kernel
theorem dJ5_charAt_5068e_34 : decode cJ5_charAt_5068e 34 = .ok (.iload_n 1, 1) := by decide +kernel
theorem dJ5_charAt_5068e_35 : decode cJ5_charAt_5068e 35 = .ok (.baload, 1) := by decide +kernel
theorem dJ5_charAt_5068e_36 : decode cJ5_charAt_5068e 36 = .ok (.sipush 255, 3) := by decide +kernel
theorem dJ5_charAt_5068e_39 : decode cJ5_charAt_5068e 39 = .ok (.iand, 1) := by decide +kernel
theorem dJ5_charAt_5068e_40 : decode cJ5_charAt_5068e 40 = .ok (.i2c, 1) := by decide +kernel
theorem dJ5_charAt_5068e_41 : decode cJ5_charAt_5068e 41 = .ok (.ireturn, 1) := by decide +kernel
theorem dJ5_charAt_5068e_42 : decode cJ5_charAt_5068e 42 = .ok (.aload_n 3, 1) := by decide +kernel
theorem dJ5_charAt_5068e_43 : decode cJ5_charAt_5068e 43 = .ok (.iload_n 1, 1) := by decide +kernel
theorem dJ5_charAt_5068e_44 : decode cJ5_charAt_5068e 44 = .ok (.invokestatic 148, 3) := by decide +kernel
theorem dJ5_charAt_5068e_47 : decode cJ5_charAt_5068e 47 = .ok (.ireturn, 1) := by decide +kernel
theorem dJ5_append_cf1ce_0 : decode cJ5_append_cf1ce 0 = .ok (.aload_n 1, 1) := by decide +kernel
theorem dJ5_append_cf1ce_1 : decode cJ5_append_cf1ce 1 = .ok (.ifnonnull 8, 3) := by decide +kernel
theorem dJ5_append_cf1ce_4 : decode cJ5_append_cf1ce 4 = .ok (.aload_n 0, 1) := by decide +kernel
theorem dJ5_append_cf1ce_5 : decode cJ5_append_cf1ce 5 = .ok (.invokevirtual 204, 3) := by decide +kernel
theorem dJ5_append_cf1ce_8 : decode cJ5_append_cf1ce 8 = .ok (.areturn, 1) := by decide +kernel
theorem dJ5_append_cf1ce_9 : decode cJ5_append_cf1ce 9 = .ok (.aload_n 1, 1) := by decide +kernel
theorem dJ5_append_cf1ce_10 : decode cJ5_append_cf1ce 10 = .ok (.invokevirtual 32, 3) := by decide +kernel
theorem dJ5_append_cf1ce_13 : decode cJ5_append_cf1ce 13 = .ok (.istore_n 2, 1) := by decide +kernel
theorem dJ5_append_cf1ce_14 : decode cJ5_append_cf1ce 14 = .ok (.aload_n 0, 1) := by decide +kernel
theorem dJ5_append_cf1ce_15 : decode cJ5_append_cf1ce 15 = .ok (.aload_n 0, 1) := by decide +kernel
theorem dJ5_append_cf1ce_16 : decode cJ5_append_cf1ce 16 = .ok (.getfield 79, 3) := by decide +kernel
theorem dJ5_append_cf1ce_19 : decode cJ5_append_cf1ce 19 = .ok (.iload_n 2, 1) := by decide +kernel
theorem dJ5_append_cf1ce_20 : decode cJ5_append_cf1ce 20 = .ok (.iadd, 1) := by decide +kernel
theorem dJ5_append_cf1ce_21 : decode cJ5_append_cf1ce 21 = .ok (.invokevirtual 100, 3) := by decide +kernel
theorem dJ5_append_cf1ce_24 : decode cJ5_append_cf1ce 24 = .ok (.aload_n 0, 1) := by decide +kernel
theorem dJ5_append_cf1ce_25 : decode cJ5_append_cf1ce 25 = .ok (.aload_n 0, 1) := by decide +kernel
theorem dJ5_append_cf1ce_26 : decode cJ5_append_cf1ce 26 = .ok (.getfield 79, 3) := by decide +kernel
theorem dJ5_append_cf1ce_29 : decode cJ5_append_cf1ce 29 = .ok (.aload_n 1, 1) := by decide +kernel
theorem dJ5_append_cf1ce_30 : decode cJ5_append_cf1ce 30 = .ok (.invokevirtual 208, 3) := by decide +kernel
theorem dJ5_append_cf1ce_33 : decode cJ5_append_cf1ce 33 = .ok (.aload_n 0, 1) := by decide +kernel
theorem dJ5_append_cf1ce_34 : decode cJ5_append_cf1ce 34 = .ok (.dup, 1) := by decide +kernel
theorem dJ5_append_cf1ce_35 : decode cJ5_append_cf1ce 35 = .ok (.getfield 79, 3) := by decide +kernel
theorem dJ5_append_cf1ce_38 : decode cJ5_append_cf1ce 38 = .ok (.iload_n 2, 1) := by decide +kernel
theorem dJ5_append_cf1ce_39 : decode cJ5_append_cf1ce 39 = .ok (.iadd, 1) := by decide +kernel
theorem dJ5_append_cf1ce_40 : decode cJ5_append_cf1ce 40 = .ok (.putfield 79, 3) := by decide +kernel
theorem dJ5_append_cf1ce_43 : decode cJ5_append_cf1ce 43 = .ok (.aload_n 0, 1) := by decide +kernel
theorem dJ5_append_cf1ce_44 : decode cJ5_append_cf1ce 44 = .ok (.areturn, 1) := by decide +kernel
theorem dJ5_append_3fe6f_0 : decode cJ5_append_3fe6f 0 = .ok (.aload_n 0, 1) := by decide +kernel
theorem dJ5_append_3fe6f_1 : decode cJ5_append_3fe6f 1 = .ok (.aload_n 0, 1) := by decide +kernel
theorem dJ5_append_3fe6f_2 : decode cJ5_append_3fe6f 2 = .ok (.getfield 79, 3) := by decide +kernel
theorem dJ5_append_3fe6f_5 : decode cJ5_append_3fe6f 5 = .ok (.iconst 1, 1) := by decide +kernel
theorem dJ5_append_3fe6f_6 : decode cJ5_append_3fe6f 6 = .ok (.iadd, 1) := by decide +kernel
theorem dJ5_append_3fe6f_7 : decode cJ5_append_3fe6f 7 = .ok (.invokevirtual 100, 3) := by decide +kernel
theorem dJ5_append_3fe6f_10 : decode cJ5_append_3fe6f 10 = .ok (.aload_n 0, 1) := by decide +kernel
theorem dJ5_append_3fe6f_11 : decode cJ5_append_3fe6f 11 = .ok (.invokevirtual 83, 3) := by decide +kernel
theorem dJ5_append_3fe6f_14 : decode cJ5_append_3fe6f 14 = .ok (.ifCond .eq 31, 3) := by decide +kernel
theorem dJ5_append_3fe6f_17 : decode cJ5_append_3fe6f 17 = .ok (.iload_n 1, 1) := by decide +kernel
theorem dJ5_append_3fe6f_18 : decode cJ5_append_3fe6f 18 = .ok (.invokestatic 191, 3) := by decide +kernel
theorem dJ5_append_3fe6f_21 : decode cJ5_append_3fe6f 21 = .ok (.ifCond .eq 24, 3) := by decide +kernel
theorem dJ5_append_3fe6f_24 : decode cJ5_append_3fe6f 24 = .ok (.aload_n 0, 1) := by decide +kernel
theorem dJ5_append_3fe6f_25 : decode cJ5_append_3fe6f 25 = .ok (.getfield 15, 3) := by decide +kernel
theorem dJ5_append_3fe6f_28 : decode cJ5_append_3fe6f 28 = .ok (.aload_n 0, 1) := by decide +kernel
theorem dJ5_append_3fe6f_29 : decode cJ5_append_3fe6f 29 = .ok (.dup, 1) := by decide +kernel
theorem dJ5_append_3fe6f_30 : decode cJ5_append_3fe6f 30 = .ok (.getfield 79, 3) := by decide +kernel
theorem dJ5_append_3fe6f_33 : decode cJ5_append_3fe6f 33 = .ok (.dup_x1, 1) := by decide +kernel
theorem dJ5_append_3fe6f_34 : decode cJ5_append_3fe6f 34 = .ok (.iconst 1, 1) := by decide +kernel
theorem dJ5_append_3fe6f_35 : decode cJ5_append_3fe6f 35 = .ok (.iadd, 1) := by decide +kernel
theorem dJ5_append_3fe6f_36 : decode cJ5_append_3fe6f 36 = .ok (.putfield 79, 3) := by decide +kernel
theorem dJ5_append_3fe6f_39 : decode cJ5_append_3fe6f 39 = .ok (.iload_n 1, 1) := by decide +kernel
theorem dJ5_append_3fe6f_40 : decode cJ5_append_3fe6f 40 = .ok (.i2b, 1) := by decide +kernel
theorem dJ5_append_3fe6f_41 : decode cJ5_append_3fe6f 41 = .ok (.bastore, 1) := by decide +kernel
theorem dJ5_append_3fe6f_42 : decode cJ5_append_3fe6f 42 = .ok (.goto 33, 3) := by decide +kernel
theorem dJ5_append_3fe6f_45 : decode cJ5_append_3fe6f 45 = .ok (.aload_n 0, 1) := by decide +kernel
theorem dJ5_append_3fe6f_46 : decode cJ5_append_3fe6f 46 = .ok (.invokevirtual 83, 3) := by decide +kernel
theorem dJ5_append_3fe6f_49 : decode cJ5_append_3fe6f 49 = .ok (.ifCond .eq 7, 3) := by decide +kernel
theorem dJ5_append_3fe6f_52 : decode cJ5_append_3fe6f 52 = .ok (.aload_n 0, 1) := by decide +kernel
theorem dJ5_append_3fe6f_53 : decode cJ5_append_3fe6f 53 = .ok (.invokevirtual 195, 3) := by decide +kernel
theorem dJ5_append_3fe6f_56 : decode cJ5_append_3fe6f 56 = .ok (.aload_n 0, 1) := by decide +kernel
theorem dJ5_append_3fe6f_57 : decode cJ5_append_3fe6f 57 = .ok (.getfield 15, 3) := by decide +kernel
theorem dJ5_append_3fe6f_60 : decode cJ5_append_3fe6f 60 = .ok (.aload_n 0, 1) := by decide +kernel
theorem dJ5_append_3fe6f_61 : decode cJ5_append_3fe6f 61 = .ok (.dup, 1) := by decide +kernel
theorem dJ5_append_3fe6f_62 : decode cJ5_append_3fe6f 62 = .ok (.getfield 79, 3) := by decide +kernel
theorem dJ5_append_3fe6f_65 : decode cJ5_append_3fe6f 65 = .ok (.dup_x1, 1) := by decide +kernel
theorem dJ5_append_3fe6f_66 : decode cJ5_append_3fe6f 66 = .ok (.iconst 1, 1) := by decide +kernel
theorem dJ5_append_3fe6f_67 : decode cJ5_append_3fe6f 67 = .ok (.iadd, 1) := by decide +kernel
theorem dJ5_append_3fe6f_68 : decode cJ5_append_3fe6f 68 = .ok (.putfield 79, 3) := by decide +kernel
theorem dJ5_append_3fe6f_71 : decode cJ5_append_3fe6f 71 = .ok (.iload_n 1, 1) := by decide +kernel
theorem dJ5_append_3fe6f_72 : decode cJ5_append_3fe6f 72 = .ok (.invokestatic 197, 3) := by decide +kernel
theorem dJ5_append_3fe6f_75 : decode cJ5_append_3fe6f 75 = .ok (.aload_n 0, 1) := by decide +kernel
theorem dJ5_append_3fe6f_76 : decode cJ5_append_3fe6f 76 = .ok (.areturn, 1) := by decide +kernel
theorem dJ5_append_c97b9_0 : decode cJ5_append_c97b9 0 = .ok (.aload_n 0, 1) := by decide +kernel
theorem dJ5_append_c97b9_1 : decode cJ5_append_c97b9 1 = .ok (.getfield 79, 3) := by decide +kernel
theorem dJ5_append_c97b9_4 : decode cJ5_append_c97b9 4 = .ok (.istore_n 2, 1) := by decide +kernel
theorem dJ5_append_c97b9_5 : decode cJ5_append_c97b9 5 = .ok (.iload_n 2, 1) := by decide +kernel
theorem dJ5_append_c97b9_6 : decode cJ5_append_c97b9 6 = .ok (.iload_n 1, 1) := by decide +kernel
theorem dJ5_append_c97b9_7 : decode cJ5_append_c97b9 7 = .ok (.invokestatic 245, 3) := by decide +kernel
theorem dJ5_append_c97b9_10 : decode cJ5_append_c97b9 10 = .ok (.iadd, 1) := by decide +kernel
theorem dJ5_append_c97b9_11 : decode cJ5_append_c97b9 11 = .ok (.istore_n 3, 1) := by decide +kernel
theorem dJ5_append_c97b9_12 : decode cJ5_append_c97b9 12 = .ok (.aload_n 0, 1) := by decide +kernel
theorem dJ5_append_c97b9_13 : decode cJ5_append_c97b9 13 = .ok (.iload_n 3, 1) := by decide +kernel
theorem dJ5_append_c97b9_14 : decode cJ5_append_c97b9 14 = .ok (.invokevirtual 100, 3) := by decide +kernel
theorem dJ5_append_c97b9_17 : decode cJ5_append_c97b9 17 = .ok (.aload_n 0, 1) := by decide +kernel
theorem dJ5_append_c97b9_18 : decode cJ5_append_c97b9 18 = .ok (.invokevirtual 83, 3) := by decide +kernel
theorem dJ5_append_c97b9_21 : decode cJ5_append_c97b9 21 = .ok (.ifCond .eq 16, 3) := by decide +kernel
theorem dJ5_append_c97b9_24 : decode cJ5_append_c97b9 24 = .ok (.iload_n 1, 1) := by decide +kernel
theorem dJ5_append_c97b9_25 : decode cJ5_append_c97b9 25 = .ok (.iload_n 3, 1) := by decide +kernel
theorem dJ5_append_c97b9_26 : decode cJ5_append_c97b9 26 = .ok (.aload_n 0, 1) := by decide +kernel
theorem dJ5_append_c97b9_27 : decode cJ5_append_c97b9 27 = .ok (.getfield 15, 3) := by decide +kernel
theorem dJ5_append_c97b9_30 : decode cJ5_append_c97b9 30 = .ok (.invokestatic 248, 3) := by decide +kernel
theorem dJ5_append_c97b9_33 : decode cJ5_append_c97b9 33 = .ok (.pop, 1) := by decide +kernel
theorem dJ5_append_c97b9_34 : decode cJ5_append_c97b9 34 = .ok (.goto 14, 3) := by decide +kernel
theorem dJ5_append_c97b9_37 : decode cJ5_append_c97b9 37 = .ok (.iload_n 1, 1) := by decide +kernel
theorem dJ5_append_c97b9_38 : decode cJ5_append_c97b9 38 = .ok (.iload_n 2, 1) := by decide +kernel
theorem dJ5_append_c97b9_39 : decode cJ5_append_c97b9 39 = .ok (.iload_n 3, 1) := by decide +kernel
theorem dJ5_append_c97b9_40 : decode cJ5_append_c97b9 40 = .ok (.aload_n 0, 1) := by decide +kernel
theorem dJ5_append_c97b9_41 : decode cJ5_append_c97b9 41 = .ok (.getfield 15, 3) := by decide +kernel
theorem dJ5_append_c97b9_44 : decode cJ5_append_c97b9 44 = .ok (.invokestatic 251, 3) := by decide +kernel
theorem dJ5_append_c97b9_47 : decode cJ5_append_c97b9 47 = .ok (.pop, 1) := by decide +kernel
theorem dJ5_append_c97b9_48 : decode cJ5_append_c97b9 48 = .ok (.aload_n 0, 1) := by decide +kernel
theorem dJ5_append_c97b9_49 : decode cJ5_append_c97b9 49 = .ok (.iload_n 3, 1) := by decide +kernel
theorem dJ5_append_c97b9_50 : decode cJ5_append_c97b9 50 = .ok (.putfield 79, 3) := by decide +kernel
theorem dJ5_append_c97b9_53 : decode cJ5_append_c97b9 53 = .ok (.aload_n 0, 1) := by decide +kernel
theorem dJ5_append_c97b9_54 : decode cJ5_append_c97b9 54 = .ok (.areturn, 1) := by decide +kernel
theorem dJ5_isLatin1_aae02_0 : decode cJ5_isLatin1_aae02 0 = .ok (.getstatic 18, 3) := by decide +kernel
theorem dJ5_isLatin1_aae02_3 : decode cJ5_isLatin1_aae02 3 = .ok (.ifCond .eq 14, 3) := by decide +kernel
theorem dJ5_isLatin1_aae02_6 : decode cJ5_isLatin1_aae02 6 = .ok (.aload_n 0, 1) := by decide +kernel
theorem dJ5_isLatin1_aae02_7 : decode cJ5_isLatin1_aae02 7 = .ok (.getfield 22, 3) := by decide +kernel
theorem dJ5_isLatin1_aae02_10 : decode cJ5_isLatin1_aae02 10 = .ok (.ifCond .ne 7, 3) := by decide +kernel
theorem dJ5_isLatin1_aae02_13 : decode cJ5_isLatin1_aae02 13 = .ok (.iconst 1, 1) := by decide +kernel
theorem dJ5_isLatin1_aae02_14 : decode cJ5_isLatin1_aae02 14 = .ok (.goto 4, 3) := by decide +kernel
theorem dJ5_isLatin1_aae02_17 : decode cJ5_isLatin1_aae02 17 = .ok (.iconst 0, 1) := by decide +kernel
theorem dJ5_isLatin1_aae02_18 : decode cJ5_isLatin1_aae02 18 = .ok (.ireturn, 1) := by decide +kernel
theorem dJ5_inflateIfNeededFor_a7421_0 : decode cJ5_inflateIfNeededFor_a7421 0 = .ok (.getstatic 18, 3) := by decide +kernel
theorem dJ5_inflateIfNeededFor_a7421_3 : decode cJ5_inflateIfNeededFor_a7421 3 = .ok (.ifCond .eq 18, 3) := by decide +kernel
theorem dJ5_inflateIfNeededFor_a7421_6 : decode cJ5_inflateIfNeededFor_a7421 6 = .ok (.aload_n 0, 1) := by decide +kernel
theorem dJ5_inflateIfNeededFor_a7421_7 : decode cJ5_inflateIfNeededFor_a7421 7 = .ok (.getfield 22, 3) := by decide +kernel
theorem dJ5_inflateIfNeededFor_a7421_10 : decode cJ5_inflateIfNeededFor_a7421 10 = .ok (.aload_n 1, 1) := by decide +kernel
theorem dJ5_inflateIfNeededFor_a7421_11 : decode cJ5_inflateIfNeededFor_a7421 11 = .ok (.invokevirtual 40, 3) := by decide +kernel
theorem dJ5_inflateIfNeededFor_a7421_14 : decode cJ5_inflateIfNeededFor_a7421 14 = .ok (.if_icmp .eq 7, 3) := by decide +kernel
theorem dJ5_inflateIfNeededFor_a7421_17 : decode cJ5_inflateIfNeededFor_a7421 17 = .ok (.aload_n 0, 1) := by decide +kernel
theorem dJ5_inflateIfNeededFor_a7421_18 : decode cJ5_inflateIfNeededFor_a7421 18 = .ok (.invokevirtual 195, 3) := by decide +kernel
theorem dJ5_inflateIfNeededFor_a7421_21 : decode cJ5_inflateIfNeededFor_a7421 21 = .ok (.return_, 1) := by decide +kernel
theorem dJ5_putStringAt_47b60_0 : decode cJ5_putStringAt_47b60 0 = .ok (.aload_n 0, 1) := by decide +kernel
theorem dJ5_putStringAt_47b60_1 : decode cJ5_putStringAt_47b60 1 = .ok (.aload_n 2, 1) := by decide +kernel
theorem dJ5_putStringAt_47b60_2 : decode cJ5_putStringAt_47b60 2 = .ok (.invokevirtual 397, 3) := by decide +kernel
theorem dJ5_putStringAt_47b60_5 : decode cJ5_putStringAt_47b60 5 = .ok (.aload_n 2, 1) := by decide +kernel
theorem dJ5_putStringAt_47b60_6 : decode cJ5_putStringAt_47b60 6 = .ok (.aload_n 0, 1) := by decide +kernel
theorem dJ5_putStringAt_47b60_7 : decode cJ5_putStringAt_47b60 7 = .ok (.getfield 15, 3) := by decide +kernel
theorem dJ5_putStringAt_47b60_10 : decode cJ5_putStringAt_47b60 10 = .ok (.iload_n 1, 1) := by decide +kernel
theorem dJ5_putStringAt_47b60_11 : decode cJ5_putStringAt_47b60 11 = .ok (.aload_n 0, 1) := by decide +kernel
theorem dJ5_putStringAt_47b60_12 : decode cJ5_putStringAt_47b60 12 = .ok (.getfield 22, 3) := by decide +kernel
theorem dJ5_putStringAt_47b60_15 : decode cJ5_putStringAt_47b60 15 = .ok (.invokevirtual 399, 3) := by decide +kernel
theorem dJ5_putStringAt_47b60_18 : decode cJ5_putStringAt_47b60 18 = .ok (.return_, 1) := by decide +kernel
theorem dJ6_getChars_ba4f3_0 : decode cJ6_getChars_ba4f3 0 = .ok (.iload_n 1, 1) := by decide +kernel
theorem dJ6_getChars_ba4f3_1 : decode cJ6_getChars_ba4f3 1 = .ok (.istore 5, 2) := by decide +kernel
theorem dJ6_getChars_ba4f3_3 : decode cJ6_getChars_ba4f3 3 = .ok (.iload_n 0, 1) := by decide +kernel
theorem dJ6_getChars_ba4f3_4 : decode cJ6_getChars_ba4f3 4 = .ok (.ifCond .ge 7, 3) := by decide +kernel
theorem dJ6_getChars_ba4f3_7 : decode cJ6_getChars_ba4f3 7 = .ok (.iconst 1, 1) := by decide +kernel
theorem dJ6_getChars_ba4f3_8 : decode cJ6_getChars_ba4f3 8 = .ok (.goto 4, 3) := by decide +kernel
theorem dJ6_getChars_ba4f3_11 : decode cJ6_getChars_ba4f3 11 = .ok (.iconst 0, 1) := by decide +kernel
theorem dJ6_getChars_ba4f3_12 : decode cJ6_getChars_ba4f3 12 = .ok (.istore 6, 2) := by decide +kernel
theorem dJ6_getChars_ba4f3_14 : decode cJ6_getChars_ba4f3 14 = .ok (.iload 6, 2) := by decide +kernel
theorem dJ6_getChars_ba4f3_16 : decode cJ6_getChars_ba4f3 16 = .ok (.ifCond .ne 6, 3) := by decide +kernel
theorem dJ6_getChars_ba4f3_19 : decode cJ6_getChars_ba4f3 19 = .ok (.iload_n 0, 1) := by decide +kernel
theorem dJ6_getChars_ba4f3_20 : decode cJ6_getChars_ba4f3 20 = .ok (.ineg, 1) := by decide +kernel
theorem dJ6_getChars_ba4f3_21 : decode cJ6_getChars_ba4f3 21 = .ok (.istore_n 0, 1) := by decide +kernel
theorem dJ6_getChars_ba4f3_22 : decode cJ6_getChars_ba4f3 22 = .ok (.iload_n 0, 1) := by decide +kernel
theorem dJ6_getChars_ba4f3_23 : decode cJ6_getChars_ba4f3 23 = .ok (.bipush (-100), 2) := by decide +kernel
theorem dJ6_getChars_ba4f3_25 : decode cJ6_getChars_ba4f3 25 = .ok (.if_icmp .gt 47, 3) := by decide +kernel
theorem dJ6_getChars_ba4f3_28 : decode cJ6_getChars_ba4f3 28 = .ok (.iload_n 0, 1) := by decide +kernel
theorem dJ6_getChars_ba4f3_29 : decode cJ6_getChars_ba4f3 29 = .ok (.bipush 100, 2) := by decide +kernel
theorem dJ6_getChars_ba4f3_31 : decode cJ6_getChars_ba4f3 31 = .ok (.idiv, 1) := by decide +kernel
theorem dJ6_getChars_ba4f3_32 : decode cJ6_getChars_ba4f3 32 = .ok (.istore_n 3, 1) := by decide +kernel
theorem dJ6_getChars_ba4f3_33 : decode cJ6_getChars_ba4f3 33 = .ok (.iload_n 3, 1) := by decide +kernel
theorem dJ6_getChars_ba4f3_34 : decode cJ6_getChars_ba4f3 34 = .ok (.bipush 100, 2) := by decide +kernel
theorem dJ6_getChars_ba4f3_36 : decode cJ6_getChars_ba4f3 36 = .ok (.imul, 1) := by decide +kernel
theorem dJ6_getChars_ba4f3_37 : decode cJ6_getChars_ba4f3 37 = .ok (.iload_n 0, 1) := by decide +kernel
theorem dJ6_getChars_ba4f3_38 : decode cJ6_getChars_ba4f3 38 = .ok (.isub, 1) := by decide +kernel
theorem dJ6_getChars_ba4f3_39 : decode cJ6_getChars_ba4f3 39 = .ok (.istore 4, 2) := by decide +kernel
theorem dJ6_getChars_ba4f3_41 : decode cJ6_getChars_ba4f3 41 = .ok (.iload_n 3, 1) := by decide +kernel
theorem dJ6_getChars_ba4f3_42 : decode cJ6_getChars_ba4f3 42 = .ok (.istore_n 0, 1) := by decide +kernel
theorem dJ6_getChars_ba4f3_43 : decode cJ6_getChars_ba4f3 43 = .ok (.aload_n 2, 1) := by decide +kernel
theorem dJ6_getChars_ba4f3_44 : decode cJ6_getChars_ba4f3 44 = .ok (.iinc 5 (-1), 3) := by decide +kernel
theorem dJ6_getChars_ba4f3_47 : decode cJ6_getChars_ba4f3 47 = .ok (.iload 5, 2) := by decide +kernel
theorem dJ6_getChars_ba4f3_49 : decode cJ6_getChars_ba4f3 49 = .ok (.getstatic 83, 3) := by decide +kernel
theorem dJ6_getChars_ba4f3_52 : decode cJ6_getChars_ba4f3 52 = .ok (.iload 4, 2) := by decide +kernel
theorem dJ6_getChars_ba4f3_54 : decode cJ6_getChars_ba4f3 54 = .ok (.baload, 1) := by decide +kernel
theorem dJ6_getChars_ba4f3_55 : decode cJ6_getChars_ba4f3 55 = .ok (.bastore, 1) := by decide +kernel
theorem dJ6_getChars_ba4f3_56 : decode cJ6_getChars_ba4f3 56 = .ok (.aload_n 2, 1) := by decide +kernel
theorem dJ6_getChars_ba4f3_57 : decode cJ6_getChars_ba4f3 57 = .ok (.iinc 5 (-1), 3) := by decide +kernel
theorem dJ6_getChars_ba4f3_60 : decode cJ6_getChars_ba4f3 60 = .ok (.iload 5, 2) := by decide +kernel
theorem dJ6_getChars_ba4f3_62 : decode cJ6_getChars_ba4f3 62 = .ok (.getstatic 87, 3) := by decide +kernel
theorem dJ6_getChars_ba4f3_65 : decode cJ6_getChars_ba4f3 65 = .ok (.iload 4, 2) := by decide +kernel
theorem dJ6_getChars_ba4f3_67 : decode cJ6_getChars_ba4f3 67 = .ok (.baload, 1) := by decide +kernel
theorem dJ6_getChars_ba4f3_68 : decode cJ6_getChars_ba4f3 68 = .ok (.bastore, 1) := by decide +kernel
theorem dJ6_getChars_ba4f3_69 : decode cJ6_getChars_ba4f3 69 = .ok (.goto (-47), 3) := by decide +kernel
theorem dJ6_getChars_ba4f3_72 : decode cJ6_getChars_ba4f3 72 = .ok (.aload_n 2, 1) := by decide +kernel
theorem dJ6_getChars_ba4f3_73 : decode cJ6_getChars_ba4f3 73 = .ok (.iinc 5 (-1), 3) := by decide +kernel
theorem dJ6_getChars_ba4f3_76 : decode cJ6_getChars_ba4f3 76 = .ok (.iload 5, 2) := by decide +kernel
theorem dJ6_getChars_ba4f3_78 : decode cJ6_getChars_ba4f3 78 = .ok (.getstatic 83, 3) := by decide +kernel
theorem dJ6_getChars_ba4f3_81 : decode cJ6_getChars_ba4f3 81 = .ok (.iload_n 0, 1) := by decide +kernel
theorem dJ6_getChars_ba4f3_82 : decode cJ6_getChars_ba4f3 82 = .ok (.ineg, 1) := by decide +kernel
theorem dJ6_getChars_ba4f3_83 : decode cJ6_getChars_ba4f3 83 = .ok (.baload, 1) := by decide +kernel
theorem dJ6_getChars_ba4f3_84 : decode cJ6_getChars_ba4f3 84 = .ok (.bastore, 1) := by decide +kernel
theorem dJ6_getChars_ba4f3_85 : decode cJ6_getChars_ba4f3 85 = .ok (.iload_n 0, 1) := by decide +kernel
theorem dJ6_getChars_ba4f3_86 : decode cJ6_getChars_ba4f3 86 = .ok (.bipush (-9), 2) := by decide +kernel
theorem dJ6_getChars_ba4f3_88 : decode cJ6_getChars_ba4f3 88 = .ok (.if_icmp .ge 16, 3) := by decide +kernel
theorem dJ6_getChars_ba4f3_91 : decode cJ6_getChars_ba4f3 91 = .ok (.aload_n 2, 1) := by decide +kernel
theorem dJ6_getChars_ba4f3_92 : decode cJ6_getChars_ba4f3 92 = .ok (.iinc 5 (-1), 3) := by decide +kernel
theorem dJ6_getChars_ba4f3_95 : decode cJ6_getChars_ba4f3 95 = .ok (.iload 5, 2) := by decide +kernel
theorem dJ6_getChars_ba4f3_97 : decode cJ6_getChars_ba4f3 97 = .ok (.getstatic 87, 3) := by decide +kernel
theorem dJ6_getChars_ba4f3_100 : decode cJ6_getChars_ba4f3 100 = .ok (.iload_n 0, 1) := by decide +kernel
theorem dJ6_getChars_ba4f3_101 : decode cJ6_getChars_ba4f3 101 = .ok (.ineg, 1) := by decide +kernel
theorem dJ6_getChars_ba4f3_102 : decode cJ6_getChars_ba4f3 102 = .ok (.baload, 1) := by decide +kernel
theorem dJ6_getChars_ba4f3_103 : decode cJ6_getChars_ba4f3 103 = .ok (.bastore, 1) := by decide +kernel
theorem dJ6_getChars_ba4f3_104 : decode cJ6_getChars_ba4f3 104 = .ok (.iload 6, 2) := by decide +kernel
theorem dJ6_getChars_ba4f3_106 : decode cJ6_getChars_ba4f3 106 = .ok (.ifCond .eq 12, 3) := by decide +kernel
theorem dJ6_getChars_ba4f3_109 : decode cJ6_getChars_ba4f3 109 = .ok (.aload_n 2, 1) := by decide +kernel
theorem dJ6_getChars_ba4f3_110 : decode cJ6_getChars_ba4f3 110 = .ok (.iinc 5 (-1), 3) := by decide +kernel
theorem dJ6_getChars_ba4f3_113 : decode cJ6_getChars_ba4f3 113 = .ok (.iload 5, 2) := by decide +kernel
theorem dJ6_getChars_ba4f3_115 : decode cJ6_getChars_ba4f3 115 = .ok (.bipush 45, 2) := by decide +kernel
theorem dJ6_getChars_ba4f3_117 : decode cJ6_getChars_ba4f3 117 = .ok (.bastore, 1) := by decide +kernel
theorem dJ6_getChars_ba4f3_118 : decode cJ6_getChars_ba4f3 118 = .ok (.iload 5, 2) := by decide +kernel
theorem dJ6_getChars_ba4f3_120 : decode cJ6_getChars_ba4f3 120 = .ok (.ireturn, 1) := by decide +kernel
theorem dJ6_stringSize_0f7a4_0 : decode cJ6_stringSize_0f7a4 0 = .ok (.iconst 1, 1) := by decide +kernel
theorem dJ6_stringSize_0f7a4_1 : decode cJ6_stringSize_0f7a4 1 = .ok (.istore_n 1, 1) := by decide +kernel
theorem dJ6_stringSize_0f7a4_2 : decode cJ6_stringSize_0f7a4 2 = .ok (.iload_n 0, 1) := by decide +kernel
theorem dJ6_stringSize_0f7a4_3 : decode cJ6_stringSize_0f7a4 3 = .ok (.ifCond .lt 8, 3) := by decide +kernel
theorem dJ6_stringSize_0f7a4_6 : decode cJ6_stringSize_0f7a4 6 = .ok (.iconst 0, 1) := by decide +kernel
theorem dJ6_stringSize_0f7a4_7 : decode cJ6_stringSize_0f7a4 7 = .ok (.istore_n 1, 1) := by decide +kernel
theorem dJ6_stringSize_0f7a4_8 : decode cJ6_stringSize_0f7a4 8 = .ok (.iload_n 0, 1) := by decide +kernel
theorem dJ6_stringSize_0f7a4_9 : decode cJ6_stringSize_0f7a4 9 = .ok (.ineg, 1) := by decide +kernel
theorem dJ6_stringSize_0f7a4_10 : decode cJ6_stringSize_0f7a4 10 = .ok (.istore_n 0, 1) := by decide +kernel
theorem dJ6_stringSize_0f7a4_11 : decode cJ6_stringSize_0f7a4 11 = .ok (.bipush (-10), 2) := by decide +kernel
theorem dJ6_stringSize_0f7a4_13 : decode cJ6_stringSize_0f7a4 13 = .ok (.istore_n 2, 1) := by decide +kernel
theorem dJ6_stringSize_0f7a4_14 : decode cJ6_stringSize_0f7a4 14 = .ok (.iconst 1, 1) := by decide +kernel
theorem dJ6_stringSize_0f7a4_15 : decode cJ6_stringSize_0f7a4 15 = .ok (.istore_n 3, 1) := by decide +kernel
theorem dJ6_stringSize_0f7a4_16 : decode cJ6_stringSize_0f7a4 16 = .ok (.iload_n 3, 1) := by decide +kernel
theorem dJ6_stringSize_0f7a4_17 : decode cJ6_stringSize_0f7a4 17 = .ok (.bipush 10, 2) := by decide +kernel
theorem dJ6_stringSize_0f7a4_19 : decode cJ6_stringSize_0f7a4 19 = .ok (.if_icmp .ge 23, 3) := by decide +kernel
theorem dJ6_stringSize_0f7a4_22 : decode cJ6_stringSize_0f7a4 22 = .ok (.iload_n 0, 1) := by decide +kernel
theorem dJ6_stringSize_0f7a4_23 : decode cJ6_stringSize_0f7a4 23 = .ok (.iload_n 2, 1) := by decide +kernel
theorem dJ6_stringSize_0f7a4_24 : decode cJ6_stringSize_0f7a4 24 = .ok (.if_icmp .le 7, 3) := by decide +kernel
theorem dJ6_stringSize_0f7a4_27 : decode cJ6_stringSize_0f7a4 27 = .ok (.iload_n 3, 1) := by decide +kernel
theorem dJ6_stringSize_0f7a4_28 : decode cJ6_stringSize_0f7a4 28 = .ok (.iload_n 1, 1) := by decide +kernel
theorem dJ6_stringSize_0f7a4_29 : decode cJ6_stringSize_0f7a4 29 = .ok (.iadd, 1) := by decide +kernel
theorem dJ6_stringSize_0f7a4_30 : decode cJ6_stringSize_0f7a4 30 = .ok (.ireturn, 1) := by decide +kernel
theorem dJ6_stringSize_0f7a4_31 : decode cJ6_stringSize_0f7a4 31 = .ok (.bipush 10, 2) := by decide +kernel
theorem dJ6_stringSize_0f7a4_33 : decode cJ6_stringSize_0f7a4 33 = .ok (.iload_n 2, 1) := by decide +kernel
theorem dJ6_stringSize_0f7a4_34 : decode cJ6_stringSize_0f7a4 34 = .ok (.imul, 1) := by decide +kernel
theorem dJ6_stringSize_0f7a4_35 : decode cJ6_stringSize_0f7a4 35 = .ok (.istore_n 2, 1) := by decide +kernel
theorem dJ6_stringSize_0f7a4_36 : decode cJ6_stringSize_0f7a4 36 = .ok (.iinc 3 1, 3) := by decide +kernel
theorem dJ6_stringSize_0f7a4_39 : decode cJ6_stringSize_0f7a4 39 = .ok (.goto (-23), 3) := by decide +kernel
theorem dJ6_stringSize_0f7a4_42 : decode cJ6_stringSize_0f7a4 42 = .ok (.bipush 10, 2) := by decide +kernel
theorem dJ6_stringSize_0f7a4_44 : decode cJ6_stringSize_0f7a4 44 = .ok (.iload_n 1, 1) := by decide +kernel
theorem dJ6_stringSize_0f7a4_45 : decode cJ6_stringSize_0f7a4 45 = .ok (.iadd, 1) := by decide +kernel
theorem dJ6_stringSize_0f7a4_46 : decode cJ6_stringSize_0f7a4 46 = .ok (.ireturn, 1) := by decide +kernel
theorem dJ0_length_8abf5_0 : decode cJ0_length_8abf5 0 = .ok (.aload_n 0, 1) := by decide +kernel
theorem dJ0_length_8abf5_1 : decode cJ0_length_8abf5 1 = .ok (.getfield 9, 3) := by decide +kernel
theorem dJ0_length_8abf5_4 : decode cJ0_length_8abf5 4 = .ok (.arraylength, 1) := by decide +kernel
theorem dJ0_length_8abf5_5 : decode cJ0_length_8abf5 5 = .ok (.aload_n 0, 1) := by decide +kernel
theorem dJ0_length_8abf5_6 : decode cJ0_length_8abf5 6 = .ok (.invokevirtual 335, 3) := by decide +kernel
theorem dJ0_length_8abf5_9 : decode cJ0_length_8abf5 9 = .ok (.ishr, 1) := by decide +kernel
theorem dJ0_length_8abf5_10 : decode cJ0_length_8abf5 10 = .ok (.ireturn, 1) := by decide +kernel
theorem dJ0_getBytes_840e7_0 : decode cJ0_getBytes_840e7 0 = .ok (.aload_n 0, 1) := by decide +kernel
theorem dJ0_getBytes_840e7_1 : decode cJ0_getBytes_840e7 1 = .ok (.invokevirtual 335, 3) := by decide +kernel
theorem dJ0_getBytes_840e7_4 : decode cJ0_getBytes_840e7 4 = .ok (.iload_n 3, 1) := by decide +kernel
theorem dJ0_getBytes_840e7_5 : decode cJ0_getBytes_840e7 5 = .ok (.if_icmp .ne 23, 3) := by decide +kernel
theorem dJ0_getBytes_840e7_8 : decode cJ0_getBytes_840e7 8 = .ok (.aload_n 0, 1) := by decide +kernel
theorem dJ0_getBytes_840e7_9 : decode cJ0_getBytes_840e7 9 = .ok (.getfield 9, 3) := by decide +kernel
theorem dJ0_getBytes_840e7_12 : decode cJ0_getBytes_840e7 12 = .ok (.iconst 0, 1) := by decide +kernel
theorem dJ0_getBytes_840e7_13 : decode cJ0_getBytes_840e7 13 = .ok (.aload_n 1, 1) := by decide +kernel
theorem dJ0_getBytes_840e7_14 : decode cJ0_getBytes_840e7 14 = .ok (.iload_n 2, 1) := by decide +kernel
theorem dJ0_getBytes_840e7_15 : decode cJ0_getBytes_840e7 15 = .ok (.iload_n 3, 1) := by decide +kernel
theorem dJ0_getBytes_840e7_16 : decode cJ0_getBytes_840e7 16 = .ok (.ishl, 1) := by decide +kernel
theorem dJ0_getBytes_840e7_17 : decode cJ0_getBytes_840e7 17 = .ok (.aload_n 0, 1) := by decide +kernel
theorem dJ0_getBytes_840e7_18 : decode cJ0_getBytes_840e7 18 = .ok (.getfield 9, 3) := by decide +kernel
theorem dJ0_getBytes_840e7_21 : decode cJ0_getBytes_840e7 21 = .ok (.arraylength, 1) := by decide +kernel
theorem dJ0_getBytes_840e7_22 : decode cJ0_getBytes_840e7 22 = .ok (.invokestatic 212, 3) := by decide +kernel
theorem dJ0_getBytes_840e7_25 : decode cJ0_getBytes_840e7 25 = .ok (.goto 18, 3) := by decide +kernel
theorem dJ0_getBytes_840e7_28 : decode cJ0_getBytes_840e7 28 = .ok (.aload_n 0, 1) := by decide +kernel
theorem dJ0_getBytes_840e7_29 : decode cJ0_getBytes_840e7 29 = .ok (.getfield 9, 3) := by decide +kernel
theorem dJ0_getBytes_840e7_32 : decode cJ0_getBytes_840e7 32 = .ok (.iconst 0, 1) := by decide +kernel
theorem dJ0_getBytes_840e7_33 : decode cJ0_getBytes_840e7 33 = .ok (.aload_n 1, 1) := by decide +kernel
theorem dJ0_getBytes_840e7_34 : decode cJ0_getBytes_840e7 34 = .ok (.iload_n 2, 1) := by decide +kernel
theorem dJ0_getBytes_840e7_35 : decode cJ0_getBytes_840e7 35 = .ok (.aload_n 0, 1) := by decide +kernel
theorem dJ0_getBytes_840e7_36 : decode cJ0_getBytes_840e7 36 = .ok (.getfield 9, 3) := by decide +kernel
theorem dJ0_getBytes_840e7_39 : decode cJ0_getBytes_840e7 39 = .ok (.arraylength, 1) := by decide +kernel
theorem dJ0_getBytes_840e7_40 : decode cJ0_getBytes_840e7 40 = .ok (.invokestatic 106, 3) := by decide +kernel
theorem dJ0_getBytes_840e7_43 : decode cJ0_getBytes_840e7 43 = .ok (.return_, 1) := by decide +kernel
theorem dJ0_coder_7d493_0 : decode cJ0_coder_7d493 0 = .ok (.getstatic 38, 3) := by decide +kernel
theorem dJ0_coder_7d493_3 : decode cJ0_coder_7d493 3 = .ok (.ifCond .eq 10, 3) := by decide +kernel
theorem dJ0_coder_7d493_6 : decode cJ0_coder_7d493 6 = .ok (.aload_n 0, 1) := by decide +kernel
theorem dJ0_coder_7d493_7 : decode cJ0_coder_7d493 7 = .ok (.getfield 15, 3) := by decide +kernel
theorem dJ0_coder_7d493_10 : decode cJ0_coder_7d493 10 = .ok (.goto 4, 3) := by decide +kernel
theorem dJ0_coder_7d493_13 : decode cJ0_coder_7d493 13 = .ok (.iconst 1, 1) := by decide +kernel
theorem dJ0_coder_7d493_14 : decode cJ0_coder_7d493 14 = .ok (.ireturn, 1) := by decide +kernel
theorem dJ0_checkIndex_df160_0 : decode cJ0_checkIndex_df160 0 = .ok (.iload_n 0, 1) := by decide +kernel
theorem dJ0_checkIndex_df160_1 : decode cJ0_checkIndex_df160 1 = .ok (.iload_n 1, 1) := by decide +kernel
theorem dJ0_checkIndex_df160_2 : decode cJ0_checkIndex_df160 2 = .ok (.getstatic 1053, 3) := by decide +kernel
theorem dJ0_checkIndex_df160_5 : decode cJ0_checkIndex_df160 5 = .ok (.invokestatic 1059, 3) := by decide +kernel
theorem dJ0_checkIndex_df160_8 : decode cJ0_checkIndex_df160 8 = .ok (.pop, 1) := by decide +kernel
theorem dJ0_checkIndex_df160_9 : decode cJ0_checkIndex_df160 9 = .ok (.return_, 1) := by decide +kernel
theorem dJ1_canEncode_fc78d_0 : decode cJ1_canEncode_fc78d 0 = .ok (.iload_n 0, 1) := by decide +kernel
theorem dJ1_canEncode_fc78d_1 : decode cJ1_canEncode_fc78d 1 = .ok (.sipush 255, 3) := by decide +kernel
theorem dJ1_canEncode_fc78d_4 : decode cJ1_canEncode_fc78d 4 = .ok (.if_icmp .gt 7, 3) := by decide +kernel
theorem dJ1_canEncode_fc78d_7 : decode cJ1_canEncode_fc78d 7 = .ok (.iconst 1, 1) := by decide +kernel
theorem dJ1_canEncode_fc78d_8 : decode cJ1_canEncode_fc78d 8 = .ok (.goto 4, 3) := by decide +kernel
theorem dJ1_canEncode_fc78d_11 : decode cJ1_canEncode_fc78d 11 = .ok (.iconst 0, 1) := by decide +kernel
theorem dJ1_canEncode_fc78d_12 : decode cJ1_canEncode_fc78d 12 = .ok (.ireturn, 1) := by decide +kernel
theorem dJ7_copyOf_9075b_0 : decode cJ7_copyOf_9075b 0 = .ok (.iload_n 1, 1) := by decide +kernel
theorem dJ7_copyOf_9075b_1 : decode cJ7_copyOf_9075b 1 = .ok (.aload_n 0, 1) := by decide +kernel
theorem dJ7_copyOf_9075b_2 : decode cJ7_copyOf_9075b 2 = .ok (.arraylength, 1) := by decide +kernel
theorem dJ7_copyOf_9075b_3 : decode cJ7_copyOf_9075b 3 = .ok (.if_icmp .ne 11, 3) := by decide +kernel
theorem dJ7_copyOf_9075b_6 : decode cJ7_copyOf_9075b 6 = .ok (.aload_n 0, 1) := by decide +kernel
theorem dJ7_copyOf_9075b_7 : decode cJ7_copyOf_9075b 7 = .ok (.invokevirtual 310, 3) := by decide +kernel
theorem dJ7_copyOf_9075b_10 : decode cJ7_copyOf_9075b 10 = .ok (.checkcast 311, 3) := by decide +kernel
theorem dJ7_copyOf_9075b_13 : decode cJ7_copyOf_9075b 13 = .ok (.areturn, 1) := by decide +kernel
theorem dJ7_copyOf_9075b_14 : decode cJ7_copyOf_9075b 14 = .ok (.iload_n 1, 1) := by decide +kernel
theorem dJ7_copyOf_9075b_15 : decode cJ7_copyOf_9075b 15 = .ok (.newarray .byte, 2) := by decide +kernel
theorem dJ7_copyOf_9075b_17 : decode cJ7_copyOf_9075b 17 = .ok (.astore_n 2, 1) := by decide +kernel
theorem dJ7_copyOf_9075b_18 : decode cJ7_copyOf_9075b 18 = .ok (.aload_n 0, 1) := by decide +kernel
theorem dJ7_copyOf_9075b_19 : decode cJ7_copyOf_9075b 19 = .ok (.iconst 0, 1) := by decide +kernel
theorem dJ7_copyOf_9075b_20 : decode cJ7_copyOf_9075b 20 = .ok (.aload_n 2, 1) := by decide +kernel
theorem dJ7_copyOf_9075b_21 : decode cJ7_copyOf_9075b 21 = .ok (.iconst 0, 1) := by decide +kernel
theorem dJ7_copyOf_9075b_22 : decode cJ7_copyOf_9075b 22 = .ok (.aload_n 0, 1) := by decide +kernel
theorem dJ7_copyOf_9075b_23 : decode cJ7_copyOf_9075b 23 = .ok (.arraylength, 1) := by decide +kernel
theorem dJ7_copyOf_9075b_24 : decode cJ7_copyOf_9075b 24 = .ok (.iload_n 1, 1) := by decide +kernel
theorem dJ7_copyOf_9075b_25 : decode cJ7_copyOf_9075b 25 = .ok (.invokestatic 304, 3) := by decide +kernel
theorem dJ7_copyOf_9075b_28 : decode cJ7_copyOf_9075b 28 = .ok (.invokestatic 150, 3) := by decide +kernel
theorem dJ7_copyOf_9075b_31 : decode cJ7_copyOf_9075b 31 = .ok (.aload_n 2, 1) := by decide +kernel
theorem dJ7_copyOf_9075b_32 : decode cJ7_copyOf_9075b 32 = .ok (.areturn, 1) := by decide +kernel
theorem dJ8_newLength_cabcc_0 : decode cJ8_newLength_cabcc 0 = .ok (.iload_n 0, 1) := by decide +kernel
theorem dJ8_newLength_cabcc_1 : decode cJ8_newLength_cabcc 1 = .ok (.iload_n 1, 1) := by decide +kernel
theorem dJ8_newLength_cabcc_2 : decode cJ8_newLength_cabcc 2 = .ok (.iload_n 2, 1) := by decide +kernel
theorem dJ8_newLength_cabcc_3 : decode cJ8_newLength_cabcc 3 = .ok (.invokestatic 194, 3) := by decide +kernel
theorem dJ8_newLength_cabcc_6 : decode cJ8_newLength_cabcc 6 = .ok (.iadd, 1) := by decide +kernel
theorem dJ8_newLength_cabcc_7 : decode cJ8_newLength_cabcc 7 = .ok (.istore_n 3, 1) := by decide +kernel
theorem dJ8_newLength_cabcc_8 : decode cJ8_newLength_cabcc 8 = .ok (.iconst 0, 1) := by decide +kernel
theorem dJ8_newLength_cabcc_9 : decode cJ8_newLength_cabcc 9 = .ok (.iload_n 3, 1) := by decide +kernel
theorem dJ8_newLength_cabcc_10 : decode cJ8_newLength_cabcc 10 = .ok (.if_icmp .ge 11, 3) := by decide +kernel
theorem dJ8_newLength_cabcc_13 : decode cJ8_newLength_cabcc 13 = .ok (.iload_n 3, 1) := by decide +kernel
theorem dJ8_newLength_cabcc_14 : decode cJ8_newLength_cabcc 14 = .ok (.ldc 200, 2) := by decide +kernel
theorem dJ8_newLength_cabcc_16 : decode cJ8_newLength_cabcc 16 = .ok (.if_icmp .gt 5, 3) := by decide +kernel
theorem dJ8_newLength_cabcc_19 : decode cJ8_newLength_cabcc 19 = .ok (.iload_n 3, 1) := by decide +kernel
theorem dJ8_newLength_cabcc_20 : decode cJ8_newLength_cabcc 20 = .ok (.ireturn, 1) := by decide +kernel
theorem dJ8_newLength_cabcc_21 : decode cJ8_newLength_cabcc 21 = .ok (.iload_n 0, 1) := by decide +kernel
theorem dJ8_newLength_cabcc_22 : decode cJ8_newLength_cabcc 22 = .ok (.iload_n 1, 1) := by decide +kernel
theorem dJ8_newLength_cabcc_23 : decode cJ8_newLength_cabcc 23 = .ok (.invokestatic 201, 3) := by decide +kernel
theorem dJ8_newLength_cabcc_26 : decode cJ8_newLength_cabcc 26 = .ok (.ireturn, 1) := by decide +kernel
theorem dJ3_checkIndex_8e157_0 : decode cJ3_checkIndex_8e157 0 = .ok (.iload_n 0, 1) := by decide +kernel
theorem dJ3_checkIndex_8e157_1 : decode cJ3_checkIndex_8e157 1 = .ok (.ifCond .lt 8, 3) := by decide +kernel
theorem dJ3_checkIndex_8e157_4 : decode cJ3_checkIndex_8e157 4 = .ok (.iload_n 0, 1) := by decide +kernel
theorem dJ3_checkIndex_8e157_5 : decode cJ3_checkIndex_8e157 5 = .ok (.iload_n 1, 1) := by decide +kernel
theorem dJ3_checkIndex_8e157_6 : decode cJ3_checkIndex_8e157 6 = .ok (.if_icmp .lt 10, 3) := by decide +kernel
theorem dJ3_checkIndex_8e157_9 : decode cJ3_checkIndex_8e157 9 = .ok (.aload_n 2, 1) := by decide +kernel
theorem dJ3_checkIndex_8e157_10 : decode cJ3_checkIndex_8e157 10 = .ok (.iload_n 0, 1) := by decide +kernel
theorem dJ3_checkIndex_8e157_11 : decode cJ3_checkIndex_8e157 11 = .ok (.iload_n 1, 1) := by decide +kernel
theorem dJ3_checkIndex_8e157_12 : decode cJ3_checkIndex_8e157 12 = .ok (.invokestatic 95, 3) := by decide +kernel
theorem dJ3_checkIndex_8e157_15 : decode cJ3_checkIndex_8e157 15 = .ok (.athrow, 1) := by decide +kernel
theorem dJ3_checkIndex_8e157_16 : decode cJ3_checkIndex_8e157 16 = .ok (.iload_n 0, 1) := by decide +kernel
theorem dJ3_checkIndex_8e157_17 : decode cJ3_checkIndex_8e157 17 = .ok (.ireturn, 1) := by decide +kernel
