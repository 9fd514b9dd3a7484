-- words of the tables, and what stands at each place of the methods' code (laid by program)
/-! what stands at each place of the law's entry -/
theorem dw_0 : decode code 0 = .ok (.iconst 0, 1) := by decide +kernel
theorem dw_1 : decode code 1 = .ok (.istore_n 1, 1) := by decide +kernel
theorem dw_2 : decode code 2 = .ok (.iload_n 1, 1) := by decide +kernel
theorem dw_3 : decode code 3 = .ok (.iconst 3, 1) := by decide +kernel
theorem dw_4 : decode code 4 = .ok (.if_icmp .ge 541, 3) := by decide +kernel
theorem dw_7 : decode code 7 = .ok (.new 9, 3) := by decide +kernel
theorem dw_10 : decode code 10 = .ok (.dup, 1) := by decide +kernel
theorem dw_11 : decode code 11 = .ok (.aload_n 0, 1) := by decide +kernel
theorem dw_12 : decode code 12 = .ok (.bipush 31, 2) := by decide +kernel
theorem dw_14 : decode code 14 = .ok (.iload_n 1, 1) := by decide +kernel
theorem dw_15 : decode code 15 = .ok (.imul, 1) := by decide +kernel
theorem dw_16 : decode code 16 = .ok (.bipush 7, 2) := by decide +kernel
theorem dw_18 : decode code 18 = .ok (.iadd, 1) := by decide +kernel
theorem dw_19 : decode code 19 = .ok (.invokespecial 11, 3) := by decide +kernel
theorem dw_22 : decode code 22 = .ok (.astore_n 2, 1) := by decide +kernel
theorem dw_23 : decode code 23 = .ok (.new 9, 3) := by decide +kernel
theorem dw_26 : decode code 26 = .ok (.dup, 1) := by decide +kernel
theorem dw_27 : decode code 27 = .ok (.aload_n 0, 1) := by decide +kernel
theorem dw_28 : decode code 28 = .ok (.bipush 31, 2) := by decide +kernel
theorem dw_30 : decode code 30 = .ok (.iload_n 1, 1) := by decide +kernel
theorem dw_31 : decode code 31 = .ok (.imul, 1) := by decide +kernel
theorem dw_32 : decode code 32 = .ok (.bipush 7, 2) := by decide +kernel
theorem dw_34 : decode code 34 = .ok (.iadd, 1) := by decide +kernel
theorem dw_35 : decode code 35 = .ok (.invokespecial 11, 3) := by decide +kernel
theorem dw_38 : decode code 38 = .ok (.astore_n 3, 1) := by decide +kernel
theorem dw_39 : decode code 39 = .ok (.aload_n 2, 1) := by decide +kernel
theorem dw_40 : decode code 40 = .ok (.getfield 14, 3) := by decide +kernel
theorem dw_43 : decode code 43 = .ok (.astore 4, 2) := by decide +kernel
theorem dw_45 : decode code 45 = .ok (.aload_n 2, 1) := by decide +kernel
theorem dw_46 : decode code 46 = .ok (.iconst 5, 1) := by decide +kernel
theorem dw_47 : decode code 47 = .ok (.invokevirtual 18, 3) := by decide +kernel
theorem dw_50 : decode code 50 = .ok (.ifCond .eq 11, 3) := by decide +kernel
theorem dw_53 : decode code 53 = .ok (.aload_n 3, 1) := by decide +kernel
theorem dw_54 : decode code 54 = .ok (.iconst 5, 1) := by decide +kernel
theorem dw_55 : decode code 55 = .ok (.invokevirtual 18, 3) := by decide +kernel
theorem dw_58 : decode code 58 = .ok (.ifCond .ne 5, 3) := by decide +kernel
theorem dw_63 : decode code 63 = .ok (.bipush 6, 2) := by decide +kernel
theorem dw_65 : decode code 65 = .ok (.aload_n 2, 1) := by decide +kernel
theorem dw_66 : decode code 66 = .ok (.bipush 18, 2) := by decide +kernel
theorem dw_68 : decode code 68 = .ok (.invokevirtual 22, 3) := by decide +kernel
theorem dw_71 : decode code 71 = .ok (.iadd, 1) := by decide +kernel
theorem dw_72 : decode code 72 = .ok (.istore 5, 2) := by decide +kernel
theorem dw_74 : decode code 74 = .ok (.aload 4, 2) := by decide +kernel
theorem dw_76 : decode code 76 = .ok (.iload 5, 2) := by decide +kernel
theorem dw_78 : decode code 78 = .ok (.invokevirtual 26, 3) := by decide +kernel
theorem dw_81 : decode code 81 = .ok (.pop, 1) := by decide +kernel
theorem dw_82 : decode code 82 = .ok (.aload_n 3, 1) := by decide +kernel
theorem dw_83 : decode code 83 = .ok (.getfield 14, 3) := by decide +kernel
theorem dw_86 : decode code 86 = .ok (.iload 5, 2) := by decide +kernel
theorem dw_88 : decode code 88 = .ok (.invokevirtual 26, 3) := by decide +kernel
theorem dw_91 : decode code 91 = .ok (.pop, 1) := by decide +kernel
theorem dw_92 : decode code 92 = .ok (.iconst 0, 1) := by decide +kernel
theorem dw_93 : decode code 93 = .ok (.istore 6, 2) := by decide +kernel
theorem dw_95 : decode code 95 = .ok (.iload 6, 2) := by decide +kernel
theorem dw_97 : decode code 97 = .ok (.bipush 8, 2) := by decide +kernel
theorem dw_99 : decode code 99 = .ok (.if_icmp .ge 349, 3) := by decide +kernel
theorem dw_102 : decode code 102 = .ok (.aload 4, 2) := by decide +kernel
theorem dw_104 : decode code 104 = .ok (.invokevirtual 31, 3) := by decide +kernel
theorem dw_107 : decode code 107 = .ok (.lstore 7, 2) := by decide +kernel
theorem dw_109 : decode code 109 = .ok (.lload 7, 2) := by decide +kernel
theorem dw_111 : decode code 111 = .ok (.aload_n 3, 1) := by decide +kernel
theorem dw_112 : decode code 112 = .ok (.getfield 14, 3) := by decide +kernel
theorem dw_115 : decode code 115 = .ok (.invokevirtual 31, 3) := by decide +kernel
theorem dw_118 : decode code 118 = .ok (.lcmp, 1) := by decide +kernel
theorem dw_119 : decode code 119 = .ok (.ifCond .eq 5, 3) := by decide +kernel
theorem dw_124 : decode code 124 = .ok (.aload_n 2, 1) := by decide +kernel
theorem dw_125 : decode code 125 = .ok (.iconst 5, 1) := by decide +kernel
theorem dw_126 : decode code 126 = .ok (.invokevirtual 22, 3) := by decide +kernel
theorem dw_129 : decode code 129 = .ok (.istore 9, 2) := by decide +kernel
theorem dw_131 : decode code 131 = .ok (.iconst 1, 1) := by decide +kernel
theorem dw_132 : decode code 132 = .ok (.aload_n 2, 1) := by decide +kernel
theorem dw_133 : decode code 133 = .ok (.bipush 9, 2) := by decide +kernel
theorem dw_135 : decode code 135 = .ok (.invokevirtual 22, 3) := by decide +kernel
theorem dw_138 : decode code 138 = .ok (.iadd, 1) := by decide +kernel
theorem dw_139 : decode code 139 = .ok (.istore 10, 2) := by decide +kernel
theorem dw_141 : decode code 141 = .ok (.aload 4, 2) := by decide +kernel
theorem dw_143 : decode code 143 = .ok (.iload 9, 2) := by decide +kernel
theorem dw_145 : decode code 145 = .ok (.iload 10, 2) := by decide +kernel
theorem dw_147 : decode code 147 = .ok (.invokevirtual 35, 3) := by decide +kernel
theorem dw_150 : decode code 150 = .ok (.istore 11, 2) := by decide +kernel
theorem dw_152 : decode code 152 = .ok (.aload 4, 2) := by decide +kernel
theorem dw_154 : decode code 154 = .ok (.aload_n 2, 1) := by decide +kernel
theorem dw_155 : decode code 155 = .ok (.bipush 16, 2) := by decide +kernel
theorem dw_157 : decode code 157 = .ok (.invokevirtual 22, 3) := by decide +kernel
theorem dw_160 : decode code 160 = .ok (.aload_n 2, 1) := by decide +kernel
theorem dw_161 : decode code 161 = .ok (.iconst 4, 1) := by decide +kernel
theorem dw_162 : decode code 162 = .ok (.invokevirtual 22, 3) := by decide +kernel
theorem dw_165 : decode code 165 = .ok (.iload 10, 2) := by decide +kernel
theorem dw_167 : decode code 167 = .ok (.invokevirtual 39, 3) := by decide +kernel
theorem dw_170 : decode code 170 = .ok (.istore 12, 2) := by decide +kernel
theorem dw_172 : decode code 172 = .ok (.aload 4, 2) := by decide +kernel
theorem dw_174 : decode code 174 = .ok (.invokevirtual 31, 3) := by decide +kernel
theorem dw_177 : decode code 177 = .ok (.lload 7, 2) := by decide +kernel
theorem dw_179 : decode code 179 = .ok (.lcmp, 1) := by decide +kernel
theorem dw_180 : decode code 180 = .ok (.ifCond .ne 21, 3) := by decide +kernel
theorem dw_183 : decode code 183 = .ok (.iload 11, 2) := by decide +kernel
theorem dw_185 : decode code 185 = .ok (.iload 10, 2) := by decide +kernel
theorem dw_187 : decode code 187 = .ok (.if_icmp .gt 14, 3) := by decide +kernel
theorem dw_190 : decode code 190 = .ok (.iload 12, 2) := by decide +kernel
theorem dw_192 : decode code 192 = .ok (.aload 4, 2) := by decide +kernel
theorem dw_194 : decode code 194 = .ok (.iconst 3, 1) := by decide +kernel
theorem dw_195 : decode code 195 = .ok (.invokevirtual 43, 3) := by decide +kernel
theorem dw_198 : decode code 198 = .ok (.if_icmp .le 5, 3) := by decide +kernel
theorem dw_203 : decode code 203 = .ok (.aload_n 2, 1) := by decide +kernel
theorem dw_204 : decode code 204 = .ok (.iconst 4, 1) := by decide +kernel
theorem dw_205 : decode code 205 = .ok (.invokevirtual 22, 3) := by decide +kernel
theorem dw_208 : decode code 208 = .ok (.lookupswitch 123 #[(0, 28), (1, 82)], 28) := by decide +kernel
theorem dw_236 : decode code 236 = .ok (.iconst 1, 1) := by decide +kernel
theorem dw_237 : decode code 237 = .ok (.aload_n 2, 1) := by decide +kernel
theorem dw_238 : decode code 238 = .ok (.ldc 46, 2) := by decide +kernel
theorem dw_240 : decode code 240 = .ok (.invokevirtual 22, 3) := by decide +kernel
theorem dw_243 : decode code 243 = .ok (.iadd, 1) := by decide +kernel
theorem dw_244 : decode code 244 = .ok (.istore 13, 2) := by decide +kernel
theorem dw_246 : decode code 246 = .ok (.aload_n 2, 1) := by decide +kernel
theorem dw_247 : decode code 247 = .ok (.iconst 2, 1) := by decide +kernel
theorem dw_248 : decode code 248 = .ok (.invokevirtual 22, 3) := by decide +kernel
theorem dw_251 : decode code 251 = .ok (.istore 14, 2) := by decide +kernel
theorem dw_253 : decode code 253 = .ok (.aload 4, 2) := by decide +kernel
theorem dw_255 : decode code 255 = .ok (.bipush 6, 2) := by decide +kernel
theorem dw_257 : decode code 257 = .ok (.invokevirtual 43, 3) := by decide +kernel
theorem dw_260 : decode code 260 = .ok (.bipush 12, 2) := by decide +kernel
theorem dw_262 : decode code 262 = .ok (.if_icmp .ge 180, 3) := by decide +kernel
theorem dw_265 : decode code 265 = .ok (.aload 4, 2) := by decide +kernel
theorem dw_267 : decode code 267 = .ok (.iload 13, 2) := by decide +kernel
theorem dw_269 : decode code 269 = .ok (.iload 14, 2) := by decide +kernel
theorem dw_271 : decode code 271 = .ok (.invokestatic 47, 3) := by decide +kernel
theorem dw_274 : decode code 274 = .ok (.aload_n 3, 1) := by decide +kernel
theorem dw_275 : decode code 275 = .ok (.getfield 14, 3) := by decide +kernel
theorem dw_278 : decode code 278 = .ok (.iload 13, 2) := by decide +kernel
theorem dw_280 : decode code 280 = .ok (.iload 14, 2) := by decide +kernel
theorem dw_282 : decode code 282 = .ok (.invokestatic 47, 3) := by decide +kernel
theorem dw_285 : decode code 285 = .ok (.if_icmp .eq 157, 3) := by decide +kernel
theorem dw_290 : decode code 290 = .ok (.aload_n 2, 1) := by decide +kernel
theorem dw_291 : decode code 291 = .ok (.bipush 16, 2) := by decide +kernel
theorem dw_293 : decode code 293 = .ok (.invokevirtual 22, 3) := by decide +kernel
theorem dw_296 : decode code 296 = .ok (.istore 15, 2) := by decide +kernel
theorem dw_298 : decode code 298 = .ok (.aload_n 2, 1) := by decide +kernel
theorem dw_299 : decode code 299 = .ok (.bipush 9, 2) := by decide +kernel
theorem dw_301 : decode code 301 = .ok (.invokevirtual 22, 3) := by decide +kernel
theorem dw_304 : decode code 304 = .ok (.istore 16, 2) := by decide +kernel
theorem dw_306 : decode code 306 = .ok (.aload 4, 2) := by decide +kernel
theorem dw_308 : decode code 308 = .ok (.iload 15, 2) := by decide +kernel
theorem dw_310 : decode code 310 = .ok (.iload 16, 2) := by decide +kernel
theorem dw_312 : decode code 312 = .ok (.invokevirtual 53, 3) := by decide +kernel
theorem dw_315 : decode code 315 = .ok (.aload_n 3, 1) := by decide +kernel
theorem dw_316 : decode code 316 = .ok (.getfield 14, 3) := by decide +kernel
theorem dw_319 : decode code 319 = .ok (.iload 15, 2) := by decide +kernel
theorem dw_321 : decode code 321 = .ok (.iload 16, 2) := by decide +kernel
theorem dw_323 : decode code 323 = .ok (.invokevirtual 53, 3) := by decide +kernel
theorem dw_326 : decode code 326 = .ok (.if_icmp .eq 116, 3) := by decide +kernel
theorem dw_331 : decode code 331 = .ok (.aload 4, 2) := by decide +kernel
theorem dw_333 : decode code 333 = .ok (.iload 9, 2) := by decide +kernel
theorem dw_335 : decode code 335 = .ok (.iconst 5, 1) := by decide +kernel
theorem dw_336 : decode code 336 = .ok (.invokevirtual 56, 3) := by decide +kernel
theorem dw_339 : decode code 339 = .ok (.ifCond .lt 7, 3) := by decide +kernel
theorem dw_342 : decode code 342 = .ok (.iconst 1, 1) := by decide +kernel
theorem dw_343 : decode code 343 = .ok (.goto 4, 3) := by decide +kernel
theorem dw_346 : decode code 346 = .ok (.iconst 0, 1) := by decide +kernel
theorem dw_347 : decode code 347 = .ok (.istore 17, 2) := by decide +kernel
theorem dw_349 : decode code 349 = .ok (.iconst 0, 1) := by decide +kernel
theorem dw_350 : decode code 350 = .ok (.istore 18, 2) := by decide +kernel
theorem dw_352 : decode code 352 = .ok (.iconst 1, 1) := by decide +kernel
theorem dw_353 : decode code 353 = .ok (.istore 19, 2) := by decide +kernel
theorem dw_355 : decode code 355 = .ok (.iload 19, 2) := by decide +kernel
theorem dw_357 : decode code 357 = .ok (.iload 10, 2) := by decide +kernel
theorem dw_359 : decode code 359 = .ok (.if_icmp .gt 67, 3) := by decide +kernel
theorem dw_362 : decode code 362 = .ok (.iload 18, 2) := by decide +kernel
theorem dw_364 : decode code 364 = .ok (.aload 4, 2) := by decide +kernel
theorem dw_366 : decode code 366 = .ok (.iconst 1, 1) := by decide +kernel
theorem dw_367 : decode code 367 = .ok (.invokevirtual 59, 3) := by decide +kernel
theorem dw_370 : decode code 370 = .ok (.iadd, 1) := by decide +kernel
theorem dw_371 : decode code 371 = .ok (.istore 18, 2) := by decide +kernel
theorem dw_373 : decode code 373 = .ok (.aload 4, 2) := by decide +kernel
theorem dw_375 : decode code 375 = .ok (.iload 9, 2) := by decide +kernel
theorem dw_377 : decode code 377 = .ok (.iconst 5, 1) := by decide +kernel
theorem dw_378 : decode code 378 = .ok (.invokevirtual 56, 3) := by decide +kernel
theorem dw_381 : decode code 381 = .ok (.ifCond .lt 7, 3) := by decide +kernel
theorem dw_384 : decode code 384 = .ok (.iconst 1, 1) := by decide +kernel
theorem dw_385 : decode code 385 = .ok (.goto 4, 3) := by decide +kernel
theorem dw_388 : decode code 388 = .ok (.iconst 0, 1) := by decide +kernel
theorem dw_389 : decode code 389 = .ok (.istore 20, 2) := by decide +kernel
theorem dw_391 : decode code 391 = .ok (.iload 17, 2) := by decide +kernel
theorem dw_393 : decode code 393 = .ok (.ifCond .ne 27, 3) := by decide +kernel
theorem dw_396 : decode code 396 = .ok (.iload 20, 2) := by decide +kernel
theorem dw_398 : decode code 398 = .ok (.iload 11, 2) := by decide +kernel
theorem dw_400 : decode code 400 = .ok (.ifCond .le 14, 3) := by decide +kernel
theorem dw_403 : decode code 403 = .ok (.iload 19, 2) := by decide +kernel
theorem dw_405 : decode code 405 = .ok (.iload 11, 2) := by decide +kernel
theorem dw_407 : decode code 407 = .ok (.if_icmp .lt 7, 3) := by decide +kernel
theorem dw_410 : decode code 410 = .ok (.iconst 1, 1) := by decide +kernel
theorem dw_411 : decode code 411 = .ok (.goto 4, 3) := by decide +kernel
theorem dw_414 : decode code 414 = .ok (.iconst 0, 1) := by decide +kernel
theorem dw_415 : decode code 415 = .ok (.if_icmp .eq 5, 3) := by decide +kernel
theorem dw_420 : decode code 420 = .ok (.iinc 19 1, 3) := by decide +kernel
theorem dw_423 : decode code 423 = .ok (.goto (-68), 3) := by decide +kernel
theorem dw_426 : decode code 426 = .ok (.aload_n 3, 1) := by decide +kernel
theorem dw_427 : decode code 427 = .ok (.getfield 14, 3) := by decide +kernel
theorem dw_430 : decode code 430 = .ok (.iload 10, 2) := by decide +kernel
theorem dw_432 : decode code 432 = .ok (.invokevirtual 59, 3) := by decide +kernel
theorem dw_435 : decode code 435 = .ok (.iload 18, 2) := by decide +kernel
theorem dw_437 : decode code 437 = .ok (.if_icmp .eq 5, 3) := by decide +kernel
theorem dw_442 : decode code 442 = .ok (.iinc 6 1, 3) := by decide +kernel
theorem dw_445 : decode code 445 = .ok (.goto (-350), 3) := by decide +kernel
theorem dw_448 : decode code 448 = .ok (.aload_n 2, 1) := by decide +kernel
theorem dw_449 : decode code 449 = .ok (.bipush 16, 2) := by decide +kernel
theorem dw_451 : decode code 451 = .ok (.invokevirtual 22, 3) := by decide +kernel
theorem dw_454 : decode code 454 = .ok (.istore 6, 2) := by decide +kernel
theorem dw_456 : decode code 456 = .ok (.aload_n 2, 1) := by decide +kernel
theorem dw_457 : decode code 457 = .ok (.iconst 4, 1) := by decide +kernel
theorem dw_458 : decode code 458 = .ok (.invokevirtual 22, 3) := by decide +kernel
theorem dw_461 : decode code 461 = .ok (.istore 7, 2) := by decide +kernel
theorem dw_463 : decode code 463 = .ok (.iconst 3, 1) := by decide +kernel
theorem dw_464 : decode code 464 = .ok (.aload_n 2, 1) := by decide +kernel
theorem dw_465 : decode code 465 = .ok (.bipush 9, 2) := by decide +kernel
theorem dw_467 : decode code 467 = .ok (.invokevirtual 22, 3) := by decide +kernel
theorem dw_470 : decode code 470 = .ok (.iadd, 1) := by decide +kernel
theorem dw_471 : decode code 471 = .ok (.istore 8, 2) := by decide +kernel
theorem dw_473 : decode code 473 = .ok (.aload 4, 2) := by decide +kernel
theorem dw_475 : decode code 475 = .ok (.iload 6, 2) := by decide +kernel
theorem dw_477 : decode code 477 = .ok (.iload 7, 2) := by decide +kernel
theorem dw_479 : decode code 479 = .ok (.iload 8, 2) := by decide +kernel
theorem dw_481 : decode code 481 = .ok (.invokevirtual 39, 3) := by decide +kernel
theorem dw_484 : decode code 484 = .ok (.istore 9, 2) := by decide +kernel
theorem dw_486 : decode code 486 = .ok (.aload 4, 2) := by decide +kernel
theorem dw_488 : decode code 488 = .ok (.iload 6, 2) := by decide +kernel
theorem dw_490 : decode code 490 = .ok (.iload 7, 2) := by decide +kernel
theorem dw_492 : decode code 492 = .ok (.invokevirtual 62, 3) := by decide +kernel
theorem dw_495 : decode code 495 = .ok (.iconst 2, 1) := by decide +kernel
theorem dw_496 : decode code 496 = .ok (.if_icmp .eq 5, 3) := by decide +kernel
theorem dw_501 : decode code 501 = .ok (.aload 4, 2) := by decide +kernel
theorem dw_503 : decode code 503 = .ok (.iload 8, 2) := by decide +kernel
theorem dw_505 : decode code 505 = .ok (.invokevirtual 59, 3) := by decide +kernel
theorem dw_508 : decode code 508 = .ok (.pop, 1) := by decide +kernel
theorem dw_509 : decode code 509 = .ok (.aload_n 3, 1) := by decide +kernel
theorem dw_510 : decode code 510 = .ok (.getfield 14, 3) := by decide +kernel
theorem dw_513 : decode code 513 = .ok (.iload 8, 2) := by decide +kernel
theorem dw_515 : decode code 515 = .ok (.invokevirtual 59, 3) := by decide +kernel
theorem dw_518 : decode code 518 = .ok (.pop, 1) := by decide +kernel
theorem dw_519 : decode code 519 = .ok (.aload 4, 2) := by decide +kernel
theorem dw_521 : decode code 521 = .ok (.invokestatic 65, 3) := by decide +kernel
theorem dw_524 : decode code 524 = .ok (.aload_n 3, 1) := by decide +kernel
theorem dw_525 : decode code 525 = .ok (.getfield 14, 3) := by decide +kernel
theorem dw_528 : decode code 528 = .ok (.invokestatic 65, 3) := by decide +kernel
theorem dw_531 : decode code 531 = .ok (.isub, 1) := by decide +kernel
theorem dw_532 : decode code 532 = .ok (.iload 9, 2) := by decide +kernel
theorem dw_534 : decode code 534 = .ok (.if_icmp .eq 5, 3) := by decide +kernel
theorem dw_539 : decode code 539 = .ok (.iinc 1 1, 3) := by decide +kernel
theorem dw_542 : decode code 542 = .ok (.goto (-540), 3) := by decide +kernel
theorem dw_545 : decode code 545 = .ok (.iconst 1, 1) := by decide +kernel
theorem dw_546 : decode code 546 = .ok (.ireturn, 1) := by decide +kernel
