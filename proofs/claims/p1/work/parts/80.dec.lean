-- words of the tables, and what stands at each place of the methods' code (laid by program)
/-! what stands at each place of the law's entry (1 of 4) -/
theorem dw_0 : decode code 0 = .ok (.new 8, 3) := by decide +kernel
theorem dw_3 : decode code 3 = .ok (.dup, 1) := by decide +kernel
theorem dw_4 : decode code 4 = .ok (.invokespecial 101, 3) := by decide +kernel
theorem dw_7 : decode code 7 = .ok (.astore_n 1, 1) := by decide +kernel
theorem dw_8 : decode code 8 = .ok (.new 102, 3) := by decide +kernel
theorem dw_11 : decode code 11 = .ok (.dup, 1) := by decide +kernel
theorem dw_12 : decode code 12 = .ok (.invokespecial 104, 3) := by decide +kernel
theorem dw_15 : decode code 15 = .ok (.astore_n 2, 1) := by decide +kernel
theorem dw_16 : decode code 16 = .ok (.iconst 1, 1) := by decide +kernel
theorem dw_17 : decode code 17 = .ok (.newarray .long, 2) := by decide +kernel
theorem dw_19 : decode code 19 = .ok (.astore_n 3, 1) := by decide +kernel
theorem dw_20 : decode code 20 = .ok (.iconst 1, 1) := by decide +kernel
theorem dw_21 : decode code 21 = .ok (.newarray .double, 2) := by decide +kernel
theorem dw_23 : decode code 23 = .ok (.astore 4, 2) := by decide +kernel
theorem dw_25 : decode code 25 = .ok (.iconst 0, 1) := by decide +kernel
theorem dw_26 : decode code 26 = .ok (.istore 5, 2) := by decide +kernel
theorem dw_28 : decode code 28 = .ok (.iload 5, 2) := by decide +kernel
theorem dw_30 : decode code 30 = .ok (.aload_n 0, 1) := by decide +kernel
theorem dw_31 : decode code 31 = .ok (.arraylength, 1) := by decide +kernel
theorem dw_32 : decode code 32 = .ok (.bipush 6, 2) := by decide +kernel
theorem dw_34 : decode code 34 = .ok (.isub, 1) := by decide +kernel
theorem dw_35 : decode code 35 = .ok (.if_icmp .gt 2001, 3) := by decide +kernel
theorem dw_38 : decode code 38 = .ok (.aload_n 0, 1) := by decide +kernel
theorem dw_39 : decode code 39 = .ok (.iload 5, 2) := by decide +kernel
theorem dw_41 : decode code 41 = .ok (.iaload, 1) := by decide +kernel
theorem dw_42 : decode code 42 = .ok (.bipush 31, 2) := by decide +kernel
theorem dw_44 : decode code 44 = .ok (.iand, 1) := by decide +kernel
theorem dw_45 : decode code 45 = .ok (.tableswitch 1985 0 26 #[123, 259, 327, 395, 463, 531, 615, 671, 739, 830, 910, 1002, 1058, 1126, 1182, 1238, 1294, 1362, 1442, 1510, 1566, 1622, 1690, 1746, 1823, 1891, 1971], 123) := by decide +kernel
theorem dw_168 : decode code 168 = .ok (.aload_n 1, 1) := by decide +kernel
theorem dw_169 : decode code 169 = .ok (.aload_n 0, 1) := by decide +kernel
theorem dw_170 : decode code 170 = .ok (.iload 5, 2) := by decide +kernel
theorem dw_172 : decode code 172 = .ok (.iconst 1, 1) := by decide +kernel
theorem dw_173 : decode code 173 = .ok (.iadd, 1) := by decide +kernel
theorem dw_174 : decode code 174 = .ok (.iaload, 1) := by decide +kernel
theorem dw_175 : decode code 175 = .ok (.aload_n 0, 1) := by decide +kernel
theorem dw_176 : decode code 176 = .ok (.iload 5, 2) := by decide +kernel
theorem dw_178 : decode code 178 = .ok (.iconst 2, 1) := by decide +kernel
theorem dw_179 : decode code 179 = .ok (.iadd, 1) := by decide +kernel
theorem dw_180 : decode code 180 = .ok (.iaload, 1) := by decide +kernel
theorem dw_181 : decode code 181 = .ok (.aload_n 0, 1) := by decide +kernel
theorem dw_182 : decode code 182 = .ok (.iload 5, 2) := by decide +kernel
theorem dw_184 : decode code 184 = .ok (.iconst 3, 1) := by decide +kernel
theorem dw_185 : decode code 185 = .ok (.iadd, 1) := by decide +kernel
theorem dw_186 : decode code 186 = .ok (.iaload, 1) := by decide +kernel
theorem dw_187 : decode code 187 = .ok (.aload_n 0, 1) := by decide +kernel
theorem dw_188 : decode code 188 = .ok (.iload 5, 2) := by decide +kernel
theorem dw_190 : decode code 190 = .ok (.iconst 4, 1) := by decide +kernel
theorem dw_191 : decode code 191 = .ok (.iadd, 1) := by decide +kernel
theorem dw_192 : decode code 192 = .ok (.iaload, 1) := by decide +kernel
theorem dw_193 : decode code 193 = .ok (.ifCond .eq 7, 3) := by decide +kernel
theorem dw_196 : decode code 196 = .ok (.iconst 1, 1) := by decide +kernel
theorem dw_197 : decode code 197 = .ok (.goto 4, 3) := by decide +kernel
theorem dw_200 : decode code 200 = .ok (.iconst 0, 1) := by decide +kernel
theorem dw_201 : decode code 201 = .ok (.aload_n 0, 1) := by decide +kernel
theorem dw_202 : decode code 202 = .ok (.iload 5, 2) := by decide +kernel
theorem dw_204 : decode code 204 = .ok (.iconst 5, 1) := by decide +kernel
theorem dw_205 : decode code 205 = .ok (.iadd, 1) := by decide +kernel
theorem dw_206 : decode code 206 = .ok (.iaload, 1) := by decide +kernel
theorem dw_207 : decode code 207 = .ok (.ifCond .eq 7, 3) := by decide +kernel
theorem dw_210 : decode code 210 = .ok (.iconst 1, 1) := by decide +kernel
theorem dw_211 : decode code 211 = .ok (.goto 4, 3) := by decide +kernel
theorem dw_214 : decode code 214 = .ok (.iconst 0, 1) := by decide +kernel
theorem dw_215 : decode code 215 = .ok (.aload_n 3, 1) := by decide +kernel
theorem dw_216 : decode code 216 = .ok (.invokestatic 105, 3) := by decide +kernel
theorem dw_219 : decode code 219 = .ok (.istore 6, 2) := by decide +kernel
theorem dw_221 : decode code 221 = .ok (.aload_n 2, 1) := by decide +kernel
theorem dw_222 : decode code 222 = .ok (.aload_n 0, 1) := by decide +kernel
theorem dw_223 : decode code 223 = .ok (.iload 5, 2) := by decide +kernel
theorem dw_225 : decode code 225 = .ok (.iconst 1, 1) := by decide +kernel
theorem dw_226 : decode code 226 = .ok (.iadd, 1) := by decide +kernel
theorem dw_227 : decode code 227 = .ok (.iaload, 1) := by decide +kernel
theorem dw_228 : decode code 228 = .ok (.aload_n 0, 1) := by decide +kernel
theorem dw_229 : decode code 229 = .ok (.iload 5, 2) := by decide +kernel
theorem dw_231 : decode code 231 = .ok (.iconst 2, 1) := by decide +kernel
theorem dw_232 : decode code 232 = .ok (.iadd, 1) := by decide +kernel
theorem dw_233 : decode code 233 = .ok (.iaload, 1) := by decide +kernel
theorem dw_234 : decode code 234 = .ok (.aload_n 0, 1) := by decide +kernel
theorem dw_235 : decode code 235 = .ok (.iload 5, 2) := by decide +kernel
theorem dw_237 : decode code 237 = .ok (.iconst 3, 1) := by decide +kernel
theorem dw_238 : decode code 238 = .ok (.iadd, 1) := by decide +kernel
theorem dw_239 : decode code 239 = .ok (.iaload, 1) := by decide +kernel
theorem dw_240 : decode code 240 = .ok (.aload_n 0, 1) := by decide +kernel
theorem dw_241 : decode code 241 = .ok (.iload 5, 2) := by decide +kernel
theorem dw_243 : decode code 243 = .ok (.iconst 4, 1) := by decide +kernel
theorem dw_244 : decode code 244 = .ok (.iadd, 1) := by decide +kernel
theorem dw_245 : decode code 245 = .ok (.iaload, 1) := by decide +kernel
theorem dw_246 : decode code 246 = .ok (.ifCond .eq 7, 3) := by decide +kernel
theorem dw_249 : decode code 249 = .ok (.iconst 1, 1) := by decide +kernel
theorem dw_250 : decode code 250 = .ok (.goto 4, 3) := by decide +kernel
theorem dw_253 : decode code 253 = .ok (.iconst 0, 1) := by decide +kernel
theorem dw_254 : decode code 254 = .ok (.aload_n 0, 1) := by decide +kernel
theorem dw_255 : decode code 255 = .ok (.iload 5, 2) := by decide +kernel
theorem dw_257 : decode code 257 = .ok (.iconst 5, 1) := by decide +kernel
theorem dw_258 : decode code 258 = .ok (.iadd, 1) := by decide +kernel
theorem dw_259 : decode code 259 = .ok (.iaload, 1) := by decide +kernel
theorem dw_260 : decode code 260 = .ok (.ifCond .eq 7, 3) := by decide +kernel
theorem dw_263 : decode code 263 = .ok (.iconst 1, 1) := by decide +kernel
theorem dw_264 : decode code 264 = .ok (.goto 4, 3) := by decide +kernel
theorem dw_267 : decode code 267 = .ok (.iconst 0, 1) := by decide +kernel
theorem dw_268 : decode code 268 = .ok (.invokevirtual 110, 3) := by decide +kernel
theorem dw_271 : decode code 271 = .ok (.istore 7, 2) := by decide +kernel
theorem dw_273 : decode code 273 = .ok (.aload_n 2, 1) := by decide +kernel
theorem dw_274 : decode code 274 = .ok (.invokevirtual 111, 3) := by decide +kernel
theorem dw_277 : decode code 277 = .ok (.iload 6, 2) := by decide +kernel
theorem dw_279 : decode code 279 = .ok (.if_icmp .eq 5, 3) := by decide +kernel
theorem dw_284 : decode code 284 = .ok (.iload 6, 2) := by decide +kernel
theorem dw_286 : decode code 286 = .ok (.ifCond .ne 15, 3) := by decide +kernel
theorem dw_289 : decode code 289 = .ok (.aload_n 3, 1) := by decide +kernel
theorem dw_290 : decode code 290 = .ok (.iconst 0, 1) := by decide +kernel
theorem dw_291 : decode code 291 = .ok (.laload, 1) := by decide +kernel
theorem dw_292 : decode code 292 = .ok (.iload 7, 2) := by decide +kernel
theorem dw_294 : decode code 294 = .ok (.i2l, 1) := by decide +kernel
theorem dw_295 : decode code 295 = .ok (.lcmp, 1) := by decide +kernel
theorem dw_296 : decode code 296 = .ok (.ifCond .eq 5, 3) := by decide +kernel
theorem dw_301 : decode code 301 = .ok (.goto 1729, 3) := by decide +kernel
theorem dw_304 : decode code 304 = .ok (.aload_n 1, 1) := by decide +kernel
theorem dw_305 : decode code 305 = .ok (.aload_n 0, 1) := by decide +kernel
theorem dw_306 : decode code 306 = .ok (.iload 5, 2) := by decide +kernel
theorem dw_308 : decode code 308 = .ok (.iconst 1, 1) := by decide +kernel
theorem dw_309 : decode code 309 = .ok (.iadd, 1) := by decide +kernel
theorem dw_310 : decode code 310 = .ok (.iaload, 1) := by decide +kernel
theorem dw_311 : decode code 311 = .ok (.aload_n 0, 1) := by decide +kernel
theorem dw_312 : decode code 312 = .ok (.iload 5, 2) := by decide +kernel
theorem dw_314 : decode code 314 = .ok (.iconst 2, 1) := by decide +kernel
theorem dw_315 : decode code 315 = .ok (.iadd, 1) := by decide +kernel
theorem dw_316 : decode code 316 = .ok (.iaload, 1) := by decide +kernel
theorem dw_317 : decode code 317 = .ok (.aload_n 3, 1) := by decide +kernel
theorem dw_318 : decode code 318 = .ok (.invokestatic 115, 3) := by decide +kernel
theorem dw_321 : decode code 321 = .ok (.istore 6, 2) := by decide +kernel
theorem dw_323 : decode code 323 = .ok (.aload_n 2, 1) := by decide +kernel
theorem dw_324 : decode code 324 = .ok (.aload_n 0, 1) := by decide +kernel
theorem dw_325 : decode code 325 = .ok (.iload 5, 2) := by decide +kernel
theorem dw_327 : decode code 327 = .ok (.iconst 1, 1) := by decide +kernel
theorem dw_328 : decode code 328 = .ok (.iadd, 1) := by decide +kernel
theorem dw_329 : decode code 329 = .ok (.iaload, 1) := by decide +kernel
theorem dw_330 : decode code 330 = .ok (.aload_n 0, 1) := by decide +kernel
theorem dw_331 : decode code 331 = .ok (.iload 5, 2) := by decide +kernel
theorem dw_333 : decode code 333 = .ok (.iconst 2, 1) := by decide +kernel
theorem dw_334 : decode code 334 = .ok (.iadd, 1) := by decide +kernel
theorem dw_335 : decode code 335 = .ok (.iaload, 1) := by decide +kernel
theorem dw_336 : decode code 336 = .ok (.invokevirtual 118, 3) := by decide +kernel
theorem dw_339 : decode code 339 = .ok (.istore 7, 2) := by decide +kernel
theorem dw_341 : decode code 341 = .ok (.aload_n 2, 1) := by decide +kernel
theorem dw_342 : decode code 342 = .ok (.invokevirtual 111, 3) := by decide +kernel
theorem dw_345 : decode code 345 = .ok (.iload 6, 2) := by decide +kernel
theorem dw_347 : decode code 347 = .ok (.if_icmp .eq 5, 3) := by decide +kernel
theorem dw_352 : decode code 352 = .ok (.iload 6, 2) := by decide +kernel
theorem dw_354 : decode code 354 = .ok (.ifCond .ne 15, 3) := by decide +kernel
theorem dw_357 : decode code 357 = .ok (.aload_n 3, 1) := by decide +kernel
theorem dw_358 : decode code 358 = .ok (.iconst 0, 1) := by decide +kernel
theorem dw_359 : decode code 359 = .ok (.laload, 1) := by decide +kernel
theorem dw_360 : decode code 360 = .ok (.iload 7, 2) := by decide +kernel
theorem dw_362 : decode code 362 = .ok (.i2l, 1) := by decide +kernel
theorem dw_363 : decode code 363 = .ok (.lcmp, 1) := by decide +kernel
theorem dw_364 : decode code 364 = .ok (.ifCond .eq 5, 3) := by decide +kernel
theorem dw_369 : decode code 369 = .ok (.goto 1661, 3) := by decide +kernel
theorem dw_372 : decode code 372 = .ok (.aload_n 1, 1) := by decide +kernel
theorem dw_373 : decode code 373 = .ok (.aload_n 0, 1) := by decide +kernel
theorem dw_374 : decode code 374 = .ok (.iload 5, 2) := by decide +kernel
theorem dw_376 : decode code 376 = .ok (.iconst 1, 1) := by decide +kernel
theorem dw_377 : decode code 377 = .ok (.iadd, 1) := by decide +kernel
theorem dw_378 : decode code 378 = .ok (.iaload, 1) := by decide +kernel
theorem dw_379 : decode code 379 = .ok (.aload_n 0, 1) := by decide +kernel
theorem dw_380 : decode code 380 = .ok (.iload 5, 2) := by decide +kernel
theorem dw_382 : decode code 382 = .ok (.iconst 2, 1) := by decide +kernel
theorem dw_383 : decode code 383 = .ok (.iadd, 1) := by decide +kernel
theorem dw_384 : decode code 384 = .ok (.iaload, 1) := by decide +kernel
theorem dw_385 : decode code 385 = .ok (.aload_n 3, 1) := by decide +kernel
theorem dw_386 : decode code 386 = .ok (.invokestatic 119, 3) := by decide +kernel
theorem dw_389 : decode code 389 = .ok (.istore 6, 2) := by decide +kernel
theorem dw_391 : decode code 391 = .ok (.aload_n 2, 1) := by decide +kernel
theorem dw_392 : decode code 392 = .ok (.aload_n 0, 1) := by decide +kernel
theorem dw_393 : decode code 393 = .ok (.iload 5, 2) := by decide +kernel
theorem dw_395 : decode code 395 = .ok (.iconst 1, 1) := by decide +kernel
theorem dw_396 : decode code 396 = .ok (.iadd, 1) := by decide +kernel
theorem dw_397 : decode code 397 = .ok (.iaload, 1) := by decide +kernel
theorem dw_398 : decode code 398 = .ok (.aload_n 0, 1) := by decide +kernel
theorem dw_399 : decode code 399 = .ok (.iload 5, 2) := by decide +kernel
theorem dw_401 : decode code 401 = .ok (.iconst 2, 1) := by decide +kernel
theorem dw_402 : decode code 402 = .ok (.iadd, 1) := by decide +kernel
theorem dw_403 : decode code 403 = .ok (.iaload, 1) := by decide +kernel
theorem dw_404 : decode code 404 = .ok (.invokevirtual 121, 3) := by decide +kernel
theorem dw_407 : decode code 407 = .ok (.istore 7, 2) := by decide +kernel
theorem dw_409 : decode code 409 = .ok (.aload_n 2, 1) := by decide +kernel
theorem dw_410 : decode code 410 = .ok (.invokevirtual 111, 3) := by decide +kernel
theorem dw_413 : decode code 413 = .ok (.iload 6, 2) := by decide +kernel
theorem dw_415 : decode code 415 = .ok (.if_icmp .eq 5, 3) := by decide +kernel
theorem dw_420 : decode code 420 = .ok (.iload 6, 2) := by decide +kernel
theorem dw_422 : decode code 422 = .ok (.ifCond .ne 15, 3) := by decide +kernel
theorem dw_425 : decode code 425 = .ok (.aload_n 3, 1) := by decide +kernel
theorem dw_426 : decode code 426 = .ok (.iconst 0, 1) := by decide +kernel
theorem dw_427 : decode code 427 = .ok (.laload, 1) := by decide +kernel
theorem dw_428 : decode code 428 = .ok (.iload 7, 2) := by decide +kernel
theorem dw_430 : decode code 430 = .ok (.i2l, 1) := by decide +kernel
theorem dw_431 : decode code 431 = .ok (.lcmp, 1) := by decide +kernel
theorem dw_432 : decode code 432 = .ok (.ifCond .eq 5, 3) := by decide +kernel
theorem dw_437 : decode code 437 = .ok (.goto 1593, 3) := by decide +kernel
theorem dw_440 : decode code 440 = .ok (.aload_n 1, 1) := by decide +kernel
theorem dw_441 : decode code 441 = .ok (.aload_n 0, 1) := by decide +kernel
theorem dw_442 : decode code 442 = .ok (.iload 5, 2) := by decide +kernel
theorem dw_444 : decode code 444 = .ok (.iconst 1, 1) := by decide +kernel
theorem dw_445 : decode code 445 = .ok (.iadd, 1) := by decide +kernel
theorem dw_446 : decode code 446 = .ok (.iaload, 1) := by decide +kernel
theorem dw_447 : decode code 447 = .ok (.aload_n 0, 1) := by decide +kernel
theorem dw_448 : decode code 448 = .ok (.iload 5, 2) := by decide +kernel
theorem dw_450 : decode code 450 = .ok (.iconst 2, 1) := by decide +kernel
theorem dw_451 : decode code 451 = .ok (.iadd, 1) := by decide +kernel
theorem dw_452 : decode code 452 = .ok (.iaload, 1) := by decide +kernel
theorem dw_453 : decode code 453 = .ok (.aload_n 3, 1) := by decide +kernel
theorem dw_454 : decode code 454 = .ok (.invokestatic 122, 3) := by decide +kernel
theorem dw_457 : decode code 457 = .ok (.istore 6, 2) := by decide +kernel
theorem dw_459 : decode code 459 = .ok (.aload_n 2, 1) := by decide +kernel
theorem dw_460 : decode code 460 = .ok (.aload_n 0, 1) := by decide +kernel
theorem dw_461 : decode code 461 = .ok (.iload 5, 2) := by decide +kernel
theorem dw_463 : decode code 463 = .ok (.iconst 1, 1) := by decide +kernel
theorem dw_464 : decode code 464 = .ok (.iadd, 1) := by decide +kernel
theorem dw_465 : decode code 465 = .ok (.iaload, 1) := by decide +kernel
theorem dw_466 : decode code 466 = .ok (.aload_n 0, 1) := by decide +kernel
theorem dw_467 : decode code 467 = .ok (.iload 5, 2) := by decide +kernel
theorem dw_469 : decode code 469 = .ok (.iconst 2, 1) := by decide +kernel
theorem dw_470 : decode code 470 = .ok (.iadd, 1) := by decide +kernel
theorem dw_471 : decode code 471 = .ok (.iaload, 1) := by decide +kernel
theorem dw_472 : decode code 472 = .ok (.invokevirtual 124, 3) := by decide +kernel
theorem dw_475 : decode code 475 = .ok (.istore 7, 2) := by decide +kernel
theorem dw_477 : decode code 477 = .ok (.aload_n 2, 1) := by decide +kernel
theorem dw_478 : decode code 478 = .ok (.invokevirtual 111, 3) := by decide +kernel
theorem dw_481 : decode code 481 = .ok (.iload 6, 2) := by decide +kernel
theorem dw_483 : decode code 483 = .ok (.if_icmp .eq 5, 3) := by decide +kernel
theorem dw_488 : decode code 488 = .ok (.iload 6, 2) := by decide +kernel
theorem dw_490 : decode code 490 = .ok (.ifCond .ne 15, 3) := by decide +kernel
theorem dw_493 : decode code 493 = .ok (.aload_n 3, 1) := by decide +kernel
theorem dw_494 : decode code 494 = .ok (.iconst 0, 1) := by decide +kernel
theorem dw_495 : decode code 495 = .ok (.laload, 1) := by decide +kernel
theorem dw_496 : decode code 496 = .ok (.iload 7, 2) := by decide +kernel
theorem dw_498 : decode code 498 = .ok (.i2l, 1) := by decide +kernel
theorem dw_499 : decode code 499 = .ok (.lcmp, 1) := by decide +kernel
theorem dw_500 : decode code 500 = .ok (.ifCond .eq 5, 3) := by decide +kernel
theorem dw_505 : decode code 505 = .ok (.goto 1525, 3) := by decide +kernel
theorem dw_508 : decode code 508 = .ok (.aload_n 1, 1) := by decide +kernel
theorem dw_509 : decode code 509 = .ok (.aload_n 0, 1) := by decide +kernel
theorem dw_510 : decode code 510 = .ok (.iload 5, 2) := by decide +kernel
theorem dw_512 : decode code 512 = .ok (.iconst 1, 1) := by decide +kernel
theorem dw_513 : decode code 513 = .ok (.iadd, 1) := by decide +kernel
theorem dw_514 : decode code 514 = .ok (.iaload, 1) := by decide +kernel
theorem dw_515 : decode code 515 = .ok (.aload_n 0, 1) := by decide +kernel
theorem dw_516 : decode code 516 = .ok (.iload 5, 2) := by decide +kernel
theorem dw_518 : decode code 518 = .ok (.iconst 2, 1) := by decide +kernel
theorem dw_519 : decode code 519 = .ok (.iadd, 1) := by decide +kernel
theorem dw_520 : decode code 520 = .ok (.iaload, 1) := by decide +kernel
theorem dw_521 : decode code 521 = .ok (.aload_n 3, 1) := by decide +kernel
theorem dw_522 : decode code 522 = .ok (.invokestatic 125, 3) := by decide +kernel
theorem dw_525 : decode code 525 = .ok (.istore 6, 2) := by decide +kernel
theorem dw_527 : decode code 527 = .ok (.aload_n 2, 1) := by decide +kernel
theorem dw_528 : decode code 528 = .ok (.aload_n 0, 1) := by decide +kernel
theorem dw_529 : decode code 529 = .ok (.iload 5, 2) := by decide +kernel
theorem dw_531 : decode code 531 = .ok (.iconst 1, 1) := by decide +kernel
theorem dw_532 : decode code 532 = .ok (.iadd, 1) := by decide +kernel
theorem dw_533 : decode code 533 = .ok (.iaload, 1) := by decide +kernel
theorem dw_534 : decode code 534 = .ok (.aload_n 0, 1) := by decide +kernel
theorem dw_535 : decode code 535 = .ok (.iload 5, 2) := by decide +kernel
theorem dw_537 : decode code 537 = .ok (.iconst 2, 1) := by decide +kernel
theorem dw_538 : decode code 538 = .ok (.iadd, 1) := by decide +kernel
theorem dw_539 : decode code 539 = .ok (.iaload, 1) := by decide +kernel
theorem dw_540 : decode code 540 = .ok (.invokevirtual 127, 3) := by decide +kernel
theorem dw_543 : decode code 543 = .ok (.istore 7, 2) := by decide +kernel
theorem dw_545 : decode code 545 = .ok (.aload_n 2, 1) := by decide +kernel
theorem dw_546 : decode code 546 = .ok (.invokevirtual 111, 3) := by decide +kernel
theorem dw_549 : decode code 549 = .ok (.iload 6, 2) := by decide +kernel
theorem dw_551 : decode code 551 = .ok (.if_icmp .eq 5, 3) := by decide +kernel
theorem dw_556 : decode code 556 = .ok (.iload 6, 2) := by decide +kernel
theorem dw_558 : decode code 558 = .ok (.ifCond .ne 15, 3) := by decide +kernel
theorem dw_561 : decode code 561 = .ok (.aload_n 3, 1) := by decide +kernel
theorem dw_562 : decode code 562 = .ok (.iconst 0, 1) := by decide +kernel
theorem dw_563 : decode code 563 = .ok (.laload, 1) := by decide +kernel
theorem dw_564 : decode code 564 = .ok (.iload 7, 2) := by decide +kernel
theorem dw_566 : decode code 566 = .ok (.i2l, 1) := by decide +kernel
theorem dw_567 : decode code 567 = .ok (.lcmp, 1) := by decide +kernel
theorem dw_568 : decode code 568 = .ok (.ifCond .eq 5, 3) := by decide +kernel
theorem dw_573 : decode code 573 = .ok (.goto 1457, 3) := by decide +kernel
theorem dw_576 : decode code 576 = .ok (.aload_n 1, 1) := by decide +kernel
theorem dw_577 : decode code 577 = .ok (.aload_n 0, 1) := by decide +kernel
theorem dw_578 : decode code 578 = .ok (.iload 5, 2) := by decide +kernel
theorem dw_580 : decode code 580 = .ok (.iconst 1, 1) := by decide +kernel
theorem dw_581 : decode code 581 = .ok (.iadd, 1) := by decide +kernel
theorem dw_582 : decode code 582 = .ok (.iaload, 1) := by decide +kernel
