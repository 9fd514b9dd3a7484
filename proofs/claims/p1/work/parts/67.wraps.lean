-- words of the tables, and what stands at each place of the methods' code (laid by program)
theorem u_315 : Cond.classLink RL 13 "java/lang/IndexOutOfBoundsException" ∈ ww_tb := by decide +kernel
theorem u_316 : Cond.classLink RL 15 "java/lang/IllegalArgumentException" ∈ ww_tb := by decide +kernel
theorem u_317 : Cond.classLink RL 17 "java/lang/IllegalStateException" ∈ ww_tb := by decide +kernel
theorem u_318 : Cond.code yX5_group cX5_group 7 (some .int) ∈ ww_tb := by decide +kernel
theorem u_319 : Cond.methodLink RL 7 yX5_group ∈ ww_tb := by decide +kernel
theorem u_320 : Cond.instanceMethod yX5_group ∈ ww_tb := by decide +kernel
theorem u_321 : Cond.selects RX5 yX5_group yX5_group ∈ ww_tb := by decide +kernel
theorem u_322 : Cond.code yX5_trust cX5_trust 4 (some .int) ∈ ww_tb := by decide +kernel
theorem u_323 : Cond.methodLink RL 19 yX5_trust ∈ ww_tb := by decide +kernel
theorem u_324 : Cond.instanceMethod yX5_trust ∈ ww_tb := by decide +kernel
theorem u_325 : Cond.selects RX5 yX5_trust yX5_trust ∈ ww_tb := by decide +kernel
theorem u_326 : Cond.code yX5_shelter cX5_shelter 4 (some .int) ∈ ww_tb := by decide +kernel
theorem u_327 : Cond.methodLink RL 23 yX5_shelter ∈ ww_tb := by decide +kernel
theorem u_328 : Cond.instanceMethod yX5_shelter ∈ ww_tb := by decide +kernel
theorem u_329 : Cond.selects RX5 yX5_shelter yX5_shelter ∈ ww_tb := by decide +kernel
theorem u_330 : Cond.code yX5_siren cX5_siren 3 (some .int) ∈ ww_tb := by decide +kernel
theorem u_331 : Cond.methodLink RL 26 yX5_siren ∈ ww_tb := by decide +kernel
theorem u_332 : Cond.instanceMethod yX5_siren ∈ ww_tb := by decide +kernel
theorem u_333 : Cond.selects RX5 yX5_siren yX5_siren ∈ ww_tb := by decide +kernel
theorem u_334 : Cond.code yX5_mast cX5_mast 3 (some .int) ∈ ww_tb := by decide +kernel
theorem u_335 : Cond.methodLink RL 29 yX5_mast ∈ ww_tb := by decide +kernel
theorem u_336 : Cond.instanceMethod yX5_mast ∈ ww_tb := by decide +kernel
theorem u_337 : Cond.selects RX5 yX5_mast yX5_mast ∈ ww_tb := by decide +kernel
theorem u_338 : Cond.code yX5_power cX5_power 3 (some .int) ∈ ww_tb := by decide +kernel
theorem u_339 : Cond.methodLink RL 32 yX5_power ∈ ww_tb := by decide +kernel
theorem u_340 : Cond.instanceMethod yX5_power ∈ ww_tb := by decide +kernel
theorem u_341 : Cond.selects RX5 yX5_power yX5_power ∈ ww_tb := by decide +kernel
theorem u_342 : Cond.code yX5_lines cX5_lines 3 (some .int) ∈ ww_tb := by decide +kernel
theorem u_343 : Cond.methodLink RL 36 yX5_lines ∈ ww_tb := by decide +kernel
theorem u_344 : Cond.instanceMethod yX5_lines ∈ ww_tb := by decide +kernel
theorem u_345 : Cond.selects RX5 yX5_lines yX5_lines ∈ ww_tb := by decide +kernel
theorem u_346 : Cond.code yX5_danger cX5_danger 4 (some .int) ∈ ww_tb := by decide +kernel
theorem u_347 : Cond.methodLink RL 40 yX5_danger ∈ ww_tb := by decide +kernel
theorem u_348 : Cond.instanceMethod yX5_danger ∈ ww_tb := by decide +kernel
theorem u_349 : Cond.selects RX5 yX5_danger yX5_danger ∈ ww_tb := by decide +kernel
theorem u_350 : Cond.code yX5_key cX5_key 4 (some .boolean) ∈ ww_tb := by decide +kernel
theorem u_351 : Cond.methodLink RL 43 yX5_key ∈ ww_tb := by decide +kernel
theorem u_352 : Cond.instanceMethod yX5_key ∈ ww_tb := by decide +kernel
theorem u_353 : Cond.selects RX5 yX5_key yX5_key ∈ ww_tb := by decide +kernel
theorem u_354 : Cond.code yX5_alert cX5_alert 4 (some .int) ∈ ww_tb := by decide +kernel
theorem u_355 : Cond.methodLink RL 47 yX5_alert ∈ ww_tb := by decide +kernel
theorem u_356 : Cond.instanceMethod yX5_alert ∈ ww_tb := by decide +kernel
theorem u_357 : Cond.selects RX5 yX5_alert yX5_alert ∈ ww_tb := by decide +kernel
theorem u_358 : Cond.code yX5_update cX5_update 5 (some .int) ∈ ww_tb := by decide +kernel
theorem u_359 : Cond.methodLink RL 51 yX5_update ∈ ww_tb := by decide +kernel
theorem u_360 : Cond.instanceMethod yX5_update ∈ ww_tb := by decide +kernel
theorem u_361 : Cond.selects RX5 yX5_update yX5_update ∈ ww_tb := by decide +kernel
theorem u_362 : Cond.code yX5_cancel cX5_cancel 3 (some .int) ∈ ww_tb := by decide +kernel
theorem u_363 : Cond.methodLink RL 55 yX5_cancel ∈ ww_tb := by decide +kernel
theorem u_364 : Cond.instanceMethod yX5_cancel ∈ ww_tb := by decide +kernel
theorem u_365 : Cond.selects RX5 yX5_cancel yX5_cancel ∈ ww_tb := by decide +kernel
theorem u_366 : Cond.code yX5_approve cX5_approve 4 (some .int) ∈ ww_tb := by decide +kernel
theorem u_367 : Cond.methodLink RL 58 yX5_approve ∈ ww_tb := by decide +kernel
theorem u_368 : Cond.instanceMethod yX5_approve ∈ ww_tb := by decide +kernel
theorem u_369 : Cond.selects RX5 yX5_approve yX5_approve ∈ ww_tb := by decide +kernel
theorem u_370 : Cond.code yX5_send cX5_send 2 (some .int) ∈ ww_tb := by decide +kernel
theorem u_371 : Cond.methodLink RL 61 yX5_send ∈ ww_tb := by decide +kernel
theorem u_372 : Cond.instanceMethod yX5_send ∈ ww_tb := by decide +kernel
theorem u_373 : Cond.selects RX5 yX5_send yX5_send ∈ ww_tb := by decide +kernel
theorem u_374 : Cond.code yX5_pass cX5_pass 2 (some .int) ∈ ww_tb := by decide +kernel
theorem u_375 : Cond.methodLink RL 64 yX5_pass ∈ ww_tb := by decide +kernel
theorem u_376 : Cond.instanceMethod yX5_pass ∈ ww_tb := by decide +kernel
theorem u_377 : Cond.selects RX5 yX5_pass yX5_pass ∈ ww_tb := by decide +kernel
theorem u_378 : Cond.code yX5_until cX5_until 4 (some .int) ∈ ww_tb := by decide +kernel
theorem u_379 : Cond.methodLink RL 67 yX5_until ∈ ww_tb := by decide +kernel
theorem u_380 : Cond.instanceMethod yX5_until ∈ ww_tb := by decide +kernel
theorem u_381 : Cond.selects RX5 yX5_until yX5_until ∈ ww_tb := by decide +kernel
theorem u_382 : Cond.methodLink RL 70 yX5_ofGroup ∈ ww_tb := by decide +kernel
theorem u_383 : Cond.code yX5_heard cX5_heard 5 (some .int) ∈ ww_tb := by decide +kernel
theorem u_384 : Cond.methodLink RL 73 yX5_heard ∈ ww_tb := by decide +kernel
theorem u_385 : Cond.instanceMethod yX5_heard ∈ ww_tb := by decide +kernel
theorem u_386 : Cond.selects RX5 yX5_heard yX5_heard ∈ ww_tb := by decide +kernel
theorem u_387 : Cond.methodLink RL 76 yX5_ofWarning ∈ ww_tb := by decide +kernel
theorem u_388 : Cond.methodLink RL 79 yX5_inForce ∈ ww_tb := by decide +kernel
theorem u_389 : Cond.methodLink RL 82 yX5_roomIn ∈ ww_tb := by decide +kernel
theorem u_390 : Cond.code yX5_chain cX5_chain 6 (some .int) ∈ ww_tb := by decide +kernel
theorem u_391 : Cond.methodLink RL 85 yX5_chain ∈ ww_tb := by decide +kernel
theorem u_392 : Cond.instanceMethod yX5_chain ∈ ww_tb := by decide +kernel
theorem u_393 : Cond.selects RX5 yX5_chain yX5_chain ∈ ww_tb := by decide +kernel
theorem u_394 : Cond.methodLink RL 88 yX5_many ∈ ww_tb := by decide +kernel
theorem u_395 : Cond.code yX5_safeIn cX5_safeIn 4 (some .int) ∈ ww_tb := by decide +kernel
theorem u_396 : Cond.methodLink RL 95 yX5_safeIn ∈ ww_tb := by decide +kernel
theorem u_397 : Cond.instanceMethod yX5_safeIn ∈ ww_tb := by decide +kernel
theorem u_398 : Cond.selects RX5 yX5_safeIn yX5_safeIn ∈ ww_tb := by decide +kernel
theorem u_399 : Cond.methodLink RL 98 yX5_sirenWould ∈ ww_tb := by decide +kernel
theorem dL_group_0 : decode cL_group 0 = .ok (.aload 6, 2) := by decide +kernel
theorem dL_group_2 : decode cL_group 2 = .ok (.iconst 0, 1) := by decide +kernel
theorem dL_group_3 : decode cL_group 3 = .ok (.aload_n 0, 1) := by decide +kernel
theorem dL_group_4 : decode cL_group 4 = .ok (.iload_n 1, 1) := by decide +kernel
theorem dL_group_5 : decode cL_group 5 = .ok (.iload_n 2, 1) := by decide +kernel
theorem dL_group_6 : decode cL_group 6 = .ok (.iload_n 3, 1) := by decide +kernel
theorem dL_group_7 : decode cL_group 7 = .ok (.iload 4, 2) := by decide +kernel
theorem dL_group_9 : decode cL_group 9 = .ok (.iload 5, 2) := by decide +kernel
theorem dL_group_11 : decode cL_group 11 = .ok (.invokevirtual 7, 3) := by decide +kernel
theorem dL_group_14 : decode cL_group 14 = .ok (.i2l, 1) := by decide +kernel
theorem dL_group_15 : decode cL_group 15 = .ok (.lastore, 1) := by decide +kernel
theorem dL_group_16 : decode cL_group 16 = .ok (.goto 15, 3) := by decide +kernel
theorem dL_group_19 : decode cL_group 19 = .ok (.astore 7, 2) := by decide +kernel
theorem dL_group_21 : decode cL_group 21 = .ok (.iconst 1, 1) := by decide +kernel
theorem dL_group_22 : decode cL_group 22 = .ok (.ireturn, 1) := by decide +kernel
theorem dL_group_23 : decode cL_group 23 = .ok (.astore 7, 2) := by decide +kernel
theorem dL_group_25 : decode cL_group 25 = .ok (.iconst 2, 1) := by decide +kernel
theorem dL_group_26 : decode cL_group 26 = .ok (.ireturn, 1) := by decide +kernel
theorem dL_group_27 : decode cL_group 27 = .ok (.astore 7, 2) := by decide +kernel
theorem dL_group_29 : decode cL_group 29 = .ok (.iconst 3, 1) := by decide +kernel
theorem dL_group_30 : decode cL_group 30 = .ok (.ireturn, 1) := by decide +kernel
theorem dL_group_31 : decode cL_group 31 = .ok (.iconst 0, 1) := by decide +kernel
theorem dL_group_32 : decode cL_group 32 = .ok (.ireturn, 1) := by decide +kernel
theorem dL_trust_0 : decode cL_trust 0 = .ok (.aload_n 3, 1) := by decide +kernel
theorem dL_trust_1 : decode cL_trust 1 = .ok (.iconst 0, 1) := by decide +kernel
theorem dL_trust_2 : decode cL_trust 2 = .ok (.aload_n 0, 1) := by decide +kernel
theorem dL_trust_3 : decode cL_trust 3 = .ok (.iload_n 1, 1) := by decide +kernel
theorem dL_trust_4 : decode cL_trust 4 = .ok (.iload_n 2, 1) := by decide +kernel
theorem dL_trust_5 : decode cL_trust 5 = .ok (.invokevirtual 19, 3) := by decide +kernel
theorem dL_trust_8 : decode cL_trust 8 = .ok (.i2l, 1) := by decide +kernel
theorem dL_trust_9 : decode cL_trust 9 = .ok (.lastore, 1) := by decide +kernel
theorem dL_trust_10 : decode cL_trust 10 = .ok (.goto 11, 3) := by decide +kernel
theorem dL_trust_13 : decode cL_trust 13 = .ok (.astore 4, 2) := by decide +kernel
theorem dL_trust_15 : decode cL_trust 15 = .ok (.iconst 1, 1) := by decide +kernel
theorem dL_trust_16 : decode cL_trust 16 = .ok (.ireturn, 1) := by decide +kernel
theorem dL_trust_17 : decode cL_trust 17 = .ok (.astore 4, 2) := by decide +kernel
theorem dL_trust_19 : decode cL_trust 19 = .ok (.iconst 2, 1) := by decide +kernel
theorem dL_trust_20 : decode cL_trust 20 = .ok (.ireturn, 1) := by decide +kernel
theorem dL_trust_21 : decode cL_trust 21 = .ok (.iconst 0, 1) := by decide +kernel
theorem dL_trust_22 : decode cL_trust 22 = .ok (.ireturn, 1) := by decide +kernel
theorem dL_shelter_0 : decode cL_shelter 0 = .ok (.aload_n 3, 1) := by decide +kernel
theorem dL_shelter_1 : decode cL_shelter 1 = .ok (.iconst 0, 1) := by decide +kernel
theorem dL_shelter_2 : decode cL_shelter 2 = .ok (.aload_n 0, 1) := by decide +kernel
theorem dL_shelter_3 : decode cL_shelter 3 = .ok (.iload_n 1, 1) := by decide +kernel
theorem dL_shelter_4 : decode cL_shelter 4 = .ok (.iload_n 2, 1) := by decide +kernel
theorem dL_shelter_5 : decode cL_shelter 5 = .ok (.invokevirtual 23, 3) := by decide +kernel
theorem dL_shelter_8 : decode cL_shelter 8 = .ok (.i2l, 1) := by decide +kernel
theorem dL_shelter_9 : decode cL_shelter 9 = .ok (.lastore, 1) := by decide +kernel
theorem dL_shelter_10 : decode cL_shelter 10 = .ok (.goto 15, 3) := by decide +kernel
theorem dL_shelter_13 : decode cL_shelter 13 = .ok (.astore 4, 2) := by decide +kernel
theorem dL_shelter_15 : decode cL_shelter 15 = .ok (.iconst 1, 1) := by decide +kernel
theorem dL_shelter_16 : decode cL_shelter 16 = .ok (.ireturn, 1) := by decide +kernel
theorem dL_shelter_17 : decode cL_shelter 17 = .ok (.astore 4, 2) := by decide +kernel
theorem dL_shelter_19 : decode cL_shelter 19 = .ok (.iconst 2, 1) := by decide +kernel
theorem dL_shelter_20 : decode cL_shelter 20 = .ok (.ireturn, 1) := by decide +kernel
theorem dL_shelter_21 : decode cL_shelter 21 = .ok (.astore 4, 2) := by decide +kernel
theorem dL_shelter_23 : decode cL_shelter 23 = .ok (.iconst 3, 1) := by decide +kernel
theorem dL_shelter_24 : decode cL_shelter 24 = .ok (.ireturn, 1) := by decide +kernel
theorem dL_shelter_25 : decode cL_shelter 25 = .ok (.iconst 0, 1) := by decide +kernel
theorem dL_shelter_26 : decode cL_shelter 26 = .ok (.ireturn, 1) := by decide +kernel
theorem dL_siren_0 : decode cL_siren 0 = .ok (.aload_n 3, 1) := by decide +kernel
theorem dL_siren_1 : decode cL_siren 1 = .ok (.iconst 0, 1) := by decide +kernel
theorem dL_siren_2 : decode cL_siren 2 = .ok (.aload_n 0, 1) := by decide +kernel
theorem dL_siren_3 : decode cL_siren 3 = .ok (.iload_n 1, 1) := by decide +kernel
theorem dL_siren_4 : decode cL_siren 4 = .ok (.iload_n 2, 1) := by decide +kernel
theorem dL_siren_5 : decode cL_siren 5 = .ok (.invokevirtual 26, 3) := by decide +kernel
theorem dL_siren_8 : decode cL_siren 8 = .ok (.i2l, 1) := by decide +kernel
theorem dL_siren_9 : decode cL_siren 9 = .ok (.lastore, 1) := by decide +kernel
theorem dL_siren_10 : decode cL_siren 10 = .ok (.goto 15, 3) := by decide +kernel
theorem dL_siren_13 : decode cL_siren 13 = .ok (.astore 4, 2) := by decide +kernel
theorem dL_siren_15 : decode cL_siren 15 = .ok (.iconst 1, 1) := by decide +kernel
theorem dL_siren_16 : decode cL_siren 16 = .ok (.ireturn, 1) := by decide +kernel
theorem dL_siren_17 : decode cL_siren 17 = .ok (.astore 4, 2) := by decide +kernel
theorem dL_siren_19 : decode cL_siren 19 = .ok (.iconst 2, 1) := by decide +kernel
theorem dL_siren_20 : decode cL_siren 20 = .ok (.ireturn, 1) := by decide +kernel
theorem dL_siren_21 : decode cL_siren 21 = .ok (.astore 4, 2) := by decide +kernel
theorem dL_siren_23 : decode cL_siren 23 = .ok (.iconst 3, 1) := by decide +kernel
theorem dL_siren_24 : decode cL_siren 24 = .ok (.ireturn, 1) := by decide +kernel
theorem dL_siren_25 : decode cL_siren 25 = .ok (.iconst 0, 1) := by decide +kernel
theorem dL_siren_26 : decode cL_siren 26 = .ok (.ireturn, 1) := by decide +kernel
theorem dL_mast_0 : decode cL_mast 0 = .ok (.aload_n 3, 1) := by decide +kernel
theorem dL_mast_1 : decode cL_mast 1 = .ok (.iconst 0, 1) := by decide +kernel
theorem dL_mast_2 : decode cL_mast 2 = .ok (.aload_n 0, 1) := by decide +kernel
theorem dL_mast_3 : decode cL_mast 3 = .ok (.iload_n 1, 1) := by decide +kernel
theorem dL_mast_4 : decode cL_mast 4 = .ok (.iload_n 2, 1) := by decide +kernel
theorem dL_mast_5 : decode cL_mast 5 = .ok (.invokevirtual 29, 3) := by decide +kernel
theorem dL_mast_8 : decode cL_mast 8 = .ok (.i2l, 1) := by decide +kernel
theorem dL_mast_9 : decode cL_mast 9 = .ok (.lastore, 1) := by decide +kernel
theorem dL_mast_10 : decode cL_mast 10 = .ok (.goto 15, 3) := by decide +kernel
theorem dL_mast_13 : decode cL_mast 13 = .ok (.astore 4, 2) := by decide +kernel
theorem dL_mast_15 : decode cL_mast 15 = .ok (.iconst 1, 1) := by decide +kernel
theorem dL_mast_16 : decode cL_mast 16 = .ok (.ireturn, 1) := by decide +kernel
theorem dL_mast_17 : decode cL_mast 17 = .ok (.astore 4, 2) := by decide +kernel
theorem dL_mast_19 : decode cL_mast 19 = .ok (.iconst 2, 1) := by decide +kernel
theorem dL_mast_20 : decode cL_mast 20 = .ok (.ireturn, 1) := by decide +kernel
theorem dL_mast_21 : decode cL_mast 21 = .ok (.astore 4, 2) := by decide +kernel
theorem dL_mast_23 : decode cL_mast 23 = .ok (.iconst 3, 1) := by decide +kernel
theorem dL_mast_24 : decode cL_mast 24 = .ok (.ireturn, 1) := by decide +kernel
theorem dL_mast_25 : decode cL_mast 25 = .ok (.iconst 0, 1) := by decide +kernel
theorem dL_mast_26 : decode cL_mast 26 = .ok (.ireturn, 1) := by decide +kernel
theorem dL_power_0 : decode cL_power 0 = .ok (.aload_n 3, 1) := by decide +kernel
theorem dL_power_1 : decode cL_power 1 = .ok (.iconst 0, 1) := by decide +kernel
theorem dL_power_2 : decode cL_power 2 = .ok (.aload_n 0, 1) := by decide +kernel
theorem dL_power_3 : decode cL_power 3 = .ok (.iload_n 1, 1) := by decide +kernel
theorem dL_power_4 : decode cL_power 4 = .ok (.iload_n 2, 1) := by decide +kernel
theorem dL_power_5 : decode cL_power 5 = .ok (.invokevirtual 32, 3) := by decide +kernel
theorem dL_power_8 : decode cL_power 8 = .ok (.i2l, 1) := by decide +kernel
theorem dL_power_9 : decode cL_power 9 = .ok (.lastore, 1) := by decide +kernel
theorem dL_power_10 : decode cL_power 10 = .ok (.goto 7, 3) := by decide +kernel
theorem dL_power_13 : decode cL_power 13 = .ok (.astore 4, 2) := by decide +kernel
theorem dL_power_15 : decode cL_power 15 = .ok (.iconst 1, 1) := by decide +kernel
theorem dL_power_16 : decode cL_power 16 = .ok (.ireturn, 1) := by decide +kernel
theorem dL_power_17 : decode cL_power 17 = .ok (.iconst 0, 1) := by decide +kernel
theorem dL_power_18 : decode cL_power 18 = .ok (.ireturn, 1) := by decide +kernel
theorem dL_lines_0 : decode cL_lines 0 = .ok (.aload_n 2, 1) := by decide +kernel
theorem dL_lines_1 : decode cL_lines 1 = .ok (.iconst 0, 1) := by decide +kernel
theorem dL_lines_2 : decode cL_lines 2 = .ok (.aload_n 0, 1) := by decide +kernel
theorem dL_lines_3 : decode cL_lines 3 = .ok (.iload_n 1, 1) := by decide +kernel
theorem dL_lines_4 : decode cL_lines 4 = .ok (.invokevirtual 36, 3) := by decide +kernel
theorem dL_lines_7 : decode cL_lines 7 = .ok (.i2l, 1) := by decide +kernel
theorem dL_lines_8 : decode cL_lines 8 = .ok (.lastore, 1) := by decide +kernel
theorem dL_lines_9 : decode cL_lines 9 = .ok (.goto 6, 3) := by decide +kernel
theorem dL_lines_12 : decode cL_lines 12 = .ok (.astore_n 3, 1) := by decide +kernel
theorem dL_lines_13 : decode cL_lines 13 = .ok (.iconst 1, 1) := by decide +kernel
theorem dL_lines_14 : decode cL_lines 14 = .ok (.ireturn, 1) := by decide +kernel
theorem dL_lines_15 : decode cL_lines 15 = .ok (.iconst 0, 1) := by decide +kernel
theorem dL_lines_16 : decode cL_lines 16 = .ok (.ireturn, 1) := by decide +kernel
theorem dL_danger_0 : decode cL_danger 0 = .ok (.aload_n 3, 1) := by decide +kernel
theorem dL_danger_1 : decode cL_danger 1 = .ok (.iconst 0, 1) := by decide +kernel
theorem dL_danger_2 : decode cL_danger 2 = .ok (.aload_n 0, 1) := by decide +kernel
theorem dL_danger_3 : decode cL_danger 3 = .ok (.iload_n 1, 1) := by decide +kernel
theorem dL_danger_4 : decode cL_danger 4 = .ok (.iload_n 2, 1) := by decide +kernel
theorem dL_danger_5 : decode cL_danger 5 = .ok (.invokevirtual 40, 3) := by decide +kernel
theorem dL_danger_8 : decode cL_danger 8 = .ok (.i2l, 1) := by decide +kernel
theorem dL_danger_9 : decode cL_danger 9 = .ok (.lastore, 1) := by decide +kernel
theorem dL_danger_10 : decode cL_danger 10 = .ok (.goto 11, 3) := by decide +kernel
theorem dL_danger_13 : decode cL_danger 13 = .ok (.astore 4, 2) := by decide +kernel
theorem dL_danger_15 : decode cL_danger 15 = .ok (.iconst 1, 1) := by decide +kernel
theorem dL_danger_16 : decode cL_danger 16 = .ok (.ireturn, 1) := by decide +kernel
theorem dL_danger_17 : decode cL_danger 17 = .ok (.astore 4, 2) := by decide +kernel
theorem dL_danger_19 : decode cL_danger 19 = .ok (.iconst 2, 1) := by decide +kernel
theorem dL_danger_20 : decode cL_danger 20 = .ok (.ireturn, 1) := by decide +kernel
theorem dL_danger_21 : decode cL_danger 21 = .ok (.iconst 0, 1) := by decide +kernel
theorem dL_danger_22 : decode cL_danger 22 = .ok (.ireturn, 1) := by decide +kernel
theorem dL_key_0 : decode cL_key 0 = .ok (.aload_n 3, 1) := by decide +kernel
theorem dL_key_1 : decode cL_key 1 = .ok (.iconst 0, 1) := by decide +kernel
theorem dL_key_2 : decode cL_key 2 = .ok (.aload_n 0, 1) := by decide +kernel
theorem dL_key_3 : decode cL_key 3 = .ok (.iload_n 1, 1) := by decide +kernel
theorem dL_key_4 : decode cL_key 4 = .ok (.iload_n 2, 1) := by decide +kernel
theorem dL_key_5 : decode cL_key 5 = .ok (.invokevirtual 43, 3) := by decide +kernel
theorem dL_key_8 : decode cL_key 8 = .ok (.ifCond .eq 7, 3) := by decide +kernel
theorem dL_key_11 : decode cL_key 11 = .ok (.lconst 1, 1) := by decide +kernel
theorem dL_key_12 : decode cL_key 12 = .ok (.goto 4, 3) := by decide +kernel
theorem dL_key_15 : decode cL_key 15 = .ok (.lconst 0, 1) := by decide +kernel
theorem dL_key_16 : decode cL_key 16 = .ok (.lastore, 1) := by decide +kernel
theorem dL_key_17 : decode cL_key 17 = .ok (.goto 7, 3) := by decide +kernel
theorem dL_key_20 : decode cL_key 20 = .ok (.astore 4, 2) := by decide +kernel
theorem dL_key_22 : decode cL_key 22 = .ok (.iconst 1, 1) := by decide +kernel
theorem dL_key_23 : decode cL_key 23 = .ok (.ireturn, 1) := by decide +kernel
theorem dL_key_24 : decode cL_key 24 = .ok (.iconst 0, 1) := by decide +kernel
theorem dL_key_25 : decode cL_key 25 = .ok (.ireturn, 1) := by decide +kernel
theorem dL_alert_0 : decode cL_alert 0 = .ok (.aload 4, 2) := by decide +kernel
theorem dL_alert_2 : decode cL_alert 2 = .ok (.iconst 0, 1) := by decide +kernel
theorem dL_alert_3 : decode cL_alert 3 = .ok (.aload_n 0, 1) := by decide +kernel
theorem dL_alert_4 : decode cL_alert 4 = .ok (.iload_n 1, 1) := by decide +kernel
theorem dL_alert_5 : decode cL_alert 5 = .ok (.iload_n 2, 1) := by decide +kernel
theorem dL_alert_6 : decode cL_alert 6 = .ok (.iload_n 3, 1) := by decide +kernel
theorem dL_alert_7 : decode cL_alert 7 = .ok (.invokevirtual 47, 3) := by decide +kernel
theorem dL_alert_10 : decode cL_alert 10 = .ok (.i2l, 1) := by decide +kernel
theorem dL_alert_11 : decode cL_alert 11 = .ok (.lastore, 1) := by decide +kernel
theorem dL_alert_12 : decode cL_alert 12 = .ok (.goto 11, 3) := by decide +kernel
theorem dL_alert_15 : decode cL_alert 15 = .ok (.astore 5, 2) := by decide +kernel
theorem dL_alert_17 : decode cL_alert 17 = .ok (.iconst 1, 1) := by decide +kernel
theorem dL_alert_18 : decode cL_alert 18 = .ok (.ireturn, 1) := by decide +kernel
theorem dL_alert_19 : decode cL_alert 19 = .ok (.astore 5, 2) := by decide +kernel
theorem dL_alert_21 : decode cL_alert 21 = .ok (.iconst 2, 1) := by decide +kernel
theorem dL_alert_22 : decode cL_alert 22 = .ok (.ireturn, 1) := by decide +kernel
theorem dL_alert_23 : decode cL_alert 23 = .ok (.iconst 0, 1) := by decide +kernel
theorem dL_alert_24 : decode cL_alert 24 = .ok (.ireturn, 1) := by decide +kernel
theorem dL_update_0 : decode cL_update 0 = .ok (.aload 5, 2) := by decide +kernel
theorem dL_update_2 : decode cL_update 2 = .ok (.iconst 0, 1) := by decide +kernel
theorem dL_update_3 : decode cL_update 3 = .ok (.aload_n 0, 1) := by decide +kernel
theorem dL_update_4 : decode cL_update 4 = .ok (.iload_n 1, 1) := by decide +kernel
theorem dL_update_5 : decode cL_update 5 = .ok (.iload_n 2, 1) := by decide +kernel
theorem dL_update_6 : decode cL_update 6 = .ok (.iload_n 3, 1) := by decide +kernel
theorem dL_update_7 : decode cL_update 7 = .ok (.iload 4, 2) := by decide +kernel
theorem dL_update_9 : decode cL_update 9 = .ok (.invokevirtual 51, 3) := by decide +kernel
theorem dL_update_12 : decode cL_update 12 = .ok (.i2l, 1) := by decide +kernel
theorem dL_update_13 : decode cL_update 13 = .ok (.lastore, 1) := by decide +kernel
theorem dL_update_14 : decode cL_update 14 = .ok (.goto 15, 3) := by decide +kernel
theorem dL_update_17 : decode cL_update 17 = .ok (.astore 6, 2) := by decide +kernel
theorem dL_update_19 : decode cL_update 19 = .ok (.iconst 1, 1) := by decide +kernel
theorem dL_update_20 : decode cL_update 20 = .ok (.ireturn, 1) := by decide +kernel
theorem dL_update_21 : decode cL_update 21 = .ok (.astore 6, 2) := by decide +kernel
theorem dL_update_23 : decode cL_update 23 = .ok (.iconst 2, 1) := by decide +kernel
theorem dL_update_24 : decode cL_update 24 = .ok (.ireturn, 1) := by decide +kernel
theorem dL_update_25 : decode cL_update 25 = .ok (.astore 6, 2) := by decide +kernel
theorem dL_update_27 : decode cL_update 27 = .ok (.iconst 3, 1) := by decide +kernel
theorem dL_update_28 : decode cL_update 28 = .ok (.ireturn, 1) := by decide +kernel
theorem dL_update_29 : decode cL_update 29 = .ok (.iconst 0, 1) := by decide +kernel
theorem dL_update_30 : decode cL_update 30 = .ok (.ireturn, 1) := by decide +kernel
theorem dL_cancel_0 : decode cL_cancel 0 = .ok (.aload_n 2, 1) := by decide +kernel
theorem dL_cancel_1 : decode cL_cancel 1 = .ok (.iconst 0, 1) := by decide +kernel
theorem dL_cancel_2 : decode cL_cancel 2 = .ok (.aload_n 0, 1) := by decide +kernel
theorem dL_cancel_3 : decode cL_cancel 3 = .ok (.iload_n 1, 1) := by decide +kernel
theorem dL_cancel_4 : decode cL_cancel 4 = .ok (.invokevirtual 55, 3) := by decide +kernel
theorem dL_cancel_7 : decode cL_cancel 7 = .ok (.i2l, 1) := by decide +kernel
theorem dL_cancel_8 : decode cL_cancel 8 = .ok (.lastore, 1) := by decide +kernel
theorem dL_cancel_9 : decode cL_cancel 9 = .ok (.goto 9, 3) := by decide +kernel
theorem dL_cancel_12 : decode cL_cancel 12 = .ok (.astore_n 3, 1) := by decide +kernel
theorem dL_cancel_13 : decode cL_cancel 13 = .ok (.iconst 1, 1) := by decide +kernel
theorem dL_cancel_14 : decode cL_cancel 14 = .ok (.ireturn, 1) := by decide +kernel
theorem dL_cancel_15 : decode cL_cancel 15 = .ok (.astore_n 3, 1) := by decide +kernel
theorem dL_cancel_16 : decode cL_cancel 16 = .ok (.iconst 2, 1) := by decide +kernel
theorem dL_cancel_17 : decode cL_cancel 17 = .ok (.ireturn, 1) := by decide +kernel
theorem dL_cancel_18 : decode cL_cancel 18 = .ok (.iconst 0, 1) := by decide +kernel
theorem dL_cancel_19 : decode cL_cancel 19 = .ok (.ireturn, 1) := by decide +kernel
theorem dL_approve_0 : decode cL_approve 0 = .ok (.aload_n 3, 1) := by decide +kernel
theorem dL_approve_1 : decode cL_approve 1 = .ok (.iconst 0, 1) := by decide +kernel
theorem dL_approve_2 : decode cL_approve 2 = .ok (.aload_n 0, 1) := by decide +kernel
theorem dL_approve_3 : decode cL_approve 3 = .ok (.iload_n 1, 1) := by decide +kernel
theorem dL_approve_4 : decode cL_approve 4 = .ok (.iload_n 2, 1) := by decide +kernel
theorem dL_approve_5 : decode cL_approve 5 = .ok (.invokevirtual 58, 3) := by decide +kernel
theorem dL_approve_8 : decode cL_approve 8 = .ok (.i2l, 1) := by decide +kernel
theorem dL_approve_9 : decode cL_approve 9 = .ok (.lastore, 1) := by decide +kernel
theorem dL_approve_10 : decode cL_approve 10 = .ok (.goto 11, 3) := by decide +kernel
theorem dL_approve_13 : decode cL_approve 13 = .ok (.astore 4, 2) := by decide +kernel
theorem dL_approve_15 : decode cL_approve 15 = .ok (.iconst 1, 1) := by decide +kernel
theorem dL_approve_16 : decode cL_approve 16 = .ok (.ireturn, 1) := by decide +kernel
theorem dL_approve_17 : decode cL_approve 17 = .ok (.astore 4, 2) := by decide +kernel
theorem dL_approve_19 : decode cL_approve 19 = .ok (.iconst 2, 1) := by decide +kernel
theorem dL_approve_20 : decode cL_approve 20 = .ok (.ireturn, 1) := by decide +kernel
theorem dL_approve_21 : decode cL_approve 21 = .ok (.iconst 0, 1) := by decide +kernel
theorem dL_approve_22 : decode cL_approve 22 = .ok (.ireturn, 1) := by decide +kernel
theorem dL_send_0 : decode cL_send 0 = .ok (.aload_n 2, 1) := by decide +kernel
theorem dL_send_1 : decode cL_send 1 = .ok (.iconst 0, 1) := by decide +kernel
theorem dL_send_2 : decode cL_send 2 = .ok (.aload_n 0, 1) := by decide +kernel
theorem dL_send_3 : decode cL_send 3 = .ok (.iload_n 1, 1) := by decide +kernel
theorem dL_send_4 : decode cL_send 4 = .ok (.invokevirtual 61, 3) := by decide +kernel
theorem dL_send_7 : decode cL_send 7 = .ok (.i2l, 1) := by decide +kernel
theorem dL_send_8 : decode cL_send 8 = .ok (.lastore, 1) := by decide +kernel
theorem dL_send_9 : decode cL_send 9 = .ok (.goto 9, 3) := by decide +kernel
theorem dL_send_12 : decode cL_send 12 = .ok (.astore_n 3, 1) := by decide +kernel
theorem dL_send_13 : decode cL_send 13 = .ok (.iconst 1, 1) := by decide +kernel
theorem dL_send_14 : decode cL_send 14 = .ok (.ireturn, 1) := by decide +kernel
theorem dL_send_15 : decode cL_send 15 = .ok (.astore_n 3, 1) := by decide +kernel
theorem dL_send_16 : decode cL_send 16 = .ok (.iconst 2, 1) := by decide +kernel
theorem dL_send_17 : decode cL_send 17 = .ok (.ireturn, 1) := by decide +kernel
theorem dL_send_18 : decode cL_send 18 = .ok (.iconst 0, 1) := by decide +kernel
theorem dL_send_19 : decode cL_send 19 = .ok (.ireturn, 1) := by decide +kernel
theorem dL_pass_0 : decode cL_pass 0 = .ok (.aload_n 2, 1) := by decide +kernel
theorem dL_pass_1 : decode cL_pass 1 = .ok (.iconst 0, 1) := by decide +kernel
theorem dL_pass_2 : decode cL_pass 2 = .ok (.aload_n 0, 1) := by decide +kernel
theorem dL_pass_3 : decode cL_pass 3 = .ok (.iload_n 1, 1) := by decide +kernel
theorem dL_pass_4 : decode cL_pass 4 = .ok (.invokevirtual 64, 3) := by decide +kernel
theorem dL_pass_7 : decode cL_pass 7 = .ok (.i2l, 1) := by decide +kernel
theorem dL_pass_8 : decode cL_pass 8 = .ok (.lastore, 1) := by decide +kernel
theorem dL_pass_9 : decode cL_pass 9 = .ok (.goto 9, 3) := by decide +kernel
theorem dL_pass_12 : decode cL_pass 12 = .ok (.astore_n 3, 1) := by decide +kernel
theorem dL_pass_13 : decode cL_pass 13 = .ok (.iconst 1, 1) := by decide +kernel
theorem dL_pass_14 : decode cL_pass 14 = .ok (.ireturn, 1) := by decide +kernel
theorem dL_pass_15 : decode cL_pass 15 = .ok (.astore_n 3, 1) := by decide +kernel
theorem dL_pass_16 : decode cL_pass 16 = .ok (.iconst 2, 1) := by decide +kernel
theorem dL_pass_17 : decode cL_pass 17 = .ok (.ireturn, 1) := by decide +kernel
theorem dL_pass_18 : decode cL_pass 18 = .ok (.iconst 0, 1) := by decide +kernel
theorem dL_pass_19 : decode cL_pass 19 = .ok (.ireturn, 1) := by decide +kernel
theorem dL_until_0 : decode cL_until 0 = .ok (.aload_n 2, 1) := by decide +kernel
theorem dL_until_1 : decode cL_until 1 = .ok (.iconst 0, 1) := by decide +kernel
theorem dL_until_2 : decode cL_until 2 = .ok (.aload_n 0, 1) := by decide +kernel
theorem dL_until_3 : decode cL_until 3 = .ok (.iload_n 1, 1) := by decide +kernel
theorem dL_until_4 : decode cL_until 4 = .ok (.invokevirtual 67, 3) := by decide +kernel
theorem dL_until_7 : decode cL_until 7 = .ok (.i2l, 1) := by decide +kernel
theorem dL_until_8 : decode cL_until 8 = .ok (.lastore, 1) := by decide +kernel
theorem dL_until_9 : decode cL_until 9 = .ok (.goto 9, 3) := by decide +kernel
theorem dL_until_12 : decode cL_until 12 = .ok (.astore_n 3, 1) := by decide +kernel
theorem dL_until_13 : decode cL_until 13 = .ok (.iconst 1, 1) := by decide +kernel
theorem dL_until_14 : decode cL_until 14 = .ok (.ireturn, 1) := by decide +kernel
theorem dL_until_15 : decode cL_until 15 = .ok (.astore_n 3, 1) := by decide +kernel
theorem dL_until_16 : decode cL_until 16 = .ok (.iconst 2, 1) := by decide +kernel
theorem dL_until_17 : decode cL_until 17 = .ok (.ireturn, 1) := by decide +kernel
theorem dL_until_18 : decode cL_until 18 = .ok (.iconst 0, 1) := by decide +kernel
theorem dL_until_19 : decode cL_until 19 = .ok (.ireturn, 1) := by decide +kernel
theorem dL_ofGroup_0 : decode cL_ofGroup 0 = .ok (.aload_n 3, 1) := by decide +kernel
theorem dL_ofGroup_1 : decode cL_ofGroup 1 = .ok (.iconst 0, 1) := by decide +kernel
theorem dL_ofGroup_2 : decode cL_ofGroup 2 = .ok (.aload_n 0, 1) := by decide +kernel
theorem dL_ofGroup_3 : decode cL_ofGroup 3 = .ok (.iload_n 1, 1) := by decide +kernel
theorem dL_ofGroup_4 : decode cL_ofGroup 4 = .ok (.iload_n 2, 1) := by decide +kernel
theorem dL_ofGroup_5 : decode cL_ofGroup 5 = .ok (.invokevirtual 70, 3) := by decide +kernel
theorem dL_ofGroup_8 : decode cL_ofGroup 8 = .ok (.i2l, 1) := by decide +kernel
theorem dL_ofGroup_9 : decode cL_ofGroup 9 = .ok (.lastore, 1) := by decide +kernel
theorem dL_ofGroup_10 : decode cL_ofGroup 10 = .ok (.goto 11, 3) := by decide +kernel
theorem dL_ofGroup_13 : decode cL_ofGroup 13 = .ok (.astore 4, 2) := by decide +kernel
theorem dL_ofGroup_15 : decode cL_ofGroup 15 = .ok (.iconst 1, 1) := by decide +kernel
theorem dL_ofGroup_16 : decode cL_ofGroup 16 = .ok (.ireturn, 1) := by decide +kernel
theorem dL_ofGroup_17 : decode cL_ofGroup 17 = .ok (.astore 4, 2) := by decide +kernel
theorem dL_ofGroup_19 : decode cL_ofGroup 19 = .ok (.iconst 2, 1) := by decide +kernel
theorem dL_ofGroup_20 : decode cL_ofGroup 20 = .ok (.ireturn, 1) := by decide +kernel
theorem dL_ofGroup_21 : decode cL_ofGroup 21 = .ok (.iconst 0, 1) := by decide +kernel
theorem dL_ofGroup_22 : decode cL_ofGroup 22 = .ok (.ireturn, 1) := by decide +kernel
theorem dL_heard_0 : decode cL_heard 0 = .ok (.aload 4, 2) := by decide +kernel
theorem dL_heard_2 : decode cL_heard 2 = .ok (.iconst 0, 1) := by decide +kernel
theorem dL_heard_3 : decode cL_heard 3 = .ok (.aload_n 0, 1) := by decide +kernel
theorem dL_heard_4 : decode cL_heard 4 = .ok (.iload_n 1, 1) := by decide +kernel
theorem dL_heard_5 : decode cL_heard 5 = .ok (.iload_n 2, 1) := by decide +kernel
theorem dL_heard_6 : decode cL_heard 6 = .ok (.iload_n 3, 1) := by decide +kernel
theorem dL_heard_7 : decode cL_heard 7 = .ok (.invokevirtual 73, 3) := by decide +kernel
theorem dL_heard_10 : decode cL_heard 10 = .ok (.i2l, 1) := by decide +kernel
theorem dL_heard_11 : decode cL_heard 11 = .ok (.lastore, 1) := by decide +kernel
theorem dL_heard_12 : decode cL_heard 12 = .ok (.goto 11, 3) := by decide +kernel
theorem dL_heard_15 : decode cL_heard 15 = .ok (.astore 5, 2) := by decide +kernel
theorem dL_heard_17 : decode cL_heard 17 = .ok (.iconst 1, 1) := by decide +kernel
theorem dL_heard_18 : decode cL_heard 18 = .ok (.ireturn, 1) := by decide +kernel
theorem dL_heard_19 : decode cL_heard 19 = .ok (.astore 5, 2) := by decide +kernel
theorem dL_heard_21 : decode cL_heard 21 = .ok (.iconst 2, 1) := by decide +kernel
theorem dL_heard_22 : decode cL_heard 22 = .ok (.ireturn, 1) := by decide +kernel
theorem dL_heard_23 : decode cL_heard 23 = .ok (.iconst 0, 1) := by decide +kernel
theorem dL_heard_24 : decode cL_heard 24 = .ok (.ireturn, 1) := by decide +kernel
theorem dL_ofWarning_0 : decode cL_ofWarning 0 = .ok (.aload_n 3, 1) := by decide +kernel
theorem dL_ofWarning_1 : decode cL_ofWarning 1 = .ok (.iconst 0, 1) := by decide +kernel
theorem dL_ofWarning_2 : decode cL_ofWarning 2 = .ok (.aload_n 0, 1) := by decide +kernel
theorem dL_ofWarning_3 : decode cL_ofWarning 3 = .ok (.iload_n 1, 1) := by decide +kernel
theorem dL_ofWarning_4 : decode cL_ofWarning 4 = .ok (.iload_n 2, 1) := by decide +kernel
theorem dL_ofWarning_5 : decode cL_ofWarning 5 = .ok (.invokevirtual 76, 3) := by decide +kernel
theorem dL_ofWarning_8 : decode cL_ofWarning 8 = .ok (.i2l, 1) := by decide +kernel
theorem dL_ofWarning_9 : decode cL_ofWarning 9 = .ok (.lastore, 1) := by decide +kernel
theorem dL_ofWarning_10 : decode cL_ofWarning 10 = .ok (.goto 11, 3) := by decide +kernel
theorem dL_ofWarning_13 : decode cL_ofWarning 13 = .ok (.astore 4, 2) := by decide +kernel
theorem dL_ofWarning_15 : decode cL_ofWarning 15 = .ok (.iconst 1, 1) := by decide +kernel
theorem dL_ofWarning_16 : decode cL_ofWarning 16 = .ok (.ireturn, 1) := by decide +kernel
theorem dL_ofWarning_17 : decode cL_ofWarning 17 = .ok (.astore 4, 2) := by decide +kernel
theorem dL_ofWarning_19 : decode cL_ofWarning 19 = .ok (.iconst 2, 1) := by decide +kernel
theorem dL_ofWarning_20 : decode cL_ofWarning 20 = .ok (.ireturn, 1) := by decide +kernel
theorem dL_ofWarning_21 : decode cL_ofWarning 21 = .ok (.iconst 0, 1) := by decide +kernel
theorem dL_ofWarning_22 : decode cL_ofWarning 22 = .ok (.ireturn, 1) := by decide +kernel
theorem dL_inForce_0 : decode cL_inForce 0 = .ok (.aload_n 2, 1) := by decide +kernel
theorem dL_inForce_1 : decode cL_inForce 1 = .ok (.iconst 0, 1) := by decide +kernel
theorem dL_inForce_2 : decode cL_inForce 2 = .ok (.aload_n 0, 1) := by decide +kernel
theorem dL_inForce_3 : decode cL_inForce 3 = .ok (.iload_n 1, 1) := by decide +kernel
theorem dL_inForce_4 : decode cL_inForce 4 = .ok (.invokevirtual 79, 3) := by decide +kernel
theorem dL_inForce_7 : decode cL_inForce 7 = .ok (.i2l, 1) := by decide +kernel
theorem dL_inForce_8 : decode cL_inForce 8 = .ok (.lastore, 1) := by decide +kernel
theorem dL_inForce_9 : decode cL_inForce 9 = .ok (.goto 6, 3) := by decide +kernel
theorem dL_inForce_12 : decode cL_inForce 12 = .ok (.astore_n 3, 1) := by decide +kernel
theorem dL_inForce_13 : decode cL_inForce 13 = .ok (.iconst 1, 1) := by decide +kernel
theorem dL_inForce_14 : decode cL_inForce 14 = .ok (.ireturn, 1) := by decide +kernel
theorem dL_inForce_15 : decode cL_inForce 15 = .ok (.iconst 0, 1) := by decide +kernel
theorem dL_inForce_16 : decode cL_inForce 16 = .ok (.ireturn, 1) := by decide +kernel
theorem dL_roomIn_0 : decode cL_roomIn 0 = .ok (.aload_n 2, 1) := by decide +kernel
theorem dL_roomIn_1 : decode cL_roomIn 1 = .ok (.iconst 0, 1) := by decide +kernel
theorem dL_roomIn_2 : decode cL_roomIn 2 = .ok (.aload_n 0, 1) := by decide +kernel
theorem dL_roomIn_3 : decode cL_roomIn 3 = .ok (.iload_n 1, 1) := by decide +kernel
theorem dL_roomIn_4 : decode cL_roomIn 4 = .ok (.invokevirtual 82, 3) := by decide +kernel
theorem dL_roomIn_7 : decode cL_roomIn 7 = .ok (.i2l, 1) := by decide +kernel
theorem dL_roomIn_8 : decode cL_roomIn 8 = .ok (.lastore, 1) := by decide +kernel
theorem dL_roomIn_9 : decode cL_roomIn 9 = .ok (.goto 6, 3) := by decide +kernel
theorem dL_roomIn_12 : decode cL_roomIn 12 = .ok (.astore_n 3, 1) := by decide +kernel
theorem dL_roomIn_13 : decode cL_roomIn 13 = .ok (.iconst 1, 1) := by decide +kernel
theorem dL_roomIn_14 : decode cL_roomIn 14 = .ok (.ireturn, 1) := by decide +kernel
theorem dL_roomIn_15 : decode cL_roomIn 15 = .ok (.iconst 0, 1) := by decide +kernel
theorem dL_roomIn_16 : decode cL_roomIn 16 = .ok (.ireturn, 1) := by decide +kernel
theorem dL_chain_0 : decode cL_chain 0 = .ok (.aload_n 3, 1) := by decide +kernel
theorem dL_chain_1 : decode cL_chain 1 = .ok (.iconst 0, 1) := by decide +kernel
theorem dL_chain_2 : decode cL_chain 2 = .ok (.aload_n 0, 1) := by decide +kernel
theorem dL_chain_3 : decode cL_chain 3 = .ok (.iload_n 1, 1) := by decide +kernel
theorem dL_chain_4 : decode cL_chain 4 = .ok (.iload_n 2, 1) := by decide +kernel
theorem dL_chain_5 : decode cL_chain 5 = .ok (.invokevirtual 85, 3) := by decide +kernel
theorem dL_chain_8 : decode cL_chain 8 = .ok (.i2l, 1) := by decide +kernel
theorem dL_chain_9 : decode cL_chain 9 = .ok (.lastore, 1) := by decide +kernel
theorem dL_chain_10 : decode cL_chain 10 = .ok (.goto 7, 3) := by decide +kernel
theorem dL_chain_13 : decode cL_chain 13 = .ok (.astore 4, 2) := by decide +kernel
theorem dL_chain_15 : decode cL_chain 15 = .ok (.iconst 1, 1) := by decide +kernel
theorem dL_chain_16 : decode cL_chain 16 = .ok (.ireturn, 1) := by decide +kernel
theorem dL_chain_17 : decode cL_chain 17 = .ok (.iconst 0, 1) := by decide +kernel
theorem dL_chain_18 : decode cL_chain 18 = .ok (.ireturn, 1) := by decide +kernel
theorem dL_many_0 : decode cL_many 0 = .ok (.aload_n 2, 1) := by decide +kernel
theorem dL_many_1 : decode cL_many 1 = .ok (.iconst 0, 1) := by decide +kernel
theorem dL_many_2 : decode cL_many 2 = .ok (.aload_n 0, 1) := by decide +kernel
theorem dL_many_3 : decode cL_many 3 = .ok (.iload_n 1, 1) := by decide +kernel
theorem dL_many_4 : decode cL_many 4 = .ok (.invokevirtual 88, 3) := by decide +kernel
theorem dL_many_7 : decode cL_many 7 = .ok (.i2l, 1) := by decide +kernel
theorem dL_many_8 : decode cL_many 8 = .ok (.lastore, 1) := by decide +kernel
theorem dL_many_9 : decode cL_many 9 = .ok (.goto 6, 3) := by decide +kernel
theorem dL_many_12 : decode cL_many 12 = .ok (.astore_n 3, 1) := by decide +kernel
theorem dL_many_13 : decode cL_many 13 = .ok (.iconst 1, 1) := by decide +kernel
theorem dL_many_14 : decode cL_many 14 = .ok (.ireturn, 1) := by decide +kernel
theorem dL_many_15 : decode cL_many 15 = .ok (.iconst 0, 1) := by decide +kernel
theorem dL_many_16 : decode cL_many 16 = .ok (.ireturn, 1) := by decide +kernel
theorem dL_safeIn_0 : decode cL_safeIn 0 = .ok (.aload_n 3, 1) := by decide +kernel
theorem dL_safeIn_1 : decode cL_safeIn 1 = .ok (.iconst 0, 1) := by decide +kernel
theorem dL_safeIn_2 : decode cL_safeIn 2 = .ok (.aload_n 0, 1) := by decide +kernel
theorem dL_safeIn_3 : decode cL_safeIn 3 = .ok (.iload_n 1, 1) := by decide +kernel
theorem dL_safeIn_4 : decode cL_safeIn 4 = .ok (.iload_n 2, 1) := by decide +kernel
theorem dL_safeIn_5 : decode cL_safeIn 5 = .ok (.invokevirtual 95, 3) := by decide +kernel
theorem dL_safeIn_8 : decode cL_safeIn 8 = .ok (.i2l, 1) := by decide +kernel
theorem dL_safeIn_9 : decode cL_safeIn 9 = .ok (.lastore, 1) := by decide +kernel
theorem dL_safeIn_10 : decode cL_safeIn 10 = .ok (.goto 11, 3) := by decide +kernel
theorem dL_safeIn_13 : decode cL_safeIn 13 = .ok (.astore 4, 2) := by decide +kernel
theorem dL_safeIn_15 : decode cL_safeIn 15 = .ok (.iconst 1, 1) := by decide +kernel
theorem dL_safeIn_16 : decode cL_safeIn 16 = .ok (.ireturn, 1) := by decide +kernel
theorem dL_safeIn_17 : decode cL_safeIn 17 = .ok (.astore 4, 2) := by decide +kernel
theorem dL_safeIn_19 : decode cL_safeIn 19 = .ok (.iconst 2, 1) := by decide +kernel
theorem dL_safeIn_20 : decode cL_safeIn 20 = .ok (.ireturn, 1) := by decide +kernel
theorem dL_safeIn_21 : decode cL_safeIn 21 = .ok (.iconst 0, 1) := by decide +kernel
theorem dL_safeIn_22 : decode cL_safeIn 22 = .ok (.ireturn, 1) := by decide +kernel
theorem dL_sirenWould_0 : decode cL_sirenWould 0 = .ok (.aload 4, 2) := by decide +kernel
theorem dL_sirenWould_2 : decode cL_sirenWould 2 = .ok (.iconst 0, 1) := by decide +kernel
theorem dL_sirenWould_3 : decode cL_sirenWould 3 = .ok (.aload_n 0, 1) := by decide +kernel
theorem dL_sirenWould_4 : decode cL_sirenWould 4 = .ok (.iload_n 1, 1) := by decide +kernel
theorem dL_sirenWould_5 : decode cL_sirenWould 5 = .ok (.iload_n 2, 1) := by decide +kernel
theorem dL_sirenWould_6 : decode cL_sirenWould 6 = .ok (.iload_n 3, 1) := by decide +kernel
theorem dL_sirenWould_7 : decode cL_sirenWould 7 = .ok (.invokevirtual 98, 3) := by decide +kernel
theorem dL_sirenWould_10 : decode cL_sirenWould 10 = .ok (.i2l, 1) := by decide +kernel
theorem dL_sirenWould_11 : decode cL_sirenWould 11 = .ok (.lastore, 1) := by decide +kernel
theorem dL_sirenWould_12 : decode cL_sirenWould 12 = .ok (.goto 11, 3) := by decide +kernel
theorem dL_sirenWould_15 : decode cL_sirenWould 15 = .ok (.astore 5, 2) := by decide +kernel
theorem dL_sirenWould_17 : decode cL_sirenWould 17 = .ok (.iconst 1, 1) := by decide +kernel
theorem dL_sirenWould_18 : decode cL_sirenWould 18 = .ok (.ireturn, 1) := by decide +kernel
theorem dL_sirenWould_19 : decode cL_sirenWould 19 = .ok (.astore 5, 2) := by decide +kernel
theorem dL_sirenWould_21 : decode cL_sirenWould 21 = .ok (.iconst 2, 1) := by decide +kernel
theorem dL_sirenWould_22 : decode cL_sirenWould 22 = .ok (.ireturn, 1) := by decide +kernel
theorem dL_sirenWould_23 : decode cL_sirenWould 23 = .ok (.iconst 0, 1) := by decide +kernel
theorem dL_sirenWould_24 : decode cL_sirenWould 24 = .ok (.ireturn, 1) := by decide +kernel
/-! the wrappers on a fresh object -/
theorem wq_lk {args : Array Value} {s : State} (hts : ∀ w ∈ ww_tb, w.before args s = true) : ∀ k : Nat, (k = 13 ∨ k = 15 ∨ k = 17) → (Cond.classLink RL k (vm_xn (wq_ct k))).before args s = true := by
  intro k hk
  rcases hk with rfl | rfl | rfl
  · exact hts _ u_315
  · exact hts _ u_316
  · exact hts _ u_317
def hc_group (x : Nat) : Int32 := match x with | 0 => 0 | 1 => 1 | 2 => 2 | 3 => 3 | _ => 9
theorem hp_group (c p t d r : Int32) : (pf_X5_group [.inr (0, 0, 0), .inl (.int c), .inl (.int p), .inl (.int t), .inl (.int d), .inl (.int r)]).1 = 0 ∨ (pf_X5_group [.inr (0, 0, 0), .inl (.int c), .inl (.int p), .inl (.int t), .inl (.int d), .inl (.int r)]).1 = 1 ∨ (pf_X5_group [.inr (0, 0, 0), .inl (.int c), .inl (.int p), .inl (.int t), .inl (.int d), .inl (.int r)]).1 = 2 ∨ (pf_X5_group [.inr (0, 0, 0), .inl (.int c), .inl (.int p), .inl (.int t), .inl (.int d), .inl (.int r)]).1 = 3 := by
  unfold pf_X5_group
  try dsimp only
  repeat' split
  all_goals first | exact Or.inl rfl | exact Or.inr (Or.inl rfl) | exact Or.inr (Or.inr (Or.inl rfl)) | exact Or.inr (Or.inr (Or.inr (rfl)))
set_option maxHeartbeats 1000000 in
theorem x_L_group (c p t d r : Int32) (hd : d = 0 ∨ d = 1) (hr9 : r = 0 ∨ r = 1) : wq_Wr yL_group cL_group 8 [(0, 16, 19, 13), (0, 16, 23, 15), (0, 16, 27, 17)] 8 [.inl (.int c), .inl (.int p), .inl (.int t), .inl (.int d), .inl (.int r)] (hc_group (pf_X5_group [.inr (0, 0, 0), .inl (.int c), .inl (.int p), .inl (.int t), .inl (.int d), .inl (.int r)]).1) (pf_X5_group [.inr (0, 0, 0), .inl (.int c), .inl (.int p), .inl (.int t), .inl (.int d), .inl (.int r)]).2 := by
  intro ll D tys ad sz σ oo cO f0 hstk hty hfr ho
  refine vx_ofWH (cc := cL_group) (maxL := 8) (ret := some .int) (hh := [(0, 16, 19, 13), (0, 16, 23, 15), (0, 16, 27, 17)]) (by decide +kernel) rfl ?_
  intro pp ee s mm args below meth cd s₁ B hml hv
  obtain ⟨rfl, hsz, hP, hK, hD, hnw, hXF, hN, hKo, hO⟩ := hv
  subst hsz
  have hx := B.exec
  have hb := B.bytes
  have hr := B.returns
  have hlocks := B.notSynchronized
  have hts0 : ∀ w ∈ (.codeWith yL_group cL_group 8 (some .int) [(0, 16, 19, 13), (0, 16, 23, 15), (0, 16, 27, 17)] :: ww_tb : List Cond), w.before ([Value.ref (ad (0, 0, 0)), Value.int c, Value.int p, Value.int t, Value.int d, Value.int r, Value.ref oo] : List Value).toArray s = true := atoms_spec (ws := .codeWith yL_group cL_group 8 (some .int) [(0, 16, 19, 13), (0, 16, 23, 15), (0, 16, 27, 17)] :: ww_tb) B.pre
  have hts : ∀ w ∈ ww_tb, w.before ([Value.ref (ad (0, 0, 0)), Value.int c, Value.int p, Value.int t, Value.int d, Value.int r, Value.ref oo] : List Value).toArray s = true := fun w h => hts0 w (List.mem_cons_of_mem _ h)
  have hown : s.vm.findClass RL = some mm.cls := findClass_of_methodNamed B.named
  have hT : cd.exceptionTable.toList = [] ++ ([(0, 16, 19, 13), (0, 16, 23, 15), (0, 16, 27, 17)] : List (Nat × Nat × Nat × Nat)).map wq_en := vx_table (x := yL_group) B (hts0 _ List.mem_cons_self)
  have hl := lv_entry ([Value.ref (ad (0, 0, 0)), Value.int c, Value.int p, Value.int t, Value.int d, Value.int r, Value.ref oo] : List Value) (n := 8) (show (7 : Nat) ≤ 8 by decide)
  rw [lg_entry_eq]
  refine lv_aload hx hb dL_group_0 (hl.2.2 (6, .ref oo) (by repeat (first | exact List.mem_cons_self | apply List.mem_cons_of_mem))) ?_
  refine lv_iconst hx hb dL_group_2 rfl ?_
  refine lv_aload_n hx hb dL_group_3 rfl (hl.2.2 (0, .ref (ad (0, 0, 0))) (by repeat (first | exact List.mem_cons_self | apply List.mem_cons_of_mem))) ?_
  refine lv_iload_n hx hb dL_group_4 rfl (hl.2.2 (1, .int c) (by repeat (first | exact List.mem_cons_self | apply List.mem_cons_of_mem))) ?_
  refine lv_iload_n hx hb dL_group_5 rfl (hl.2.2 (2, .int p) (by repeat (first | exact List.mem_cons_self | apply List.mem_cons_of_mem))) ?_
  refine lv_iload_n hx hb dL_group_6 rfl (hl.2.2 (3, .int t) (by repeat (first | exact List.mem_cons_self | apply List.mem_cons_of_mem))) ?_
  refine lv_iload hx hb dL_group_7 (hl.2.2 (4, .int d) (by repeat (first | exact List.mem_cons_self | apply List.mem_cons_of_mem))) ?_
  refine lv_iload hx hb dL_group_9 (hl.2.2 (5, .int r) (by repeat (first | exact List.mem_cons_self | apply List.mem_cons_of_mem))) ?_
  refine wq_call (as := [.inl (.int c), .inl (.int p), .inl (.int t), .inl (.int d), .inl (.int r)]) (pc := 11) hx hb hml hown hts hstk hty hK hD hnw hXF hP hO ho p_X5_group dL_group_11 u_318 u_64 u_319 u_320 u_321 (show yX5_group.cls = RX5 ∧ yX5_group.cls ≠ "java/lang/invoke/MethodHandle" ∧ yX5_group.cls ≠ "java/lang/invoke/VarHandle" ∧ (parseMethodDescriptor yX5_group.desc).map (fun d => d.parameters.length) = some 5 by decide +kernel) ⟨Nat.le_refl _, by decide⟩ ⟨Nat.le_refl _, Nat.le_refl _⟩ (fun v hv => by revert v; exact List.forall_mem_cons.mpr ⟨trivial, List.forall_mem_cons.mpr ⟨trivial, List.forall_mem_cons.mpr ⟨trivial, List.forall_mem_cons.mpr ⟨trivial, List.forall_mem_cons.mpr ⟨trivial, fun _ h => nomatch h⟩⟩⟩⟩⟩) ⟨hfr, hd, hr9⟩ hl.1 (fun H1 locs1 h0 hS1 hO1 => ?_) (fun H1 locs1 qa ce h0 hS1 hO1 hq hcv hcls => ?_)
  · refine lv_i2l hx hb dL_group_14 rfl ?_
    exact wq_fin hx hb hr hlocks dL_group_15 dL_group_16 (by decide) dL_group_31 dL_group_32 hKo rfl (by rw [h0]; rfl) hS1 hO1
  · rcases hp_group c p t d r with z | z | z | z
    · exact absurd z h0
    · rw [z] at hcls
      refine wq_catch (pc := 11) (x := 1) (hpc := 19) hown (wq_lk hts) hN (Or.inl rfl) hq hcv hcls ?_ [(0, 16, 19, 13), (0, 16, 23, 15), (0, 16, 27, 17)] [] hT (fun _ h => nomatch h) (by decide) rfl
      refine lv_astore hx hb dL_group_19 hl (by decide) rfl (fun ls' hl' => ?_)
      exact wq_end (f := f0) hx hb hr hlocks dL_group_21 rfl dL_group_22 (by rw [z]; rfl) (fun z2 => absurd (by rw [z] at z2; exact z2) (show ¬ (1 : Int32) = 0 by decide)) hS1 hO1
    · rw [z] at hcls
      refine wq_catch (pc := 11) (x := 2) (hpc := 23) hown (wq_lk hts) hN (Or.inr (Or.inl rfl)) hq hcv hcls ?_ [(0, 16, 19, 13), (0, 16, 23, 15), (0, 16, 27, 17)] [] hT (fun _ h => nomatch h) (by decide) rfl
      refine lv_astore hx hb dL_group_23 hl (by decide) rfl (fun ls' hl' => ?_)
      exact wq_end (f := f0) hx hb hr hlocks dL_group_25 rfl dL_group_26 (by rw [z]; rfl) (fun z2 => absurd (by rw [z] at z2; exact z2) (show ¬ (2 : Int32) = 0 by decide)) hS1 hO1
    · rw [z] at hcls
      refine wq_catch (pc := 11) (x := 3) (hpc := 27) hown (wq_lk hts) hN (Or.inr (Or.inr rfl)) hq hcv hcls ?_ [(0, 16, 19, 13), (0, 16, 23, 15), (0, 16, 27, 17)] [] hT (fun _ h => nomatch h) (by decide) rfl
      refine lv_astore hx hb dL_group_27 hl (by decide) rfl (fun ls' hl' => ?_)
      exact wq_end (f := f0) hx hb hr hlocks dL_group_29 rfl dL_group_30 (by rw [z]; rfl) (fun z2 => absurd (by rw [z] at z2; exact z2) (show ¬ (3 : Int32) = 0 by decide)) hS1 hO1

def hc_trust (x : Nat) : Int32 := match x with | 0 => 0 | 1 => 1 | 2 => 2 | _ => 9
theorem hp_trust (c d : Int32) : (pf_X5_trust [.inr (0, 0, 0), .inl (.int c), .inl (.int d)]).1 = 0 ∨ (pf_X5_trust [.inr (0, 0, 0), .inl (.int c), .inl (.int d)]).1 = 1 ∨ (pf_X5_trust [.inr (0, 0, 0), .inl (.int c), .inl (.int d)]).1 = 2 := by
  unfold pf_X5_trust
  try dsimp only
  repeat' split
  all_goals first | exact Or.inl rfl | exact Or.inr (Or.inl rfl) | exact Or.inr (Or.inr (rfl))
set_option maxHeartbeats 1000000 in
theorem x_L_trust (c d : Int32) : wq_Wr yL_trust cL_trust 5 [(0, 10, 13, 13), (0, 10, 17, 15)] 8 [.inl (.int c), .inl (.int d)] (hc_trust (pf_X5_trust [.inr (0, 0, 0), .inl (.int c), .inl (.int d)]).1) (pf_X5_trust [.inr (0, 0, 0), .inl (.int c), .inl (.int d)]).2 := by
  intro ll D tys ad sz σ oo cO f0 hstk hty hfr ho
  refine vx_ofWH (cc := cL_trust) (maxL := 5) (ret := some .int) (hh := [(0, 10, 13, 13), (0, 10, 17, 15)]) (by decide +kernel) rfl ?_
  intro pp ee s mm args below meth cd s₁ B hml hv
  obtain ⟨rfl, hsz, hP, hK, hD, hnw, hXF, hN, hKo, hO⟩ := hv
  subst hsz
  have hx := B.exec
  have hb := B.bytes
  have hr := B.returns
  have hlocks := B.notSynchronized
  have hts0 : ∀ w ∈ (.codeWith yL_trust cL_trust 5 (some .int) [(0, 10, 13, 13), (0, 10, 17, 15)] :: ww_tb : List Cond), w.before ([Value.ref (ad (0, 0, 0)), Value.int c, Value.int d, Value.ref oo] : List Value).toArray s = true := atoms_spec (ws := .codeWith yL_trust cL_trust 5 (some .int) [(0, 10, 13, 13), (0, 10, 17, 15)] :: ww_tb) B.pre
  have hts : ∀ w ∈ ww_tb, w.before ([Value.ref (ad (0, 0, 0)), Value.int c, Value.int d, Value.ref oo] : List Value).toArray s = true := fun w h => hts0 w (List.mem_cons_of_mem _ h)
  have hown : s.vm.findClass RL = some mm.cls := findClass_of_methodNamed B.named
  have hT : cd.exceptionTable.toList = [] ++ ([(0, 10, 13, 13), (0, 10, 17, 15)] : List (Nat × Nat × Nat × Nat)).map wq_en := vx_table (x := yL_trust) B (hts0 _ List.mem_cons_self)
  have hl := lv_entry ([Value.ref (ad (0, 0, 0)), Value.int c, Value.int d, Value.ref oo] : List Value) (n := 5) (show (4 : Nat) ≤ 5 by decide)
  rw [lg_entry_eq]
  refine lv_aload_n hx hb dL_trust_0 rfl (hl.2.2 (3, .ref oo) (by repeat (first | exact List.mem_cons_self | apply List.mem_cons_of_mem))) ?_
  refine lv_iconst hx hb dL_trust_1 rfl ?_
  refine lv_aload_n hx hb dL_trust_2 rfl (hl.2.2 (0, .ref (ad (0, 0, 0))) (by repeat (first | exact List.mem_cons_self | apply List.mem_cons_of_mem))) ?_
  refine lv_iload_n hx hb dL_trust_3 rfl (hl.2.2 (1, .int c) (by repeat (first | exact List.mem_cons_self | apply List.mem_cons_of_mem))) ?_
  refine lv_iload_n hx hb dL_trust_4 rfl (hl.2.2 (2, .int d) (by repeat (first | exact List.mem_cons_self | apply List.mem_cons_of_mem))) ?_
  refine wq_call (as := [.inl (.int c), .inl (.int d)]) (pc := 5) hx hb hml hown hts hstk hty hK hD hnw hXF hP hO ho p_X5_trust dL_trust_5 u_322 u_64 u_323 u_324 u_325 (show yX5_trust.cls = RX5 ∧ yX5_trust.cls ≠ "java/lang/invoke/MethodHandle" ∧ yX5_trust.cls ≠ "java/lang/invoke/VarHandle" ∧ (parseMethodDescriptor yX5_trust.desc).map (fun d => d.parameters.length) = some 2 by decide +kernel) ⟨Nat.le_refl _, by decide⟩ ⟨Nat.le_refl _, Nat.le_refl _⟩ (fun v hv => by revert v; exact List.forall_mem_cons.mpr ⟨trivial, List.forall_mem_cons.mpr ⟨trivial, fun _ h => nomatch h⟩⟩) hfr hl.1 (fun H1 locs1 h0 hS1 hO1 => ?_) (fun H1 locs1 qa ce h0 hS1 hO1 hq hcv hcls => ?_)
  · refine lv_i2l hx hb dL_trust_8 rfl ?_
    exact wq_fin hx hb hr hlocks dL_trust_9 dL_trust_10 (by decide) dL_trust_21 dL_trust_22 hKo rfl (by rw [h0]; rfl) hS1 hO1
  · rcases hp_trust c d with z | z | z
    · exact absurd z h0
    · rw [z] at hcls
      refine wq_catch (pc := 5) (x := 1) (hpc := 13) hown (wq_lk hts) hN (Or.inl rfl) hq hcv hcls ?_ [(0, 10, 13, 13), (0, 10, 17, 15)] [] hT (fun _ h => nomatch h) (by decide) rfl
      refine lv_astore hx hb dL_trust_13 hl (by decide) rfl (fun ls' hl' => ?_)
      exact wq_end (f := f0) hx hb hr hlocks dL_trust_15 rfl dL_trust_16 (by rw [z]; rfl) (fun z2 => absurd (by rw [z] at z2; exact z2) (show ¬ (1 : Int32) = 0 by decide)) hS1 hO1
    · rw [z] at hcls
      refine wq_catch (pc := 5) (x := 2) (hpc := 17) hown (wq_lk hts) hN (Or.inr (Or.inl rfl)) hq hcv hcls ?_ [(0, 10, 13, 13), (0, 10, 17, 15)] [] hT (fun _ h => nomatch h) (by decide) rfl
      refine lv_astore hx hb dL_trust_17 hl (by decide) rfl (fun ls' hl' => ?_)
      exact wq_end (f := f0) hx hb hr hlocks dL_trust_19 rfl dL_trust_20 (by rw [z]; rfl) (fun z2 => absurd (by rw [z] at z2; exact z2) (show ¬ (2 : Int32) = 0 by decide)) hS1 hO1

def hc_shelter (x : Nat) : Int32 := match x with | 0 => 0 | 1 => 1 | 2 => 2 | 3 => 3 | _ => 9
theorem hp_shelter (c r : Int32) : (pf_X5_shelter [.inr (0, 0, 0), .inl (.int c), .inl (.int r)]).1 = 0 ∨ (pf_X5_shelter [.inr (0, 0, 0), .inl (.int c), .inl (.int r)]).1 = 1 ∨ (pf_X5_shelter [.inr (0, 0, 0), .inl (.int c), .inl (.int r)]).1 = 2 ∨ (pf_X5_shelter [.inr (0, 0, 0), .inl (.int c), .inl (.int r)]).1 = 3 := by
  unfold pf_X5_shelter
  try dsimp only
  repeat' split
  all_goals first | exact Or.inl rfl | exact Or.inr (Or.inl rfl) | exact Or.inr (Or.inr (Or.inl rfl)) | exact Or.inr (Or.inr (Or.inr (rfl)))
set_option maxHeartbeats 1000000 in
theorem x_L_shelter (c r : Int32) : wq_Wr yL_shelter cL_shelter 5 [(0, 10, 13, 13), (0, 10, 17, 15), (0, 10, 21, 17)] 8 [.inl (.int c), .inl (.int r)] (hc_shelter (pf_X5_shelter [.inr (0, 0, 0), .inl (.int c), .inl (.int r)]).1) (pf_X5_shelter [.inr (0, 0, 0), .inl (.int c), .inl (.int r)]).2 := by
  intro ll D tys ad sz σ oo cO f0 hstk hty hfr ho
  refine vx_ofWH (cc := cL_shelter) (maxL := 5) (ret := some .int) (hh := [(0, 10, 13, 13), (0, 10, 17, 15), (0, 10, 21, 17)]) (by decide +kernel) rfl ?_
  intro pp ee s mm args below meth cd s₁ B hml hv
  obtain ⟨rfl, hsz, hP, hK, hD, hnw, hXF, hN, hKo, hO⟩ := hv
  subst hsz
  have hx := B.exec
  have hb := B.bytes
  have hr := B.returns
  have hlocks := B.notSynchronized
  have hts0 : ∀ w ∈ (.codeWith yL_shelter cL_shelter 5 (some .int) [(0, 10, 13, 13), (0, 10, 17, 15), (0, 10, 21, 17)] :: ww_tb : List Cond), w.before ([Value.ref (ad (0, 0, 0)), Value.int c, Value.int r, Value.ref oo] : List Value).toArray s = true := atoms_spec (ws := .codeWith yL_shelter cL_shelter 5 (some .int) [(0, 10, 13, 13), (0, 10, 17, 15), (0, 10, 21, 17)] :: ww_tb) B.pre
  have hts : ∀ w ∈ ww_tb, w.before ([Value.ref (ad (0, 0, 0)), Value.int c, Value.int r, Value.ref oo] : List Value).toArray s = true := fun w h => hts0 w (List.mem_cons_of_mem _ h)
  have hown : s.vm.findClass RL = some mm.cls := findClass_of_methodNamed B.named
  have hT : cd.exceptionTable.toList = [] ++ ([(0, 10, 13, 13), (0, 10, 17, 15), (0, 10, 21, 17)] : List (Nat × Nat × Nat × Nat)).map wq_en := vx_table (x := yL_shelter) B (hts0 _ List.mem_cons_self)
  have hl := lv_entry ([Value.ref (ad (0, 0, 0)), Value.int c, Value.int r, Value.ref oo] : List Value) (n := 5) (show (4 : Nat) ≤ 5 by decide)
  rw [lg_entry_eq]
  refine lv_aload_n hx hb dL_shelter_0 rfl (hl.2.2 (3, .ref oo) (by repeat (first | exact List.mem_cons_self | apply List.mem_cons_of_mem))) ?_
  refine lv_iconst hx hb dL_shelter_1 rfl ?_
  refine lv_aload_n hx hb dL_shelter_2 rfl (hl.2.2 (0, .ref (ad (0, 0, 0))) (by repeat (first | exact List.mem_cons_self | apply List.mem_cons_of_mem))) ?_
  refine lv_iload_n hx hb dL_shelter_3 rfl (hl.2.2 (1, .int c) (by repeat (first | exact List.mem_cons_self | apply List.mem_cons_of_mem))) ?_
  refine lv_iload_n hx hb dL_shelter_4 rfl (hl.2.2 (2, .int r) (by repeat (first | exact List.mem_cons_self | apply List.mem_cons_of_mem))) ?_
  refine wq_call (as := [.inl (.int c), .inl (.int r)]) (pc := 5) hx hb hml hown hts hstk hty hK hD hnw hXF hP hO ho p_X5_shelter dL_shelter_5 u_326 u_64 u_327 u_328 u_329 (show yX5_shelter.cls = RX5 ∧ yX5_shelter.cls ≠ "java/lang/invoke/MethodHandle" ∧ yX5_shelter.cls ≠ "java/lang/invoke/VarHandle" ∧ (parseMethodDescriptor yX5_shelter.desc).map (fun d => d.parameters.length) = some 2 by decide +kernel) ⟨Nat.le_refl _, by decide⟩ ⟨Nat.le_refl _, Nat.le_refl _⟩ (fun v hv => by revert v; exact List.forall_mem_cons.mpr ⟨trivial, List.forall_mem_cons.mpr ⟨trivial, fun _ h => nomatch h⟩⟩) hfr hl.1 (fun H1 locs1 h0 hS1 hO1 => ?_) (fun H1 locs1 qa ce h0 hS1 hO1 hq hcv hcls => ?_)
  · refine lv_i2l hx hb dL_shelter_8 rfl ?_
    exact wq_fin hx hb hr hlocks dL_shelter_9 dL_shelter_10 (by decide) dL_shelter_25 dL_shelter_26 hKo rfl (by rw [h0]; rfl) hS1 hO1
  · rcases hp_shelter c r with z | z | z | z
    · exact absurd z h0
    · rw [z] at hcls
      refine wq_catch (pc := 5) (x := 1) (hpc := 13) hown (wq_lk hts) hN (Or.inl rfl) hq hcv hcls ?_ [(0, 10, 13, 13), (0, 10, 17, 15), (0, 10, 21, 17)] [] hT (fun _ h => nomatch h) (by decide) rfl
      refine lv_astore hx hb dL_shelter_13 hl (by decide) rfl (fun ls' hl' => ?_)
      exact wq_end (f := f0) hx hb hr hlocks dL_shelter_15 rfl dL_shelter_16 (by rw [z]; rfl) (fun z2 => absurd (by rw [z] at z2; exact z2) (show ¬ (1 : Int32) = 0 by decide)) hS1 hO1
    · rw [z] at hcls
      refine wq_catch (pc := 5) (x := 2) (hpc := 17) hown (wq_lk hts) hN (Or.inr (Or.inl rfl)) hq hcv hcls ?_ [(0, 10, 13, 13), (0, 10, 17, 15), (0, 10, 21, 17)] [] hT (fun _ h => nomatch h) (by decide) rfl
      refine lv_astore hx hb dL_shelter_17 hl (by decide) rfl (fun ls' hl' => ?_)
      exact wq_end (f := f0) hx hb hr hlocks dL_shelter_19 rfl dL_shelter_20 (by rw [z]; rfl) (fun z2 => absurd (by rw [z] at z2; exact z2) (show ¬ (2 : Int32) = 0 by decide)) hS1 hO1
    · rw [z] at hcls
      refine wq_catch (pc := 5) (x := 3) (hpc := 21) hown (wq_lk hts) hN (Or.inr (Or.inr rfl)) hq hcv hcls ?_ [(0, 10, 13, 13), (0, 10, 17, 15), (0, 10, 21, 17)] [] hT (fun _ h => nomatch h) (by decide) rfl
      refine lv_astore hx hb dL_shelter_21 hl (by decide) rfl (fun ls' hl' => ?_)
      exact wq_end (f := f0) hx hb hr hlocks dL_shelter_23 rfl dL_shelter_24 (by rw [z]; rfl) (fun z2 => absurd (by rw [z] at z2; exact z2) (show ¬ (3 : Int32) = 0 by decide)) hS1 hO1

def hc_siren (x : Nat) : Int32 := match x with | 0 => 0 | 1 => 1 | 2 => 2 | 3 => 3 | _ => 9
theorem hp_siren (c r : Int32) : (pf_X5_siren [.inr (0, 0, 0), .inl (.int c), .inl (.int r)]).1 = 0 ∨ (pf_X5_siren [.inr (0, 0, 0), .inl (.int c), .inl (.int r)]).1 = 1 ∨ (pf_X5_siren [.inr (0, 0, 0), .inl (.int c), .inl (.int r)]).1 = 2 ∨ (pf_X5_siren [.inr (0, 0, 0), .inl (.int c), .inl (.int r)]).1 = 3 := by
  unfold pf_X5_siren
  try dsimp only
  repeat' split
  all_goals first | exact Or.inl rfl | exact Or.inr (Or.inl rfl) | exact Or.inr (Or.inr (Or.inl rfl)) | exact Or.inr (Or.inr (Or.inr (rfl)))
set_option maxHeartbeats 1000000 in
theorem x_L_siren (c r : Int32) : wq_Wr yL_siren cL_siren 5 [(0, 10, 13, 13), (0, 10, 17, 15), (0, 10, 21, 17)] 8 [.inl (.int c), .inl (.int r)] (hc_siren (pf_X5_siren [.inr (0, 0, 0), .inl (.int c), .inl (.int r)]).1) (pf_X5_siren [.inr (0, 0, 0), .inl (.int c), .inl (.int r)]).2 := by
  intro ll D tys ad sz σ oo cO f0 hstk hty hfr ho
  refine vx_ofWH (cc := cL_siren) (maxL := 5) (ret := some .int) (hh := [(0, 10, 13, 13), (0, 10, 17, 15), (0, 10, 21, 17)]) (by decide +kernel) rfl ?_
  intro pp ee s mm args below meth cd s₁ B hml hv
  obtain ⟨rfl, hsz, hP, hK, hD, hnw, hXF, hN, hKo, hO⟩ := hv
  subst hsz
  have hx := B.exec
  have hb := B.bytes
  have hr := B.returns
  have hlocks := B.notSynchronized
  have hts0 : ∀ w ∈ (.codeWith yL_siren cL_siren 5 (some .int) [(0, 10, 13, 13), (0, 10, 17, 15), (0, 10, 21, 17)] :: ww_tb : List Cond), w.before ([Value.ref (ad (0, 0, 0)), Value.int c, Value.int r, Value.ref oo] : List Value).toArray s = true := atoms_spec (ws := .codeWith yL_siren cL_siren 5 (some .int) [(0, 10, 13, 13), (0, 10, 17, 15), (0, 10, 21, 17)] :: ww_tb) B.pre
  have hts : ∀ w ∈ ww_tb, w.before ([Value.ref (ad (0, 0, 0)), Value.int c, Value.int r, Value.ref oo] : List Value).toArray s = true := fun w h => hts0 w (List.mem_cons_of_mem _ h)
  have hown : s.vm.findClass RL = some mm.cls := findClass_of_methodNamed B.named
  have hT : cd.exceptionTable.toList = [] ++ ([(0, 10, 13, 13), (0, 10, 17, 15), (0, 10, 21, 17)] : List (Nat × Nat × Nat × Nat)).map wq_en := vx_table (x := yL_siren) B (hts0 _ List.mem_cons_self)
  have hl := lv_entry ([Value.ref (ad (0, 0, 0)), Value.int c, Value.int r, Value.ref oo] : List Value) (n := 5) (show (4 : Nat) ≤ 5 by decide)
  rw [lg_entry_eq]
  refine lv_aload_n hx hb dL_siren_0 rfl (hl.2.2 (3, .ref oo) (by repeat (first | exact List.mem_cons_self | apply List.mem_cons_of_mem))) ?_
  refine lv_iconst hx hb dL_siren_1 rfl ?_
  refine lv_aload_n hx hb dL_siren_2 rfl (hl.2.2 (0, .ref (ad (0, 0, 0))) (by repeat (first | exact List.mem_cons_self | apply List.mem_cons_of_mem))) ?_
  refine lv_iload_n hx hb dL_siren_3 rfl (hl.2.2 (1, .int c) (by repeat (first | exact List.mem_cons_self | apply List.mem_cons_of_mem))) ?_
  refine lv_iload_n hx hb dL_siren_4 rfl (hl.2.2 (2, .int r) (by repeat (first | exact List.mem_cons_self | apply List.mem_cons_of_mem))) ?_
  refine wq_call (as := [.inl (.int c), .inl (.int r)]) (pc := 5) hx hb hml hown hts hstk hty hK hD hnw hXF hP hO ho p_X5_siren dL_siren_5 u_330 u_64 u_331 u_332 u_333 (show yX5_siren.cls = RX5 ∧ yX5_siren.cls ≠ "java/lang/invoke/MethodHandle" ∧ yX5_siren.cls ≠ "java/lang/invoke/VarHandle" ∧ (parseMethodDescriptor yX5_siren.desc).map (fun d => d.parameters.length) = some 2 by decide +kernel) ⟨Nat.le_refl _, by decide⟩ ⟨Nat.le_refl _, Nat.le_refl _⟩ (fun v hv => by revert v; exact List.forall_mem_cons.mpr ⟨trivial, List.forall_mem_cons.mpr ⟨trivial, fun _ h => nomatch h⟩⟩) hfr hl.1 (fun H1 locs1 h0 hS1 hO1 => ?_) (fun H1 locs1 qa ce h0 hS1 hO1 hq hcv hcls => ?_)
  · refine lv_i2l hx hb dL_siren_8 rfl ?_
    exact wq_fin hx hb hr hlocks dL_siren_9 dL_siren_10 (by decide) dL_siren_25 dL_siren_26 hKo rfl (by rw [h0]; rfl) hS1 hO1
  · rcases hp_siren c r with z | z | z | z
    · exact absurd z h0
    · rw [z] at hcls
      refine wq_catch (pc := 5) (x := 1) (hpc := 13) hown (wq_lk hts) hN (Or.inl rfl) hq hcv hcls ?_ [(0, 10, 13, 13), (0, 10, 17, 15), (0, 10, 21, 17)] [] hT (fun _ h => nomatch h) (by decide) rfl
      refine lv_astore hx hb dL_siren_13 hl (by decide) rfl (fun ls' hl' => ?_)
      exact wq_end (f := f0) hx hb hr hlocks dL_siren_15 rfl dL_siren_16 (by rw [z]; rfl) (fun z2 => absurd (by rw [z] at z2; exact z2) (show ¬ (1 : Int32) = 0 by decide)) hS1 hO1
    · rw [z] at hcls
      refine wq_catch (pc := 5) (x := 2) (hpc := 17) hown (wq_lk hts) hN (Or.inr (Or.inl rfl)) hq hcv hcls ?_ [(0, 10, 13, 13), (0, 10, 17, 15), (0, 10, 21, 17)] [] hT (fun _ h => nomatch h) (by decide) rfl
      refine lv_astore hx hb dL_siren_17 hl (by decide) rfl (fun ls' hl' => ?_)
      exact wq_end (f := f0) hx hb hr hlocks dL_siren_19 rfl dL_siren_20 (by rw [z]; rfl) (fun z2 => absurd (by rw [z] at z2; exact z2) (show ¬ (2 : Int32) = 0 by decide)) hS1 hO1
    · rw [z] at hcls
      refine wq_catch (pc := 5) (x := 3) (hpc := 21) hown (wq_lk hts) hN (Or.inr (Or.inr rfl)) hq hcv hcls ?_ [(0, 10, 13, 13), (0, 10, 17, 15), (0, 10, 21, 17)] [] hT (fun _ h => nomatch h) (by decide) rfl
      refine lv_astore hx hb dL_siren_21 hl (by decide) rfl (fun ls' hl' => ?_)
      exact wq_end (f := f0) hx hb hr hlocks dL_siren_23 rfl dL_siren_24 (by rw [z]; rfl) (fun z2 => absurd (by rw [z] at z2; exact z2) (show ¬ (3 : Int32) = 0 by decide)) hS1 hO1

def hc_mast (x : Nat) : Int32 := match x with | 0 => 0 | 1 => 1 | 2 => 2 | 3 => 3 | _ => 9
theorem hp_mast (c r : Int32) : (pf_X5_mast [.inr (0, 0, 0), .inl (.int c), .inl (.int r)]).1 = 0 ∨ (pf_X5_mast [.inr (0, 0, 0), .inl (.int c), .inl (.int r)]).1 = 1 ∨ (pf_X5_mast [.inr (0, 0, 0), .inl (.int c), .inl (.int r)]).1 = 2 ∨ (pf_X5_mast [.inr (0, 0, 0), .inl (.int c), .inl (.int r)]).1 = 3 := by
  unfold pf_X5_mast
  try dsimp only
  repeat' split
  all_goals first | exact Or.inl rfl | exact Or.inr (Or.inl rfl) | exact Or.inr (Or.inr (Or.inl rfl)) | exact Or.inr (Or.inr (Or.inr (rfl)))
set_option maxHeartbeats 1000000 in
theorem x_L_mast (c r : Int32) : wq_Wr yL_mast cL_mast 5 [(0, 10, 13, 13), (0, 10, 17, 15), (0, 10, 21, 17)] 8 [.inl (.int c), .inl (.int r)] (hc_mast (pf_X5_mast [.inr (0, 0, 0), .inl (.int c), .inl (.int r)]).1) (pf_X5_mast [.inr (0, 0, 0), .inl (.int c), .inl (.int r)]).2 := by
  intro ll D tys ad sz σ oo cO f0 hstk hty hfr ho
  refine vx_ofWH (cc := cL_mast) (maxL := 5) (ret := some .int) (hh := [(0, 10, 13, 13), (0, 10, 17, 15), (0, 10, 21, 17)]) (by decide +kernel) rfl ?_
  intro pp ee s mm args below meth cd s₁ B hml hv
  obtain ⟨rfl, hsz, hP, hK, hD, hnw, hXF, hN, hKo, hO⟩ := hv
  subst hsz
  have hx := B.exec
  have hb := B.bytes
  have hr := B.returns
  have hlocks := B.notSynchronized
  have hts0 : ∀ w ∈ (.codeWith yL_mast cL_mast 5 (some .int) [(0, 10, 13, 13), (0, 10, 17, 15), (0, 10, 21, 17)] :: ww_tb : List Cond), w.before ([Value.ref (ad (0, 0, 0)), Value.int c, Value.int r, Value.ref oo] : List Value).toArray s = true := atoms_spec (ws := .codeWith yL_mast cL_mast 5 (some .int) [(0, 10, 13, 13), (0, 10, 17, 15), (0, 10, 21, 17)] :: ww_tb) B.pre
  have hts : ∀ w ∈ ww_tb, w.before ([Value.ref (ad (0, 0, 0)), Value.int c, Value.int r, Value.ref oo] : List Value).toArray s = true := fun w h => hts0 w (List.mem_cons_of_mem _ h)
  have hown : s.vm.findClass RL = some mm.cls := findClass_of_methodNamed B.named
  have hT : cd.exceptionTable.toList = [] ++ ([(0, 10, 13, 13), (0, 10, 17, 15), (0, 10, 21, 17)] : List (Nat × Nat × Nat × Nat)).map wq_en := vx_table (x := yL_mast) B (hts0 _ List.mem_cons_self)
  have hl := lv_entry ([Value.ref (ad (0, 0, 0)), Value.int c, Value.int r, Value.ref oo] : List Value) (n := 5) (show (4 : Nat) ≤ 5 by decide)
  rw [lg_entry_eq]
  refine lv_aload_n hx hb dL_mast_0 rfl (hl.2.2 (3, .ref oo) (by repeat (first | exact List.mem_cons_self | apply List.mem_cons_of_mem))) ?_
  refine lv_iconst hx hb dL_mast_1 rfl ?_
  refine lv_aload_n hx hb dL_mast_2 rfl (hl.2.2 (0, .ref (ad (0, 0, 0))) (by repeat (first | exact List.mem_cons_self | apply List.mem_cons_of_mem))) ?_
  refine lv_iload_n hx hb dL_mast_3 rfl (hl.2.2 (1, .int c) (by repeat (first | exact List.mem_cons_self | apply List.mem_cons_of_mem))) ?_
  refine lv_iload_n hx hb dL_mast_4 rfl (hl.2.2 (2, .int r) (by repeat (first | exact List.mem_cons_self | apply List.mem_cons_of_mem))) ?_
  refine wq_call (as := [.inl (.int c), .inl (.int r)]) (pc := 5) hx hb hml hown hts hstk hty hK hD hnw hXF hP hO ho p_X5_mast dL_mast_5 u_334 u_64 u_335 u_336 u_337 (show yX5_mast.cls = RX5 ∧ yX5_mast.cls ≠ "java/lang/invoke/MethodHandle" ∧ yX5_mast.cls ≠ "java/lang/invoke/VarHandle" ∧ (parseMethodDescriptor yX5_mast.desc).map (fun d => d.parameters.length) = some 2 by decide +kernel) ⟨Nat.le_refl _, by decide⟩ ⟨Nat.le_refl _, Nat.le_refl _⟩ (fun v hv => by revert v; exact List.forall_mem_cons.mpr ⟨trivial, List.forall_mem_cons.mpr ⟨trivial, fun _ h => nomatch h⟩⟩) hfr hl.1 (fun H1 locs1 h0 hS1 hO1 => ?_) (fun H1 locs1 qa ce h0 hS1 hO1 hq hcv hcls => ?_)
  · refine lv_i2l hx hb dL_mast_8 rfl ?_
    exact wq_fin hx hb hr hlocks dL_mast_9 dL_mast_10 (by decide) dL_mast_25 dL_mast_26 hKo rfl (by rw [h0]; rfl) hS1 hO1
  · rcases hp_mast c r with z | z | z | z
    · exact absurd z h0
    · rw [z] at hcls
      refine wq_catch (pc := 5) (x := 1) (hpc := 13) hown (wq_lk hts) hN (Or.inl rfl) hq hcv hcls ?_ [(0, 10, 13, 13), (0, 10, 17, 15), (0, 10, 21, 17)] [] hT (fun _ h => nomatch h) (by decide) rfl
      refine lv_astore hx hb dL_mast_13 hl (by decide) rfl (fun ls' hl' => ?_)
      exact wq_end (f := f0) hx hb hr hlocks dL_mast_15 rfl dL_mast_16 (by rw [z]; rfl) (fun z2 => absurd (by rw [z] at z2; exact z2) (show ¬ (1 : Int32) = 0 by decide)) hS1 hO1
    · rw [z] at hcls
      refine wq_catch (pc := 5) (x := 2) (hpc := 17) hown (wq_lk hts) hN (Or.inr (Or.inl rfl)) hq hcv hcls ?_ [(0, 10, 13, 13), (0, 10, 17, 15), (0, 10, 21, 17)] [] hT (fun _ h => nomatch h) (by decide) rfl
      refine lv_astore hx hb dL_mast_17 hl (by decide) rfl (fun ls' hl' => ?_)
      exact wq_end (f := f0) hx hb hr hlocks dL_mast_19 rfl dL_mast_20 (by rw [z]; rfl) (fun z2 => absurd (by rw [z] at z2; exact z2) (show ¬ (2 : Int32) = 0 by decide)) hS1 hO1
    · rw [z] at hcls
      refine wq_catch (pc := 5) (x := 3) (hpc := 21) hown (wq_lk hts) hN (Or.inr (Or.inr rfl)) hq hcv hcls ?_ [(0, 10, 13, 13), (0, 10, 17, 15), (0, 10, 21, 17)] [] hT (fun _ h => nomatch h) (by decide) rfl
      refine lv_astore hx hb dL_mast_21 hl (by decide) rfl (fun ls' hl' => ?_)
      exact wq_end (f := f0) hx hb hr hlocks dL_mast_23 rfl dL_mast_24 (by rw [z]; rfl) (fun z2 => absurd (by rw [z] at z2; exact z2) (show ¬ (3 : Int32) = 0 by decide)) hS1 hO1

def hc_power (x : Nat) : Int32 := match x with | 0 => 0 | 1 => 1 | _ => 9
theorem hp_power (c d : Int32) : (pf_X5_power [.inr (0, 0, 0), .inl (.int c), .inl (.int d)]).1 = 0 ∨ (pf_X5_power [.inr (0, 0, 0), .inl (.int c), .inl (.int d)]).1 = 1 := by
  unfold pf_X5_power
  try dsimp only
  repeat' split
  all_goals first | exact Or.inl rfl | exact Or.inr (rfl)
set_option maxHeartbeats 1000000 in
theorem x_L_power (c d : Int32) : wq_Wr yL_power cL_power 5 [(0, 10, 13, 13)] 8 [.inl (.int c), .inl (.int d)] (hc_power (pf_X5_power [.inr (0, 0, 0), .inl (.int c), .inl (.int d)]).1) (pf_X5_power [.inr (0, 0, 0), .inl (.int c), .inl (.int d)]).2 := by
  intro ll D tys ad sz σ oo cO f0 hstk hty hfr ho
  refine vx_ofWH (cc := cL_power) (maxL := 5) (ret := some .int) (hh := [(0, 10, 13, 13)]) (by decide +kernel) rfl ?_
  intro pp ee s mm args below meth cd s₁ B hml hv
  obtain ⟨rfl, hsz, hP, hK, hD, hnw, hXF, hN, hKo, hO⟩ := hv
  subst hsz
  have hx := B.exec
  have hb := B.bytes
  have hr := B.returns
  have hlocks := B.notSynchronized
  have hts0 : ∀ w ∈ (.codeWith yL_power cL_power 5 (some .int) [(0, 10, 13, 13)] :: ww_tb : List Cond), w.before ([Value.ref (ad (0, 0, 0)), Value.int c, Value.int d, Value.ref oo] : List Value).toArray s = true := atoms_spec (ws := .codeWith yL_power cL_power 5 (some .int) [(0, 10, 13, 13)] :: ww_tb) B.pre
  have hts : ∀ w ∈ ww_tb, w.before ([Value.ref (ad (0, 0, 0)), Value.int c, Value.int d, Value.ref oo] : List Value).toArray s = true := fun w h => hts0 w (List.mem_cons_of_mem _ h)
  have hown : s.vm.findClass RL = some mm.cls := findClass_of_methodNamed B.named
  have hT : cd.exceptionTable.toList = [] ++ ([(0, 10, 13, 13)] : List (Nat × Nat × Nat × Nat)).map wq_en := vx_table (x := yL_power) B (hts0 _ List.mem_cons_self)
  have hl := lv_entry ([Value.ref (ad (0, 0, 0)), Value.int c, Value.int d, Value.ref oo] : List Value) (n := 5) (show (4 : Nat) ≤ 5 by decide)
  rw [lg_entry_eq]
  refine lv_aload_n hx hb dL_power_0 rfl (hl.2.2 (3, .ref oo) (by repeat (first | exact List.mem_cons_self | apply List.mem_cons_of_mem))) ?_
  refine lv_iconst hx hb dL_power_1 rfl ?_
  refine lv_aload_n hx hb dL_power_2 rfl (hl.2.2 (0, .ref (ad (0, 0, 0))) (by repeat (first | exact List.mem_cons_self | apply List.mem_cons_of_mem))) ?_
  refine lv_iload_n hx hb dL_power_3 rfl (hl.2.2 (1, .int c) (by repeat (first | exact List.mem_cons_self | apply List.mem_cons_of_mem))) ?_
  refine lv_iload_n hx hb dL_power_4 rfl (hl.2.2 (2, .int d) (by repeat (first | exact List.mem_cons_self | apply List.mem_cons_of_mem))) ?_
  refine wq_call (as := [.inl (.int c), .inl (.int d)]) (pc := 5) hx hb hml hown hts hstk hty hK hD hnw hXF hP hO ho p_X5_power dL_power_5 u_338 u_64 u_339 u_340 u_341 (show yX5_power.cls = RX5 ∧ yX5_power.cls ≠ "java/lang/invoke/MethodHandle" ∧ yX5_power.cls ≠ "java/lang/invoke/VarHandle" ∧ (parseMethodDescriptor yX5_power.desc).map (fun d => d.parameters.length) = some 2 by decide +kernel) ⟨Nat.le_refl _, by decide⟩ ⟨Nat.le_refl _, Nat.le_refl _⟩ (fun v hv => by revert v; exact List.forall_mem_cons.mpr ⟨trivial, List.forall_mem_cons.mpr ⟨trivial, fun _ h => nomatch h⟩⟩) hfr hl.1 (fun H1 locs1 h0 hS1 hO1 => ?_) (fun H1 locs1 qa ce h0 hS1 hO1 hq hcv hcls => ?_)
  · refine lv_i2l hx hb dL_power_8 rfl ?_
    exact wq_fin hx hb hr hlocks dL_power_9 dL_power_10 (by decide) dL_power_17 dL_power_18 hKo rfl (by rw [h0]; rfl) hS1 hO1
  · rcases hp_power c d with z | z
    · exact absurd z h0
    · rw [z] at hcls
      refine wq_catch (pc := 5) (x := 1) (hpc := 13) hown (wq_lk hts) hN (Or.inl rfl) hq hcv hcls ?_ [(0, 10, 13, 13)] [] hT (fun _ h => nomatch h) (by decide) rfl
      refine lv_astore hx hb dL_power_13 hl (by decide) rfl (fun ls' hl' => ?_)
      exact wq_end (f := f0) hx hb hr hlocks dL_power_15 rfl dL_power_16 (by rw [z]; rfl) (fun z2 => absurd (by rw [z] at z2; exact z2) (show ¬ (1 : Int32) = 0 by decide)) hS1 hO1

def hc_lines (x : Nat) : Int32 := match x with | 0 => 0 | 2 => 1 | _ => 9
theorem hp_lines (l : Int32) : (pf_X5_lines [.inr (0, 0, 0), .inl (.int l)]).1 = 0 ∨ (pf_X5_lines [.inr (0, 0, 0), .inl (.int l)]).1 = 2 := by
  unfold pf_X5_lines
  try dsimp only
  repeat' split
  all_goals first | exact Or.inl rfl | exact Or.inr (rfl)
set_option maxHeartbeats 1000000 in
theorem x_L_lines (l : Int32) : wq_Wr yL_lines cL_lines 4 [(0, 9, 12, 15)] 8 [.inl (.int l)] (hc_lines (pf_X5_lines [.inr (0, 0, 0), .inl (.int l)]).1) (pf_X5_lines [.inr (0, 0, 0), .inl (.int l)]).2 := by
  intro ll D tys ad sz σ oo cO f0 hstk hty hfr ho
  refine vx_ofWH (cc := cL_lines) (maxL := 4) (ret := some .int) (hh := [(0, 9, 12, 15)]) (by decide +kernel) rfl ?_
  intro pp ee s mm args below meth cd s₁ B hml hv
  obtain ⟨rfl, hsz, hP, hK, hD, hnw, hXF, hN, hKo, hO⟩ := hv
  subst hsz
  have hx := B.exec
  have hb := B.bytes
  have hr := B.returns
  have hlocks := B.notSynchronized
  have hts0 : ∀ w ∈ (.codeWith yL_lines cL_lines 4 (some .int) [(0, 9, 12, 15)] :: ww_tb : List Cond), w.before ([Value.ref (ad (0, 0, 0)), Value.int l, Value.ref oo] : List Value).toArray s = true := atoms_spec (ws := .codeWith yL_lines cL_lines 4 (some .int) [(0, 9, 12, 15)] :: ww_tb) B.pre
  have hts : ∀ w ∈ ww_tb, w.before ([Value.ref (ad (0, 0, 0)), Value.int l, Value.ref oo] : List Value).toArray s = true := fun w h => hts0 w (List.mem_cons_of_mem _ h)
  have hown : s.vm.findClass RL = some mm.cls := findClass_of_methodNamed B.named
  have hT : cd.exceptionTable.toList = [] ++ ([(0, 9, 12, 15)] : List (Nat × Nat × Nat × Nat)).map wq_en := vx_table (x := yL_lines) B (hts0 _ List.mem_cons_self)
  have hl := lv_entry ([Value.ref (ad (0, 0, 0)), Value.int l, Value.ref oo] : List Value) (n := 4) (show (3 : Nat) ≤ 4 by decide)
  rw [lg_entry_eq]
  refine lv_aload_n hx hb dL_lines_0 rfl (hl.2.2 (2, .ref oo) (by repeat (first | exact List.mem_cons_self | apply List.mem_cons_of_mem))) ?_
  refine lv_iconst hx hb dL_lines_1 rfl ?_
  refine lv_aload_n hx hb dL_lines_2 rfl (hl.2.2 (0, .ref (ad (0, 0, 0))) (by repeat (first | exact List.mem_cons_self | apply List.mem_cons_of_mem))) ?_
  refine lv_iload_n hx hb dL_lines_3 rfl (hl.2.2 (1, .int l) (by repeat (first | exact List.mem_cons_self | apply List.mem_cons_of_mem))) ?_
  refine wq_call (as := [.inl (.int l)]) (pc := 4) hx hb hml hown hts hstk hty hK hD hnw hXF hP hO ho p_X5_lines dL_lines_4 u_342 u_64 u_343 u_344 u_345 (show yX5_lines.cls = RX5 ∧ yX5_lines.cls ≠ "java/lang/invoke/MethodHandle" ∧ yX5_lines.cls ≠ "java/lang/invoke/VarHandle" ∧ (parseMethodDescriptor yX5_lines.desc).map (fun d => d.parameters.length) = some 1 by decide +kernel) ⟨Nat.le_refl _, by decide⟩ ⟨Nat.le_refl _, Nat.le_refl _⟩ (fun v hv => by revert v; exact List.forall_mem_cons.mpr ⟨trivial, fun _ h => nomatch h⟩) hfr hl.1 (fun H1 locs1 h0 hS1 hO1 => ?_) (fun H1 locs1 qa ce h0 hS1 hO1 hq hcv hcls => ?_)
  · refine lv_i2l hx hb dL_lines_7 rfl ?_
    exact wq_fin hx hb hr hlocks dL_lines_8 dL_lines_9 (by decide) dL_lines_15 dL_lines_16 hKo rfl (by rw [h0]; rfl) hS1 hO1
  · rcases hp_lines l with z | z
    · exact absurd z h0
    · rw [z] at hcls
      refine wq_catch (pc := 4) (x := 2) (hpc := 12) hown (wq_lk hts) hN (Or.inr (Or.inl rfl)) hq hcv hcls ?_ [(0, 9, 12, 15)] [] hT (fun _ h => nomatch h) (by decide) rfl
      refine lv_astore_n hx hb dL_lines_12 rfl hl (by decide) rfl (fun ls' hl' => ?_)
      exact wq_end (f := f0) hx hb hr hlocks dL_lines_13 rfl dL_lines_14 (by rw [z]; rfl) (fun z2 => absurd (by rw [z] at z2; exact z2) (show ¬ (1 : Int32) = 0 by decide)) hS1 hO1

def hc_danger (x : Nat) : Int32 := match x with | 0 => 0 | 1 => 1 | 2 => 2 | _ => 9
theorem hp_danger (c a : Int32) : (pf_X5_danger [.inr (0, 0, 0), .inl (.int c), .inl (.int a)]).1 = 0 ∨ (pf_X5_danger [.inr (0, 0, 0), .inl (.int c), .inl (.int a)]).1 = 1 ∨ (pf_X5_danger [.inr (0, 0, 0), .inl (.int c), .inl (.int a)]).1 = 2 := by
  unfold pf_X5_danger
  try dsimp only
  repeat' split
  all_goals first | exact Or.inl rfl | exact Or.inr (Or.inl rfl) | exact Or.inr (Or.inr (rfl))
set_option maxHeartbeats 1000000 in
theorem x_L_danger (c a : Int32) : wq_Wr yL_danger cL_danger 5 [(0, 10, 13, 13), (0, 10, 17, 15)] 8 [.inl (.int c), .inl (.int a)] (hc_danger (pf_X5_danger [.inr (0, 0, 0), .inl (.int c), .inl (.int a)]).1) (pf_X5_danger [.inr (0, 0, 0), .inl (.int c), .inl (.int a)]).2 := by
  intro ll D tys ad sz σ oo cO f0 hstk hty hfr ho
  refine vx_ofWH (cc := cL_danger) (maxL := 5) (ret := some .int) (hh := [(0, 10, 13, 13), (0, 10, 17, 15)]) (by decide +kernel) rfl ?_
  intro pp ee s mm args below meth cd s₁ B hml hv
  obtain ⟨rfl, hsz, hP, hK, hD, hnw, hXF, hN, hKo, hO⟩ := hv
  subst hsz
  have hx := B.exec
  have hb := B.bytes
  have hr := B.returns
  have hlocks := B.notSynchronized
  have hts0 : ∀ w ∈ (.codeWith yL_danger cL_danger 5 (some .int) [(0, 10, 13, 13), (0, 10, 17, 15)] :: ww_tb : List Cond), w.before ([Value.ref (ad (0, 0, 0)), Value.int c, Value.int a, Value.ref oo] : List Value).toArray s = true := atoms_spec (ws := .codeWith yL_danger cL_danger 5 (some .int) [(0, 10, 13, 13), (0, 10, 17, 15)] :: ww_tb) B.pre
  have hts : ∀ w ∈ ww_tb, w.before ([Value.ref (ad (0, 0, 0)), Value.int c, Value.int a, Value.ref oo] : List Value).toArray s = true := fun w h => hts0 w (List.mem_cons_of_mem _ h)
  have hown : s.vm.findClass RL = some mm.cls := findClass_of_methodNamed B.named
  have hT : cd.exceptionTable.toList = [] ++ ([(0, 10, 13, 13), (0, 10, 17, 15)] : List (Nat × Nat × Nat × Nat)).map wq_en := vx_table (x := yL_danger) B (hts0 _ List.mem_cons_self)
  have hl := lv_entry ([Value.ref (ad (0, 0, 0)), Value.int c, Value.int a, Value.ref oo] : List Value) (n := 5) (show (4 : Nat) ≤ 5 by decide)
  rw [lg_entry_eq]
  refine lv_aload_n hx hb dL_danger_0 rfl (hl.2.2 (3, .ref oo) (by repeat (first | exact List.mem_cons_self | apply List.mem_cons_of_mem))) ?_
  refine lv_iconst hx hb dL_danger_1 rfl ?_
  refine lv_aload_n hx hb dL_danger_2 rfl (hl.2.2 (0, .ref (ad (0, 0, 0))) (by repeat (first | exact List.mem_cons_self | apply List.mem_cons_of_mem))) ?_
  refine lv_iload_n hx hb dL_danger_3 rfl (hl.2.2 (1, .int c) (by repeat (first | exact List.mem_cons_self | apply List.mem_cons_of_mem))) ?_
  refine lv_iload_n hx hb dL_danger_4 rfl (hl.2.2 (2, .int a) (by repeat (first | exact List.mem_cons_self | apply List.mem_cons_of_mem))) ?_
  refine wq_call (as := [.inl (.int c), .inl (.int a)]) (pc := 5) hx hb hml hown hts hstk hty hK hD hnw hXF hP hO ho p_X5_danger dL_danger_5 u_346 u_64 u_347 u_348 u_349 (show yX5_danger.cls = RX5 ∧ yX5_danger.cls ≠ "java/lang/invoke/MethodHandle" ∧ yX5_danger.cls ≠ "java/lang/invoke/VarHandle" ∧ (parseMethodDescriptor yX5_danger.desc).map (fun d => d.parameters.length) = some 2 by decide +kernel) ⟨Nat.le_refl _, by decide⟩ ⟨Nat.le_refl _, Nat.le_refl _⟩ (fun v hv => by revert v; exact List.forall_mem_cons.mpr ⟨trivial, List.forall_mem_cons.mpr ⟨trivial, fun _ h => nomatch h⟩⟩) hfr hl.1 (fun H1 locs1 h0 hS1 hO1 => ?_) (fun H1 locs1 qa ce h0 hS1 hO1 hq hcv hcls => ?_)
  · refine lv_i2l hx hb dL_danger_8 rfl ?_
    exact wq_fin hx hb hr hlocks dL_danger_9 dL_danger_10 (by decide) dL_danger_21 dL_danger_22 hKo rfl (by rw [h0]; rfl) hS1 hO1
  · rcases hp_danger c a with z | z | z
    · exact absurd z h0
    · rw [z] at hcls
      refine wq_catch (pc := 5) (x := 1) (hpc := 13) hown (wq_lk hts) hN (Or.inl rfl) hq hcv hcls ?_ [(0, 10, 13, 13), (0, 10, 17, 15)] [] hT (fun _ h => nomatch h) (by decide) rfl
      refine lv_astore hx hb dL_danger_13 hl (by decide) rfl (fun ls' hl' => ?_)
      exact wq_end (f := f0) hx hb hr hlocks dL_danger_15 rfl dL_danger_16 (by rw [z]; rfl) (fun z2 => absurd (by rw [z] at z2; exact z2) (show ¬ (1 : Int32) = 0 by decide)) hS1 hO1
    · rw [z] at hcls
      refine wq_catch (pc := 5) (x := 2) (hpc := 17) hown (wq_lk hts) hN (Or.inr (Or.inl rfl)) hq hcv hcls ?_ [(0, 10, 13, 13), (0, 10, 17, 15)] [] hT (fun _ h => nomatch h) (by decide) rfl
      refine lv_astore hx hb dL_danger_17 hl (by decide) rfl (fun ls' hl' => ?_)
      exact wq_end (f := f0) hx hb hr hlocks dL_danger_19 rfl dL_danger_20 (by rw [z]; rfl) (fun z2 => absurd (by rw [z] at z2; exact z2) (show ¬ (2 : Int32) = 0 by decide)) hS1 hO1

def hc_key (x : Nat) : Int32 := match x with | 0 => 0 | 1 => 1 | _ => 9
theorem hp_key (o d : Int32) : (pf_X5_key [.inr (0, 0, 0), .inl (.int o), .inl (.int d)]).1 = 0 ∨ (pf_X5_key [.inr (0, 0, 0), .inl (.int o), .inl (.int d)]).1 = 1 := by
  unfold pf_X5_key
  try dsimp only
  repeat' split
  all_goals first | exact Or.inl rfl | exact Or.inr (rfl)
theorem hk_key (o d : Int32) (h : (pf_X5_key [.inr (0, 0, 0), .inl (.int o), .inl (.int d)]).1 = 0) : (pf_X5_key [.inr (0, 0, 0), .inl (.int o), .inl (.int d)]).2 = 0 ∨ (pf_X5_key [.inr (0, 0, 0), .inl (.int o), .inl (.int d)]).2 = 1 := by
  have e : pf_X5_key [.inr (0, 0, 0), .inl (.int o), .inl (.int d)] = if wp_o o then (0, (jIn 3 o)) else (1, 0) := rfl
  rw [e] at h ⊢
  by_cases c : wp_o o
  · rw [if_pos c]
    show jIn 3 o = 0 ∨ jIn 3 o = 1
    unfold jIn
    first | (split <;> decide) | exact jIn_01 ..
  · rw [if_neg c] at h
    exact absurd h (by decide)
set_option maxHeartbeats 1000000 in
theorem x_L_key (o d : Int32) : wq_Wr yL_key cL_key 5 [(0, 17, 20, 13)] 8 [.inl (.int o), .inl (.int d)] (hc_key (pf_X5_key [.inr (0, 0, 0), .inl (.int o), .inl (.int d)]).1) (pf_X5_key [.inr (0, 0, 0), .inl (.int o), .inl (.int d)]).2 := by
  intro ll D tys ad sz σ oo cO f0 hstk hty hfr ho
  refine vx_ofWH (cc := cL_key) (maxL := 5) (ret := some .int) (hh := [(0, 17, 20, 13)]) (by decide +kernel) rfl ?_
  intro pp ee s mm args below meth cd s₁ B hml hv
  obtain ⟨rfl, hsz, hP, hK, hD, hnw, hXF, hN, hKo, hO⟩ := hv
  subst hsz
  have hx := B.exec
  have hb := B.bytes
  have hr := B.returns
  have hlocks := B.notSynchronized
  have hts0 : ∀ w ∈ (.codeWith yL_key cL_key 5 (some .int) [(0, 17, 20, 13)] :: ww_tb : List Cond), w.before ([Value.ref (ad (0, 0, 0)), Value.int o, Value.int d, Value.ref oo] : List Value).toArray s = true := atoms_spec (ws := .codeWith yL_key cL_key 5 (some .int) [(0, 17, 20, 13)] :: ww_tb) B.pre
  have hts : ∀ w ∈ ww_tb, w.before ([Value.ref (ad (0, 0, 0)), Value.int o, Value.int d, Value.ref oo] : List Value).toArray s = true := fun w h => hts0 w (List.mem_cons_of_mem _ h)
  have hown : s.vm.findClass RL = some mm.cls := findClass_of_methodNamed B.named
  have hT : cd.exceptionTable.toList = [] ++ ([(0, 17, 20, 13)] : List (Nat × Nat × Nat × Nat)).map wq_en := vx_table (x := yL_key) B (hts0 _ List.mem_cons_self)
  have hl := lv_entry ([Value.ref (ad (0, 0, 0)), Value.int o, Value.int d, Value.ref oo] : List Value) (n := 5) (show (4 : Nat) ≤ 5 by decide)
  rw [lg_entry_eq]
  refine lv_aload_n hx hb dL_key_0 rfl (hl.2.2 (3, .ref oo) (by repeat (first | exact List.mem_cons_self | apply List.mem_cons_of_mem))) ?_
  refine lv_iconst hx hb dL_key_1 rfl ?_
  refine lv_aload_n hx hb dL_key_2 rfl (hl.2.2 (0, .ref (ad (0, 0, 0))) (by repeat (first | exact List.mem_cons_self | apply List.mem_cons_of_mem))) ?_
  refine lv_iload_n hx hb dL_key_3 rfl (hl.2.2 (1, .int o) (by repeat (first | exact List.mem_cons_self | apply List.mem_cons_of_mem))) ?_
  refine lv_iload_n hx hb dL_key_4 rfl (hl.2.2 (2, .int d) (by repeat (first | exact List.mem_cons_self | apply List.mem_cons_of_mem))) ?_
  refine wq_call (as := [.inl (.int o), .inl (.int d)]) (pc := 5) hx hb hml hown hts hstk hty hK hD hnw hXF hP hO ho p_X5_key dL_key_5 u_350 u_64 u_351 u_352 u_353 (show yX5_key.cls = RX5 ∧ yX5_key.cls ≠ "java/lang/invoke/MethodHandle" ∧ yX5_key.cls ≠ "java/lang/invoke/VarHandle" ∧ (parseMethodDescriptor yX5_key.desc).map (fun d => d.parameters.length) = some 2 by decide +kernel) ⟨Nat.le_refl _, by decide⟩ ⟨Nat.le_refl _, Nat.le_refl _⟩ (fun v hv => by revert v; exact List.forall_mem_cons.mpr ⟨trivial, List.forall_mem_cons.mpr ⟨trivial, fun _ h => nomatch h⟩⟩) hfr hl.1 (fun H1 locs1 h0 hS1 hO1 => ?_) (fun H1 locs1 qa ce h0 hS1 hO1 hq hcv hcls => ?_)
  · have hz : (pf_X5_key [.inr (0, 0, 0), .inl (.int o), .inl (.int d)]).2 = 0 ∨ (pf_X5_key [.inr (0, 0, 0), .inl (.int o), .inl (.int d)]).2 = 1 := hk_key o d h0
    refine lv_if_eq (tgt := 15) hx hb dL_key_8 (by decide) (fun z => ?_) (fun z => ?_)
    · refine lv_lconst hx hb dL_key_15 rfl ?_
      exact wq_fin hx hb hr hlocks dL_key_16 dL_key_17 (by decide) dL_key_24 dL_key_25 hKo (by rw [z]; rfl) (by rw [h0]; rfl) hS1 hO1
    · refine lv_lconst hx hb dL_key_11 rfl ?_
      refine lv_goto (tgt := 16) hx hb dL_key_12 (by decide) ?_
      have z1 := hz.resolve_left z
      exact wq_fin hx hb hr hlocks dL_key_16 dL_key_17 (by decide) dL_key_24 dL_key_25 hKo (by rw [z1]; rfl) (by rw [h0]; rfl) hS1 hO1
  · rcases hp_key o d with z | z
    · exact absurd z h0
    · rw [z] at hcls
      refine wq_catch (pc := 5) (x := 1) (hpc := 20) hown (wq_lk hts) hN (Or.inl rfl) hq hcv hcls ?_ [(0, 17, 20, 13)] [] hT (fun _ h => nomatch h) (by decide) rfl
      refine lv_astore hx hb dL_key_20 hl (by decide) rfl (fun ls' hl' => ?_)
      exact wq_end (f := f0) hx hb hr hlocks dL_key_22 rfl dL_key_23 (by rw [z]; rfl) (fun z2 => absurd (by rw [z] at z2; exact z2) (show ¬ (1 : Int32) = 0 by decide)) hS1 hO1

def hc_alert (x : Nat) : Int32 := match x with | 0 => 0 | 2 => 1 | 3 => 2 | _ => 9
theorem hp_alert (a d t : Int32) : (pf_X5_alert [.inr (0, 0, 0), .inl (.int a), .inl (.int d), .inl (.int t)]).1 = 0 ∨ (pf_X5_alert [.inr (0, 0, 0), .inl (.int a), .inl (.int d), .inl (.int t)]).1 = 2 ∨ (pf_X5_alert [.inr (0, 0, 0), .inl (.int a), .inl (.int d), .inl (.int t)]).1 = 3 := by
  unfold pf_X5_alert
  try dsimp only
  repeat' split
  all_goals first | exact Or.inl rfl | exact Or.inr (Or.inl rfl) | exact Or.inr (Or.inr (rfl))
set_option maxHeartbeats 1000000 in
theorem x_L_alert (a d t : Int32) : wq_Wr yL_alert cL_alert 6 [(0, 12, 15, 15), (0, 12, 19, 17)] 9 [.inl (.int a), .inl (.int d), .inl (.int t)] (hc_alert (pf_X5_alert [.inr (0, 0, 0), .inl (.int a), .inl (.int d), .inl (.int t)]).1) (pf_X5_alert [.inr (0, 0, 0), .inl (.int a), .inl (.int d), .inl (.int t)]).2 := by
  intro ll D tys ad sz σ oo cO f0 hstk hty hfr ho
  refine vx_ofWH (cc := cL_alert) (maxL := 6) (ret := some .int) (hh := [(0, 12, 15, 15), (0, 12, 19, 17)]) (by decide +kernel) rfl ?_
  intro pp ee s mm args below meth cd s₁ B hml hv
  obtain ⟨rfl, hsz, hP, hK, hD, hnw, hXF, hN, hKo, hO⟩ := hv
  subst hsz
  have hx := B.exec
  have hb := B.bytes
  have hr := B.returns
  have hlocks := B.notSynchronized
  have hts0 : ∀ w ∈ (.codeWith yL_alert cL_alert 6 (some .int) [(0, 12, 15, 15), (0, 12, 19, 17)] :: ww_tb : List Cond), w.before ([Value.ref (ad (0, 0, 0)), Value.int a, Value.int d, Value.int t, Value.ref oo] : List Value).toArray s = true := atoms_spec (ws := .codeWith yL_alert cL_alert 6 (some .int) [(0, 12, 15, 15), (0, 12, 19, 17)] :: ww_tb) B.pre
  have hts : ∀ w ∈ ww_tb, w.before ([Value.ref (ad (0, 0, 0)), Value.int a, Value.int d, Value.int t, Value.ref oo] : List Value).toArray s = true := fun w h => hts0 w (List.mem_cons_of_mem _ h)
  have hown : s.vm.findClass RL = some mm.cls := findClass_of_methodNamed B.named
  have hT : cd.exceptionTable.toList = [] ++ ([(0, 12, 15, 15), (0, 12, 19, 17)] : List (Nat × Nat × Nat × Nat)).map wq_en := vx_table (x := yL_alert) B (hts0 _ List.mem_cons_self)
  have hl := lv_entry ([Value.ref (ad (0, 0, 0)), Value.int a, Value.int d, Value.int t, Value.ref oo] : List Value) (n := 6) (show (5 : Nat) ≤ 6 by decide)
  rw [lg_entry_eq]
  refine lv_aload hx hb dL_alert_0 (hl.2.2 (4, .ref oo) (by repeat (first | exact List.mem_cons_self | apply List.mem_cons_of_mem))) ?_
  refine lv_iconst hx hb dL_alert_2 rfl ?_
  refine lv_aload_n hx hb dL_alert_3 rfl (hl.2.2 (0, .ref (ad (0, 0, 0))) (by repeat (first | exact List.mem_cons_self | apply List.mem_cons_of_mem))) ?_
  refine lv_iload_n hx hb dL_alert_4 rfl (hl.2.2 (1, .int a) (by repeat (first | exact List.mem_cons_self | apply List.mem_cons_of_mem))) ?_
  refine lv_iload_n hx hb dL_alert_5 rfl (hl.2.2 (2, .int d) (by repeat (first | exact List.mem_cons_self | apply List.mem_cons_of_mem))) ?_
  refine lv_iload_n hx hb dL_alert_6 rfl (hl.2.2 (3, .int t) (by repeat (first | exact List.mem_cons_self | apply List.mem_cons_of_mem))) ?_
  refine wq_call (as := [.inl (.int a), .inl (.int d), .inl (.int t)]) (pc := 7) hx hb hml hown hts hstk hty hK hD hnw hXF hP hO ho p_X5_alert dL_alert_7 u_354 u_64 u_355 u_356 u_357 (show yX5_alert.cls = RX5 ∧ yX5_alert.cls ≠ "java/lang/invoke/MethodHandle" ∧ yX5_alert.cls ≠ "java/lang/invoke/VarHandle" ∧ (parseMethodDescriptor yX5_alert.desc).map (fun d => d.parameters.length) = some 3 by decide +kernel) ⟨Nat.le_refl _, by decide⟩ ⟨Nat.le_refl _, Nat.le_refl _⟩ (fun v hv => by revert v; exact List.forall_mem_cons.mpr ⟨trivial, List.forall_mem_cons.mpr ⟨trivial, List.forall_mem_cons.mpr ⟨trivial, fun _ h => nomatch h⟩⟩⟩) hfr hl.1 (fun H1 locs1 h0 hS1 hO1 => ?_) (fun H1 locs1 qa ce h0 hS1 hO1 hq hcv hcls => ?_)
  · refine lv_i2l hx hb dL_alert_10 rfl ?_
    exact wq_fin hx hb hr hlocks dL_alert_11 dL_alert_12 (by decide) dL_alert_23 dL_alert_24 hKo rfl (by rw [h0]; rfl) hS1 hO1
  · rcases hp_alert a d t with z | z | z
    · exact absurd z h0
    · rw [z] at hcls
      refine wq_catch (pc := 7) (x := 2) (hpc := 15) hown (wq_lk hts) hN (Or.inr (Or.inl rfl)) hq hcv hcls ?_ [(0, 12, 15, 15), (0, 12, 19, 17)] [] hT (fun _ h => nomatch h) (by decide) rfl
      refine lv_astore hx hb dL_alert_15 hl (by decide) rfl (fun ls' hl' => ?_)
      exact wq_end (f := f0) hx hb hr hlocks dL_alert_17 rfl dL_alert_18 (by rw [z]; rfl) (fun z2 => absurd (by rw [z] at z2; exact z2) (show ¬ (1 : Int32) = 0 by decide)) hS1 hO1
    · rw [z] at hcls
      refine wq_catch (pc := 7) (x := 3) (hpc := 19) hown (wq_lk hts) hN (Or.inr (Or.inr rfl)) hq hcv hcls ?_ [(0, 12, 15, 15), (0, 12, 19, 17)] [] hT (fun _ h => nomatch h) (by decide) rfl
      refine lv_astore hx hb dL_alert_19 hl (by decide) rfl (fun ls' hl' => ?_)
      exact wq_end (f := f0) hx hb hr hlocks dL_alert_21 rfl dL_alert_22 (by rw [z]; rfl) (fun z2 => absurd (by rw [z] at z2; exact z2) (show ¬ (2 : Int32) = 0 by decide)) hS1 hO1

def hc_update (x : Nat) : Int32 := match x with | 0 => 0 | 1 => 1 | 2 => 2 | 3 => 3 | _ => 9
theorem hp_update (c d e f : Int32) : (pf_X5_update [.inr (0, 0, 0), .inl (.int c), .inl (.int d), .inl (.int e), .inl (.int f)]).1 = 0 ∨ (pf_X5_update [.inr (0, 0, 0), .inl (.int c), .inl (.int d), .inl (.int e), .inl (.int f)]).1 = 1 ∨ (pf_X5_update [.inr (0, 0, 0), .inl (.int c), .inl (.int d), .inl (.int e), .inl (.int f)]).1 = 2 ∨ (pf_X5_update [.inr (0, 0, 0), .inl (.int c), .inl (.int d), .inl (.int e), .inl (.int f)]).1 = 3 := by
  unfold pf_X5_update
  try dsimp only
  repeat' split
  all_goals first | exact Or.inl rfl | exact Or.inr (Or.inl rfl) | exact Or.inr (Or.inr (Or.inl rfl)) | exact Or.inr (Or.inr (Or.inr (rfl)))
set_option maxHeartbeats 1000000 in
theorem x_L_update (c d e f : Int32) : wq_Wr yL_update cL_update 7 [(0, 14, 17, 13), (0, 14, 21, 15), (0, 14, 25, 17)] 8 [.inl (.int c), .inl (.int d), .inl (.int e), .inl (.int f)] (hc_update (pf_X5_update [.inr (0, 0, 0), .inl (.int c), .inl (.int d), .inl (.int e), .inl (.int f)]).1) (pf_X5_update [.inr (0, 0, 0), .inl (.int c), .inl (.int d), .inl (.int e), .inl (.int f)]).2 := by
  intro ll D tys ad sz σ oo cO f0 hstk hty hfr ho
  refine vx_ofWH (cc := cL_update) (maxL := 7) (ret := some .int) (hh := [(0, 14, 17, 13), (0, 14, 21, 15), (0, 14, 25, 17)]) (by decide +kernel) rfl ?_
  intro pp ee s mm args below meth cd s₁ B hml hv
  obtain ⟨rfl, hsz, hP, hK, hD, hnw, hXF, hN, hKo, hO⟩ := hv
  subst hsz
  have hx := B.exec
  have hb := B.bytes
  have hr := B.returns
  have hlocks := B.notSynchronized
  have hts0 : ∀ w ∈ (.codeWith yL_update cL_update 7 (some .int) [(0, 14, 17, 13), (0, 14, 21, 15), (0, 14, 25, 17)] :: ww_tb : List Cond), w.before ([Value.ref (ad (0, 0, 0)), Value.int c, Value.int d, Value.int e, Value.int f, Value.ref oo] : List Value).toArray s = true := atoms_spec (ws := .codeWith yL_update cL_update 7 (some .int) [(0, 14, 17, 13), (0, 14, 21, 15), (0, 14, 25, 17)] :: ww_tb) B.pre
  have hts : ∀ w ∈ ww_tb, w.before ([Value.ref (ad (0, 0, 0)), Value.int c, Value.int d, Value.int e, Value.int f, Value.ref oo] : List Value).toArray s = true := fun w h => hts0 w (List.mem_cons_of_mem _ h)
  have hown : s.vm.findClass RL = some mm.cls := findClass_of_methodNamed B.named
  have hT : cd.exceptionTable.toList = [] ++ ([(0, 14, 17, 13), (0, 14, 21, 15), (0, 14, 25, 17)] : List (Nat × Nat × Nat × Nat)).map wq_en := vx_table (x := yL_update) B (hts0 _ List.mem_cons_self)
  have hl := lv_entry ([Value.ref (ad (0, 0, 0)), Value.int c, Value.int d, Value.int e, Value.int f, Value.ref oo] : List Value) (n := 7) (show (6 : Nat) ≤ 7 by decide)
  rw [lg_entry_eq]
  refine lv_aload hx hb dL_update_0 (hl.2.2 (5, .ref oo) (by repeat (first | exact List.mem_cons_self | apply List.mem_cons_of_mem))) ?_
  refine lv_iconst hx hb dL_update_2 rfl ?_
  refine lv_aload_n hx hb dL_update_3 rfl (hl.2.2 (0, .ref (ad (0, 0, 0))) (by repeat (first | exact List.mem_cons_self | apply List.mem_cons_of_mem))) ?_
  refine lv_iload_n hx hb dL_update_4 rfl (hl.2.2 (1, .int c) (by repeat (first | exact List.mem_cons_self | apply List.mem_cons_of_mem))) ?_
  refine lv_iload_n hx hb dL_update_5 rfl (hl.2.2 (2, .int d) (by repeat (first | exact List.mem_cons_self | apply List.mem_cons_of_mem))) ?_
  refine lv_iload_n hx hb dL_update_6 rfl (hl.2.2 (3, .int e) (by repeat (first | exact List.mem_cons_self | apply List.mem_cons_of_mem))) ?_
  refine lv_iload hx hb dL_update_7 (hl.2.2 (4, .int f) (by repeat (first | exact List.mem_cons_self | apply List.mem_cons_of_mem))) ?_
  refine wq_call (as := [.inl (.int c), .inl (.int d), .inl (.int e), .inl (.int f)]) (pc := 9) hx hb hml hown hts hstk hty hK hD hnw hXF hP hO ho p_X5_update dL_update_9 u_358 u_64 u_359 u_360 u_361 (show yX5_update.cls = RX5 ∧ yX5_update.cls ≠ "java/lang/invoke/MethodHandle" ∧ yX5_update.cls ≠ "java/lang/invoke/VarHandle" ∧ (parseMethodDescriptor yX5_update.desc).map (fun d => d.parameters.length) = some 4 by decide +kernel) ⟨Nat.le_refl _, by decide⟩ ⟨Nat.le_refl _, Nat.le_refl _⟩ (fun v hv => by revert v; exact List.forall_mem_cons.mpr ⟨trivial, List.forall_mem_cons.mpr ⟨trivial, List.forall_mem_cons.mpr ⟨trivial, List.forall_mem_cons.mpr ⟨trivial, fun _ h => nomatch h⟩⟩⟩⟩) hfr hl.1 (fun H1 locs1 h0 hS1 hO1 => ?_) (fun H1 locs1 qa ce h0 hS1 hO1 hq hcv hcls => ?_)
  · refine lv_i2l hx hb dL_update_12 rfl ?_
    exact wq_fin hx hb hr hlocks dL_update_13 dL_update_14 (by decide) dL_update_29 dL_update_30 hKo rfl (by rw [h0]; rfl) hS1 hO1
  · rcases hp_update c d e f with z | z | z | z
    · exact absurd z h0
    · rw [z] at hcls
      refine wq_catch (pc := 9) (x := 1) (hpc := 17) hown (wq_lk hts) hN (Or.inl rfl) hq hcv hcls ?_ [(0, 14, 17, 13), (0, 14, 21, 15), (0, 14, 25, 17)] [] hT (fun _ h => nomatch h) (by decide) rfl
      refine lv_astore hx hb dL_update_17 hl (by decide) rfl (fun ls' hl' => ?_)
      exact wq_end (f := f0) hx hb hr hlocks dL_update_19 rfl dL_update_20 (by rw [z]; rfl) (fun z2 => absurd (by rw [z] at z2; exact z2) (show ¬ (1 : Int32) = 0 by decide)) hS1 hO1
    · rw [z] at hcls
      refine wq_catch (pc := 9) (x := 2) (hpc := 21) hown (wq_lk hts) hN (Or.inr (Or.inl rfl)) hq hcv hcls ?_ [(0, 14, 17, 13), (0, 14, 21, 15), (0, 14, 25, 17)] [] hT (fun _ h => nomatch h) (by decide) rfl
      refine lv_astore hx hb dL_update_21 hl (by decide) rfl (fun ls' hl' => ?_)
      exact wq_end (f := f0) hx hb hr hlocks dL_update_23 rfl dL_update_24 (by rw [z]; rfl) (fun z2 => absurd (by rw [z] at z2; exact z2) (show ¬ (2 : Int32) = 0 by decide)) hS1 hO1
    · rw [z] at hcls
      refine wq_catch (pc := 9) (x := 3) (hpc := 25) hown (wq_lk hts) hN (Or.inr (Or.inr rfl)) hq hcv hcls ?_ [(0, 14, 17, 13), (0, 14, 21, 15), (0, 14, 25, 17)] [] hT (fun _ h => nomatch h) (by decide) rfl
      refine lv_astore hx hb dL_update_25 hl (by decide) rfl (fun ls' hl' => ?_)
      exact wq_end (f := f0) hx hb hr hlocks dL_update_27 rfl dL_update_28 (by rw [z]; rfl) (fun z2 => absurd (by rw [z] at z2; exact z2) (show ¬ (3 : Int32) = 0 by decide)) hS1 hO1

def hc_cancel (x : Nat) : Int32 := match x with | 0 => 0 | 1 => 1 | 3 => 2 | _ => 9
theorem hp_cancel (c : Int32) : (pf_X5_cancel [.inr (0, 0, 0), .inl (.int c)]).1 = 0 ∨ (pf_X5_cancel [.inr (0, 0, 0), .inl (.int c)]).1 = 1 ∨ (pf_X5_cancel [.inr (0, 0, 0), .inl (.int c)]).1 = 3 := by
  unfold pf_X5_cancel
  try dsimp only
  repeat' split
  all_goals first | exact Or.inl rfl | exact Or.inr (Or.inl rfl) | exact Or.inr (Or.inr (rfl))
set_option maxHeartbeats 1000000 in
theorem x_L_cancel (c : Int32) : wq_Wr yL_cancel cL_cancel 4 [(0, 9, 12, 13), (0, 9, 15, 17)] 8 [.inl (.int c)] (hc_cancel (pf_X5_cancel [.inr (0, 0, 0), .inl (.int c)]).1) (pf_X5_cancel [.inr (0, 0, 0), .inl (.int c)]).2 := by
  intro ll D tys ad sz σ oo cO f0 hstk hty hfr ho
  refine vx_ofWH (cc := cL_cancel) (maxL := 4) (ret := some .int) (hh := [(0, 9, 12, 13), (0, 9, 15, 17)]) (by decide +kernel) rfl ?_
  intro pp ee s mm args below meth cd s₁ B hml hv
  obtain ⟨rfl, hsz, hP, hK, hD, hnw, hXF, hN, hKo, hO⟩ := hv
  subst hsz
  have hx := B.exec
  have hb := B.bytes
  have hr := B.returns
  have hlocks := B.notSynchronized
  have hts0 : ∀ w ∈ (.codeWith yL_cancel cL_cancel 4 (some .int) [(0, 9, 12, 13), (0, 9, 15, 17)] :: ww_tb : List Cond), w.before ([Value.ref (ad (0, 0, 0)), Value.int c, Value.ref oo] : List Value).toArray s = true := atoms_spec (ws := .codeWith yL_cancel cL_cancel 4 (some .int) [(0, 9, 12, 13), (0, 9, 15, 17)] :: ww_tb) B.pre
  have hts : ∀ w ∈ ww_tb, w.before ([Value.ref (ad (0, 0, 0)), Value.int c, Value.ref oo] : List Value).toArray s = true := fun w h => hts0 w (List.mem_cons_of_mem _ h)
  have hown : s.vm.findClass RL = some mm.cls := findClass_of_methodNamed B.named
  have hT : cd.exceptionTable.toList = [] ++ ([(0, 9, 12, 13), (0, 9, 15, 17)] : List (Nat × Nat × Nat × Nat)).map wq_en := vx_table (x := yL_cancel) B (hts0 _ List.mem_cons_self)
  have hl := lv_entry ([Value.ref (ad (0, 0, 0)), Value.int c, Value.ref oo] : List Value) (n := 4) (show (3 : Nat) ≤ 4 by decide)
  rw [lg_entry_eq]
  refine lv_aload_n hx hb dL_cancel_0 rfl (hl.2.2 (2, .ref oo) (by repeat (first | exact List.mem_cons_self | apply List.mem_cons_of_mem))) ?_
  refine lv_iconst hx hb dL_cancel_1 rfl ?_
  refine lv_aload_n hx hb dL_cancel_2 rfl (hl.2.2 (0, .ref (ad (0, 0, 0))) (by repeat (first | exact List.mem_cons_self | apply List.mem_cons_of_mem))) ?_
  refine lv_iload_n hx hb dL_cancel_3 rfl (hl.2.2 (1, .int c) (by repeat (first | exact List.mem_cons_self | apply List.mem_cons_of_mem))) ?_
  refine wq_call (as := [.inl (.int c)]) (pc := 4) hx hb hml hown hts hstk hty hK hD hnw hXF hP hO ho p_X5_cancel dL_cancel_4 u_362 u_64 u_363 u_364 u_365 (show yX5_cancel.cls = RX5 ∧ yX5_cancel.cls ≠ "java/lang/invoke/MethodHandle" ∧ yX5_cancel.cls ≠ "java/lang/invoke/VarHandle" ∧ (parseMethodDescriptor yX5_cancel.desc).map (fun d => d.parameters.length) = some 1 by decide +kernel) ⟨Nat.le_refl _, by decide⟩ ⟨Nat.le_refl _, Nat.le_refl _⟩ (fun v hv => by revert v; exact List.forall_mem_cons.mpr ⟨trivial, fun _ h => nomatch h⟩) hfr hl.1 (fun H1 locs1 h0 hS1 hO1 => ?_) (fun H1 locs1 qa ce h0 hS1 hO1 hq hcv hcls => ?_)
  · refine lv_i2l hx hb dL_cancel_7 rfl ?_
    exact wq_fin hx hb hr hlocks dL_cancel_8 dL_cancel_9 (by decide) dL_cancel_18 dL_cancel_19 hKo rfl (by rw [h0]; rfl) hS1 hO1
  · rcases hp_cancel c with z | z | z
    · exact absurd z h0
    · rw [z] at hcls
      refine wq_catch (pc := 4) (x := 1) (hpc := 12) hown (wq_lk hts) hN (Or.inl rfl) hq hcv hcls ?_ [(0, 9, 12, 13), (0, 9, 15, 17)] [] hT (fun _ h => nomatch h) (by decide) rfl
      refine lv_astore_n hx hb dL_cancel_12 rfl hl (by decide) rfl (fun ls' hl' => ?_)
      exact wq_end (f := f0) hx hb hr hlocks dL_cancel_13 rfl dL_cancel_14 (by rw [z]; rfl) (fun z2 => absurd (by rw [z] at z2; exact z2) (show ¬ (1 : Int32) = 0 by decide)) hS1 hO1
    · rw [z] at hcls
      refine wq_catch (pc := 4) (x := 3) (hpc := 15) hown (wq_lk hts) hN (Or.inr (Or.inr rfl)) hq hcv hcls ?_ [(0, 9, 12, 13), (0, 9, 15, 17)] [] hT (fun _ h => nomatch h) (by decide) rfl
      refine lv_astore_n hx hb dL_cancel_15 rfl hl (by decide) rfl (fun ls' hl' => ?_)
      exact wq_end (f := f0) hx hb hr hlocks dL_cancel_16 rfl dL_cancel_17 (by rw [z]; rfl) (fun z2 => absurd (by rw [z] at z2; exact z2) (show ¬ (2 : Int32) = 0 by decide)) hS1 hO1

def hc_approve (x : Nat) : Int32 := match x with | 0 => 0 | 1 => 1 | 3 => 2 | _ => 9
theorem hp_approve (c d : Int32) : (pf_X5_approve [.inr (0, 0, 0), .inl (.int c), .inl (.int d)]).1 = 0 ∨ (pf_X5_approve [.inr (0, 0, 0), .inl (.int c), .inl (.int d)]).1 = 1 ∨ (pf_X5_approve [.inr (0, 0, 0), .inl (.int c), .inl (.int d)]).1 = 3 := by
  unfold pf_X5_approve
  try dsimp only
  repeat' split
  all_goals first | exact Or.inl rfl | exact Or.inr (Or.inl rfl) | exact Or.inr (Or.inr (rfl))
set_option maxHeartbeats 1000000 in
theorem x_L_approve (c d : Int32) : wq_Wr yL_approve cL_approve 5 [(0, 10, 13, 13), (0, 10, 17, 17)] 8 [.inl (.int c), .inl (.int d)] (hc_approve (pf_X5_approve [.inr (0, 0, 0), .inl (.int c), .inl (.int d)]).1) (pf_X5_approve [.inr (0, 0, 0), .inl (.int c), .inl (.int d)]).2 := by
  intro ll D tys ad sz σ oo cO f0 hstk hty hfr ho
  refine vx_ofWH (cc := cL_approve) (maxL := 5) (ret := some .int) (hh := [(0, 10, 13, 13), (0, 10, 17, 17)]) (by decide +kernel) rfl ?_
  intro pp ee s mm args below meth cd s₁ B hml hv
  obtain ⟨rfl, hsz, hP, hK, hD, hnw, hXF, hN, hKo, hO⟩ := hv
  subst hsz
  have hx := B.exec
  have hb := B.bytes
  have hr := B.returns
  have hlocks := B.notSynchronized
  have hts0 : ∀ w ∈ (.codeWith yL_approve cL_approve 5 (some .int) [(0, 10, 13, 13), (0, 10, 17, 17)] :: ww_tb : List Cond), w.before ([Value.ref (ad (0, 0, 0)), Value.int c, Value.int d, Value.ref oo] : List Value).toArray s = true := atoms_spec (ws := .codeWith yL_approve cL_approve 5 (some .int) [(0, 10, 13, 13), (0, 10, 17, 17)] :: ww_tb) B.pre
  have hts : ∀ w ∈ ww_tb, w.before ([Value.ref (ad (0, 0, 0)), Value.int c, Value.int d, Value.ref oo] : List Value).toArray s = true := fun w h => hts0 w (List.mem_cons_of_mem _ h)
  have hown : s.vm.findClass RL = some mm.cls := findClass_of_methodNamed B.named
  have hT : cd.exceptionTable.toList = [] ++ ([(0, 10, 13, 13), (0, 10, 17, 17)] : List (Nat × Nat × Nat × Nat)).map wq_en := vx_table (x := yL_approve) B (hts0 _ List.mem_cons_self)
  have hl := lv_entry ([Value.ref (ad (0, 0, 0)), Value.int c, Value.int d, Value.ref oo] : List Value) (n := 5) (show (4 : Nat) ≤ 5 by decide)
  rw [lg_entry_eq]
  refine lv_aload_n hx hb dL_approve_0 rfl (hl.2.2 (3, .ref oo) (by repeat (first | exact List.mem_cons_self | apply List.mem_cons_of_mem))) ?_
  refine lv_iconst hx hb dL_approve_1 rfl ?_
  refine lv_aload_n hx hb dL_approve_2 rfl (hl.2.2 (0, .ref (ad (0, 0, 0))) (by repeat (first | exact List.mem_cons_self | apply List.mem_cons_of_mem))) ?_
  refine lv_iload_n hx hb dL_approve_3 rfl (hl.2.2 (1, .int c) (by repeat (first | exact List.mem_cons_self | apply List.mem_cons_of_mem))) ?_
  refine lv_iload_n hx hb dL_approve_4 rfl (hl.2.2 (2, .int d) (by repeat (first | exact List.mem_cons_self | apply List.mem_cons_of_mem))) ?_
  refine wq_call (as := [.inl (.int c), .inl (.int d)]) (pc := 5) hx hb hml hown hts hstk hty hK hD hnw hXF hP hO ho p_X5_approve dL_approve_5 u_366 u_64 u_367 u_368 u_369 (show yX5_approve.cls = RX5 ∧ yX5_approve.cls ≠ "java/lang/invoke/MethodHandle" ∧ yX5_approve.cls ≠ "java/lang/invoke/VarHandle" ∧ (parseMethodDescriptor yX5_approve.desc).map (fun d => d.parameters.length) = some 2 by decide +kernel) ⟨Nat.le_refl _, by decide⟩ ⟨Nat.le_refl _, Nat.le_refl _⟩ (fun v hv => by revert v; exact List.forall_mem_cons.mpr ⟨trivial, List.forall_mem_cons.mpr ⟨trivial, fun _ h => nomatch h⟩⟩) hfr hl.1 (fun H1 locs1 h0 hS1 hO1 => ?_) (fun H1 locs1 qa ce h0 hS1 hO1 hq hcv hcls => ?_)
  · refine lv_i2l hx hb dL_approve_8 rfl ?_
    exact wq_fin hx hb hr hlocks dL_approve_9 dL_approve_10 (by decide) dL_approve_21 dL_approve_22 hKo rfl (by rw [h0]; rfl) hS1 hO1
  · rcases hp_approve c d with z | z | z
    · exact absurd z h0
    · rw [z] at hcls
      refine wq_catch (pc := 5) (x := 1) (hpc := 13) hown (wq_lk hts) hN (Or.inl rfl) hq hcv hcls ?_ [(0, 10, 13, 13), (0, 10, 17, 17)] [] hT (fun _ h => nomatch h) (by decide) rfl
      refine lv_astore hx hb dL_approve_13 hl (by decide) rfl (fun ls' hl' => ?_)
      exact wq_end (f := f0) hx hb hr hlocks dL_approve_15 rfl dL_approve_16 (by rw [z]; rfl) (fun z2 => absurd (by rw [z] at z2; exact z2) (show ¬ (1 : Int32) = 0 by decide)) hS1 hO1
    · rw [z] at hcls
      refine wq_catch (pc := 5) (x := 3) (hpc := 17) hown (wq_lk hts) hN (Or.inr (Or.inr rfl)) hq hcv hcls ?_ [(0, 10, 13, 13), (0, 10, 17, 17)] [] hT (fun _ h => nomatch h) (by decide) rfl
      refine lv_astore hx hb dL_approve_17 hl (by decide) rfl (fun ls' hl' => ?_)
      exact wq_end (f := f0) hx hb hr hlocks dL_approve_19 rfl dL_approve_20 (by rw [z]; rfl) (fun z2 => absurd (by rw [z] at z2; exact z2) (show ¬ (2 : Int32) = 0 by decide)) hS1 hO1

def hc_send (x : Nat) : Int32 := match x with | 0 => 0 | 1 => 1 | 3 => 2 | _ => 9
theorem hp_send (c : Int32) : (pf_X5_send [.inr (0, 0, 0), .inl (.int c)]).1 = 0 ∨ (pf_X5_send [.inr (0, 0, 0), .inl (.int c)]).1 = 1 ∨ (pf_X5_send [.inr (0, 0, 0), .inl (.int c)]).1 = 3 := by
  unfold pf_X5_send
  try dsimp only
  repeat' split
  all_goals first | exact Or.inl rfl | exact Or.inr (Or.inl rfl) | exact Or.inr (Or.inr (rfl))
set_option maxHeartbeats 1000000 in
theorem x_L_send (c : Int32) : wq_Wr yL_send cL_send 4 [(0, 9, 12, 13), (0, 9, 15, 17)] 8 [.inl (.int c)] (hc_send (pf_X5_send [.inr (0, 0, 0), .inl (.int c)]).1) (pf_X5_send [.inr (0, 0, 0), .inl (.int c)]).2 := by
  intro ll D tys ad sz σ oo cO f0 hstk hty hfr ho
  refine vx_ofWH (cc := cL_send) (maxL := 4) (ret := some .int) (hh := [(0, 9, 12, 13), (0, 9, 15, 17)]) (by decide +kernel) rfl ?_
  intro pp ee s mm args below meth cd s₁ B hml hv
  obtain ⟨rfl, hsz, hP, hK, hD, hnw, hXF, hN, hKo, hO⟩ := hv
  subst hsz
  have hx := B.exec
  have hb := B.bytes
  have hr := B.returns
  have hlocks := B.notSynchronized
  have hts0 : ∀ w ∈ (.codeWith yL_send cL_send 4 (some .int) [(0, 9, 12, 13), (0, 9, 15, 17)] :: ww_tb : List Cond), w.before ([Value.ref (ad (0, 0, 0)), Value.int c, Value.ref oo] : List Value).toArray s = true := atoms_spec (ws := .codeWith yL_send cL_send 4 (some .int) [(0, 9, 12, 13), (0, 9, 15, 17)] :: ww_tb) B.pre
  have hts : ∀ w ∈ ww_tb, w.before ([Value.ref (ad (0, 0, 0)), Value.int c, Value.ref oo] : List Value).toArray s = true := fun w h => hts0 w (List.mem_cons_of_mem _ h)
  have hown : s.vm.findClass RL = some mm.cls := findClass_of_methodNamed B.named
  have hT : cd.exceptionTable.toList = [] ++ ([(0, 9, 12, 13), (0, 9, 15, 17)] : List (Nat × Nat × Nat × Nat)).map wq_en := vx_table (x := yL_send) B (hts0 _ List.mem_cons_self)
  have hl := lv_entry ([Value.ref (ad (0, 0, 0)), Value.int c, Value.ref oo] : List Value) (n := 4) (show (3 : Nat) ≤ 4 by decide)
  rw [lg_entry_eq]
  refine lv_aload_n hx hb dL_send_0 rfl (hl.2.2 (2, .ref oo) (by repeat (first | exact List.mem_cons_self | apply List.mem_cons_of_mem))) ?_
  refine lv_iconst hx hb dL_send_1 rfl ?_
  refine lv_aload_n hx hb dL_send_2 rfl (hl.2.2 (0, .ref (ad (0, 0, 0))) (by repeat (first | exact List.mem_cons_self | apply List.mem_cons_of_mem))) ?_
  refine lv_iload_n hx hb dL_send_3 rfl (hl.2.2 (1, .int c) (by repeat (first | exact List.mem_cons_self | apply List.mem_cons_of_mem))) ?_
  refine wq_call (as := [.inl (.int c)]) (pc := 4) hx hb hml hown hts hstk hty hK hD hnw hXF hP hO ho p_X5_send dL_send_4 u_370 u_64 u_371 u_372 u_373 (show yX5_send.cls = RX5 ∧ yX5_send.cls ≠ "java/lang/invoke/MethodHandle" ∧ yX5_send.cls ≠ "java/lang/invoke/VarHandle" ∧ (parseMethodDescriptor yX5_send.desc).map (fun d => d.parameters.length) = some 1 by decide +kernel) ⟨Nat.le_refl _, by decide⟩ ⟨Nat.le_refl _, Nat.le_refl _⟩ (fun v hv => by revert v; exact List.forall_mem_cons.mpr ⟨trivial, fun _ h => nomatch h⟩) hfr hl.1 (fun H1 locs1 h0 hS1 hO1 => ?_) (fun H1 locs1 qa ce h0 hS1 hO1 hq hcv hcls => ?_)
  · refine lv_i2l hx hb dL_send_7 rfl ?_
    exact wq_fin hx hb hr hlocks dL_send_8 dL_send_9 (by decide) dL_send_18 dL_send_19 hKo rfl (by rw [h0]; rfl) hS1 hO1
  · rcases hp_send c with z | z | z
    · exact absurd z h0
    · rw [z] at hcls
      refine wq_catch (pc := 4) (x := 1) (hpc := 12) hown (wq_lk hts) hN (Or.inl rfl) hq hcv hcls ?_ [(0, 9, 12, 13), (0, 9, 15, 17)] [] hT (fun _ h => nomatch h) (by decide) rfl
      refine lv_astore_n hx hb dL_send_12 rfl hl (by decide) rfl (fun ls' hl' => ?_)
      exact wq_end (f := f0) hx hb hr hlocks dL_send_13 rfl dL_send_14 (by rw [z]; rfl) (fun z2 => absurd (by rw [z] at z2; exact z2) (show ¬ (1 : Int32) = 0 by decide)) hS1 hO1
    · rw [z] at hcls
      refine wq_catch (pc := 4) (x := 3) (hpc := 15) hown (wq_lk hts) hN (Or.inr (Or.inr rfl)) hq hcv hcls ?_ [(0, 9, 12, 13), (0, 9, 15, 17)] [] hT (fun _ h => nomatch h) (by decide) rfl
      refine lv_astore_n hx hb dL_send_15 rfl hl (by decide) rfl (fun ls' hl' => ?_)
      exact wq_end (f := f0) hx hb hr hlocks dL_send_16 rfl dL_send_17 (by rw [z]; rfl) (fun z2 => absurd (by rw [z] at z2; exact z2) (show ¬ (2 : Int32) = 0 by decide)) hS1 hO1

def hc_pass (x : Nat) : Int32 := match x with | 0 => 0 | 2 => 1 | 3 => 2 | _ => 9
theorem hp_pass (m : Int32) : (pf_X5_pass [.inr (0, 0, 0), .inl (.int m)]).1 = 0 ∨ (pf_X5_pass [.inr (0, 0, 0), .inl (.int m)]).1 = 2 ∨ (pf_X5_pass [.inr (0, 0, 0), .inl (.int m)]).1 = 3 := by
  unfold pf_X5_pass
  try dsimp only
  repeat' split
  all_goals first | exact Or.inl rfl | exact Or.inr (Or.inl rfl) | exact Or.inr (Or.inr (rfl))
set_option maxHeartbeats 1000000 in
theorem x_L_pass (m : Int32) : wq_Wr yL_pass cL_pass 4 [(0, 9, 12, 15), (0, 9, 15, 17)] 8 [.inl (.int m)] (hc_pass (pf_X5_pass [.inr (0, 0, 0), .inl (.int m)]).1) (pf_X5_pass [.inr (0, 0, 0), .inl (.int m)]).2 := by
  intro ll D tys ad sz σ oo cO f0 hstk hty hfr ho
  refine vx_ofWH (cc := cL_pass) (maxL := 4) (ret := some .int) (hh := [(0, 9, 12, 15), (0, 9, 15, 17)]) (by decide +kernel) rfl ?_
  intro pp ee s mm args below meth cd s₁ B hml hv
  obtain ⟨rfl, hsz, hP, hK, hD, hnw, hXF, hN, hKo, hO⟩ := hv
  subst hsz
  have hx := B.exec
  have hb := B.bytes
  have hr := B.returns
  have hlocks := B.notSynchronized
  have hts0 : ∀ w ∈ (.codeWith yL_pass cL_pass 4 (some .int) [(0, 9, 12, 15), (0, 9, 15, 17)] :: ww_tb : List Cond), w.before ([Value.ref (ad (0, 0, 0)), Value.int m, Value.ref oo] : List Value).toArray s = true := atoms_spec (ws := .codeWith yL_pass cL_pass 4 (some .int) [(0, 9, 12, 15), (0, 9, 15, 17)] :: ww_tb) B.pre
  have hts : ∀ w ∈ ww_tb, w.before ([Value.ref (ad (0, 0, 0)), Value.int m, Value.ref oo] : List Value).toArray s = true := fun w h => hts0 w (List.mem_cons_of_mem _ h)
  have hown : s.vm.findClass RL = some mm.cls := findClass_of_methodNamed B.named
  have hT : cd.exceptionTable.toList = [] ++ ([(0, 9, 12, 15), (0, 9, 15, 17)] : List (Nat × Nat × Nat × Nat)).map wq_en := vx_table (x := yL_pass) B (hts0 _ List.mem_cons_self)
  have hl := lv_entry ([Value.ref (ad (0, 0, 0)), Value.int m, Value.ref oo] : List Value) (n := 4) (show (3 : Nat) ≤ 4 by decide)
  rw [lg_entry_eq]
  refine lv_aload_n hx hb dL_pass_0 rfl (hl.2.2 (2, .ref oo) (by repeat (first | exact List.mem_cons_self | apply List.mem_cons_of_mem))) ?_
  refine lv_iconst hx hb dL_pass_1 rfl ?_
  refine lv_aload_n hx hb dL_pass_2 rfl (hl.2.2 (0, .ref (ad (0, 0, 0))) (by repeat (first | exact List.mem_cons_self | apply List.mem_cons_of_mem))) ?_
  refine lv_iload_n hx hb dL_pass_3 rfl (hl.2.2 (1, .int m) (by repeat (first | exact List.mem_cons_self | apply List.mem_cons_of_mem))) ?_
  refine wq_call (as := [.inl (.int m)]) (pc := 4) hx hb hml hown hts hstk hty hK hD hnw hXF hP hO ho p_X5_pass dL_pass_4 u_374 u_64 u_375 u_376 u_377 (show yX5_pass.cls = RX5 ∧ yX5_pass.cls ≠ "java/lang/invoke/MethodHandle" ∧ yX5_pass.cls ≠ "java/lang/invoke/VarHandle" ∧ (parseMethodDescriptor yX5_pass.desc).map (fun d => d.parameters.length) = some 1 by decide +kernel) ⟨Nat.le_refl _, by decide⟩ ⟨Nat.le_refl _, Nat.le_refl _⟩ (fun v hv => by revert v; exact List.forall_mem_cons.mpr ⟨trivial, fun _ h => nomatch h⟩) hfr hl.1 (fun H1 locs1 h0 hS1 hO1 => ?_) (fun H1 locs1 qa ce h0 hS1 hO1 hq hcv hcls => ?_)
  · refine lv_i2l hx hb dL_pass_7 rfl ?_
    exact wq_fin hx hb hr hlocks dL_pass_8 dL_pass_9 (by decide) dL_pass_18 dL_pass_19 hKo rfl (by rw [h0]; rfl) hS1 hO1
  · rcases hp_pass m with z | z | z
    · exact absurd z h0
    · rw [z] at hcls
      refine wq_catch (pc := 4) (x := 2) (hpc := 12) hown (wq_lk hts) hN (Or.inr (Or.inl rfl)) hq hcv hcls ?_ [(0, 9, 12, 15), (0, 9, 15, 17)] [] hT (fun _ h => nomatch h) (by decide) rfl
      refine lv_astore_n hx hb dL_pass_12 rfl hl (by decide) rfl (fun ls' hl' => ?_)
      exact wq_end (f := f0) hx hb hr hlocks dL_pass_13 rfl dL_pass_14 (by rw [z]; rfl) (fun z2 => absurd (by rw [z] at z2; exact z2) (show ¬ (1 : Int32) = 0 by decide)) hS1 hO1
    · rw [z] at hcls
      refine wq_catch (pc := 4) (x := 3) (hpc := 15) hown (wq_lk hts) hN (Or.inr (Or.inr rfl)) hq hcv hcls ?_ [(0, 9, 12, 15), (0, 9, 15, 17)] [] hT (fun _ h => nomatch h) (by decide) rfl
      refine lv_astore_n hx hb dL_pass_15 rfl hl (by decide) rfl (fun ls' hl' => ?_)
      exact wq_end (f := f0) hx hb hr hlocks dL_pass_16 rfl dL_pass_17 (by rw [z]; rfl) (fun z2 => absurd (by rw [z] at z2; exact z2) (show ¬ (2 : Int32) = 0 by decide)) hS1 hO1

def hc_until (x : Nat) : Int32 := match x with | 0 => 0 | 2 => 1 | 3 => 2 | _ => 9
theorem hp_until (q : Int32) : (pf_X5_until [.inr (0, 0, 0), .inl (.int q)]).1 = 0 ∨ (pf_X5_until [.inr (0, 0, 0), .inl (.int q)]).1 = 2 ∨ (pf_X5_until [.inr (0, 0, 0), .inl (.int q)]).1 = 3 := by
  unfold pf_X5_until
  try dsimp only
  repeat' split
  all_goals first | exact Or.inl rfl | exact Or.inr (Or.inl rfl) | exact Or.inr (Or.inr (rfl))
set_option maxHeartbeats 1000000 in
theorem x_L_until (q : Int32) : wq_Wr yL_until cL_until 4 [(0, 9, 12, 15), (0, 9, 15, 17)] 8 [.inl (.int q)] (hc_until (pf_X5_until [.inr (0, 0, 0), .inl (.int q)]).1) (pf_X5_until [.inr (0, 0, 0), .inl (.int q)]).2 := by
  intro ll D tys ad sz σ oo cO f0 hstk hty hfr ho
  refine vx_ofWH (cc := cL_until) (maxL := 4) (ret := some .int) (hh := [(0, 9, 12, 15), (0, 9, 15, 17)]) (by decide +kernel) rfl ?_
  intro pp ee s mm args below meth cd s₁ B hml hv
  obtain ⟨rfl, hsz, hP, hK, hD, hnw, hXF, hN, hKo, hO⟩ := hv
  subst hsz
  have hx := B.exec
  have hb := B.bytes
  have hr := B.returns
  have hlocks := B.notSynchronized
  have hts0 : ∀ w ∈ (.codeWith yL_until cL_until 4 (some .int) [(0, 9, 12, 15), (0, 9, 15, 17)] :: ww_tb : List Cond), w.before ([Value.ref (ad (0, 0, 0)), Value.int q, Value.ref oo] : List Value).toArray s = true := atoms_spec (ws := .codeWith yL_until cL_until 4 (some .int) [(0, 9, 12, 15), (0, 9, 15, 17)] :: ww_tb) B.pre
  have hts : ∀ w ∈ ww_tb, w.before ([Value.ref (ad (0, 0, 0)), Value.int q, Value.ref oo] : List Value).toArray s = true := fun w h => hts0 w (List.mem_cons_of_mem _ h)
  have hown : s.vm.findClass RL = some mm.cls := findClass_of_methodNamed B.named
  have hT : cd.exceptionTable.toList = [] ++ ([(0, 9, 12, 15), (0, 9, 15, 17)] : List (Nat × Nat × Nat × Nat)).map wq_en := vx_table (x := yL_until) B (hts0 _ List.mem_cons_self)
  have hl := lv_entry ([Value.ref (ad (0, 0, 0)), Value.int q, Value.ref oo] : List Value) (n := 4) (show (3 : Nat) ≤ 4 by decide)
  rw [lg_entry_eq]
  refine lv_aload_n hx hb dL_until_0 rfl (hl.2.2 (2, .ref oo) (by repeat (first | exact List.mem_cons_self | apply List.mem_cons_of_mem))) ?_
  refine lv_iconst hx hb dL_until_1 rfl ?_
  refine lv_aload_n hx hb dL_until_2 rfl (hl.2.2 (0, .ref (ad (0, 0, 0))) (by repeat (first | exact List.mem_cons_self | apply List.mem_cons_of_mem))) ?_
  refine lv_iload_n hx hb dL_until_3 rfl (hl.2.2 (1, .int q) (by repeat (first | exact List.mem_cons_self | apply List.mem_cons_of_mem))) ?_
  refine wq_call (as := [.inl (.int q)]) (pc := 4) hx hb hml hown hts hstk hty hK hD hnw hXF hP hO ho p_X5_until dL_until_4 u_378 u_64 u_379 u_380 u_381 (show yX5_until.cls = RX5 ∧ yX5_until.cls ≠ "java/lang/invoke/MethodHandle" ∧ yX5_until.cls ≠ "java/lang/invoke/VarHandle" ∧ (parseMethodDescriptor yX5_until.desc).map (fun d => d.parameters.length) = some 1 by decide +kernel) ⟨Nat.le_refl _, by decide⟩ ⟨Nat.le_refl _, Nat.le_refl _⟩ (fun v hv => by revert v; exact List.forall_mem_cons.mpr ⟨trivial, fun _ h => nomatch h⟩) hfr hl.1 (fun H1 locs1 h0 hS1 hO1 => ?_) (fun H1 locs1 qa ce h0 hS1 hO1 hq hcv hcls => ?_)
  · refine lv_i2l hx hb dL_until_7 rfl ?_
    exact wq_fin hx hb hr hlocks dL_until_8 dL_until_9 (by decide) dL_until_18 dL_until_19 hKo rfl (by rw [h0]; rfl) hS1 hO1
  · rcases hp_until q with z | z | z
    · exact absurd z h0
    · rw [z] at hcls
      refine wq_catch (pc := 4) (x := 2) (hpc := 12) hown (wq_lk hts) hN (Or.inr (Or.inl rfl)) hq hcv hcls ?_ [(0, 9, 12, 15), (0, 9, 15, 17)] [] hT (fun _ h => nomatch h) (by decide) rfl
      refine lv_astore_n hx hb dL_until_12 rfl hl (by decide) rfl (fun ls' hl' => ?_)
      exact wq_end (f := f0) hx hb hr hlocks dL_until_13 rfl dL_until_14 (by rw [z]; rfl) (fun z2 => absurd (by rw [z] at z2; exact z2) (show ¬ (1 : Int32) = 0 by decide)) hS1 hO1
    · rw [z] at hcls
      refine wq_catch (pc := 4) (x := 3) (hpc := 15) hown (wq_lk hts) hN (Or.inr (Or.inr rfl)) hq hcv hcls ?_ [(0, 9, 12, 15), (0, 9, 15, 17)] [] hT (fun _ h => nomatch h) (by decide) rfl
      refine lv_astore_n hx hb dL_until_15 rfl hl (by decide) rfl (fun ls' hl' => ?_)
      exact wq_end (f := f0) hx hb hr hlocks dL_until_16 rfl dL_until_17 (by rw [z]; rfl) (fun z2 => absurd (by rw [z] at z2; exact z2) (show ¬ (2 : Int32) = 0 by decide)) hS1 hO1

def hc_ofGroup (x : Nat) : Int32 := match x with | 0 => 0 | 1 => 1 | 2 => 2 | _ => 9
theorem hp_ofGroup (c d : Int32) : (pf_X5_ofGroup [.inr (0, 0, 0), .inl (.int c), .inl (.int d)]).1 = 0 ∨ (pf_X5_ofGroup [.inr (0, 0, 0), .inl (.int c), .inl (.int d)]).1 = 1 ∨ (pf_X5_ofGroup [.inr (0, 0, 0), .inl (.int c), .inl (.int d)]).1 = 2 := by
  unfold pf_X5_ofGroup
  try dsimp only
  repeat' split
  all_goals first | exact Or.inl rfl | exact Or.inr (Or.inl rfl) | exact Or.inr (Or.inr (rfl))
set_option maxHeartbeats 1000000 in
theorem x_L_ofGroup (c d : Int32) : wq_Wr yL_ofGroup cL_ofGroup 5 [(0, 10, 13, 13), (0, 10, 17, 15)] 8 [.inl (.int c), .inl (.int d)] (hc_ofGroup (pf_X5_ofGroup [.inr (0, 0, 0), .inl (.int c), .inl (.int d)]).1) (pf_X5_ofGroup [.inr (0, 0, 0), .inl (.int c), .inl (.int d)]).2 := by
  intro ll D tys ad sz σ oo cO f0 hstk hty hfr ho
  refine vx_ofWH (cc := cL_ofGroup) (maxL := 5) (ret := some .int) (hh := [(0, 10, 13, 13), (0, 10, 17, 15)]) (by decide +kernel) rfl ?_
  intro pp ee s mm args below meth cd s₁ B hml hv
  obtain ⟨rfl, hsz, hP, hK, hD, hnw, hXF, hN, hKo, hO⟩ := hv
  subst hsz
  have hx := B.exec
  have hb := B.bytes
  have hr := B.returns
  have hlocks := B.notSynchronized
  have hts0 : ∀ w ∈ (.codeWith yL_ofGroup cL_ofGroup 5 (some .int) [(0, 10, 13, 13), (0, 10, 17, 15)] :: ww_tb : List Cond), w.before ([Value.ref (ad (0, 0, 0)), Value.int c, Value.int d, Value.ref oo] : List Value).toArray s = true := atoms_spec (ws := .codeWith yL_ofGroup cL_ofGroup 5 (some .int) [(0, 10, 13, 13), (0, 10, 17, 15)] :: ww_tb) B.pre
  have hts : ∀ w ∈ ww_tb, w.before ([Value.ref (ad (0, 0, 0)), Value.int c, Value.int d, Value.ref oo] : List Value).toArray s = true := fun w h => hts0 w (List.mem_cons_of_mem _ h)
  have hown : s.vm.findClass RL = some mm.cls := findClass_of_methodNamed B.named
  have hT : cd.exceptionTable.toList = [] ++ ([(0, 10, 13, 13), (0, 10, 17, 15)] : List (Nat × Nat × Nat × Nat)).map wq_en := vx_table (x := yL_ofGroup) B (hts0 _ List.mem_cons_self)
  have hl := lv_entry ([Value.ref (ad (0, 0, 0)), Value.int c, Value.int d, Value.ref oo] : List Value) (n := 5) (show (4 : Nat) ≤ 5 by decide)
  rw [lg_entry_eq]
  refine lv_aload_n hx hb dL_ofGroup_0 rfl (hl.2.2 (3, .ref oo) (by repeat (first | exact List.mem_cons_self | apply List.mem_cons_of_mem))) ?_
  refine lv_iconst hx hb dL_ofGroup_1 rfl ?_
  refine lv_aload_n hx hb dL_ofGroup_2 rfl (hl.2.2 (0, .ref (ad (0, 0, 0))) (by repeat (first | exact List.mem_cons_self | apply List.mem_cons_of_mem))) ?_
  refine lv_iload_n hx hb dL_ofGroup_3 rfl (hl.2.2 (1, .int c) (by repeat (first | exact List.mem_cons_self | apply List.mem_cons_of_mem))) ?_
  refine lv_iload_n hx hb dL_ofGroup_4 rfl (hl.2.2 (2, .int d) (by repeat (first | exact List.mem_cons_self | apply List.mem_cons_of_mem))) ?_
  refine wq_call (as := [.inl (.int c), .inl (.int d)]) (pc := 5) hx hb hml hown hts hstk hty hK hD hnw hXF hP hO ho p_X5_ofGroup dL_ofGroup_5 u_177 u_64 u_382 u_179 u_180 (show yX5_ofGroup.cls = RX5 ∧ yX5_ofGroup.cls ≠ "java/lang/invoke/MethodHandle" ∧ yX5_ofGroup.cls ≠ "java/lang/invoke/VarHandle" ∧ (parseMethodDescriptor yX5_ofGroup.desc).map (fun d => d.parameters.length) = some 2 by decide +kernel) ⟨Nat.le_refl _, by decide⟩ ⟨Nat.le_refl _, Nat.le_refl _⟩ (fun v hv => by revert v; exact List.forall_mem_cons.mpr ⟨trivial, List.forall_mem_cons.mpr ⟨trivial, fun _ h => nomatch h⟩⟩) hfr hl.1 (fun H1 locs1 h0 hS1 hO1 => ?_) (fun H1 locs1 qa ce h0 hS1 hO1 hq hcv hcls => ?_)
  · refine lv_i2l hx hb dL_ofGroup_8 rfl ?_
    exact wq_fin hx hb hr hlocks dL_ofGroup_9 dL_ofGroup_10 (by decide) dL_ofGroup_21 dL_ofGroup_22 hKo rfl (by rw [h0]; rfl) hS1 hO1
  · rcases hp_ofGroup c d with z | z | z
    · exact absurd z h0
    · rw [z] at hcls
      refine wq_catch (pc := 5) (x := 1) (hpc := 13) hown (wq_lk hts) hN (Or.inl rfl) hq hcv hcls ?_ [(0, 10, 13, 13), (0, 10, 17, 15)] [] hT (fun _ h => nomatch h) (by decide) rfl
      refine lv_astore hx hb dL_ofGroup_13 hl (by decide) rfl (fun ls' hl' => ?_)
      exact wq_end (f := f0) hx hb hr hlocks dL_ofGroup_15 rfl dL_ofGroup_16 (by rw [z]; rfl) (fun z2 => absurd (by rw [z] at z2; exact z2) (show ¬ (1 : Int32) = 0 by decide)) hS1 hO1
    · rw [z] at hcls
      refine wq_catch (pc := 5) (x := 2) (hpc := 17) hown (wq_lk hts) hN (Or.inr (Or.inl rfl)) hq hcv hcls ?_ [(0, 10, 13, 13), (0, 10, 17, 15)] [] hT (fun _ h => nomatch h) (by decide) rfl
      refine lv_astore hx hb dL_ofGroup_17 hl (by decide) rfl (fun ls' hl' => ?_)
      exact wq_end (f := f0) hx hb hr hlocks dL_ofGroup_19 rfl dL_ofGroup_20 (by rw [z]; rfl) (fun z2 => absurd (by rw [z] at z2; exact z2) (show ¬ (2 : Int32) = 0 by decide)) hS1 hO1

def hc_heard (x : Nat) : Int32 := match x with | 0 => 0 | 1 => 1 | 2 => 2 | _ => 9
theorem hp_heard (c d e : Int32) : (pf_X5_heard [.inr (0, 0, 0), .inl (.int c), .inl (.int d), .inl (.int e)]).1 = 0 ∨ (pf_X5_heard [.inr (0, 0, 0), .inl (.int c), .inl (.int d), .inl (.int e)]).1 = 1 ∨ (pf_X5_heard [.inr (0, 0, 0), .inl (.int c), .inl (.int d), .inl (.int e)]).1 = 2 := by
  unfold pf_X5_heard
  try dsimp only
  repeat' split
  all_goals first | exact Or.inl rfl | exact Or.inr (Or.inl rfl) | exact Or.inr (Or.inr (rfl))
set_option maxHeartbeats 1000000 in
theorem x_L_heard (c d e : Int32) : wq_Wr yL_heard cL_heard 6 [(0, 12, 15, 13), (0, 12, 19, 15)] 8 [.inl (.int c), .inl (.int d), .inl (.int e)] (hc_heard (pf_X5_heard [.inr (0, 0, 0), .inl (.int c), .inl (.int d), .inl (.int e)]).1) (pf_X5_heard [.inr (0, 0, 0), .inl (.int c), .inl (.int d), .inl (.int e)]).2 := by
  intro ll D tys ad sz σ oo cO f0 hstk hty hfr ho
  refine vx_ofWH (cc := cL_heard) (maxL := 6) (ret := some .int) (hh := [(0, 12, 15, 13), (0, 12, 19, 15)]) (by decide +kernel) rfl ?_
  intro pp ee s mm args below meth cd s₁ B hml hv
  obtain ⟨rfl, hsz, hP, hK, hD, hnw, hXF, hN, hKo, hO⟩ := hv
  subst hsz
  have hx := B.exec
  have hb := B.bytes
  have hr := B.returns
  have hlocks := B.notSynchronized
  have hts0 : ∀ w ∈ (.codeWith yL_heard cL_heard 6 (some .int) [(0, 12, 15, 13), (0, 12, 19, 15)] :: ww_tb : List Cond), w.before ([Value.ref (ad (0, 0, 0)), Value.int c, Value.int d, Value.int e, Value.ref oo] : List Value).toArray s = true := atoms_spec (ws := .codeWith yL_heard cL_heard 6 (some .int) [(0, 12, 15, 13), (0, 12, 19, 15)] :: ww_tb) B.pre
  have hts : ∀ w ∈ ww_tb, w.before ([Value.ref (ad (0, 0, 0)), Value.int c, Value.int d, Value.int e, Value.ref oo] : List Value).toArray s = true := fun w h => hts0 w (List.mem_cons_of_mem _ h)
  have hown : s.vm.findClass RL = some mm.cls := findClass_of_methodNamed B.named
  have hT : cd.exceptionTable.toList = [] ++ ([(0, 12, 15, 13), (0, 12, 19, 15)] : List (Nat × Nat × Nat × Nat)).map wq_en := vx_table (x := yL_heard) B (hts0 _ List.mem_cons_self)
  have hl := lv_entry ([Value.ref (ad (0, 0, 0)), Value.int c, Value.int d, Value.int e, Value.ref oo] : List Value) (n := 6) (show (5 : Nat) ≤ 6 by decide)
  rw [lg_entry_eq]
  refine lv_aload hx hb dL_heard_0 (hl.2.2 (4, .ref oo) (by repeat (first | exact List.mem_cons_self | apply List.mem_cons_of_mem))) ?_
  refine lv_iconst hx hb dL_heard_2 rfl ?_
  refine lv_aload_n hx hb dL_heard_3 rfl (hl.2.2 (0, .ref (ad (0, 0, 0))) (by repeat (first | exact List.mem_cons_self | apply List.mem_cons_of_mem))) ?_
  refine lv_iload_n hx hb dL_heard_4 rfl (hl.2.2 (1, .int c) (by repeat (first | exact List.mem_cons_self | apply List.mem_cons_of_mem))) ?_
  refine lv_iload_n hx hb dL_heard_5 rfl (hl.2.2 (2, .int d) (by repeat (first | exact List.mem_cons_self | apply List.mem_cons_of_mem))) ?_
  refine lv_iload_n hx hb dL_heard_6 rfl (hl.2.2 (3, .int e) (by repeat (first | exact List.mem_cons_self | apply List.mem_cons_of_mem))) ?_
  refine wq_call (as := [.inl (.int c), .inl (.int d), .inl (.int e)]) (pc := 7) hx hb hml hown hts hstk hty hK hD hnw hXF hP hO ho p_X5_heard dL_heard_7 u_383 u_64 u_384 u_385 u_386 (show yX5_heard.cls = RX5 ∧ yX5_heard.cls ≠ "java/lang/invoke/MethodHandle" ∧ yX5_heard.cls ≠ "java/lang/invoke/VarHandle" ∧ (parseMethodDescriptor yX5_heard.desc).map (fun d => d.parameters.length) = some 3 by decide +kernel) ⟨Nat.le_refl _, by decide⟩ ⟨Nat.le_refl _, Nat.le_refl _⟩ (fun v hv => by revert v; exact List.forall_mem_cons.mpr ⟨trivial, List.forall_mem_cons.mpr ⟨trivial, List.forall_mem_cons.mpr ⟨trivial, fun _ h => nomatch h⟩⟩⟩) hfr hl.1 (fun H1 locs1 h0 hS1 hO1 => ?_) (fun H1 locs1 qa ce h0 hS1 hO1 hq hcv hcls => ?_)
  · refine lv_i2l hx hb dL_heard_10 rfl ?_
    exact wq_fin hx hb hr hlocks dL_heard_11 dL_heard_12 (by decide) dL_heard_23 dL_heard_24 hKo rfl (by rw [h0]; rfl) hS1 hO1
  · rcases hp_heard c d e with z | z | z
    · exact absurd z h0
    · rw [z] at hcls
      refine wq_catch (pc := 7) (x := 1) (hpc := 15) hown (wq_lk hts) hN (Or.inl rfl) hq hcv hcls ?_ [(0, 12, 15, 13), (0, 12, 19, 15)] [] hT (fun _ h => nomatch h) (by decide) rfl
      refine lv_astore hx hb dL_heard_15 hl (by decide) rfl (fun ls' hl' => ?_)
      exact wq_end (f := f0) hx hb hr hlocks dL_heard_17 rfl dL_heard_18 (by rw [z]; rfl) (fun z2 => absurd (by rw [z] at z2; exact z2) (show ¬ (1 : Int32) = 0 by decide)) hS1 hO1
    · rw [z] at hcls
      refine wq_catch (pc := 7) (x := 2) (hpc := 19) hown (wq_lk hts) hN (Or.inr (Or.inl rfl)) hq hcv hcls ?_ [(0, 12, 15, 13), (0, 12, 19, 15)] [] hT (fun _ h => nomatch h) (by decide) rfl
      refine lv_astore hx hb dL_heard_19 hl (by decide) rfl (fun ls' hl' => ?_)
      exact wq_end (f := f0) hx hb hr hlocks dL_heard_21 rfl dL_heard_22 (by rw [z]; rfl) (fun z2 => absurd (by rw [z] at z2; exact z2) (show ¬ (2 : Int32) = 0 by decide)) hS1 hO1

def hc_ofWarning (x : Nat) : Int32 := match x with | 0 => 0 | 1 => 1 | 2 => 2 | _ => 9
theorem hp_ofWarning (c d : Int32) : (pf_X5_ofWarning [.inr (0, 0, 0), .inl (.int c), .inl (.int d)]).1 = 0 ∨ (pf_X5_ofWarning [.inr (0, 0, 0), .inl (.int c), .inl (.int d)]).1 = 1 ∨ (pf_X5_ofWarning [.inr (0, 0, 0), .inl (.int c), .inl (.int d)]).1 = 2 := by
  unfold pf_X5_ofWarning
  try dsimp only
  repeat' split
  all_goals first | exact Or.inl rfl | exact Or.inr (Or.inl rfl) | exact Or.inr (Or.inr (rfl))
set_option maxHeartbeats 1000000 in
theorem x_L_ofWarning (c d : Int32) : wq_Wr yL_ofWarning cL_ofWarning 5 [(0, 10, 13, 13), (0, 10, 17, 15)] 8 [.inl (.int c), .inl (.int d)] (hc_ofWarning (pf_X5_ofWarning [.inr (0, 0, 0), .inl (.int c), .inl (.int d)]).1) (pf_X5_ofWarning [.inr (0, 0, 0), .inl (.int c), .inl (.int d)]).2 := by
  intro ll D tys ad sz σ oo cO f0 hstk hty hfr ho
  refine vx_ofWH (cc := cL_ofWarning) (maxL := 5) (ret := some .int) (hh := [(0, 10, 13, 13), (0, 10, 17, 15)]) (by decide +kernel) rfl ?_
  intro pp ee s mm args below meth cd s₁ B hml hv
  obtain ⟨rfl, hsz, hP, hK, hD, hnw, hXF, hN, hKo, hO⟩ := hv
  subst hsz
  have hx := B.exec
  have hb := B.bytes
  have hr := B.returns
  have hlocks := B.notSynchronized
  have hts0 : ∀ w ∈ (.codeWith yL_ofWarning cL_ofWarning 5 (some .int) [(0, 10, 13, 13), (0, 10, 17, 15)] :: ww_tb : List Cond), w.before ([Value.ref (ad (0, 0, 0)), Value.int c, Value.int d, Value.ref oo] : List Value).toArray s = true := atoms_spec (ws := .codeWith yL_ofWarning cL_ofWarning 5 (some .int) [(0, 10, 13, 13), (0, 10, 17, 15)] :: ww_tb) B.pre
  have hts : ∀ w ∈ ww_tb, w.before ([Value.ref (ad (0, 0, 0)), Value.int c, Value.int d, Value.ref oo] : List Value).toArray s = true := fun w h => hts0 w (List.mem_cons_of_mem _ h)
  have hown : s.vm.findClass RL = some mm.cls := findClass_of_methodNamed B.named
  have hT : cd.exceptionTable.toList = [] ++ ([(0, 10, 13, 13), (0, 10, 17, 15)] : List (Nat × Nat × Nat × Nat)).map wq_en := vx_table (x := yL_ofWarning) B (hts0 _ List.mem_cons_self)
  have hl := lv_entry ([Value.ref (ad (0, 0, 0)), Value.int c, Value.int d, Value.ref oo] : List Value) (n := 5) (show (4 : Nat) ≤ 5 by decide)
  rw [lg_entry_eq]
  refine lv_aload_n hx hb dL_ofWarning_0 rfl (hl.2.2 (3, .ref oo) (by repeat (first | exact List.mem_cons_self | apply List.mem_cons_of_mem))) ?_
  refine lv_iconst hx hb dL_ofWarning_1 rfl ?_
  refine lv_aload_n hx hb dL_ofWarning_2 rfl (hl.2.2 (0, .ref (ad (0, 0, 0))) (by repeat (first | exact List.mem_cons_self | apply List.mem_cons_of_mem))) ?_
  refine lv_iload_n hx hb dL_ofWarning_3 rfl (hl.2.2 (1, .int c) (by repeat (first | exact List.mem_cons_self | apply List.mem_cons_of_mem))) ?_
  refine lv_iload_n hx hb dL_ofWarning_4 rfl (hl.2.2 (2, .int d) (by repeat (first | exact List.mem_cons_self | apply List.mem_cons_of_mem))) ?_
  refine wq_call (as := [.inl (.int c), .inl (.int d)]) (pc := 5) hx hb hml hown hts hstk hty hK hD hnw hXF hP hO ho p_X5_ofWarning dL_ofWarning_5 u_181 u_64 u_387 u_183 u_184 (show yX5_ofWarning.cls = RX5 ∧ yX5_ofWarning.cls ≠ "java/lang/invoke/MethodHandle" ∧ yX5_ofWarning.cls ≠ "java/lang/invoke/VarHandle" ∧ (parseMethodDescriptor yX5_ofWarning.desc).map (fun d => d.parameters.length) = some 2 by decide +kernel) ⟨Nat.le_refl _, by decide⟩ ⟨Nat.le_refl _, Nat.le_refl _⟩ (fun v hv => by revert v; exact List.forall_mem_cons.mpr ⟨trivial, List.forall_mem_cons.mpr ⟨trivial, fun _ h => nomatch h⟩⟩) hfr hl.1 (fun H1 locs1 h0 hS1 hO1 => ?_) (fun H1 locs1 qa ce h0 hS1 hO1 hq hcv hcls => ?_)
  · refine lv_i2l hx hb dL_ofWarning_8 rfl ?_
    exact wq_fin hx hb hr hlocks dL_ofWarning_9 dL_ofWarning_10 (by decide) dL_ofWarning_21 dL_ofWarning_22 hKo rfl (by rw [h0]; rfl) hS1 hO1
  · rcases hp_ofWarning c d with z | z | z
    · exact absurd z h0
    · rw [z] at hcls
      refine wq_catch (pc := 5) (x := 1) (hpc := 13) hown (wq_lk hts) hN (Or.inl rfl) hq hcv hcls ?_ [(0, 10, 13, 13), (0, 10, 17, 15)] [] hT (fun _ h => nomatch h) (by decide) rfl
      refine lv_astore hx hb dL_ofWarning_13 hl (by decide) rfl (fun ls' hl' => ?_)
      exact wq_end (f := f0) hx hb hr hlocks dL_ofWarning_15 rfl dL_ofWarning_16 (by rw [z]; rfl) (fun z2 => absurd (by rw [z] at z2; exact z2) (show ¬ (1 : Int32) = 0 by decide)) hS1 hO1
    · rw [z] at hcls
      refine wq_catch (pc := 5) (x := 2) (hpc := 17) hown (wq_lk hts) hN (Or.inr (Or.inl rfl)) hq hcv hcls ?_ [(0, 10, 13, 13), (0, 10, 17, 15)] [] hT (fun _ h => nomatch h) (by decide) rfl
      refine lv_astore hx hb dL_ofWarning_17 hl (by decide) rfl (fun ls' hl' => ?_)
      exact wq_end (f := f0) hx hb hr hlocks dL_ofWarning_19 rfl dL_ofWarning_20 (by rw [z]; rfl) (fun z2 => absurd (by rw [z] at z2; exact z2) (show ¬ (2 : Int32) = 0 by decide)) hS1 hO1

def hc_inForce (x : Nat) : Int32 := match x with | 0 => 0 | 1 => 1 | _ => 9
theorem hp_inForce (c : Int32) : (pf_X5_inForce [.inr (0, 0, 0), .inl (.int c)]).1 = 0 ∨ (pf_X5_inForce [.inr (0, 0, 0), .inl (.int c)]).1 = 1 := by
  unfold pf_X5_inForce
  try dsimp only
  repeat' split
  all_goals first | exact Or.inl rfl | exact Or.inr (rfl)
set_option maxHeartbeats 1000000 in
theorem x_L_inForce (c : Int32) : wq_Wr yL_inForce cL_inForce 4 [(0, 9, 12, 13)] 8 [.inl (.int c)] (hc_inForce (pf_X5_inForce [.inr (0, 0, 0), .inl (.int c)]).1) (pf_X5_inForce [.inr (0, 0, 0), .inl (.int c)]).2 := by
  intro ll D tys ad sz σ oo cO f0 hstk hty hfr ho
  refine vx_ofWH (cc := cL_inForce) (maxL := 4) (ret := some .int) (hh := [(0, 9, 12, 13)]) (by decide +kernel) rfl ?_
  intro pp ee s mm args below meth cd s₁ B hml hv
  obtain ⟨rfl, hsz, hP, hK, hD, hnw, hXF, hN, hKo, hO⟩ := hv
  subst hsz
  have hx := B.exec
  have hb := B.bytes
  have hr := B.returns
  have hlocks := B.notSynchronized
  have hts0 : ∀ w ∈ (.codeWith yL_inForce cL_inForce 4 (some .int) [(0, 9, 12, 13)] :: ww_tb : List Cond), w.before ([Value.ref (ad (0, 0, 0)), Value.int c, Value.ref oo] : List Value).toArray s = true := atoms_spec (ws := .codeWith yL_inForce cL_inForce 4 (some .int) [(0, 9, 12, 13)] :: ww_tb) B.pre
  have hts : ∀ w ∈ ww_tb, w.before ([Value.ref (ad (0, 0, 0)), Value.int c, Value.ref oo] : List Value).toArray s = true := fun w h => hts0 w (List.mem_cons_of_mem _ h)
  have hown : s.vm.findClass RL = some mm.cls := findClass_of_methodNamed B.named
  have hT : cd.exceptionTable.toList = [] ++ ([(0, 9, 12, 13)] : List (Nat × Nat × Nat × Nat)).map wq_en := vx_table (x := yL_inForce) B (hts0 _ List.mem_cons_self)
  have hl := lv_entry ([Value.ref (ad (0, 0, 0)), Value.int c, Value.ref oo] : List Value) (n := 4) (show (3 : Nat) ≤ 4 by decide)
  rw [lg_entry_eq]
  refine lv_aload_n hx hb dL_inForce_0 rfl (hl.2.2 (2, .ref oo) (by repeat (first | exact List.mem_cons_self | apply List.mem_cons_of_mem))) ?_
  refine lv_iconst hx hb dL_inForce_1 rfl ?_
  refine lv_aload_n hx hb dL_inForce_2 rfl (hl.2.2 (0, .ref (ad (0, 0, 0))) (by repeat (first | exact List.mem_cons_self | apply List.mem_cons_of_mem))) ?_
  refine lv_iload_n hx hb dL_inForce_3 rfl (hl.2.2 (1, .int c) (by repeat (first | exact List.mem_cons_self | apply List.mem_cons_of_mem))) ?_
  refine wq_call (as := [.inl (.int c)]) (pc := 4) hx hb hml hown hts hstk hty hK hD hnw hXF hP hO ho p_X5_inForce dL_inForce_4 u_185 u_64 u_388 u_187 u_188 (show yX5_inForce.cls = RX5 ∧ yX5_inForce.cls ≠ "java/lang/invoke/MethodHandle" ∧ yX5_inForce.cls ≠ "java/lang/invoke/VarHandle" ∧ (parseMethodDescriptor yX5_inForce.desc).map (fun d => d.parameters.length) = some 1 by decide +kernel) ⟨Nat.le_refl _, by decide⟩ ⟨Nat.le_refl _, Nat.le_refl _⟩ (fun v hv => by revert v; exact List.forall_mem_cons.mpr ⟨trivial, fun _ h => nomatch h⟩) hfr hl.1 (fun H1 locs1 h0 hS1 hO1 => ?_) (fun H1 locs1 qa ce h0 hS1 hO1 hq hcv hcls => ?_)
  · refine lv_i2l hx hb dL_inForce_7 rfl ?_
    exact wq_fin hx hb hr hlocks dL_inForce_8 dL_inForce_9 (by decide) dL_inForce_15 dL_inForce_16 hKo rfl (by rw [h0]; rfl) hS1 hO1
  · rcases hp_inForce c with z | z
    · exact absurd z h0
    · rw [z] at hcls
      refine wq_catch (pc := 4) (x := 1) (hpc := 12) hown (wq_lk hts) hN (Or.inl rfl) hq hcv hcls ?_ [(0, 9, 12, 13)] [] hT (fun _ h => nomatch h) (by decide) rfl
      refine lv_astore_n hx hb dL_inForce_12 rfl hl (by decide) rfl (fun ls' hl' => ?_)
      exact wq_end (f := f0) hx hb hr hlocks dL_inForce_13 rfl dL_inForce_14 (by rw [z]; rfl) (fun z2 => absurd (by rw [z] at z2; exact z2) (show ¬ (1 : Int32) = 0 by decide)) hS1 hO1

def hc_roomIn (x : Nat) : Int32 := match x with | 0 => 0 | 1 => 1 | _ => 9
theorem hp_roomIn (c : Int32) : (pf_X5_roomIn [.inr (0, 0, 0), .inl (.int c)]).1 = 0 ∨ (pf_X5_roomIn [.inr (0, 0, 0), .inl (.int c)]).1 = 1 := by
  unfold pf_X5_roomIn
  try dsimp only
  repeat' split
  all_goals first | exact Or.inl rfl | exact Or.inr (rfl)
set_option maxHeartbeats 1000000 in
theorem x_L_roomIn (c : Int32) : wq_Wr yL_roomIn cL_roomIn 4 [(0, 9, 12, 13)] 7 [.inl (.int c)] (hc_roomIn (pf_X5_roomIn [.inr (0, 0, 0), .inl (.int c)]).1) (pf_X5_roomIn [.inr (0, 0, 0), .inl (.int c)]).2 := by
  intro ll D tys ad sz σ oo cO f0 hstk hty hfr ho
  refine vx_ofWH (cc := cL_roomIn) (maxL := 4) (ret := some .int) (hh := [(0, 9, 12, 13)]) (by decide +kernel) rfl ?_
  intro pp ee s mm args below meth cd s₁ B hml hv
  obtain ⟨rfl, hsz, hP, hK, hD, hnw, hXF, hN, hKo, hO⟩ := hv
  subst hsz
  have hx := B.exec
  have hb := B.bytes
  have hr := B.returns
  have hlocks := B.notSynchronized
  have hts0 : ∀ w ∈ (.codeWith yL_roomIn cL_roomIn 4 (some .int) [(0, 9, 12, 13)] :: ww_tb : List Cond), w.before ([Value.ref (ad (0, 0, 0)), Value.int c, Value.ref oo] : List Value).toArray s = true := atoms_spec (ws := .codeWith yL_roomIn cL_roomIn 4 (some .int) [(0, 9, 12, 13)] :: ww_tb) B.pre
  have hts : ∀ w ∈ ww_tb, w.before ([Value.ref (ad (0, 0, 0)), Value.int c, Value.ref oo] : List Value).toArray s = true := fun w h => hts0 w (List.mem_cons_of_mem _ h)
  have hown : s.vm.findClass RL = some mm.cls := findClass_of_methodNamed B.named
  have hT : cd.exceptionTable.toList = [] ++ ([(0, 9, 12, 13)] : List (Nat × Nat × Nat × Nat)).map wq_en := vx_table (x := yL_roomIn) B (hts0 _ List.mem_cons_self)
  have hl := lv_entry ([Value.ref (ad (0, 0, 0)), Value.int c, Value.ref oo] : List Value) (n := 4) (show (3 : Nat) ≤ 4 by decide)
  rw [lg_entry_eq]
  refine lv_aload_n hx hb dL_roomIn_0 rfl (hl.2.2 (2, .ref oo) (by repeat (first | exact List.mem_cons_self | apply List.mem_cons_of_mem))) ?_
  refine lv_iconst hx hb dL_roomIn_1 rfl ?_
  refine lv_aload_n hx hb dL_roomIn_2 rfl (hl.2.2 (0, .ref (ad (0, 0, 0))) (by repeat (first | exact List.mem_cons_self | apply List.mem_cons_of_mem))) ?_
  refine lv_iload_n hx hb dL_roomIn_3 rfl (hl.2.2 (1, .int c) (by repeat (first | exact List.mem_cons_self | apply List.mem_cons_of_mem))) ?_
  refine wq_call (as := [.inl (.int c)]) (pc := 4) hx hb hml hown hts hstk hty hK hD hnw hXF hP hO ho p_X5_roomIn dL_roomIn_4 u_189 u_64 u_389 u_191 u_192 (show yX5_roomIn.cls = RX5 ∧ yX5_roomIn.cls ≠ "java/lang/invoke/MethodHandle" ∧ yX5_roomIn.cls ≠ "java/lang/invoke/VarHandle" ∧ (parseMethodDescriptor yX5_roomIn.desc).map (fun d => d.parameters.length) = some 1 by decide +kernel) ⟨Nat.le_refl _, by decide⟩ ⟨Nat.le_refl _, Nat.le_refl _⟩ (fun v hv => by revert v; exact List.forall_mem_cons.mpr ⟨trivial, fun _ h => nomatch h⟩) hfr hl.1 (fun H1 locs1 h0 hS1 hO1 => ?_) (fun H1 locs1 qa ce h0 hS1 hO1 hq hcv hcls => ?_)
  · refine lv_i2l hx hb dL_roomIn_7 rfl ?_
    exact wq_fin hx hb hr hlocks dL_roomIn_8 dL_roomIn_9 (by decide) dL_roomIn_15 dL_roomIn_16 hKo rfl (by rw [h0]; rfl) hS1 hO1
  · rcases hp_roomIn c with z | z
    · exact absurd z h0
    · rw [z] at hcls
      refine wq_catch (pc := 4) (x := 1) (hpc := 12) hown (wq_lk hts) hN (Or.inl rfl) hq hcv hcls ?_ [(0, 9, 12, 13)] [] hT (fun _ h => nomatch h) (by decide) rfl
      refine lv_astore_n hx hb dL_roomIn_12 rfl hl (by decide) rfl (fun ls' hl' => ?_)
      exact wq_end (f := f0) hx hb hr hlocks dL_roomIn_13 rfl dL_roomIn_14 (by rw [z]; rfl) (fun z2 => absurd (by rw [z] at z2; exact z2) (show ¬ (1 : Int32) = 0 by decide)) hS1 hO1

def hc_chain (x : Nat) : Int32 := match x with | 0 => 0 | 1 => 1 | _ => 9
theorem hp_chain (c d : Int32) : (pf_X5_chain [.inr (0, 0, 0), .inl (.int c), .inl (.int d)]).1 = 0 ∨ (pf_X5_chain [.inr (0, 0, 0), .inl (.int c), .inl (.int d)]).1 = 1 := by
  unfold pf_X5_chain
  try dsimp only
  repeat' split
  all_goals first | exact Or.inl rfl | exact Or.inr (rfl)
set_option maxHeartbeats 1000000 in
theorem x_L_chain (c d : Int32) : wq_Wr yL_chain cL_chain 5 [(0, 10, 13, 13)] 8 [.inl (.int c), .inl (.int d)] (hc_chain (pf_X5_chain [.inr (0, 0, 0), .inl (.int c), .inl (.int d)]).1) (pf_X5_chain [.inr (0, 0, 0), .inl (.int c), .inl (.int d)]).2 := by
  intro ll D tys ad sz σ oo cO f0 hstk hty hfr ho
  refine vx_ofWH (cc := cL_chain) (maxL := 5) (ret := some .int) (hh := [(0, 10, 13, 13)]) (by decide +kernel) rfl ?_
  intro pp ee s mm args below meth cd s₁ B hml hv
  obtain ⟨rfl, hsz, hP, hK, hD, hnw, hXF, hN, hKo, hO⟩ := hv
  subst hsz
  have hx := B.exec
  have hb := B.bytes
  have hr := B.returns
  have hlocks := B.notSynchronized
  have hts0 : ∀ w ∈ (.codeWith yL_chain cL_chain 5 (some .int) [(0, 10, 13, 13)] :: ww_tb : List Cond), w.before ([Value.ref (ad (0, 0, 0)), Value.int c, Value.int d, Value.ref oo] : List Value).toArray s = true := atoms_spec (ws := .codeWith yL_chain cL_chain 5 (some .int) [(0, 10, 13, 13)] :: ww_tb) B.pre
  have hts : ∀ w ∈ ww_tb, w.before ([Value.ref (ad (0, 0, 0)), Value.int c, Value.int d, Value.ref oo] : List Value).toArray s = true := fun w h => hts0 w (List.mem_cons_of_mem _ h)
  have hown : s.vm.findClass RL = some mm.cls := findClass_of_methodNamed B.named
  have hT : cd.exceptionTable.toList = [] ++ ([(0, 10, 13, 13)] : List (Nat × Nat × Nat × Nat)).map wq_en := vx_table (x := yL_chain) B (hts0 _ List.mem_cons_self)
  have hl := lv_entry ([Value.ref (ad (0, 0, 0)), Value.int c, Value.int d, Value.ref oo] : List Value) (n := 5) (show (4 : Nat) ≤ 5 by decide)
  rw [lg_entry_eq]
  refine lv_aload_n hx hb dL_chain_0 rfl (hl.2.2 (3, .ref oo) (by repeat (first | exact List.mem_cons_self | apply List.mem_cons_of_mem))) ?_
  refine lv_iconst hx hb dL_chain_1 rfl ?_
  refine lv_aload_n hx hb dL_chain_2 rfl (hl.2.2 (0, .ref (ad (0, 0, 0))) (by repeat (first | exact List.mem_cons_self | apply List.mem_cons_of_mem))) ?_
  refine lv_iload_n hx hb dL_chain_3 rfl (hl.2.2 (1, .int c) (by repeat (first | exact List.mem_cons_self | apply List.mem_cons_of_mem))) ?_
  refine lv_iload_n hx hb dL_chain_4 rfl (hl.2.2 (2, .int d) (by repeat (first | exact List.mem_cons_self | apply List.mem_cons_of_mem))) ?_
  refine wq_call (as := [.inl (.int c), .inl (.int d)]) (pc := 5) hx hb hml hown hts hstk hty hK hD hnw hXF hP hO ho p_X5_chain dL_chain_5 u_390 u_64 u_391 u_392 u_393 (show yX5_chain.cls = RX5 ∧ yX5_chain.cls ≠ "java/lang/invoke/MethodHandle" ∧ yX5_chain.cls ≠ "java/lang/invoke/VarHandle" ∧ (parseMethodDescriptor yX5_chain.desc).map (fun d => d.parameters.length) = some 2 by decide +kernel) ⟨Nat.le_refl _, by decide⟩ ⟨Nat.le_refl _, Nat.le_refl _⟩ (fun v hv => by revert v; exact List.forall_mem_cons.mpr ⟨trivial, List.forall_mem_cons.mpr ⟨trivial, fun _ h => nomatch h⟩⟩) hfr hl.1 (fun H1 locs1 h0 hS1 hO1 => ?_) (fun H1 locs1 qa ce h0 hS1 hO1 hq hcv hcls => ?_)
  · refine lv_i2l hx hb dL_chain_8 rfl ?_
    exact wq_fin hx hb hr hlocks dL_chain_9 dL_chain_10 (by decide) dL_chain_17 dL_chain_18 hKo rfl (by rw [h0]; rfl) hS1 hO1
  · rcases hp_chain c d with z | z
    · exact absurd z h0
    · rw [z] at hcls
      refine wq_catch (pc := 5) (x := 1) (hpc := 13) hown (wq_lk hts) hN (Or.inl rfl) hq hcv hcls ?_ [(0, 10, 13, 13)] [] hT (fun _ h => nomatch h) (by decide) rfl
      refine lv_astore hx hb dL_chain_13 hl (by decide) rfl (fun ls' hl' => ?_)
      exact wq_end (f := f0) hx hb hr hlocks dL_chain_15 rfl dL_chain_16 (by rw [z]; rfl) (fun z2 => absurd (by rw [z] at z2; exact z2) (show ¬ (1 : Int32) = 0 by decide)) hS1 hO1

def hc_many (x : Nat) : Int32 := match x with | 0 => 0 | 2 => 1 | _ => 9
theorem hp_many (x : Int32) : (pf_X5_many [.inr (0, 0, 0), .inl (.int x)]).1 = 0 ∨ (pf_X5_many [.inr (0, 0, 0), .inl (.int x)]).1 = 2 := by
  unfold pf_X5_many
  try dsimp only
  repeat' split
  all_goals first | exact Or.inl rfl | exact Or.inr (rfl)
set_option maxHeartbeats 1000000 in
theorem x_L_many (x : Int32) : wq_Wr yL_many cL_many 4 [(0, 9, 12, 15)] 7 [.inl (.int x)] (hc_many (pf_X5_many [.inr (0, 0, 0), .inl (.int x)]).1) (pf_X5_many [.inr (0, 0, 0), .inl (.int x)]).2 := by
  intro ll D tys ad sz σ oo cO f0 hstk hty hfr ho
  refine vx_ofWH (cc := cL_many) (maxL := 4) (ret := some .int) (hh := [(0, 9, 12, 15)]) (by decide +kernel) rfl ?_
  intro pp ee s mm args below meth cd s₁ B hml hv
  obtain ⟨rfl, hsz, hP, hK, hD, hnw, hXF, hN, hKo, hO⟩ := hv
  subst hsz
  have hx := B.exec
  have hb := B.bytes
  have hr := B.returns
  have hlocks := B.notSynchronized
  have hts0 : ∀ w ∈ (.codeWith yL_many cL_many 4 (some .int) [(0, 9, 12, 15)] :: ww_tb : List Cond), w.before ([Value.ref (ad (0, 0, 0)), Value.int x, Value.ref oo] : List Value).toArray s = true := atoms_spec (ws := .codeWith yL_many cL_many 4 (some .int) [(0, 9, 12, 15)] :: ww_tb) B.pre
  have hts : ∀ w ∈ ww_tb, w.before ([Value.ref (ad (0, 0, 0)), Value.int x, Value.ref oo] : List Value).toArray s = true := fun w h => hts0 w (List.mem_cons_of_mem _ h)
  have hown : s.vm.findClass RL = some mm.cls := findClass_of_methodNamed B.named
  have hT : cd.exceptionTable.toList = [] ++ ([(0, 9, 12, 15)] : List (Nat × Nat × Nat × Nat)).map wq_en := vx_table (x := yL_many) B (hts0 _ List.mem_cons_self)
  have hl := lv_entry ([Value.ref (ad (0, 0, 0)), Value.int x, Value.ref oo] : List Value) (n := 4) (show (3 : Nat) ≤ 4 by decide)
  rw [lg_entry_eq]
  refine lv_aload_n hx hb dL_many_0 rfl (hl.2.2 (2, .ref oo) (by repeat (first | exact List.mem_cons_self | apply List.mem_cons_of_mem))) ?_
  refine lv_iconst hx hb dL_many_1 rfl ?_
  refine lv_aload_n hx hb dL_many_2 rfl (hl.2.2 (0, .ref (ad (0, 0, 0))) (by repeat (first | exact List.mem_cons_self | apply List.mem_cons_of_mem))) ?_
  refine lv_iload_n hx hb dL_many_3 rfl (hl.2.2 (1, .int x) (by repeat (first | exact List.mem_cons_self | apply List.mem_cons_of_mem))) ?_
  refine wq_call (as := [.inl (.int x)]) (pc := 4) hx hb hml hown hts hstk hty hK hD hnw hXF hP hO ho p_X5_many dL_many_4 u_170 u_64 u_394 u_172 u_173 (show yX5_many.cls = RX5 ∧ yX5_many.cls ≠ "java/lang/invoke/MethodHandle" ∧ yX5_many.cls ≠ "java/lang/invoke/VarHandle" ∧ (parseMethodDescriptor yX5_many.desc).map (fun d => d.parameters.length) = some 1 by decide +kernel) ⟨Nat.le_refl _, by decide⟩ ⟨Nat.le_refl _, Nat.le_refl _⟩ (fun v hv => by revert v; exact List.forall_mem_cons.mpr ⟨trivial, fun _ h => nomatch h⟩) hfr hl.1 (fun H1 locs1 h0 hS1 hO1 => ?_) (fun H1 locs1 qa ce h0 hS1 hO1 hq hcv hcls => ?_)
  · refine lv_i2l hx hb dL_many_7 rfl ?_
    exact wq_fin hx hb hr hlocks dL_many_8 dL_many_9 (by decide) dL_many_15 dL_many_16 hKo rfl (by rw [h0]; rfl) hS1 hO1
  · rcases hp_many x with z | z
    · exact absurd z h0
    · rw [z] at hcls
      refine wq_catch (pc := 4) (x := 2) (hpc := 12) hown (wq_lk hts) hN (Or.inr (Or.inl rfl)) hq hcv hcls ?_ [(0, 9, 12, 15)] [] hT (fun _ h => nomatch h) (by decide) rfl
      refine lv_astore_n hx hb dL_many_12 rfl hl (by decide) rfl (fun ls' hl' => ?_)
      exact wq_end (f := f0) hx hb hr hlocks dL_many_13 rfl dL_many_14 (by rw [z]; rfl) (fun z2 => absurd (by rw [z] at z2; exact z2) (show ¬ (1 : Int32) = 0 by decide)) hS1 hO1

def hc_safeIn (x : Nat) : Int32 := match x with | 0 => 0 | 1 => 1 | 2 => 2 | _ => 9
theorem hp_safeIn (c d : Int32) : (pf_X5_safeIn [.inr (0, 0, 0), .inl (.int c), .inl (.int d)]).1 = 0 ∨ (pf_X5_safeIn [.inr (0, 0, 0), .inl (.int c), .inl (.int d)]).1 = 1 ∨ (pf_X5_safeIn [.inr (0, 0, 0), .inl (.int c), .inl (.int d)]).1 = 2 := by
  unfold pf_X5_safeIn
  try dsimp only
  repeat' split
  all_goals first | exact Or.inl rfl | exact Or.inr (Or.inl rfl) | exact Or.inr (Or.inr (rfl))
set_option maxHeartbeats 1000000 in
theorem x_L_safeIn (c d : Int32) : wq_Wr yL_safeIn cL_safeIn 5 [(0, 10, 13, 13), (0, 10, 17, 15)] 8 [.inl (.int c), .inl (.int d)] (hc_safeIn (pf_X5_safeIn [.inr (0, 0, 0), .inl (.int c), .inl (.int d)]).1) (pf_X5_safeIn [.inr (0, 0, 0), .inl (.int c), .inl (.int d)]).2 := by
  intro ll D tys ad sz σ oo cO f0 hstk hty hfr ho
  refine vx_ofWH (cc := cL_safeIn) (maxL := 5) (ret := some .int) (hh := [(0, 10, 13, 13), (0, 10, 17, 15)]) (by decide +kernel) rfl ?_
  intro pp ee s mm args below meth cd s₁ B hml hv
  obtain ⟨rfl, hsz, hP, hK, hD, hnw, hXF, hN, hKo, hO⟩ := hv
  subst hsz
  have hx := B.exec
  have hb := B.bytes
  have hr := B.returns
  have hlocks := B.notSynchronized
  have hts0 : ∀ w ∈ (.codeWith yL_safeIn cL_safeIn 5 (some .int) [(0, 10, 13, 13), (0, 10, 17, 15)] :: ww_tb : List Cond), w.before ([Value.ref (ad (0, 0, 0)), Value.int c, Value.int d, Value.ref oo] : List Value).toArray s = true := atoms_spec (ws := .codeWith yL_safeIn cL_safeIn 5 (some .int) [(0, 10, 13, 13), (0, 10, 17, 15)] :: ww_tb) B.pre
  have hts : ∀ w ∈ ww_tb, w.before ([Value.ref (ad (0, 0, 0)), Value.int c, Value.int d, Value.ref oo] : List Value).toArray s = true := fun w h => hts0 w (List.mem_cons_of_mem _ h)
  have hown : s.vm.findClass RL = some mm.cls := findClass_of_methodNamed B.named
  have hT : cd.exceptionTable.toList = [] ++ ([(0, 10, 13, 13), (0, 10, 17, 15)] : List (Nat × Nat × Nat × Nat)).map wq_en := vx_table (x := yL_safeIn) B (hts0 _ List.mem_cons_self)
  have hl := lv_entry ([Value.ref (ad (0, 0, 0)), Value.int c, Value.int d, Value.ref oo] : List Value) (n := 5) (show (4 : Nat) ≤ 5 by decide)
  rw [lg_entry_eq]
  refine lv_aload_n hx hb dL_safeIn_0 rfl (hl.2.2 (3, .ref oo) (by repeat (first | exact List.mem_cons_self | apply List.mem_cons_of_mem))) ?_
  refine lv_iconst hx hb dL_safeIn_1 rfl ?_
  refine lv_aload_n hx hb dL_safeIn_2 rfl (hl.2.2 (0, .ref (ad (0, 0, 0))) (by repeat (first | exact List.mem_cons_self | apply List.mem_cons_of_mem))) ?_
  refine lv_iload_n hx hb dL_safeIn_3 rfl (hl.2.2 (1, .int c) (by repeat (first | exact List.mem_cons_self | apply List.mem_cons_of_mem))) ?_
  refine lv_iload_n hx hb dL_safeIn_4 rfl (hl.2.2 (2, .int d) (by repeat (first | exact List.mem_cons_self | apply List.mem_cons_of_mem))) ?_
  refine wq_call (as := [.inl (.int c), .inl (.int d)]) (pc := 5) hx hb hml hown hts hstk hty hK hD hnw hXF hP hO ho p_X5_safeIn dL_safeIn_5 u_395 u_64 u_396 u_397 u_398 (show yX5_safeIn.cls = RX5 ∧ yX5_safeIn.cls ≠ "java/lang/invoke/MethodHandle" ∧ yX5_safeIn.cls ≠ "java/lang/invoke/VarHandle" ∧ (parseMethodDescriptor yX5_safeIn.desc).map (fun d => d.parameters.length) = some 2 by decide +kernel) ⟨Nat.le_refl _, by decide⟩ ⟨Nat.le_refl _, Nat.le_refl _⟩ (fun v hv => by revert v; exact List.forall_mem_cons.mpr ⟨trivial, List.forall_mem_cons.mpr ⟨trivial, fun _ h => nomatch h⟩⟩) hfr hl.1 (fun H1 locs1 h0 hS1 hO1 => ?_) (fun H1 locs1 qa ce h0 hS1 hO1 hq hcv hcls => ?_)
  · refine lv_i2l hx hb dL_safeIn_8 rfl ?_
    exact wq_fin hx hb hr hlocks dL_safeIn_9 dL_safeIn_10 (by decide) dL_safeIn_21 dL_safeIn_22 hKo rfl (by rw [h0]; rfl) hS1 hO1
  · rcases hp_safeIn c d with z | z | z
    · exact absurd z h0
    · rw [z] at hcls
      refine wq_catch (pc := 5) (x := 1) (hpc := 13) hown (wq_lk hts) hN (Or.inl rfl) hq hcv hcls ?_ [(0, 10, 13, 13), (0, 10, 17, 15)] [] hT (fun _ h => nomatch h) (by decide) rfl
      refine lv_astore hx hb dL_safeIn_13 hl (by decide) rfl (fun ls' hl' => ?_)
      exact wq_end (f := f0) hx hb hr hlocks dL_safeIn_15 rfl dL_safeIn_16 (by rw [z]; rfl) (fun z2 => absurd (by rw [z] at z2; exact z2) (show ¬ (1 : Int32) = 0 by decide)) hS1 hO1
    · rw [z] at hcls
      refine wq_catch (pc := 5) (x := 2) (hpc := 17) hown (wq_lk hts) hN (Or.inr (Or.inl rfl)) hq hcv hcls ?_ [(0, 10, 13, 13), (0, 10, 17, 15)] [] hT (fun _ h => nomatch h) (by decide) rfl
      refine lv_astore hx hb dL_safeIn_17 hl (by decide) rfl (fun ls' hl' => ?_)
      exact wq_end (f := f0) hx hb hr hlocks dL_safeIn_19 rfl dL_safeIn_20 (by rw [z]; rfl) (fun z2 => absurd (by rw [z] at z2; exact z2) (show ¬ (2 : Int32) = 0 by decide)) hS1 hO1

def hc_sirenWould (x : Nat) : Int32 := match x with | 0 => 0 | 1 => 1 | 2 => 2 | _ => 9
theorem hp_sirenWould (c r m : Int32) : (pf_X5_sirenWould [.inr (0, 0, 0), .inl (.int c), .inl (.int r), .inl (.int m)]).1 = 0 ∨ (pf_X5_sirenWould [.inr (0, 0, 0), .inl (.int c), .inl (.int r), .inl (.int m)]).1 = 1 ∨ (pf_X5_sirenWould [.inr (0, 0, 0), .inl (.int c), .inl (.int r), .inl (.int m)]).1 = 2 := by
  unfold pf_X5_sirenWould
  try dsimp only
  repeat' split
  all_goals first | exact Or.inl rfl | exact Or.inr (Or.inl rfl) | exact Or.inr (Or.inr (rfl))
set_option maxHeartbeats 1000000 in
theorem x_L_sirenWould (c r m : Int32) : wq_Wr yL_sirenWould cL_sirenWould 6 [(0, 12, 15, 13), (0, 12, 19, 15)] 8 [.inl (.int c), .inl (.int r), .inl (.int m)] (hc_sirenWould (pf_X5_sirenWould [.inr (0, 0, 0), .inl (.int c), .inl (.int r), .inl (.int m)]).1) (pf_X5_sirenWould [.inr (0, 0, 0), .inl (.int c), .inl (.int r), .inl (.int m)]).2 := by
  intro ll D tys ad sz σ oo cO f0 hstk hty hfr ho
  refine vx_ofWH (cc := cL_sirenWould) (maxL := 6) (ret := some .int) (hh := [(0, 12, 15, 13), (0, 12, 19, 15)]) (by decide +kernel) rfl ?_
  intro pp ee s mm args below meth cd s₁ B hml hv
  obtain ⟨rfl, hsz, hP, hK, hD, hnw, hXF, hN, hKo, hO⟩ := hv
  subst hsz
  have hx := B.exec
  have hb := B.bytes
  have hr := B.returns
  have hlocks := B.notSynchronized
  have hts0 : ∀ w ∈ (.codeWith yL_sirenWould cL_sirenWould 6 (some .int) [(0, 12, 15, 13), (0, 12, 19, 15)] :: ww_tb : List Cond), w.before ([Value.ref (ad (0, 0, 0)), Value.int c, Value.int r, Value.int m, Value.ref oo] : List Value).toArray s = true := atoms_spec (ws := .codeWith yL_sirenWould cL_sirenWould 6 (some .int) [(0, 12, 15, 13), (0, 12, 19, 15)] :: ww_tb) B.pre
  have hts : ∀ w ∈ ww_tb, w.before ([Value.ref (ad (0, 0, 0)), Value.int c, Value.int r, Value.int m, Value.ref oo] : List Value).toArray s = true := fun w h => hts0 w (List.mem_cons_of_mem _ h)
  have hown : s.vm.findClass RL = some mm.cls := findClass_of_methodNamed B.named
  have hT : cd.exceptionTable.toList = [] ++ ([(0, 12, 15, 13), (0, 12, 19, 15)] : List (Nat × Nat × Nat × Nat)).map wq_en := vx_table (x := yL_sirenWould) B (hts0 _ List.mem_cons_self)
  have hl := lv_entry ([Value.ref (ad (0, 0, 0)), Value.int c, Value.int r, Value.int m, Value.ref oo] : List Value) (n := 6) (show (5 : Nat) ≤ 6 by decide)
  rw [lg_entry_eq]
  refine lv_aload hx hb dL_sirenWould_0 (hl.2.2 (4, .ref oo) (by repeat (first | exact List.mem_cons_self | apply List.mem_cons_of_mem))) ?_
  refine lv_iconst hx hb dL_sirenWould_2 rfl ?_
  refine lv_aload_n hx hb dL_sirenWould_3 rfl (hl.2.2 (0, .ref (ad (0, 0, 0))) (by repeat (first | exact List.mem_cons_self | apply List.mem_cons_of_mem))) ?_
  refine lv_iload_n hx hb dL_sirenWould_4 rfl (hl.2.2 (1, .int c) (by repeat (first | exact List.mem_cons_self | apply List.mem_cons_of_mem))) ?_
  refine lv_iload_n hx hb dL_sirenWould_5 rfl (hl.2.2 (2, .int r) (by repeat (first | exact List.mem_cons_self | apply List.mem_cons_of_mem))) ?_
  refine lv_iload_n hx hb dL_sirenWould_6 rfl (hl.2.2 (3, .int m) (by repeat (first | exact List.mem_cons_self | apply List.mem_cons_of_mem))) ?_
  refine wq_call (as := [.inl (.int c), .inl (.int r), .inl (.int m)]) (pc := 7) hx hb hml hown hts hstk hty hK hD hnw hXF hP hO ho p_X5_sirenWould dL_sirenWould_7 u_193 u_64 u_399 u_195 u_196 (show yX5_sirenWould.cls = RX5 ∧ yX5_sirenWould.cls ≠ "java/lang/invoke/MethodHandle" ∧ yX5_sirenWould.cls ≠ "java/lang/invoke/VarHandle" ∧ (parseMethodDescriptor yX5_sirenWould.desc).map (fun d => d.parameters.length) = some 3 by decide +kernel) ⟨Nat.le_refl _, by decide⟩ ⟨Nat.le_refl _, Nat.le_refl _⟩ (fun v hv => by revert v; exact List.forall_mem_cons.mpr ⟨trivial, List.forall_mem_cons.mpr ⟨trivial, List.forall_mem_cons.mpr ⟨trivial, fun _ h => nomatch h⟩⟩⟩) hfr hl.1 (fun H1 locs1 h0 hS1 hO1 => ?_) (fun H1 locs1 qa ce h0 hS1 hO1 hq hcv hcls => ?_)
  · refine lv_i2l hx hb dL_sirenWould_10 rfl ?_
    exact wq_fin hx hb hr hlocks dL_sirenWould_11 dL_sirenWould_12 (by decide) dL_sirenWould_23 dL_sirenWould_24 hKo rfl (by rw [h0]; rfl) hS1 hO1
  · rcases hp_sirenWould c r m with z | z | z
    · exact absurd z h0
    · rw [z] at hcls
      refine wq_catch (pc := 7) (x := 1) (hpc := 15) hown (wq_lk hts) hN (Or.inl rfl) hq hcv hcls ?_ [(0, 12, 15, 13), (0, 12, 19, 15)] [] hT (fun _ h => nomatch h) (by decide) rfl
      refine lv_astore hx hb dL_sirenWould_15 hl (by decide) rfl (fun ls' hl' => ?_)
      exact wq_end (f := f0) hx hb hr hlocks dL_sirenWould_17 rfl dL_sirenWould_18 (by rw [z]; rfl) (fun z2 => absurd (by rw [z] at z2; exact z2) (show ¬ (1 : Int32) = 0 by decide)) hS1 hO1
    · rw [z] at hcls
      refine wq_catch (pc := 7) (x := 2) (hpc := 19) hown (wq_lk hts) hN (Or.inr (Or.inl rfl)) hq hcv hcls ?_ [(0, 12, 15, 13), (0, 12, 19, 15)] [] hT (fun _ h => nomatch h) (by decide) rfl
      refine lv_astore hx hb dL_sirenWould_19 hl (by decide) rfl (fun ls' hl' => ?_)
      exact wq_end (f := f0) hx hb hr hlocks dL_sirenWould_21 rfl dL_sirenWould_22 (by rw [z]; rfl) (fun z2 => absurd (by rw [z] at z2; exact z2) (show ¬ (2 : Int32) = 0 by decide)) hS1 hO1

