-- words of the tables, and what stands at each place of the methods' code (laid by program)
theorem q_295 : Cond.fieldLink RX5 53 (TX0 4).1 (TX0 4).2.1 (TX0 4).2.2.1 ∈ ww_tb := by decide +kernel
theorem q_296 : Cond.fieldLink RX5 57 (TX0 5).1 (TX0 5).2.1 (TX0 5).2.2.1 ∈ ww_tb := by decide +kernel
theorem q_297 : Cond.fieldLink RX5 75 (TX3 0).1 (TX3 0).2.1 (TX3 0).2.2.1 ∈ ww_tb := by decide +kernel
theorem q_298 : Cond.fieldLink RX5 85 (TX2 3).1 (TX2 3).2.1 (TX2 3).2.2.1 ∈ ww_tb := by decide +kernel
theorem q_299 : Cond.fieldLink RX5 96 (TX1 11).1 (TX1 11).2.1 (TX1 11).2.2.1 ∈ ww_tb := by decide +kernel
theorem q_300 : Cond.fieldLink RX5 108 (TX1 12).1 (TX1 12).2.1 (TX1 12).2.2.1 ∈ ww_tb := by decide +kernel
theorem q_301 : Cond.code yX5_checkWords cX5_checkWords 3 none ∈ ww_tb := by decide +kernel
theorem q_302 : Cond.static yX5_checkWords ∈ ww_tb := by decide +kernel
theorem q_303 : Cond.methodLink RX5 125 yX5_checkWords ∈ ww_tb := by decide +kernel
theorem q_304 : Cond.code yX5_draft cX5_draft 7 (some .int) ∈ ww_tb := by decide +kernel
theorem q_305 : Cond.methodLink RX5 128 yX5_draft ∈ ww_tb := by decide +kernel
theorem q_306 : Cond.instanceMethod yX5_draft ∈ ww_tb := by decide +kernel
theorem q_307 : Cond.selects RX5 yX5_draft yX5_draft ∈ ww_tb := by decide +kernel
theorem q_308 : Cond.code yX5_checkOfficer cX5_checkOfficer 1 none ∈ ww_tb := by decide +kernel
theorem q_309 : Cond.static yX5_checkOfficer ∈ ww_tb := by decide +kernel
theorem q_310 : Cond.methodLink RX5 115 yX5_checkOfficer ∈ ww_tb := by decide +kernel
theorem q_311 : Cond.methodLink RX5 163 yX1_keysLacking ∈ ww_tb := by decide +kernel
theorem q_312 : Cond.code yX1_isSendable cX1_isSendable 2 (some .boolean) ∈ ww_tb := by decide +kernel
theorem q_313 : Cond.methodLink RX5 167 yX1_isSendable ∈ ww_tb := by decide +kernel
theorem q_314 : Cond.instanceMethod yX1_isSendable ∈ ww_tb := by decide +kernel
theorem q_315 : Cond.selects RX1 yX1_isSendable yX1_isSendable ∈ ww_tb := by decide +kernel
theorem q_316 : Cond.code yX1_sendOut cX1_sendOut 3 none ∈ ww_tb := by decide +kernel
theorem q_317 : Cond.methodLink RX5 173 yX1_sendOut ∈ ww_tb := by decide +kernel
theorem q_318 : Cond.instanceMethod yX1_sendOut ∈ ww_tb := by decide +kernel
theorem q_319 : Cond.selects RX1 yX1_sendOut yX1_sendOut ∈ ww_tb := by decide +kernel
theorem q_320 : Cond.code yX1_peopleIn cX1_peopleIn 4 (some .int) ∈ ww_tb := by decide +kernel
theorem q_321 : Cond.methodLink RX5 177 yX1_peopleIn ∈ ww_tb := by decide +kernel
theorem q_322 : Cond.instanceMethod yX1_peopleIn ∈ ww_tb := by decide +kernel
theorem q_323 : Cond.selects RX1 yX1_peopleIn yX1_peopleIn ∈ ww_tb := by decide +kernel
theorem q_324 : Cond.code yJ9_floorMod_7cf53 cJ9_floorMod_7cf53 3 (some .int) ∈ ww_tb := by decide +kernel
theorem q_325 : Cond.initialized RJ9 ∈ ww_tb := by decide +kernel
theorem q_326 : Cond.static yJ9_floorMod_7cf53 ∈ ww_tb := by decide +kernel
theorem q_327 : Cond.methodLink RX5 186 yJ9_floorMod_7cf53 ∈ ww_tb := by decide +kernel
theorem dX5_draft_0 : decode cX5_draft 0 = .ok (.aload_n 0, 1) := by decide +kernel
theorem dX5_draft_1 : decode cX5_draft 1 = .ok (.getfield 10, 3) := by decide +kernel
theorem dX5_draft_4 : decode cX5_draft 4 = .ok (.getfield 249, 3) := by decide +kernel
theorem dX5_draft_7 : decode cX5_draft 7 = .ok (.bipush 12, 2) := by decide +kernel
theorem dX5_draft_9 : decode cX5_draft 9 = .ok (.if_icmp .lt 14, 3) := by decide +kernel
theorem dX5_draft_12 : decode cX5_draft 12 = .ok (.new 31, 3) := by decide +kernel
theorem dX5_draft_15 : decode cX5_draft 15 = .ok (.dup, 1) := by decide +kernel
theorem dX5_draft_16 : decode cX5_draft 16 = .ok (.ldc_w 329, 3) := by decide +kernel
theorem dX5_draft_19 : decode cX5_draft 19 = .ok (.invokespecial 35, 3) := by decide +kernel
theorem dX5_draft_22 : decode cX5_draft 22 = .ok (.athrow, 1) := by decide +kernel
theorem dX5_draft_23 : decode cX5_draft 23 = .ok (.aload_n 0, 1) := by decide +kernel
theorem dX5_draft_24 : decode cX5_draft 24 = .ok (.getfield 10, 3) := by decide +kernel
theorem dX5_draft_27 : decode cX5_draft 27 = .ok (.getfield 138, 3) := by decide +kernel
theorem dX5_draft_30 : decode cX5_draft 30 = .ok (.aload_n 0, 1) := by decide +kernel
theorem dX5_draft_31 : decode cX5_draft 31 = .ok (.getfield 10, 3) := by decide +kernel
theorem dX5_draft_34 : decode cX5_draft 34 = .ok (.getfield 249, 3) := by decide +kernel
theorem dX5_draft_37 : decode cX5_draft 37 = .ok (.aaload, 1) := by decide +kernel
theorem dX5_draft_38 : decode cX5_draft 38 = .ok (.astore 6, 2) := by decide +kernel
theorem dX5_draft_40 : decode cX5_draft 40 = .ok (.aload 6, 2) := by decide +kernel
theorem dX5_draft_42 : decode cX5_draft 42 = .ok (.iload_n 1, 1) := by decide +kernel
theorem dX5_draft_43 : decode cX5_draft 43 = .ok (.putfield 237, 3) := by decide +kernel
theorem dX5_draft_46 : decode cX5_draft 46 = .ok (.aload 6, 2) := by decide +kernel
theorem dX5_draft_48 : decode cX5_draft 48 = .ok (.iload_n 2, 1) := by decide +kernel
theorem dX5_draft_49 : decode cX5_draft 49 = .ok (.putfield 240, 3) := by decide +kernel
theorem dX5_draft_52 : decode cX5_draft 52 = .ok (.aload 6, 2) := by decide +kernel
theorem dX5_draft_54 : decode cX5_draft 54 = .ok (.iload_n 3, 1) := by decide +kernel
theorem dX5_draft_55 : decode cX5_draft 55 = .ok (.putfield 142, 3) := by decide +kernel
theorem dX5_draft_58 : decode cX5_draft 58 = .ok (.aload 6, 2) := by decide +kernel
theorem dX5_draft_60 : decode cX5_draft 60 = .ok (.iload 4, 2) := by decide +kernel
theorem dX5_draft_62 : decode cX5_draft 62 = .ok (.putfield 147, 3) := by decide +kernel
theorem dX5_draft_65 : decode cX5_draft 65 = .ok (.aload 6, 2) := by decide +kernel
theorem dX5_draft_67 : decode cX5_draft 67 = .ok (.iload 5, 2) := by decide +kernel
theorem dX5_draft_69 : decode cX5_draft 69 = .ok (.putfield 150, 3) := by decide +kernel
theorem dX5_draft_72 : decode cX5_draft 72 = .ok (.aload_n 0, 1) := by decide +kernel
theorem dX5_draft_73 : decode cX5_draft 73 = .ok (.getfield 10, 3) := by decide +kernel
theorem dX5_draft_76 : decode cX5_draft 76 = .ok (.dup, 1) := by decide +kernel
theorem dX5_draft_77 : decode cX5_draft 77 = .ok (.getfield 249, 3) := by decide +kernel
theorem dX5_draft_80 : decode cX5_draft 80 = .ok (.dup_x1, 1) := by decide +kernel
theorem dX5_draft_81 : decode cX5_draft 81 = .ok (.iconst 1, 1) := by decide +kernel
theorem dX5_draft_82 : decode cX5_draft 82 = .ok (.iadd, 1) := by decide +kernel
theorem dX5_draft_83 : decode cX5_draft 83 = .ok (.putfield 249, 3) := by decide +kernel
theorem dX5_draft_86 : decode cX5_draft 86 = .ok (.ireturn, 1) := by decide +kernel
theorem dX5_group_0 : decode cX5_group 0 = .ok (.iload_n 1, 1) := by decide +kernel
theorem dX5_group_1 : decode cX5_group 1 = .ok (.invokestatic 19, 3) := by decide +kernel
theorem dX5_group_4 : decode cX5_group 4 = .ok (.iload_n 2, 1) := by decide +kernel
theorem dX5_group_5 : decode cX5_group 5 = .ok (.iconst 1, 1) := by decide +kernel
theorem dX5_group_6 : decode cX5_group 6 = .ok (.bipush 99, 2) := by decide +kernel
theorem dX5_group_8 : decode cX5_group 8 = .ok (.invokestatic 23, 3) := by decide +kernel
theorem dX5_group_11 : decode cX5_group 11 = .ok (.iload_n 3, 1) := by decide +kernel
theorem dX5_group_12 : decode cX5_group 12 = .ok (.iconst 0, 1) := by decide +kernel
theorem dX5_group_13 : decode cX5_group 13 = .ok (.iconst 2, 1) := by decide +kernel
theorem dX5_group_14 : decode cX5_group 14 = .ok (.invokestatic 23, 3) := by decide +kernel
theorem dX5_group_17 : decode cX5_group 17 = .ok (.aload_n 0, 1) := by decide +kernel
theorem dX5_group_18 : decode cX5_group 18 = .ok (.getfield 10, 3) := by decide +kernel
theorem dX5_group_21 : decode cX5_group 21 = .ok (.getfield 27, 3) := by decide +kernel
theorem dX5_group_24 : decode cX5_group 24 = .ok (.bipush 8, 2) := by decide +kernel
theorem dX5_group_26 : decode cX5_group 26 = .ok (.if_icmp .lt 13, 3) := by decide +kernel
theorem dX5_group_29 : decode cX5_group 29 = .ok (.new 31, 3) := by decide +kernel
theorem dX5_group_32 : decode cX5_group 32 = .ok (.dup, 1) := by decide +kernel
theorem dX5_group_33 : decode cX5_group 33 = .ok (.ldc 33, 2) := by decide +kernel
theorem dX5_group_35 : decode cX5_group 35 = .ok (.invokespecial 35, 3) := by decide +kernel
theorem dX5_group_38 : decode cX5_group 38 = .ok (.athrow, 1) := by decide +kernel
theorem dX5_group_39 : decode cX5_group 39 = .ok (.aload_n 0, 1) := by decide +kernel
theorem dX5_group_40 : decode cX5_group 40 = .ok (.getfield 10, 3) := by decide +kernel
theorem dX5_group_43 : decode cX5_group 43 = .ok (.getfield 38, 3) := by decide +kernel
theorem dX5_group_46 : decode cX5_group 46 = .ok (.aload_n 0, 1) := by decide +kernel
theorem dX5_group_47 : decode cX5_group 47 = .ok (.getfield 10, 3) := by decide +kernel
theorem dX5_group_50 : decode cX5_group 50 = .ok (.getfield 27, 3) := by decide +kernel
theorem dX5_group_53 : decode cX5_group 53 = .ok (.aaload, 1) := by decide +kernel
theorem dX5_group_54 : decode cX5_group 54 = .ok (.astore 6, 2) := by decide +kernel
theorem dX5_group_56 : decode cX5_group 56 = .ok (.aload 6, 2) := by decide +kernel
theorem dX5_group_58 : decode cX5_group 58 = .ok (.iload_n 1, 1) := by decide +kernel
theorem dX5_group_59 : decode cX5_group 59 = .ok (.putfield 42, 3) := by decide +kernel
theorem dX5_group_62 : decode cX5_group 62 = .ok (.aload 6, 2) := by decide +kernel
theorem dX5_group_64 : decode cX5_group 64 = .ok (.iload_n 2, 1) := by decide +kernel
theorem dX5_group_65 : decode cX5_group 65 = .ok (.putfield 47, 3) := by decide +kernel
theorem dX5_group_68 : decode cX5_group 68 = .ok (.aload 6, 2) := by decide +kernel
theorem dX5_group_70 : decode cX5_group 70 = .ok (.iload_n 3, 1) := by decide +kernel
theorem dX5_group_71 : decode cX5_group 71 = .ok (.putfield 50, 3) := by decide +kernel
theorem dX5_group_74 : decode cX5_group 74 = .ok (.aload 6, 2) := by decide +kernel
theorem dX5_group_76 : decode cX5_group 76 = .ok (.iload 4, 2) := by decide +kernel
theorem dX5_group_78 : decode cX5_group 78 = .ok (.putfield 53, 3) := by decide +kernel
theorem dX5_group_81 : decode cX5_group 81 = .ok (.aload 6, 2) := by decide +kernel
theorem dX5_group_83 : decode cX5_group 83 = .ok (.iload 5, 2) := by decide +kernel
theorem dX5_group_85 : decode cX5_group 85 = .ok (.putfield 57, 3) := by decide +kernel
theorem dX5_group_88 : decode cX5_group 88 = .ok (.aload_n 0, 1) := by decide +kernel
theorem dX5_group_89 : decode cX5_group 89 = .ok (.getfield 10, 3) := by decide +kernel
theorem dX5_group_92 : decode cX5_group 92 = .ok (.dup, 1) := by decide +kernel
theorem dX5_group_93 : decode cX5_group 93 = .ok (.getfield 27, 3) := by decide +kernel
theorem dX5_group_96 : decode cX5_group 96 = .ok (.dup_x1, 1) := by decide +kernel
theorem dX5_group_97 : decode cX5_group 97 = .ok (.iconst 1, 1) := by decide +kernel
theorem dX5_group_98 : decode cX5_group 98 = .ok (.iadd, 1) := by decide +kernel
theorem dX5_group_99 : decode cX5_group 99 = .ok (.putfield 27, 3) := by decide +kernel
theorem dX5_group_102 : decode cX5_group 102 = .ok (.ireturn, 1) := by decide +kernel
theorem dX5_shelter_0 : decode cX5_shelter 0 = .ok (.iload_n 1, 1) := by decide +kernel
theorem dX5_shelter_1 : decode cX5_shelter 1 = .ok (.invokestatic 19, 3) := by decide +kernel
theorem dX5_shelter_4 : decode cX5_shelter 4 = .ok (.iload_n 2, 1) := by decide +kernel
theorem dX5_shelter_5 : decode cX5_shelter 5 = .ok (.iconst 1, 1) := by decide +kernel
theorem dX5_shelter_6 : decode cX5_shelter 6 = .ok (.sipush 200, 3) := by decide +kernel
theorem dX5_shelter_9 : decode cX5_shelter 9 = .ok (.invokestatic 23, 3) := by decide +kernel
theorem dX5_shelter_12 : decode cX5_shelter 12 = .ok (.aload_n 0, 1) := by decide +kernel
theorem dX5_shelter_13 : decode cX5_shelter 13 = .ok (.getfield 10, 3) := by decide +kernel
theorem dX5_shelter_16 : decode cX5_shelter 16 = .ok (.getfield 66, 3) := by decide +kernel
theorem dX5_shelter_19 : decode cX5_shelter 19 = .ok (.iconst 3, 1) := by decide +kernel
theorem dX5_shelter_20 : decode cX5_shelter 20 = .ok (.if_icmp .lt 13, 3) := by decide +kernel
theorem dX5_shelter_23 : decode cX5_shelter 23 = .ok (.new 31, 3) := by decide +kernel
theorem dX5_shelter_26 : decode cX5_shelter 26 = .ok (.dup, 1) := by decide +kernel
theorem dX5_shelter_27 : decode cX5_shelter 27 = .ok (.ldc 69, 2) := by decide +kernel
theorem dX5_shelter_29 : decode cX5_shelter 29 = .ok (.invokespecial 35, 3) := by decide +kernel
theorem dX5_shelter_32 : decode cX5_shelter 32 = .ok (.athrow, 1) := by decide +kernel
theorem dX5_shelter_33 : decode cX5_shelter 33 = .ok (.aload_n 0, 1) := by decide +kernel
theorem dX5_shelter_34 : decode cX5_shelter 34 = .ok (.getfield 10, 3) := by decide +kernel
theorem dX5_shelter_37 : decode cX5_shelter 37 = .ok (.getfield 71, 3) := by decide +kernel
theorem dX5_shelter_40 : decode cX5_shelter 40 = .ok (.aload_n 0, 1) := by decide +kernel
theorem dX5_shelter_41 : decode cX5_shelter 41 = .ok (.getfield 10, 3) := by decide +kernel
theorem dX5_shelter_44 : decode cX5_shelter 44 = .ok (.getfield 66, 3) := by decide +kernel
theorem dX5_shelter_47 : decode cX5_shelter 47 = .ok (.aaload, 1) := by decide +kernel
theorem dX5_shelter_48 : decode cX5_shelter 48 = .ok (.astore_n 3, 1) := by decide +kernel
theorem dX5_shelter_49 : decode cX5_shelter 49 = .ok (.aload_n 3, 1) := by decide +kernel
theorem dX5_shelter_50 : decode cX5_shelter 50 = .ok (.iload_n 1, 1) := by decide +kernel
theorem dX5_shelter_51 : decode cX5_shelter 51 = .ok (.putfield 75, 3) := by decide +kernel
theorem dX5_shelter_54 : decode cX5_shelter 54 = .ok (.aload_n 3, 1) := by decide +kernel
theorem dX5_shelter_55 : decode cX5_shelter 55 = .ok (.iload_n 2, 1) := by decide +kernel
theorem dX5_shelter_56 : decode cX5_shelter 56 = .ok (.putfield 78, 3) := by decide +kernel
theorem dX5_shelter_59 : decode cX5_shelter 59 = .ok (.aload_n 0, 1) := by decide +kernel
theorem dX5_shelter_60 : decode cX5_shelter 60 = .ok (.getfield 10, 3) := by decide +kernel
theorem dX5_shelter_63 : decode cX5_shelter 63 = .ok (.dup, 1) := by decide +kernel
theorem dX5_shelter_64 : decode cX5_shelter 64 = .ok (.getfield 66, 3) := by decide +kernel
theorem dX5_shelter_67 : decode cX5_shelter 67 = .ok (.dup_x1, 1) := by decide +kernel
theorem dX5_shelter_68 : decode cX5_shelter 68 = .ok (.iconst 1, 1) := by decide +kernel
theorem dX5_shelter_69 : decode cX5_shelter 69 = .ok (.iadd, 1) := by decide +kernel
theorem dX5_shelter_70 : decode cX5_shelter 70 = .ok (.putfield 66, 3) := by decide +kernel
theorem dX5_shelter_73 : decode cX5_shelter 73 = .ok (.ireturn, 1) := by decide +kernel
theorem dX5_siren_0 : decode cX5_siren 0 = .ok (.iload_n 1, 1) := by decide +kernel
theorem dX5_siren_1 : decode cX5_siren 1 = .ok (.invokestatic 19, 3) := by decide +kernel
theorem dX5_siren_4 : decode cX5_siren 4 = .ok (.iload_n 2, 1) := by decide +kernel
theorem dX5_siren_5 : decode cX5_siren 5 = .ok (.iconst 0, 1) := by decide +kernel
theorem dX5_siren_6 : decode cX5_siren 6 = .ok (.iconst 3, 1) := by decide +kernel
theorem dX5_siren_7 : decode cX5_siren 7 = .ok (.invokestatic 23, 3) := by decide +kernel
theorem dX5_siren_10 : decode cX5_siren 10 = .ok (.aload_n 0, 1) := by decide +kernel
theorem dX5_siren_11 : decode cX5_siren 11 = .ok (.getfield 10, 3) := by decide +kernel
theorem dX5_siren_14 : decode cX5_siren 14 = .ok (.getfield 81, 3) := by decide +kernel
theorem dX5_siren_17 : decode cX5_siren 17 = .ok (.getfield 85, 3) := by decide +kernel
theorem dX5_siren_20 : decode cX5_siren 20 = .ok (.iconst 4, 1) := by decide +kernel
theorem dX5_siren_21 : decode cX5_siren 21 = .ok (.if_icmp .lt 13, 3) := by decide +kernel
theorem dX5_siren_24 : decode cX5_siren 24 = .ok (.new 31, 3) := by decide +kernel
theorem dX5_siren_27 : decode cX5_siren 27 = .ok (.dup, 1) := by decide +kernel
theorem dX5_siren_28 : decode cX5_siren 28 = .ok (.ldc 90, 2) := by decide +kernel
theorem dX5_siren_30 : decode cX5_siren 30 = .ok (.invokespecial 35, 3) := by decide +kernel
theorem dX5_siren_33 : decode cX5_siren 33 = .ok (.athrow, 1) := by decide +kernel
theorem dX5_siren_34 : decode cX5_siren 34 = .ok (.aload_n 0, 1) := by decide +kernel
theorem dX5_siren_35 : decode cX5_siren 35 = .ok (.getfield 10, 3) := by decide +kernel
theorem dX5_siren_38 : decode cX5_siren 38 = .ok (.getfield 81, 3) := by decide +kernel
theorem dX5_siren_41 : decode cX5_siren 41 = .ok (.iload_n 1, 1) := by decide +kernel
theorem dX5_siren_42 : decode cX5_siren 42 = .ok (.iload_n 2, 1) := by decide +kernel
theorem dX5_siren_43 : decode cX5_siren 43 = .ok (.invokevirtual 92, 3) := by decide +kernel
theorem dX5_siren_46 : decode cX5_siren 46 = .ok (.ireturn, 1) := by decide +kernel
theorem dX5_mast_0 : decode cX5_mast 0 = .ok (.iload_n 1, 1) := by decide +kernel
theorem dX5_mast_1 : decode cX5_mast 1 = .ok (.invokestatic 19, 3) := by decide +kernel
theorem dX5_mast_4 : decode cX5_mast 4 = .ok (.iload_n 2, 1) := by decide +kernel
theorem dX5_mast_5 : decode cX5_mast 5 = .ok (.iconst 0, 1) := by decide +kernel
theorem dX5_mast_6 : decode cX5_mast 6 = .ok (.iconst 3, 1) := by decide +kernel
theorem dX5_mast_7 : decode cX5_mast 7 = .ok (.invokestatic 23, 3) := by decide +kernel
theorem dX5_mast_10 : decode cX5_mast 10 = .ok (.aload_n 0, 1) := by decide +kernel
theorem dX5_mast_11 : decode cX5_mast 11 = .ok (.getfield 10, 3) := by decide +kernel
theorem dX5_mast_14 : decode cX5_mast 14 = .ok (.getfield 96, 3) := by decide +kernel
theorem dX5_mast_17 : decode cX5_mast 17 = .ok (.getfield 85, 3) := by decide +kernel
theorem dX5_mast_20 : decode cX5_mast 20 = .ok (.iconst 4, 1) := by decide +kernel
theorem dX5_mast_21 : decode cX5_mast 21 = .ok (.if_icmp .lt 13, 3) := by decide +kernel
theorem dX5_mast_24 : decode cX5_mast 24 = .ok (.new 31, 3) := by decide +kernel
theorem dX5_mast_27 : decode cX5_mast 27 = .ok (.dup, 1) := by decide +kernel
theorem dX5_mast_28 : decode cX5_mast 28 = .ok (.ldc 99, 2) := by decide +kernel
theorem dX5_mast_30 : decode cX5_mast 30 = .ok (.invokespecial 35, 3) := by decide +kernel
theorem dX5_mast_33 : decode cX5_mast 33 = .ok (.athrow, 1) := by decide +kernel
theorem dX5_mast_34 : decode cX5_mast 34 = .ok (.aload_n 0, 1) := by decide +kernel
theorem dX5_mast_35 : decode cX5_mast 35 = .ok (.getfield 10, 3) := by decide +kernel
theorem dX5_mast_38 : decode cX5_mast 38 = .ok (.getfield 96, 3) := by decide +kernel
theorem dX5_mast_41 : decode cX5_mast 41 = .ok (.iload_n 1, 1) := by decide +kernel
theorem dX5_mast_42 : decode cX5_mast 42 = .ok (.iload_n 2, 1) := by decide +kernel
theorem dX5_mast_43 : decode cX5_mast 43 = .ok (.invokevirtual 92, 3) := by decide +kernel
theorem dX5_mast_46 : decode cX5_mast 46 = .ok (.ireturn, 1) := by decide +kernel
theorem dX5_danger_0 : decode cX5_danger 0 = .ok (.iload_n 1, 1) := by decide +kernel
theorem dX5_danger_1 : decode cX5_danger 1 = .ok (.invokestatic 19, 3) := by decide +kernel
theorem dX5_danger_4 : decode cX5_danger 4 = .ok (.iload_n 2, 1) := by decide +kernel
theorem dX5_danger_5 : decode cX5_danger 5 = .ok (.iconst (-1), 1) := by decide +kernel
theorem dX5_danger_6 : decode cX5_danger 6 = .ok (.sipush 999, 3) := by decide +kernel
theorem dX5_danger_9 : decode cX5_danger 9 = .ok (.invokestatic 23, 3) := by decide +kernel
theorem dX5_danger_12 : decode cX5_danger 12 = .ok (.aload_n 0, 1) := by decide +kernel
theorem dX5_danger_13 : decode cX5_danger 13 = .ok (.getfield 10, 3) := by decide +kernel
theorem dX5_danger_16 : decode cX5_danger 16 = .ok (.getfield 108, 3) := by decide +kernel
theorem dX5_danger_19 : decode cX5_danger 19 = .ok (.iload_n 1, 1) := by decide +kernel
theorem dX5_danger_20 : decode cX5_danger 20 = .ok (.iaload, 1) := by decide +kernel
theorem dX5_danger_21 : decode cX5_danger 21 = .ok (.istore_n 3, 1) := by decide +kernel
theorem dX5_danger_22 : decode cX5_danger 22 = .ok (.aload_n 0, 1) := by decide +kernel
theorem dX5_danger_23 : decode cX5_danger 23 = .ok (.getfield 10, 3) := by decide +kernel
theorem dX5_danger_26 : decode cX5_danger 26 = .ok (.getfield 108, 3) := by decide +kernel
theorem dX5_danger_29 : decode cX5_danger 29 = .ok (.iload_n 1, 1) := by decide +kernel
theorem dX5_danger_30 : decode cX5_danger 30 = .ok (.iload_n 2, 1) := by decide +kernel
theorem dX5_danger_31 : decode cX5_danger 31 = .ok (.iconst (-1), 1) := by decide +kernel
theorem dX5_danger_32 : decode cX5_danger 32 = .ok (.if_icmp .ne 7, 3) := by decide +kernel
theorem dX5_danger_35 : decode cX5_danger 35 = .ok (.iconst (-1), 1) := by decide +kernel
theorem dX5_danger_36 : decode cX5_danger 36 = .ok (.goto 12, 3) := by decide +kernel
theorem dX5_danger_39 : decode cX5_danger 39 = .ok (.aload_n 0, 1) := by decide +kernel
theorem dX5_danger_40 : decode cX5_danger 40 = .ok (.getfield 10, 3) := by decide +kernel
theorem dX5_danger_43 : decode cX5_danger 43 = .ok (.getfield 112, 3) := by decide +kernel
theorem dX5_danger_46 : decode cX5_danger 46 = .ok (.iload_n 2, 1) := by decide +kernel
theorem dX5_danger_47 : decode cX5_danger 47 = .ok (.iadd, 1) := by decide +kernel
theorem dX5_danger_48 : decode cX5_danger 48 = .ok (.iastore, 1) := by decide +kernel
theorem dX5_danger_49 : decode cX5_danger 49 = .ok (.iload_n 3, 1) := by decide +kernel
theorem dX5_danger_50 : decode cX5_danger 50 = .ok (.ireturn, 1) := by decide +kernel
theorem dX5_alert_0 : decode cX5_alert 0 = .ok (.iload_n 1, 1) := by decide +kernel
theorem dX5_alert_1 : decode cX5_alert 1 = .ok (.iload_n 2, 1) := by decide +kernel
theorem dX5_alert_2 : decode cX5_alert 2 = .ok (.iload_n 3, 1) := by decide +kernel
theorem dX5_alert_3 : decode cX5_alert 3 = .ok (.invokestatic 125, 3) := by decide +kernel
theorem dX5_alert_6 : decode cX5_alert 6 = .ok (.aload_n 0, 1) := by decide +kernel
theorem dX5_alert_7 : decode cX5_alert 7 = .ok (.iconst 0, 1) := by decide +kernel
theorem dX5_alert_8 : decode cX5_alert 8 = .ok (.iconst (-1), 1) := by decide +kernel
theorem dX5_alert_9 : decode cX5_alert 9 = .ok (.iload_n 1, 1) := by decide +kernel
theorem dX5_alert_10 : decode cX5_alert 10 = .ok (.iload_n 2, 1) := by decide +kernel
theorem dX5_alert_11 : decode cX5_alert 11 = .ok (.iload_n 3, 1) := by decide +kernel
theorem dX5_alert_12 : decode cX5_alert 12 = .ok (.invokevirtual 128, 3) := by decide +kernel
theorem dX5_alert_15 : decode cX5_alert 15 = .ok (.ireturn, 1) := by decide +kernel
theorem dX5_approve_0 : decode cX5_approve 0 = .ok (.aload_n 0, 1) := by decide +kernel
theorem dX5_approve_1 : decode cX5_approve 1 = .ok (.iload_n 1, 1) := by decide +kernel
theorem dX5_approve_2 : decode cX5_approve 2 = .ok (.invokevirtual 132, 3) := by decide +kernel
theorem dX5_approve_5 : decode cX5_approve 5 = .ok (.iload_n 2, 1) := by decide +kernel
theorem dX5_approve_6 : decode cX5_approve 6 = .ok (.invokestatic 115, 3) := by decide +kernel
theorem dX5_approve_9 : decode cX5_approve 9 = .ok (.aload_n 0, 1) := by decide +kernel
theorem dX5_approve_10 : decode cX5_approve 10 = .ok (.getfield 10, 3) := by decide +kernel
theorem dX5_approve_13 : decode cX5_approve 13 = .ok (.getfield 138, 3) := by decide +kernel
theorem dX5_approve_16 : decode cX5_approve 16 = .ok (.iload_n 1, 1) := by decide +kernel
theorem dX5_approve_17 : decode cX5_approve 17 = .ok (.aaload, 1) := by decide +kernel
theorem dX5_approve_18 : decode cX5_approve 18 = .ok (.astore_n 3, 1) := by decide +kernel
theorem dX5_approve_19 : decode cX5_approve 19 = .ok (.aload_n 3, 1) := by decide +kernel
theorem dX5_approve_20 : decode cX5_approve 20 = .ok (.getfield 153, 3) := by decide +kernel
theorem dX5_approve_23 : decode cX5_approve 23 = .ok (.iconst (-1), 1) := by decide +kernel
theorem dX5_approve_24 : decode cX5_approve 24 = .ok (.if_icmp .eq 13, 3) := by decide +kernel
theorem dX5_approve_27 : decode cX5_approve 27 = .ok (.new 31, 3) := by decide +kernel
theorem dX5_approve_30 : decode cX5_approve 30 = .ok (.dup, 1) := by decide +kernel
theorem dX5_approve_31 : decode cX5_approve 31 = .ok (.ldc 156, 2) := by decide +kernel
theorem dX5_approve_33 : decode cX5_approve 33 = .ok (.invokespecial 35, 3) := by decide +kernel
theorem dX5_approve_36 : decode cX5_approve 36 = .ok (.athrow, 1) := by decide +kernel
theorem dX5_approve_37 : decode cX5_approve 37 = .ok (.aload_n 3, 1) := by decide +kernel
theorem dX5_approve_38 : decode cX5_approve 38 = .ok (.getfield 158, 3) := by decide +kernel
theorem dX5_approve_41 : decode cX5_approve 41 = .ok (.iload_n 2, 1) := by decide +kernel
theorem dX5_approve_42 : decode cX5_approve 42 = .ok (.invokestatic 121, 3) := by decide +kernel
theorem dX5_approve_45 : decode cX5_approve 45 = .ok (.ifCond .eq 13, 3) := by decide +kernel
theorem dX5_approve_48 : decode cX5_approve 48 = .ok (.new 31, 3) := by decide +kernel
theorem dX5_approve_51 : decode cX5_approve 51 = .ok (.dup, 1) := by decide +kernel
theorem dX5_approve_52 : decode cX5_approve 52 = .ok (.ldc 161, 2) := by decide +kernel
theorem dX5_approve_54 : decode cX5_approve 54 = .ok (.invokespecial 35, 3) := by decide +kernel
theorem dX5_approve_57 : decode cX5_approve 57 = .ok (.athrow, 1) := by decide +kernel
theorem dX5_approve_58 : decode cX5_approve 58 = .ok (.aload_n 3, 1) := by decide +kernel
theorem dX5_approve_59 : decode cX5_approve 59 = .ok (.dup, 1) := by decide +kernel
theorem dX5_approve_60 : decode cX5_approve 60 = .ok (.getfield 158, 3) := by decide +kernel
theorem dX5_approve_63 : decode cX5_approve 63 = .ok (.iconst 1, 1) := by decide +kernel
theorem dX5_approve_64 : decode cX5_approve 64 = .ok (.iload_n 2, 1) := by decide +kernel
theorem dX5_approve_65 : decode cX5_approve 65 = .ok (.ishl, 1) := by decide +kernel
theorem dX5_approve_66 : decode cX5_approve 66 = .ok (.ior, 1) := by decide +kernel
theorem dX5_approve_67 : decode cX5_approve 67 = .ok (.putfield 158, 3) := by decide +kernel
theorem dX5_approve_70 : decode cX5_approve 70 = .ok (.aload_n 0, 1) := by decide +kernel
theorem dX5_approve_71 : decode cX5_approve 71 = .ok (.getfield 10, 3) := by decide +kernel
theorem dX5_approve_74 : decode cX5_approve 74 = .ok (.aload_n 3, 1) := by decide +kernel
theorem dX5_approve_75 : decode cX5_approve 75 = .ok (.invokevirtual 163, 3) := by decide +kernel
theorem dX5_approve_78 : decode cX5_approve 78 = .ok (.ireturn, 1) := by decide +kernel
theorem dX5_send_0 : decode cX5_send 0 = .ok (.aload_n 0, 1) := by decide +kernel
theorem dX5_send_1 : decode cX5_send 1 = .ok (.iload_n 1, 1) := by decide +kernel
theorem dX5_send_2 : decode cX5_send 2 = .ok (.invokevirtual 132, 3) := by decide +kernel
theorem dX5_send_5 : decode cX5_send 5 = .ok (.aload_n 0, 1) := by decide +kernel
theorem dX5_send_6 : decode cX5_send 6 = .ok (.getfield 10, 3) := by decide +kernel
theorem dX5_send_9 : decode cX5_send 9 = .ok (.aload_n 0, 1) := by decide +kernel
theorem dX5_send_10 : decode cX5_send 10 = .ok (.getfield 10, 3) := by decide +kernel
theorem dX5_send_13 : decode cX5_send 13 = .ok (.getfield 138, 3) := by decide +kernel
theorem dX5_send_16 : decode cX5_send 16 = .ok (.iload_n 1, 1) := by decide +kernel
theorem dX5_send_17 : decode cX5_send 17 = .ok (.aaload, 1) := by decide +kernel
theorem dX5_send_18 : decode cX5_send 18 = .ok (.invokevirtual 167, 3) := by decide +kernel
theorem dX5_send_21 : decode cX5_send 21 = .ok (.ifCond .ne 13, 3) := by decide +kernel
theorem dX5_send_24 : decode cX5_send 24 = .ok (.new 31, 3) := by decide +kernel
theorem dX5_send_27 : decode cX5_send 27 = .ok (.dup, 1) := by decide +kernel
theorem dX5_send_28 : decode cX5_send 28 = .ok (.ldc 171, 2) := by decide +kernel
theorem dX5_send_30 : decode cX5_send 30 = .ok (.invokespecial 35, 3) := by decide +kernel
theorem dX5_send_33 : decode cX5_send 33 = .ok (.athrow, 1) := by decide +kernel
theorem dX5_send_34 : decode cX5_send 34 = .ok (.aload_n 0, 1) := by decide +kernel
theorem dX5_send_35 : decode cX5_send 35 = .ok (.getfield 10, 3) := by decide +kernel
theorem dX5_send_38 : decode cX5_send 38 = .ok (.aload_n 0, 1) := by decide +kernel
theorem dX5_send_39 : decode cX5_send 39 = .ok (.getfield 10, 3) := by decide +kernel
theorem dX5_send_42 : decode cX5_send 42 = .ok (.getfield 138, 3) := by decide +kernel
theorem dX5_send_45 : decode cX5_send 45 = .ok (.iload_n 1, 1) := by decide +kernel
theorem dX5_send_46 : decode cX5_send 46 = .ok (.aaload, 1) := by decide +kernel
theorem dX5_send_47 : decode cX5_send 47 = .ok (.invokevirtual 173, 3) := by decide +kernel
theorem dX5_send_50 : decode cX5_send 50 = .ok (.aload_n 0, 1) := by decide +kernel
theorem dX5_send_51 : decode cX5_send 51 = .ok (.getfield 10, 3) := by decide +kernel
theorem dX5_send_54 : decode cX5_send 54 = .ok (.aload_n 0, 1) := by decide +kernel
theorem dX5_send_55 : decode cX5_send 55 = .ok (.getfield 10, 3) := by decide +kernel
theorem dX5_send_58 : decode cX5_send 58 = .ok (.getfield 138, 3) := by decide +kernel
theorem dX5_send_61 : decode cX5_send 61 = .ok (.iload_n 1, 1) := by decide +kernel
theorem dX5_send_62 : decode cX5_send 62 = .ok (.aaload, 1) := by decide +kernel
theorem dX5_send_63 : decode cX5_send 63 = .ok (.getfield 142, 3) := by decide +kernel
theorem dX5_send_66 : decode cX5_send 66 = .ok (.invokevirtual 177, 3) := by decide +kernel
theorem dX5_send_69 : decode cX5_send 69 = .ok (.ireturn, 1) := by decide +kernel
theorem dX5_pass_0 : decode cX5_pass 0 = .ok (.iload_n 1, 1) := by decide +kernel
theorem dX5_pass_1 : decode cX5_pass 1 = .ok (.iconst 1, 1) := by decide +kernel
theorem dX5_pass_2 : decode cX5_pass 2 = .ok (.bipush 60, 2) := by decide +kernel
theorem dX5_pass_4 : decode cX5_pass 4 = .ok (.invokestatic 23, 3) := by decide +kernel
theorem dX5_pass_7 : decode cX5_pass 7 = .ok (.aload_n 0, 1) := by decide +kernel
theorem dX5_pass_8 : decode cX5_pass 8 = .ok (.getfield 10, 3) := by decide +kernel
theorem dX5_pass_11 : decode cX5_pass 11 = .ok (.getfield 112, 3) := by decide +kernel
theorem dX5_pass_14 : decode cX5_pass 14 = .ok (.iload_n 1, 1) := by decide +kernel
theorem dX5_pass_15 : decode cX5_pass 15 = .ok (.iadd, 1) := by decide +kernel
theorem dX5_pass_16 : decode cX5_pass 16 = .ok (.sipush 9999, 3) := by decide +kernel
theorem dX5_pass_19 : decode cX5_pass 19 = .ok (.if_icmp .le 13, 3) := by decide +kernel
theorem dX5_pass_22 : decode cX5_pass 22 = .ok (.new 31, 3) := by decide +kernel
theorem dX5_pass_25 : decode cX5_pass 25 = .ok (.dup, 1) := by decide +kernel
theorem dX5_pass_26 : decode cX5_pass 26 = .ok (.ldc 181, 2) := by decide +kernel
theorem dX5_pass_28 : decode cX5_pass 28 = .ok (.invokespecial 35, 3) := by decide +kernel
theorem dX5_pass_31 : decode cX5_pass 31 = .ok (.athrow, 1) := by decide +kernel
theorem dX5_pass_32 : decode cX5_pass 32 = .ok (.aload_n 0, 1) := by decide +kernel
theorem dX5_pass_33 : decode cX5_pass 33 = .ok (.getfield 10, 3) := by decide +kernel
theorem dX5_pass_36 : decode cX5_pass 36 = .ok (.iload_n 1, 1) := by decide +kernel
theorem dX5_pass_37 : decode cX5_pass 37 = .ok (.invokevirtual 183, 3) := by decide +kernel
theorem dX5_pass_40 : decode cX5_pass 40 = .ok (.ireturn, 1) := by decide +kernel
theorem dJ9_floorMod_7cf53_0 : decode cJ9_floorMod_7cf53 0 = .ok (.iload_n 0, 1) := by decide +kernel
theorem dJ9_floorMod_7cf53_1 : decode cJ9_floorMod_7cf53 1 = .ok (.iload_n 1, 1) := by decide +kernel
theorem dJ9_floorMod_7cf53_2 : decode cJ9_floorMod_7cf53 2 = .ok (.irem, 1) := by decide +kernel
theorem dJ9_floorMod_7cf53_3 : decode cJ9_floorMod_7cf53 3 = .ok (.istore_n 2, 1) := by decide +kernel
theorem dJ9_floorMod_7cf53_4 : decode cJ9_floorMod_7cf53 4 = .ok (.iload_n 0, 1) := by decide +kernel
theorem dJ9_floorMod_7cf53_5 : decode cJ9_floorMod_7cf53 5 = .ok (.iload_n 1, 1) := by decide +kernel
theorem dJ9_floorMod_7cf53_6 : decode cJ9_floorMod_7cf53 6 = .ok (.ixor, 1) := by decide +kernel
theorem dJ9_floorMod_7cf53_7 : decode cJ9_floorMod_7cf53 7 = .ok (.ifCond .ge 11, 3) := by decide +kernel
theorem dJ9_floorMod_7cf53_10 : decode cJ9_floorMod_7cf53 10 = .ok (.iload_n 2, 1) := by decide +kernel
theorem dJ9_floorMod_7cf53_11 : decode cJ9_floorMod_7cf53 11 = .ok (.ifCond .eq 7, 3) := by decide +kernel
theorem dJ9_floorMod_7cf53_14 : decode cJ9_floorMod_7cf53 14 = .ok (.iload_n 2, 1) := by decide +kernel
theorem dJ9_floorMod_7cf53_15 : decode cJ9_floorMod_7cf53 15 = .ok (.iload_n 1, 1) := by decide +kernel
theorem dJ9_floorMod_7cf53_16 : decode cJ9_floorMod_7cf53 16 = .ok (.iadd, 1) := by decide +kernel
theorem dJ9_floorMod_7cf53_17 : decode cJ9_floorMod_7cf53 17 = .ok (.ireturn, 1) := by decide +kernel
theorem dJ9_floorMod_7cf53_18 : decode cJ9_floorMod_7cf53 18 = .ok (.iload_n 2, 1) := by decide +kernel
theorem dJ9_floorMod_7cf53_19 : decode cJ9_floorMod_7cf53 19 = .ok (.ireturn, 1) := by decide +kernel
theorem dX5_until_0 : decode cX5_until 0 = .ok (.iload_n 1, 1) := by decide +kernel
theorem dX5_until_1 : decode cX5_until 1 = .ok (.iconst 0, 1) := by decide +kernel
theorem dX5_until_2 : decode cX5_until 2 = .ok (.bipush 23, 2) := by decide +kernel
theorem dX5_until_4 : decode cX5_until 4 = .ok (.invokestatic 23, 3) := by decide +kernel
theorem dX5_until_7 : decode cX5_until 7 = .ok (.aload_n 0, 1) := by decide +kernel
theorem dX5_until_8 : decode cX5_until 8 = .ok (.getfield 10, 3) := by decide +kernel
theorem dX5_until_11 : decode cX5_until 11 = .ok (.getfield 112, 3) := by decide +kernel
theorem dX5_until_14 : decode cX5_until 14 = .ok (.bipush 60, 2) := by decide +kernel
theorem dX5_until_16 : decode cX5_until 16 = .ok (.idiv, 1) := by decide +kernel
theorem dX5_until_17 : decode cX5_until 17 = .ok (.iconst 1, 1) := by decide +kernel
theorem dX5_until_18 : decode cX5_until 18 = .ok (.iadd, 1) := by decide +kernel
theorem dX5_until_19 : decode cX5_until 19 = .ok (.istore_n 2, 1) := by decide +kernel
theorem dX5_until_20 : decode cX5_until 20 = .ok (.iload_n 2, 1) := by decide +kernel
theorem dX5_until_21 : decode cX5_until 21 = .ok (.iload_n 1, 1) := by decide +kernel
theorem dX5_until_22 : decode cX5_until 22 = .ok (.iload_n 2, 1) := by decide +kernel
theorem dX5_until_23 : decode cX5_until 23 = .ok (.isub, 1) := by decide +kernel
theorem dX5_until_24 : decode cX5_until 24 = .ok (.bipush 24, 2) := by decide +kernel
theorem dX5_until_26 : decode cX5_until 26 = .ok (.invokestatic 186, 3) := by decide +kernel
theorem dX5_until_29 : decode cX5_until 29 = .ok (.iadd, 1) := by decide +kernel
theorem dX5_until_30 : decode cX5_until 30 = .ok (.bipush 60, 2) := by decide +kernel
theorem dX5_until_32 : decode cX5_until 32 = .ok (.imul, 1) := by decide +kernel
theorem dX5_until_33 : decode cX5_until 33 = .ok (.istore_n 3, 1) := by decide +kernel
theorem dX5_until_34 : decode cX5_until 34 = .ok (.aload_n 0, 1) := by decide +kernel
theorem dX5_until_35 : decode cX5_until 35 = .ok (.getfield 10, 3) := by decide +kernel
theorem dX5_until_38 : decode cX5_until 38 = .ok (.invokevirtual 191, 3) := by decide +kernel
theorem dX5_until_41 : decode cX5_until 41 = .ok (.ifCond .gt 10, 3) := by decide +kernel
theorem dX5_until_44 : decode cX5_until 44 = .ok (.iload_n 3, 1) := by decide +kernel
theorem dX5_until_45 : decode cX5_until 45 = .ok (.sipush 9999, 3) := by decide +kernel
theorem dX5_until_48 : decode cX5_until 48 = .ok (.if_icmp .le 13, 3) := by decide +kernel
theorem dX5_until_51 : decode cX5_until 51 = .ok (.new 31, 3) := by decide +kernel
theorem dX5_until_54 : decode cX5_until 54 = .ok (.dup, 1) := by decide +kernel
theorem dX5_until_55 : decode cX5_until 55 = .ok (.ldc 195, 2) := by decide +kernel
theorem dX5_until_57 : decode cX5_until 57 = .ok (.invokespecial 35, 3) := by decide +kernel
theorem dX5_until_60 : decode cX5_until 60 = .ok (.athrow, 1) := by decide +kernel
theorem dX5_until_61 : decode cX5_until 61 = .ok (.aload_n 0, 1) := by decide +kernel
theorem dX5_until_62 : decode cX5_until 62 = .ok (.getfield 10, 3) := by decide +kernel
theorem dX5_until_65 : decode cX5_until 65 = .ok (.iload_n 3, 1) := by decide +kernel
theorem dX5_until_66 : decode cX5_until 66 = .ok (.putfield 112, 3) := by decide +kernel
theorem dX5_until_69 : decode cX5_until 69 = .ok (.iload_n 3, 1) := by decide +kernel
theorem dX5_until_70 : decode cX5_until 70 = .ok (.ireturn, 1) := by decide +kernel
/-! what is told, in any state -/
theorem jbo {x : Int32} (h : x = 0 ∨ x = 1) : x = 0 ∨ x = 1 := h
def jDraft (v : jN) (k o a d t : Int32) : jN := jUp (jUp (jUp (jUp (jUp (jUp v 11 (jWc v) 0 k) 11 (jWc v) 1 o) 11 (jWc v) 2 a) 11 (jWc v) 3 d) 11 (jWc v) 4 t) 1 0 6 (v 1 0 6 + 1)
def jGroup (v : jN) (c p t d r : Int32) : jN := jUp (jUp (jUp (jUp (jUp (jUp v 9 (jGc v) 0 c) 9 (jGc v) 1 p) 9 (jGc v) 2 t) 9 (jGc v) 4 d) 9 (jGc v) 5 r) 1 0 4 (v 1 0 4 + 1)
def jShel (v : jN) (c r : Int32) : jN := jUp (jUp (jUp v 10 (jSc v) 0 c) 10 (jSc v) 1 r) 1 0 5 (v 1 0 5 + 1)
def jDanger (v : jN) (c d : Int32) : jN := jUp v 6 0 c.toNatClampNeg (v 1 0 0 + d)
def jAppr (v : jN) (w d : Int32) : jN := jUp v 11 w.toNatClampNeg 5 (v 11 w.toNatClampNeg 5 ||| ((1 : Int32) <<< (d &&& 31)))
def jSend (v : jN) (w : Int32) : jN := jUp (jUp v 11 w.toNatClampNeg 6 (v 1 0 0)) 11 w.toNatClampNeg 7 1
def jPin (v : jN) (s : Int32) : Int32 := jSum (fun g => if ¬ jGone v g ∧ ¬ jIn s (v 9 g 0) = 0 then v 9 g 1 else 0) (jGc v)
theorem jst1 {σ : vgS} {b k i s : Nat} {x : Int32} : vg_st σ (k, b, i) s x = jPut σ b (jUp (jV σ b) k i s x) := jst0
def sp_X5_draft : vgC := fun av σ => match av with
  | [.inr (0, 0, 0), .inl (.int k), .inl (.int o), .inl (.int a), .inl (.int d), .inl (.int t)] => (jWf (jV σ 0) ∧ jWc (jV σ 0) < 12, some (.inl (.int (jV σ 0 1 0 6))), jPut σ 0 (jDraft (jV σ 0) k o a d t))
  | _ => (False, none, σ)
def k_X5_draft : List (Nat × vgF) := [(0, vi_aload 0 1), (1, vi_get ww_shp 0 0 4), (4, vi_get ww_shp 1 6 7), (7, vi_icst (12) 9), (9, vi_cmp (fun x y => x < y) 23 12), (12, vi_no), (23, vi_aload 0 24), (24, vi_get ww_shp 0 0 27), (27, vi_get ww_shp 1 9 30), (30, vi_aload 0 31), (31, vi_get ww_shp 0 0 34), (34, vi_get ww_shp 1 6 37), (37, vi_aald ww_shp 4 38), (38, vi_astore 6 40), (40, vi_aload 6 42), (42, vi_iload 1 43), (43, vi_put ww_shp 4 0 46), (46, vi_aload 6 48), (48, vi_iload 2 49), (49, vi_put ww_shp 4 1 52), (52, vi_aload 6 54), (54, vi_iload 3 55), (55, vi_put ww_shp 4 2 58), (58, vi_aload 6 60), (60, vi_iload 4 62), (62, vi_put ww_shp 4 3 65), (65, vi_aload 6 67), (67, vi_iload 5 69), (69, vi_put ww_shp 4 4 72), (72, vi_aload 0 73), (73, vi_get ww_shp 0 0 76), (76, vi_dup 77), (77, vi_get ww_shp 1 6 80), (80, vi_dupx1 81), (81, vi_icst (1) 82), (82, vi_bin (fun x y => x + y) 83), (83, vi_put ww_shp 1 6 86), (86, vi_ret)]
set_option maxRecDepth 20000 in
theorem s_X5_draft : ∀ q ∈ k_X5_draft, vg_Snd ww_tb ww_nw ww_shp ww_nm ww_cl ww_tyl cX5_draft 7 RX5 (some .int) 0 q.1 q.2 := by
  refine vg_cons (vs_aload_n dX5_draft_0 rfl rfl) ?_
  refine vg_cons (vs_getfield (T := TX5) dX5_draft_1 rfl (by decide) ww_inX5 q_197 rfl) ?_
  refine vg_cons (vs_getfield (T := TX1) dX5_draft_4 rfl (by decide) ww_inX1 q_199 rfl) ?_
  refine vg_cons (vs_bipush dX5_draft_7 (by decide) rfl) ?_
  refine vg_cons (vs_cmp_lt dX5_draft_9 (by decide) rfl) ?_
  refine vg_cons (vs_no) ?_
  refine vg_cons (vs_aload_n dX5_draft_23 rfl rfl) ?_
  refine vg_cons (vs_getfield (T := TX5) dX5_draft_24 rfl (by decide) ww_inX5 q_197 rfl) ?_
  refine vg_cons (vs_getfield (T := TX1) dX5_draft_27 rfl (by decide) ww_inX1 q_239 rfl) ?_
  refine vg_cons (vs_aload_n dX5_draft_30 rfl rfl) ?_
  refine vg_cons (vs_getfield (T := TX5) dX5_draft_31 rfl (by decide) ww_inX5 q_197 rfl) ?_
  refine vg_cons (vs_getfield (T := TX1) dX5_draft_34 rfl (by decide) ww_inX1 q_199 rfl) ?_
  refine vg_cons (vs_aaload dX5_draft_37 rfl rfl) ?_
  refine vg_cons (vs_astore dX5_draft_38 (by decide) rfl) ?_
  refine vg_cons (vs_aload dX5_draft_40 rfl) ?_
  refine vg_cons (vs_iload_n dX5_draft_42 rfl rfl) ?_
  refine vg_cons (vs_putfield (T := TX4) tyX4 dX5_draft_43 rfl (by decide) ww_inX4 tyX4_ok nmX4 rfl rfl q_247 rfl) ?_
  refine vg_cons (vs_aload dX5_draft_46 rfl) ?_
  refine vg_cons (vs_iload_n dX5_draft_48 rfl rfl) ?_
  refine vg_cons (vs_putfield (T := TX4) tyX4 dX5_draft_49 rfl (by decide) ww_inX4 tyX4_ok nmX4 rfl rfl q_248 rfl) ?_
  refine vg_cons (vs_aload dX5_draft_52 rfl) ?_
  refine vg_cons (vs_iload_n dX5_draft_54 rfl rfl) ?_
  refine vg_cons (vs_putfield (T := TX4) tyX4 dX5_draft_55 rfl (by decide) ww_inX4 tyX4_ok nmX4 rfl rfl q_241 rfl) ?_
  refine vg_cons (vs_aload dX5_draft_58 rfl) ?_
  refine vg_cons (vs_iload dX5_draft_60 rfl) ?_
  refine vg_cons (vs_putfield (T := TX4) tyX4 dX5_draft_62 rfl (by decide) ww_inX4 tyX4_ok nmX4 rfl rfl q_249 rfl) ?_
  refine vg_cons (vs_aload dX5_draft_65 rfl) ?_
  refine vg_cons (vs_iload dX5_draft_67 rfl) ?_
  refine vg_cons (vs_putfield (T := TX4) tyX4 dX5_draft_69 rfl (by decide) ww_inX4 tyX4_ok nmX4 rfl rfl q_250 rfl) ?_
  refine vg_cons (vs_aload_n dX5_draft_72 rfl rfl) ?_
  refine vg_cons (vs_getfield (T := TX5) dX5_draft_73 rfl (by decide) ww_inX5 q_197 rfl) ?_
  refine vg_cons (vs_dup dX5_draft_76 rfl) ?_
  refine vg_cons (vs_getfield (T := TX1) dX5_draft_77 rfl (by decide) ww_inX1 q_199 rfl) ?_
  refine vg_cons (vs_dup_x1 dX5_draft_80 rfl) ?_
  refine vg_cons (vs_iconst dX5_draft_81 rfl rfl) ?_
  refine vg_cons (vs_iadd dX5_draft_82 rfl) ?_
  refine vg_cons (vs_putfield (T := TX1) tyX1 dX5_draft_83 rfl (by decide) ww_inX1 tyX1_ok nmX1 rfl rfl q_199 rfl) ?_
  refine vg_cons (vs_ireturn dX5_draft_86 rfl) ?_
  exact fun _ h => absurd h List.not_mem_nil
theorem m_X5_draft : vg_Code k_X5_draft := fun q h => (s_X5_draft q h).1

theorem w_X5_draft : vg_Wd sp_X5_draft 7 := by
  intro av σ h
  unfold sp_X5_draft at h
  split at h
  · exact Nat.le_of_ble_eq_true rfl
  · exact h.elim
theorem g_X5_draft : vg_G k_X5_draft sp_X5_draft := by
  intro av σ h
  unfold sp_X5_draft at h ⊢
  split at h
  next k o a d t =>
    obtain ⟨hw, h12⟩ := h
    have e6 : σ (1, 0, 0) 6 = nI (jWc (jV σ 0)) := hw.2.2.1.1
    refine vg_run (cuts := []) m_X5_draft 60 ?_
    refine And.intro (fun _ => ?_) (fun z => absurd ((jle (c := 12) (x := σ (1, 0, 0) 6) (n := 12) rfl e6 (by omega) (by omega)).mp (Int32.not_lt.mp z)) (by omega))
    refine And.intro (jin e6 h12 (by decide)) ?_
    refine And.intro rfl (And.intro ⟨rfl, rfl⟩ ?_)
    refine And.intro rfl ?_
    dsimp only
    rw [jst0 (k := 11) (s := 0), jst, jst, jst, jst, jst]
    rfl
  next => exact h.elim
theorem c_X5_draft : vg_MetF ww_tb ww_nw ww_shp ww_nm ww_cl ww_tyl yX5_draft cX5_draft 7 (some .int) 0 sp_X5_draft := vg_met ww_closed (by decide +kernel) rfl s_X5_draft w_X5_draft g_X5_draft
def sp_X5_group : vgC := fun av σ => match av with
  | [.inr (0, 0, 0), .inl (.int c), .inl (.int p), .inl (.int t), .inl (.int d), .inl (.int r)] => (vp_in c 16 ∧ (¬ p < 1 ∧ p ≤ 99) ∧ (¬ t < 0 ∧ t ≤ 2) ∧ (d = 0 ∨ d = 1) ∧ (r = 0 ∨ r = 1) ∧ jWf (jV σ 0) ∧ jGc (jV σ 0) < 8, some (.inl (.int (jV σ 0 1 0 4))), jPut σ 0 (jGroup (jV σ 0) c p t d r))
  | _ => (False, none, σ)
def k_X5_group : List (Nat × vgF) := [(0, vi_iload 1 1), (1, vi_callS sp_X5_checkCell 1 4), (4, vi_iload 2 5), (5, vi_icst (1) 6), (6, vi_icst (99) 8), (8, vi_callS sp_X5_checkRange 3 11), (11, vi_iload 3 12), (12, vi_icst (0) 13), (13, vi_icst (2) 14), (14, vi_callS sp_X5_checkRange 3 17), (17, vi_aload 0 18), (18, vi_get ww_shp 0 0 21), (21, vi_get ww_shp 1 4 24), (24, vi_icst (8) 26), (26, vi_cmp (fun x y => x < y) 39 29), (29, vi_no), (39, vi_aload 0 40), (40, vi_get ww_shp 0 0 43), (43, vi_get ww_shp 1 7 46), (46, vi_aload 0 47), (47, vi_get ww_shp 0 0 50), (50, vi_get ww_shp 1 4 53), (53, vi_aald ww_shp 2 54), (54, vi_astore 6 56), (56, vi_aload 6 58), (58, vi_iload 1 59), (59, vi_put ww_shp 5 0 62), (62, vi_aload 6 64), (64, vi_iload 2 65), (65, vi_put ww_shp 5 1 68), (68, vi_aload 6 70), (70, vi_iload 3 71), (71, vi_put ww_shp 5 2 74), (74, vi_aload 6 76), (76, vi_iload 4 78), (78, vi_putZ ww_shp 5 4 81), (81, vi_aload 6 83), (83, vi_iload 5 85), (85, vi_putZ ww_shp 5 5 88), (88, vi_aload 0 89), (89, vi_get ww_shp 0 0 92), (92, vi_dup 93), (93, vi_get ww_shp 1 4 96), (96, vi_dupx1 97), (97, vi_icst (1) 98), (98, vi_bin (fun x y => x + y) 99), (99, vi_put ww_shp 1 4 102), (102, vi_ret)]
set_option maxRecDepth 20000 in
theorem s_X5_group : ∀ q ∈ k_X5_group, vg_Snd ww_tb ww_nw ww_shp ww_nm ww_cl ww_tyl cX5_group 7 RX5 (some .int) 1 q.1 q.2 := by
  refine vg_cons (vs_iload_n dX5_group_0 rfl rfl) ?_
  refine vg_cons (vs_callS c_X5_checkCell dX5_group_1 ww_good q_236 q_51 q_238 q_237 (by decide +kernel) (by decide) rfl) ?_
  refine vg_cons (vs_iload_n dX5_group_4 rfl rfl) ?_
  refine vg_cons (vs_iconst dX5_group_5 rfl rfl) ?_
  refine vg_cons (vs_bipush dX5_group_6 (by decide) rfl) ?_
  refine vg_cons (vs_callS c_X5_checkRange dX5_group_8 ww_good q_201 q_51 q_203 q_202 (by decide +kernel) (by decide) rfl) ?_
  refine vg_cons (vs_iload_n dX5_group_11 rfl rfl) ?_
  refine vg_cons (vs_iconst dX5_group_12 rfl rfl) ?_
  refine vg_cons (vs_iconst dX5_group_13 rfl rfl) ?_
  refine vg_cons (vs_callS c_X5_checkRange dX5_group_14 ww_good q_201 q_51 q_203 q_202 (by decide +kernel) (by decide) rfl) ?_
  refine vg_cons (vs_aload_n dX5_group_17 rfl rfl) ?_
  refine vg_cons (vs_getfield (T := TX5) dX5_group_18 rfl (by decide) ww_inX5 q_197 rfl) ?_
  refine vg_cons (vs_getfield (T := TX1) dX5_group_21 rfl (by decide) ww_inX1 q_198 rfl) ?_
  refine vg_cons (vs_bipush dX5_group_24 (by decide) rfl) ?_
  refine vg_cons (vs_cmp_lt dX5_group_26 (by decide) rfl) ?_
  refine vg_cons (vs_no) ?_
  refine vg_cons (vs_aload_n dX5_group_39 rfl rfl) ?_
  refine vg_cons (vs_getfield (T := TX5) dX5_group_40 rfl (by decide) ww_inX5 q_197 rfl) ?_
  refine vg_cons (vs_getfield (T := TX1) dX5_group_43 rfl (by decide) ww_inX1 q_261 rfl) ?_
  refine vg_cons (vs_aload_n dX5_group_46 rfl rfl) ?_
  refine vg_cons (vs_getfield (T := TX5) dX5_group_47 rfl (by decide) ww_inX5 q_197 rfl) ?_
  refine vg_cons (vs_getfield (T := TX1) dX5_group_50 rfl (by decide) ww_inX1 q_198 rfl) ?_
  refine vg_cons (vs_aaload dX5_group_53 rfl rfl) ?_
  refine vg_cons (vs_astore dX5_group_54 (by decide) rfl) ?_
  refine vg_cons (vs_aload dX5_group_56 rfl) ?_
  refine vg_cons (vs_iload_n dX5_group_58 rfl rfl) ?_
  refine vg_cons (vs_putfield (T := TX0) tyX0 dX5_group_59 rfl (by decide) ww_inX0 tyX0_ok nmX0 rfl rfl q_262 rfl) ?_
  refine vg_cons (vs_aload dX5_group_62 rfl) ?_
  refine vg_cons (vs_iload_n dX5_group_64 rfl rfl) ?_
  refine vg_cons (vs_putfield (T := TX0) tyX0 dX5_group_65 rfl (by decide) ww_inX0 tyX0_ok nmX0 rfl rfl q_263 rfl) ?_
  refine vg_cons (vs_aload dX5_group_68 rfl) ?_
  refine vg_cons (vs_iload_n dX5_group_70 rfl rfl) ?_
  refine vg_cons (vs_putfield (T := TX0) tyX0 dX5_group_71 rfl (by decide) ww_inX0 tyX0_ok nmX0 rfl rfl q_264 rfl) ?_
  refine vg_cons (vs_aload dX5_group_74 rfl) ?_
  refine vg_cons (vs_iload dX5_group_76 rfl) ?_
  refine vg_cons (vs_putfieldZ (T := TX0) tyX0 dX5_group_78 rfl (by decide) ww_inX0 tyX0_ok nmX0 rfl rfl q_295 rfl) ?_
  refine vg_cons (vs_aload dX5_group_81 rfl) ?_
  refine vg_cons (vs_iload dX5_group_83 rfl) ?_
  refine vg_cons (vs_putfieldZ (T := TX0) tyX0 dX5_group_85 rfl (by decide) ww_inX0 tyX0_ok nmX0 rfl rfl q_296 rfl) ?_
  refine vg_cons (vs_aload_n dX5_group_88 rfl rfl) ?_
  refine vg_cons (vs_getfield (T := TX5) dX5_group_89 rfl (by decide) ww_inX5 q_197 rfl) ?_
  refine vg_cons (vs_dup dX5_group_92 rfl) ?_
  refine vg_cons (vs_getfield (T := TX1) dX5_group_93 rfl (by decide) ww_inX1 q_198 rfl) ?_
  refine vg_cons (vs_dup_x1 dX5_group_96 rfl) ?_
  refine vg_cons (vs_iconst dX5_group_97 rfl rfl) ?_
  refine vg_cons (vs_iadd dX5_group_98 rfl) ?_
  refine vg_cons (vs_putfield (T := TX1) tyX1 dX5_group_99 rfl (by decide) ww_inX1 tyX1_ok nmX1 rfl rfl q_198 rfl) ?_
  refine vg_cons (vs_ireturn dX5_group_102 rfl) ?_
  exact fun _ h => absurd h List.not_mem_nil
theorem m_X5_group : vg_Code k_X5_group := fun q h => (s_X5_group q h).1

theorem w_X5_group : vg_Wd sp_X5_group 7 := by
  intro av σ h
  unfold sp_X5_group at h
  split at h
  · exact Nat.le_of_ble_eq_true rfl
  · exact h.elim
theorem g_X5_group : vg_G k_X5_group sp_X5_group := by
  intro av σ h
  unfold sp_X5_group at h ⊢
  split at h
  next c p t d r =>
    obtain ⟨hc, hp, ht, hd, hr, hw, h8⟩ := h
    have e4 : σ (1, 0, 0) 4 = nI (jGc (jV σ 0)) := hw.1.1
    refine vg_run (cuts := []) m_X5_group 80 ?_
    refine And.intro hc (And.intro hp (And.intro ht ?_))
    refine And.intro (fun _ => ?_) (fun z => absurd ((jle (c := 8) (x := σ (1, 0, 0) 4) (n := 8) rfl e4 (by omega) (by omega)).mp (Int32.not_lt.mp z)) (by omega))
    refine And.intro (jin e4 h8 (by decide)) ?_
    refine And.intro hd (And.intro hr ?_)
    refine And.intro rfl (And.intro ⟨rfl, rfl⟩ ?_)
    refine And.intro rfl ?_
    dsimp only
    rw [jst0 (k := 9) (s := 0), jst, jst, jst, jst, jst]
    rfl
  next => exact h.elim
theorem c_X5_group : vg_MetF ww_tb ww_nw ww_shp ww_nm ww_cl ww_tyl yX5_group cX5_group 7 (some .int) 1 sp_X5_group := vg_met ww_closed (by decide +kernel) rfl s_X5_group w_X5_group g_X5_group
def sp_X5_shelter : vgC := fun av σ => match av with
  | [.inr (0, 0, 0), .inl (.int c), .inl (.int r)] => (vp_in c 16 ∧ (¬ r < 1 ∧ r ≤ 200) ∧ jWf (jV σ 0) ∧ jSc (jV σ 0) < 3, some (.inl (.int (jV σ 0 1 0 5))), jPut σ 0 (jShel (jV σ 0) c r))
  | _ => (False, none, σ)
def k_X5_shelter : List (Nat × vgF) := [(0, vi_iload 1 1), (1, vi_callS sp_X5_checkCell 1 4), (4, vi_iload 2 5), (5, vi_icst (1) 6), (6, vi_icst (200) 9), (9, vi_callS sp_X5_checkRange 3 12), (12, vi_aload 0 13), (13, vi_get ww_shp 0 0 16), (16, vi_get ww_shp 1 5 19), (19, vi_icst (3) 20), (20, vi_cmp (fun x y => x < y) 33 23), (23, vi_no), (33, vi_aload 0 34), (34, vi_get ww_shp 0 0 37), (37, vi_get ww_shp 1 8 40), (40, vi_aload 0 41), (41, vi_get ww_shp 0 0 44), (44, vi_get ww_shp 1 5 47), (47, vi_aald ww_shp 3 48), (48, vi_astore 3 49), (49, vi_aload 3 50), (50, vi_iload 1 51), (51, vi_put ww_shp 3 0 54), (54, vi_aload 3 55), (55, vi_iload 2 56), (56, vi_put ww_shp 3 1 59), (59, vi_aload 0 60), (60, vi_get ww_shp 0 0 63), (63, vi_dup 64), (64, vi_get ww_shp 1 5 67), (67, vi_dupx1 68), (68, vi_icst (1) 69), (69, vi_bin (fun x y => x + y) 70), (70, vi_put ww_shp 1 5 73), (73, vi_ret)]
set_option maxRecDepth 20000 in
theorem s_X5_shelter : ∀ q ∈ k_X5_shelter, vg_Snd ww_tb ww_nw ww_shp ww_nm ww_cl ww_tyl cX5_shelter 4 RX5 (some .int) 1 q.1 q.2 := by
  refine vg_cons (vs_iload_n dX5_shelter_0 rfl rfl) ?_
  refine vg_cons (vs_callS c_X5_checkCell dX5_shelter_1 ww_good q_236 q_51 q_238 q_237 (by decide +kernel) (by decide) rfl) ?_
  refine vg_cons (vs_iload_n dX5_shelter_4 rfl rfl) ?_
  refine vg_cons (vs_iconst dX5_shelter_5 rfl rfl) ?_
  refine vg_cons (vs_sipush dX5_shelter_6 (by decide) rfl) ?_
  refine vg_cons (vs_callS c_X5_checkRange dX5_shelter_9 ww_good q_201 q_51 q_203 q_202 (by decide +kernel) (by decide) rfl) ?_
  refine vg_cons (vs_aload_n dX5_shelter_12 rfl rfl) ?_
  refine vg_cons (vs_getfield (T := TX5) dX5_shelter_13 rfl (by decide) ww_inX5 q_197 rfl) ?_
  refine vg_cons (vs_getfield (T := TX1) dX5_shelter_16 rfl (by decide) ww_inX1 q_233 rfl) ?_
  refine vg_cons (vs_iconst dX5_shelter_19 rfl rfl) ?_
  refine vg_cons (vs_cmp_lt dX5_shelter_20 (by decide) rfl) ?_
  refine vg_cons (vs_no) ?_
  refine vg_cons (vs_aload_n dX5_shelter_33 rfl rfl) ?_
  refine vg_cons (vs_getfield (T := TX5) dX5_shelter_34 rfl (by decide) ww_inX5 q_197 rfl) ?_
  refine vg_cons (vs_getfield (T := TX1) dX5_shelter_37 rfl (by decide) ww_inX1 q_234 rfl) ?_
  refine vg_cons (vs_aload_n dX5_shelter_40 rfl rfl) ?_
  refine vg_cons (vs_getfield (T := TX5) dX5_shelter_41 rfl (by decide) ww_inX5 q_197 rfl) ?_
  refine vg_cons (vs_getfield (T := TX1) dX5_shelter_44 rfl (by decide) ww_inX1 q_233 rfl) ?_
  refine vg_cons (vs_aaload dX5_shelter_47 rfl rfl) ?_
  refine vg_cons (vs_astore_n dX5_shelter_48 rfl (by decide) rfl) ?_
  refine vg_cons (vs_aload_n dX5_shelter_49 rfl rfl) ?_
  refine vg_cons (vs_iload_n dX5_shelter_50 rfl rfl) ?_
  refine vg_cons (vs_putfield (T := TX3) tyX3 dX5_shelter_51 rfl (by decide) ww_inX3 tyX3_ok nmX3 rfl rfl q_297 rfl) ?_
  refine vg_cons (vs_aload_n dX5_shelter_54 rfl rfl) ?_
  refine vg_cons (vs_iload_n dX5_shelter_55 rfl rfl) ?_
  refine vg_cons (vs_putfield (T := TX3) tyX3 dX5_shelter_56 rfl (by decide) ww_inX3 tyX3_ok nmX3 rfl rfl q_235 rfl) ?_
  refine vg_cons (vs_aload_n dX5_shelter_59 rfl rfl) ?_
  refine vg_cons (vs_getfield (T := TX5) dX5_shelter_60 rfl (by decide) ww_inX5 q_197 rfl) ?_
  refine vg_cons (vs_dup dX5_shelter_63 rfl) ?_
  refine vg_cons (vs_getfield (T := TX1) dX5_shelter_64 rfl (by decide) ww_inX1 q_233 rfl) ?_
  refine vg_cons (vs_dup_x1 dX5_shelter_67 rfl) ?_
  refine vg_cons (vs_iconst dX5_shelter_68 rfl rfl) ?_
  refine vg_cons (vs_iadd dX5_shelter_69 rfl) ?_
  refine vg_cons (vs_putfield (T := TX1) tyX1 dX5_shelter_70 rfl (by decide) ww_inX1 tyX1_ok nmX1 rfl rfl q_233 rfl) ?_
  refine vg_cons (vs_ireturn dX5_shelter_73 rfl) ?_
  exact fun _ h => absurd h List.not_mem_nil
theorem m_X5_shelter : vg_Code k_X5_shelter := fun q h => (s_X5_shelter q h).1

theorem w_X5_shelter : vg_Wd sp_X5_shelter 4 := by
  intro av σ h
  unfold sp_X5_shelter at h
  split at h
  · exact Nat.le_of_ble_eq_true rfl
  · exact h.elim
theorem g_X5_shelter : vg_G k_X5_shelter sp_X5_shelter := by
  intro av σ h
  unfold sp_X5_shelter at h ⊢
  split at h
  next c r =>
    obtain ⟨hc, hp, hw, h8⟩ := h
    have e4 : σ (1, 0, 0) 5 = nI (jSc (jV σ 0)) := hw.2.1.1
    refine vg_run (cuts := []) m_X5_shelter 80 ?_
    refine And.intro hc (And.intro hp ?_)
    refine And.intro (fun _ => ?_) (fun z => absurd ((jle (c := 3) (x := σ (1, 0, 0) 5) (n := 3) rfl e4 (by omega) (by omega)).mp (Int32.not_lt.mp z)) (by omega))
    refine And.intro (jin e4 h8 (by decide)) ?_
    refine And.intro rfl (And.intro ⟨rfl, rfl⟩ ?_)
    refine And.intro rfl ?_
    dsimp only
    rw [jst0 (k := 10) (s := 0), jst, jst]
    rfl
  next => exact h.elim
theorem c_X5_shelter : vg_MetF ww_tb ww_nw ww_shp ww_nm ww_cl ww_tyl yX5_shelter cX5_shelter 4 (some .int) 1 sp_X5_shelter := vg_met ww_closed (by decide +kernel) rfl s_X5_shelter w_X5_shelter g_X5_shelter
def sp_X5_siren : vgC := fun av σ => match av with
  | [.inr (0, 0, 0), .inl (.int c), .inl (.int r)] => (vp_in c 16 ∧ (¬ r < 0 ∧ r ≤ 3) ∧ jWf (jV σ 0) ∧ jNc (jV σ 0) 0 < 4, some (.inl (.int (jV σ 0 5 0 3))), jPut σ 0 (jAddS (jV σ 0) 0 c r))
  | _ => (False, none, σ)
def k_X5_siren : List (Nat × vgF) := [(0, vi_iload 1 1), (1, vi_callS sp_X5_checkCell 1 4), (4, vi_iload 2 5), (5, vi_icst (0) 6), (6, vi_icst (3) 7), (7, vi_callS sp_X5_checkRange 3 10), (10, vi_aload 0 11), (11, vi_get ww_shp 0 0 14), (14, vi_get ww_shp 1 10 17), (17, vi_get ww_shp 2 3 20), (20, vi_icst (4) 21), (21, vi_cmp (fun x y => x < y) 34 24), (24, vi_no), (34, vi_aload 0 35), (35, vi_get ww_shp 0 0 38), (38, vi_get ww_shp 1 10 41), (41, vi_iload 1 42), (42, vi_iload 2 43), (43, vi_callV ww_shp 2 sp_X2_add 2 46), (46, vi_ret)]
set_option maxRecDepth 20000 in
theorem s_X5_siren : ∀ q ∈ k_X5_siren, vg_Snd ww_tb ww_nw ww_shp ww_nm ww_cl ww_tyl cX5_siren 3 RX5 (some .int) 1 q.1 q.2 := by
  refine vg_cons (vs_iload_n dX5_siren_0 rfl rfl) ?_
  refine vg_cons (vs_callS c_X5_checkCell dX5_siren_1 ww_good q_236 q_51 q_238 q_237 (by decide +kernel) (by decide) rfl) ?_
  refine vg_cons (vs_iload_n dX5_siren_4 rfl rfl) ?_
  refine vg_cons (vs_iconst dX5_siren_5 rfl rfl) ?_
  refine vg_cons (vs_iconst dX5_siren_6 rfl rfl) ?_
  refine vg_cons (vs_callS c_X5_checkRange dX5_siren_7 ww_good q_201 q_51 q_203 q_202 (by decide +kernel) (by decide) rfl) ?_
  refine vg_cons (vs_aload_n dX5_siren_10 rfl rfl) ?_
  refine vg_cons (vs_getfield (T := TX5) dX5_siren_11 rfl (by decide) ww_inX5 q_197 rfl) ?_
  refine vg_cons (vs_getfield (T := TX1) dX5_siren_14 rfl (by decide) ww_inX1 q_289 rfl) ?_
  refine vg_cons (vs_getfield (T := TX2) dX5_siren_17 rfl (by decide) ww_inX2 q_298 rfl) ?_
  refine vg_cons (vs_iconst dX5_siren_20 rfl rfl) ?_
  refine vg_cons (vs_cmp_lt dX5_siren_21 (by decide) rfl) ?_
  refine vg_cons (vs_no) ?_
  refine vg_cons (vs_aload_n dX5_siren_34 rfl rfl) ?_
  refine vg_cons (vs_getfield (T := TX5) dX5_siren_35 rfl (by decide) ww_inX5 q_197 rfl) ?_
  refine vg_cons (vs_getfield (T := TX1) dX5_siren_38 rfl (by decide) ww_inX1 q_289 rfl) ?_
  refine vg_cons (vs_iload_n dX5_siren_41 rfl rfl) ?_
  refine vg_cons (vs_iload_n dX5_siren_42 rfl rfl) ?_
  refine vg_cons (vs_callV (T := TX2) c_X2_add dX5_siren_43 rfl ww_good q_290 q_86 q_291 q_292 q_293 (by decide +kernel) (by decide) rfl) ?_
  refine vg_cons (vs_ireturn dX5_siren_46 rfl) ?_
  exact fun _ h => absurd h List.not_mem_nil
theorem m_X5_siren : vg_Code k_X5_siren := fun q h => (s_X5_siren q h).1

theorem w_X5_siren : vg_Wd sp_X5_siren 3 := by
  intro av σ h
  unfold sp_X5_siren at h
  split at h
  · exact Nat.le_of_ble_eq_true rfl
  · exact h.elim
theorem g_X5_siren : vg_G k_X5_siren sp_X5_siren := by
  intro av σ h
  unfold sp_X5_siren at h ⊢
  split at h
  next c r =>
    obtain ⟨hc, hp, hw, h8⟩ := h
    have e4 : σ (5, 0, 0) 3 = nI (jNc (jV σ 0) 0) := hw.2.2.2.1.1
    refine vg_run (cuts := []) m_X5_siren 80 ?_
    refine And.intro hc (And.intro hp ?_)
    refine And.intro (fun _ => ?_) (fun z => absurd ((jle (c := 4) (x := σ (5, 0, 0) 3) (n := 4) rfl e4 (by omega) (by omega)).mp (Int32.not_lt.mp z)) (by omega))
    exact And.intro ⟨e4, (show jNc (jV σ 0) 0 ≤ 4 by omega)⟩ ⟨rfl, rfl⟩
  next => exact h.elim
theorem c_X5_siren : vg_MetF ww_tb ww_nw ww_shp ww_nm ww_cl ww_tyl yX5_siren cX5_siren 3 (some .int) 1 sp_X5_siren := vg_met ww_closed (by decide +kernel) rfl s_X5_siren w_X5_siren g_X5_siren
def sp_X5_mast : vgC := fun av σ => match av with
  | [.inr (0, 0, 0), .inl (.int c), .inl (.int r)] => (vp_in c 16 ∧ (¬ r < 0 ∧ r ≤ 3) ∧ jWf (jV σ 0) ∧ jNc (jV σ 0) 1 < 4, some (.inl (.int (jV σ 0 5 1 3))), jPut σ 0 (jAddS (jV σ 0) 1 c r))
  | _ => (False, none, σ)
def k_X5_mast : List (Nat × vgF) := [(0, vi_iload 1 1), (1, vi_callS sp_X5_checkCell 1 4), (4, vi_iload 2 5), (5, vi_icst (0) 6), (6, vi_icst (3) 7), (7, vi_callS sp_X5_checkRange 3 10), (10, vi_aload 0 11), (11, vi_get ww_shp 0 0 14), (14, vi_get ww_shp 1 11 17), (17, vi_get ww_shp 2 3 20), (20, vi_icst (4) 21), (21, vi_cmp (fun x y => x < y) 34 24), (24, vi_no), (34, vi_aload 0 35), (35, vi_get ww_shp 0 0 38), (38, vi_get ww_shp 1 11 41), (41, vi_iload 1 42), (42, vi_iload 2 43), (43, vi_callV ww_shp 2 sp_X2_add 2 46), (46, vi_ret)]
set_option maxRecDepth 20000 in
theorem s_X5_mast : ∀ q ∈ k_X5_mast, vg_Snd ww_tb ww_nw ww_shp ww_nm ww_cl ww_tyl cX5_mast 3 RX5 (some .int) 1 q.1 q.2 := by
  refine vg_cons (vs_iload_n dX5_mast_0 rfl rfl) ?_
  refine vg_cons (vs_callS c_X5_checkCell dX5_mast_1 ww_good q_236 q_51 q_238 q_237 (by decide +kernel) (by decide) rfl) ?_
  refine vg_cons (vs_iload_n dX5_mast_4 rfl rfl) ?_
  refine vg_cons (vs_iconst dX5_mast_5 rfl rfl) ?_
  refine vg_cons (vs_iconst dX5_mast_6 rfl rfl) ?_
  refine vg_cons (vs_callS c_X5_checkRange dX5_mast_7 ww_good q_201 q_51 q_203 q_202 (by decide +kernel) (by decide) rfl) ?_
  refine vg_cons (vs_aload_n dX5_mast_10 rfl rfl) ?_
  refine vg_cons (vs_getfield (T := TX5) dX5_mast_11 rfl (by decide) ww_inX5 q_197 rfl) ?_
  refine vg_cons (vs_getfield (T := TX1) dX5_mast_14 rfl (by decide) ww_inX1 q_299 rfl) ?_
  refine vg_cons (vs_getfield (T := TX2) dX5_mast_17 rfl (by decide) ww_inX2 q_298 rfl) ?_
  refine vg_cons (vs_iconst dX5_mast_20 rfl rfl) ?_
  refine vg_cons (vs_cmp_lt dX5_mast_21 (by decide) rfl) ?_
  refine vg_cons (vs_no) ?_
  refine vg_cons (vs_aload_n dX5_mast_34 rfl rfl) ?_
  refine vg_cons (vs_getfield (T := TX5) dX5_mast_35 rfl (by decide) ww_inX5 q_197 rfl) ?_
  refine vg_cons (vs_getfield (T := TX1) dX5_mast_38 rfl (by decide) ww_inX1 q_299 rfl) ?_
  refine vg_cons (vs_iload_n dX5_mast_41 rfl rfl) ?_
  refine vg_cons (vs_iload_n dX5_mast_42 rfl rfl) ?_
  refine vg_cons (vs_callV (T := TX2) c_X2_add dX5_mast_43 rfl ww_good q_290 q_86 q_291 q_292 q_293 (by decide +kernel) (by decide) rfl) ?_
  refine vg_cons (vs_ireturn dX5_mast_46 rfl) ?_
  exact fun _ h => absurd h List.not_mem_nil
theorem m_X5_mast : vg_Code k_X5_mast := fun q h => (s_X5_mast q h).1

theorem w_X5_mast : vg_Wd sp_X5_mast 3 := by
  intro av σ h
  unfold sp_X5_mast at h
  split at h
  · exact Nat.le_of_ble_eq_true rfl
  · exact h.elim
theorem g_X5_mast : vg_G k_X5_mast sp_X5_mast := by
  intro av σ h
  unfold sp_X5_mast at h ⊢
  split at h
  next c r =>
    obtain ⟨hc, hp, hw, h8⟩ := h
    have e4 : σ (5, 0, 1) 3 = nI (jNc (jV σ 0) 1) := hw.2.2.2.2.1
    refine vg_run (cuts := []) m_X5_mast 80 ?_
    refine And.intro hc (And.intro hp ?_)
    refine And.intro (fun _ => ?_) (fun z => absurd ((jle (c := 4) (x := σ (5, 0, 1) 3) (n := 4) rfl e4 (by omega) (by omega)).mp (Int32.not_lt.mp z)) (by omega))
    exact And.intro ⟨e4, (show jNc (jV σ 0) 1 ≤ 4 by omega)⟩ ⟨rfl, rfl⟩
  next => exact h.elim
theorem c_X5_mast : vg_MetF ww_tb ww_nw ww_shp ww_nm ww_cl ww_tyl yX5_mast cX5_mast 3 (some .int) 1 sp_X5_mast := vg_met ww_closed (by decide +kernel) rfl s_X5_mast w_X5_mast g_X5_mast
def sp_X5_danger : vgC := fun av σ => match av with
  | [.inr (0, 0, 0), .inl (.int c), .inl (.int d)] => (vp_in c 16 ∧ ¬ d < 0 ∧ d ≤ 999, some (.inl (.int (jV σ 0 6 0 c.toNatClampNeg))), jPut σ 0 (jDanger (jV σ 0) c d))
  | _ => (False, none, σ)
def k_X5_danger : List (Nat × vgF) := [(0, vi_iload 1 1), (1, vi_callS sp_X5_checkCell 1 4), (4, vi_iload 2 5), (5, vi_icst (-1) 6), (6, vi_icst (999) 9), (9, vi_callS sp_X5_checkRange 3 12), (12, vi_aload 0 13), (13, vi_get ww_shp 0 0 16), (16, vi_get ww_shp 1 12 19), (19, vi_iload 1 20), (20, vi_ald ww_shp 0 21), (21, vi_istore 3 22), (22, vi_aload 0 23), (23, vi_get ww_shp 0 0 26), (26, vi_get ww_shp 1 12 29), (29, vi_iload 1 30), (30, vi_iload 2 31), (31, vi_icst (-1) 32), (32, vi_cmp (fun x y => x = y) 35 39), (35, vi_icst (-1) 36), (36, vi_goto 48), (39, vi_aload 0 40), (40, vi_get ww_shp 0 0 43), (43, vi_get ww_shp 1 0 46), (46, vi_iload 2 47), (47, vi_bin (fun x y => x + y) 48), (48, vi_ast ww_shp 0 49), (49, vi_iload 3 50), (50, vi_ret)]
set_option maxRecDepth 20000 in
theorem s_X5_danger : ∀ q ∈ k_X5_danger, vg_Snd ww_tb ww_nw ww_shp ww_nm ww_cl ww_tyl cX5_danger 4 RX5 (some .int) 1 q.1 q.2 := by
  refine vg_cons (vs_iload_n dX5_danger_0 rfl rfl) ?_
  refine vg_cons (vs_callS c_X5_checkCell dX5_danger_1 ww_good q_236 q_51 q_238 q_237 (by decide +kernel) (by decide) rfl) ?_
  refine vg_cons (vs_iload_n dX5_danger_4 rfl rfl) ?_
  refine vg_cons (vs_iconst dX5_danger_5 rfl rfl) ?_
  refine vg_cons (vs_sipush dX5_danger_6 (by decide) rfl) ?_
  refine vg_cons (vs_callS c_X5_checkRange dX5_danger_9 ww_good q_201 q_51 q_203 q_202 (by decide +kernel) (by decide) rfl) ?_
  refine vg_cons (vs_aload_n dX5_danger_12 rfl rfl) ?_
  refine vg_cons (vs_getfield (T := TX5) dX5_danger_13 rfl (by decide) ww_inX5 q_197 rfl) ?_
  refine vg_cons (vs_getfield (T := TX1) dX5_danger_16 rfl (by decide) ww_inX1 q_300 rfl) ?_
  refine vg_cons (vs_iload_n dX5_danger_19 rfl rfl) ?_
  refine vg_cons (vs_iaload dX5_danger_20 rfl rfl) ?_
  refine vg_cons (vs_istore_n dX5_danger_21 rfl (by decide) rfl) ?_
  refine vg_cons (vs_aload_n dX5_danger_22 rfl rfl) ?_
  refine vg_cons (vs_getfield (T := TX5) dX5_danger_23 rfl (by decide) ww_inX5 q_197 rfl) ?_
  refine vg_cons (vs_getfield (T := TX1) dX5_danger_26 rfl (by decide) ww_inX1 q_300 rfl) ?_
  refine vg_cons (vs_iload_n dX5_danger_29 rfl rfl) ?_
  refine vg_cons (vs_iload_n dX5_danger_30 rfl rfl) ?_
  refine vg_cons (vs_iconst dX5_danger_31 rfl rfl) ?_
  refine vg_cons (vs_cmp_ne dX5_danger_32 (by decide) rfl) ?_
  refine vg_cons (vs_iconst dX5_danger_35 rfl rfl) ?_
  refine vg_cons (vs_goto dX5_danger_36 (by decide)) ?_
  refine vg_cons (vs_aload_n dX5_danger_39 rfl rfl) ?_
  refine vg_cons (vs_getfield (T := TX5) dX5_danger_40 rfl (by decide) ww_inX5 q_197 rfl) ?_
  refine vg_cons (vs_getfield (T := TX1) dX5_danger_43 rfl (by decide) ww_inX1 q_205 rfl) ?_
  refine vg_cons (vs_iload_n dX5_danger_46 rfl rfl) ?_
  refine vg_cons (vs_iadd dX5_danger_47 rfl) ?_
  refine vg_cons (vs_iastore dX5_danger_48 rfl rfl) ?_
  refine vg_cons (vs_iload_n dX5_danger_49 rfl rfl) ?_
  refine vg_cons (vs_ireturn dX5_danger_50 rfl) ?_
  exact fun _ h => absurd h List.not_mem_nil
theorem m_X5_danger : vg_Code k_X5_danger := fun q h => (s_X5_danger q h).1

theorem w_X5_danger : vg_Wd sp_X5_danger 4 := by
  intro av σ h
  unfold sp_X5_danger at h
  split at h
  · exact Nat.le_of_ble_eq_true rfl
  · exact h.elim
theorem g_X5_danger : vg_G k_X5_danger sp_X5_danger := by
  intro av σ h
  unfold sp_X5_danger at h ⊢
  split at h
  next c d =>
    obtain ⟨hc, hd0, hd⟩ := h
    have hm1 : ¬ d = -1 := fun z => hd0 (by rw [z]; decide)
    have hr : ¬ d < -1 ∧ d ≤ 999 := ⟨fun z => hd0 (Int32.lt_trans z (by decide)), hd⟩
    refine vg_run (cuts := []) m_X5_danger 80 ?_
    refine And.intro hc (And.intro hr (And.intro hc ?_))
    refine And.intro (fun z => absurd z hm1) (fun _ => ?_)
    refine And.intro hc ?_
    refine And.intro rfl ?_
    dsimp only
    rw [jst0]
    rfl
  next => exact h.elim
theorem c_X5_danger : vg_MetF ww_tb ww_nw ww_shp ww_nm ww_cl ww_tyl yX5_danger cX5_danger 4 (some .int) 1 sp_X5_danger := vg_met ww_closed (by decide +kernel) rfl s_X5_danger w_X5_danger g_X5_danger
def sp_X5_alert : vgC := fun av σ => match av with
  | [.inr (0, 0, 0), .inl (.int a), .inl (.int d), .inl (.int t)] => (((¬ a < 1 ∧ a ≤ 65535) ∧ (¬ d < 0 ∧ d ≤ 1) ∧ ¬ t < 1 ∧ t ≤ 7) ∧ jWf (jV σ 0) ∧ jWc (jV σ 0) < 12, some (.inl (.int (jV σ 0 1 0 6))), jPut σ 0 (jDraft (jV σ 0) 0 (-1) a d t))
  | _ => (False, none, σ)
def k_X5_alert : List (Nat × vgF) := [(0, vi_iload 1 1), (1, vi_iload 2 2), (2, vi_iload 3 3), (3, vi_callS sp_X5_checkWords 3 6), (6, vi_aload 0 7), (7, vi_icst (0) 8), (8, vi_icst (-1) 9), (9, vi_iload 1 10), (10, vi_iload 2 11), (11, vi_iload 3 12), (12, vi_callV ww_shp 0 sp_X5_draft 5 15), (15, vi_ret)]
set_option maxRecDepth 20000 in
theorem s_X5_alert : ∀ q ∈ k_X5_alert, vg_Snd ww_tb ww_nw ww_shp ww_nm ww_cl ww_tyl cX5_alert 4 RX5 (some .int) 2 q.1 q.2 := by
  refine vg_cons (vs_iload_n dX5_alert_0 rfl rfl) ?_
  refine vg_cons (vs_iload_n dX5_alert_1 rfl rfl) ?_
  refine vg_cons (vs_iload_n dX5_alert_2 rfl rfl) ?_
  refine vg_cons (vs_callS c_X5_checkWords dX5_alert_3 ww_good q_301 q_51 q_303 q_302 (by decide +kernel) (by decide) rfl) ?_
  refine vg_cons (vs_aload_n dX5_alert_6 rfl rfl) ?_
  refine vg_cons (vs_iconst dX5_alert_7 rfl rfl) ?_
  refine vg_cons (vs_iconst dX5_alert_8 rfl rfl) ?_
  refine vg_cons (vs_iload_n dX5_alert_9 rfl rfl) ?_
  refine vg_cons (vs_iload_n dX5_alert_10 rfl rfl) ?_
  refine vg_cons (vs_iload_n dX5_alert_11 rfl rfl) ?_
  refine vg_cons (vs_callV (T := TX5) c_X5_draft dX5_alert_12 rfl ww_good q_304 q_51 q_305 q_306 q_307 (by decide +kernel) (by decide) rfl) ?_
  refine vg_cons (vs_ireturn dX5_alert_15 rfl) ?_
  exact fun _ h => absurd h List.not_mem_nil
theorem m_X5_alert : vg_Code k_X5_alert := fun q h => (s_X5_alert q h).1

theorem w_X5_alert : vg_Wd sp_X5_alert 4 := by
  intro av σ h
  unfold sp_X5_alert at h
  split at h
  · exact Nat.le_of_ble_eq_true rfl
  · exact h.elim
theorem g_X5_alert : vg_G k_X5_alert sp_X5_alert := by
  intro av σ h
  unfold sp_X5_alert at h ⊢
  split at h
  next a d t =>
    obtain ⟨ha, hw, h12⟩ := h
    refine vg_run (cuts := []) m_X5_alert 80 ?_
    exact And.intro ha (And.intro ⟨hw, h12⟩ ⟨rfl, rfl⟩)
  next => exact h.elim
theorem c_X5_alert : vg_MetF ww_tb ww_nw ww_shp ww_nm ww_cl ww_tyl yX5_alert cX5_alert 4 (some .int) 2 sp_X5_alert := vg_met ww_closed (by decide +kernel) rfl s_X5_alert w_X5_alert g_X5_alert
def sp_X5_approve : vgC := fun av σ => match av with
  | [.inr (0, 0, 0), .inl (.int w), .inl (.int d)] => (jWf (jV σ 0) ∧ vp_in w (jWc (jV σ 0)) ∧ vp_in d 4 ∧ jV σ 0 11 w.toNatClampNeg 6 = -1 ∧ jIn (jV σ 0 11 w.toNatClampNeg 5) d = 0, some (.inl (.int (jLack (jAppr (jV σ 0) w d) w.toNatClampNeg))), jPut σ 0 (jAppr (jV σ 0) w d))
  | _ => (False, none, σ)
def k_X5_approve : List (Nat × vgF) := [(0, vi_aload 0 1), (1, vi_iload 1 2), (2, vi_callV ww_shp 0 sp_X5_checkWarning 1 5), (5, vi_iload 2 6), (6, vi_callS sp_X5_checkOfficer 1 9), (9, vi_aload 0 10), (10, vi_get ww_shp 0 0 13), (13, vi_get ww_shp 1 9 16), (16, vi_iload 1 17), (17, vi_aald ww_shp 4 18), (18, vi_astore 3 19), (19, vi_aload 3 20), (20, vi_get ww_shp 4 6 23), (23, vi_icst (-1) 24), (24, vi_cmp (fun x y => x = y) 37 27), (27, vi_no), (37, vi_aload 3 38), (38, vi_get ww_shp 4 5 41), (41, vi_iload 2 42), (42, vi_callS sp_X5_isIn 2 45), (45, vi_if (fun x => x = 0) 58 48), (48, vi_no), (58, vi_aload 3 59), (59, vi_dup 60), (60, vi_get ww_shp 4 5 63), (63, vi_icst (1) 64), (64, vi_iload 2 65), (65, vi_bin (fun x y => x <<< (y &&& 31)) 66), (66, vi_bin (fun x y => x ||| y) 67), (67, vi_put ww_shp 4 5 70), (70, vi_aload 0 71), (71, vi_get ww_shp 0 0 74), (74, vi_aload 3 75), (75, vi_callV ww_shp 1 sp_X1_keysLacking 1 78), (78, vi_ret)]
set_option maxRecDepth 20000 in
theorem s_X5_approve : ∀ q ∈ k_X5_approve, vg_Snd ww_tb ww_nw ww_shp ww_nm ww_cl ww_tyl cX5_approve 4 RX5 (some .int) 2 q.1 q.2 := by
  refine vg_cons (vs_aload_n dX5_approve_0 rfl rfl) ?_
  refine vg_cons (vs_iload_n dX5_approve_1 rfl rfl) ?_
  refine vg_cons (vs_callV (T := TX5) c_X5_checkWarning dX5_approve_2 rfl ww_good q_243 q_51 q_244 q_245 q_246 (by decide +kernel) (by decide) rfl) ?_
  refine vg_cons (vs_iload_n dX5_approve_5 rfl rfl) ?_
  refine vg_cons (vs_callS c_X5_checkOfficer dX5_approve_6 ww_good q_308 q_51 q_310 q_309 (by decide +kernel) (by decide) rfl) ?_
  refine vg_cons (vs_aload_n dX5_approve_9 rfl rfl) ?_
  refine vg_cons (vs_getfield (T := TX5) dX5_approve_10 rfl (by decide) ww_inX5 q_197 rfl) ?_
  refine vg_cons (vs_getfield (T := TX1) dX5_approve_13 rfl (by decide) ww_inX1 q_239 rfl) ?_
  refine vg_cons (vs_iload_n dX5_approve_16 rfl rfl) ?_
  refine vg_cons (vs_aaload dX5_approve_17 rfl rfl) ?_
  refine vg_cons (vs_astore_n dX5_approve_18 rfl (by decide) rfl) ?_
  refine vg_cons (vs_aload_n dX5_approve_19 rfl rfl) ?_
  refine vg_cons (vs_getfield (T := TX4) dX5_approve_20 rfl (by decide) ww_inX4 q_252 rfl) ?_
  refine vg_cons (vs_iconst dX5_approve_23 rfl rfl) ?_
  refine vg_cons (vs_cmp_eq dX5_approve_24 (by decide) rfl) ?_
  refine vg_cons (vs_no) ?_
  refine vg_cons (vs_aload_n dX5_approve_37 rfl rfl) ?_
  refine vg_cons (vs_getfield (T := TX4) dX5_approve_38 rfl (by decide) ww_inX4 q_251 rfl) ?_
  refine vg_cons (vs_iload_n dX5_approve_41 rfl rfl) ?_
  refine vg_cons (vs_callS c_X5_isIn dX5_approve_42 ww_good q_50 q_51 q_242 q_52 (by decide +kernel) (by decide) rfl) ?_
  refine vg_cons (vs_if_eq dX5_approve_45 (by decide) rfl) ?_
  refine vg_cons (vs_no) ?_
  refine vg_cons (vs_aload_n dX5_approve_58 rfl rfl) ?_
  refine vg_cons (vs_dup dX5_approve_59 rfl) ?_
  refine vg_cons (vs_getfield (T := TX4) dX5_approve_60 rfl (by decide) ww_inX4 q_251 rfl) ?_
  refine vg_cons (vs_iconst dX5_approve_63 rfl rfl) ?_
  refine vg_cons (vs_iload_n dX5_approve_64 rfl rfl) ?_
  refine vg_cons (vs_ishl dX5_approve_65 rfl) ?_
  refine vg_cons (vs_ior dX5_approve_66 rfl) ?_
  refine vg_cons (vs_putfield (T := TX4) tyX4 dX5_approve_67 rfl (by decide) ww_inX4 tyX4_ok nmX4 rfl rfl q_251 rfl) ?_
  refine vg_cons (vs_aload_n dX5_approve_70 rfl rfl) ?_
  refine vg_cons (vs_getfield (T := TX5) dX5_approve_71 rfl (by decide) ww_inX5 q_197 rfl) ?_
  refine vg_cons (vs_aload_n dX5_approve_74 rfl rfl) ?_
  refine vg_cons (vs_callV (T := TX1) c_X1_keysLacking dX5_approve_75 rfl ww_good q_174 q_12 q_311 q_176 q_177 (by decide +kernel) (by decide) rfl) ?_
  refine vg_cons (vs_ireturn dX5_approve_78 rfl) ?_
  exact fun _ h => absurd h List.not_mem_nil
theorem m_X5_approve : vg_Code k_X5_approve := fun q h => (s_X5_approve q h).1

theorem w_X5_approve : vg_Wd sp_X5_approve 4 := by
  intro av σ h
  unfold sp_X5_approve at h
  split at h
  · exact Nat.le_of_ble_eq_true rfl
  · exact h.elim
theorem g_X5_approve : vg_G k_X5_approve sp_X5_approve := by
  intro av σ h
  unfold sp_X5_approve at h ⊢
  split at h
  next w d =>
    obtain ⟨hw, hc, hd, h6, h5⟩ := h
    have h12 := hw.2.2.1.2
    have hc12 : vp_in w 12 := jwide hc h12 (by decide)
    refine vg_run (cuts := []) m_X5_approve 80 ?_
    refine And.intro ⟨hw, hc⟩ (And.intro hd (And.intro hc12 ?_))
    refine And.intro (fun _ => ?_) (fun z => absurd h6 z)
    refine And.intro trivial ?_
    refine And.intro (fun _ => ?_) (fun z => absurd h5 z)
    refine And.intro rfl (And.intro rfl (And.intro ?_ ?_))
    · dsimp only
      rw [jst0, jV_put]
      rfl
    · dsimp only
      rw [jst0]
      rfl
  next => exact h.elim
theorem c_X5_approve : vg_MetF ww_tb ww_nw ww_shp ww_nm ww_cl ww_tyl yX5_approve cX5_approve 4 (some .int) 2 sp_X5_approve := vg_met ww_closed (by decide +kernel) rfl s_X5_approve w_X5_approve g_X5_approve
def sp_X5_send : vgC := fun av σ => match av with
  | [.inr (0, 0, 0), .inl (.int w)] => (jWf (jV σ 0) ∧ vp_in w (jWc (jV σ 0)) ∧ jCan (jV σ 0) w.toNatClampNeg ∧ jV σ 0 11 w.toNatClampNeg 1 = -1 ∧ ¬ jV σ 0 11 w.toNatClampNeg 0 = 2, some (.inl (.int (jPin (jSend (jV σ 0) w) (jSend (jV σ 0) w 11 w.toNatClampNeg 2)))), jPut σ 0 (jSend (jV σ 0) w))
  | _ => (False, none, σ)
def k_X5_send : List (Nat × vgF) := [(0, vi_aload 0 1), (1, vi_iload 1 2), (2, vi_callV ww_shp 0 sp_X5_checkWarning 1 5), (5, vi_aload 0 6), (6, vi_get ww_shp 0 0 9), (9, vi_aload 0 10), (10, vi_get ww_shp 0 0 13), (13, vi_get ww_shp 1 9 16), (16, vi_iload 1 17), (17, vi_aald ww_shp 4 18), (18, vi_callV ww_shp 1 sp_X1_isSendable 1 21), (21, vi_if (fun x => x = 0) 24 34), (24, vi_no), (34, vi_aload 0 35), (35, vi_get ww_shp 0 0 38), (38, vi_aload 0 39), (39, vi_get ww_shp 0 0 42), (42, vi_get ww_shp 1 9 45), (45, vi_iload 1 46), (46, vi_aald ww_shp 4 47), (47, vi_callV ww_shp 1 sp_X1_sendOut 1 50), (50, vi_aload 0 51), (51, vi_get ww_shp 0 0 54), (54, vi_aload 0 55), (55, vi_get ww_shp 0 0 58), (58, vi_get ww_shp 1 9 61), (61, vi_iload 1 62), (62, vi_aald ww_shp 4 63), (63, vi_get ww_shp 4 2 66), (66, vi_callV ww_shp 1 sp_X1_peopleIn 1 69), (69, vi_ret)]
set_option maxRecDepth 20000 in
theorem s_X5_send : ∀ q ∈ k_X5_send, vg_Snd ww_tb ww_nw ww_shp ww_nm ww_cl ww_tyl cX5_send 2 RX5 (some .int) 3 q.1 q.2 := by
  refine vg_cons (vs_aload_n dX5_send_0 rfl rfl) ?_
  refine vg_cons (vs_iload_n dX5_send_1 rfl rfl) ?_
  refine vg_cons (vs_callV (T := TX5) c_X5_checkWarning dX5_send_2 rfl ww_good q_243 q_51 q_244 q_245 q_246 (by decide +kernel) (by decide) rfl) ?_
  refine vg_cons (vs_aload_n dX5_send_5 rfl rfl) ?_
  refine vg_cons (vs_getfield (T := TX5) dX5_send_6 rfl (by decide) ww_inX5 q_197 rfl) ?_
  refine vg_cons (vs_aload_n dX5_send_9 rfl rfl) ?_
  refine vg_cons (vs_getfield (T := TX5) dX5_send_10 rfl (by decide) ww_inX5 q_197 rfl) ?_
  refine vg_cons (vs_getfield (T := TX1) dX5_send_13 rfl (by decide) ww_inX1 q_239 rfl) ?_
  refine vg_cons (vs_iload_n dX5_send_16 rfl rfl) ?_
  refine vg_cons (vs_aaload dX5_send_17 rfl rfl) ?_
  refine vg_cons (vs_callV (T := TX1) c_X1_isSendable dX5_send_18 rfl ww_good q_312 q_12 q_313 q_314 q_315 (by decide +kernel) (by decide) rfl) ?_
  refine vg_cons (vs_if_ne dX5_send_21 (by decide) rfl) ?_
  refine vg_cons (vs_no) ?_
  refine vg_cons (vs_aload_n dX5_send_34 rfl rfl) ?_
  refine vg_cons (vs_getfield (T := TX5) dX5_send_35 rfl (by decide) ww_inX5 q_197 rfl) ?_
  refine vg_cons (vs_aload_n dX5_send_38 rfl rfl) ?_
  refine vg_cons (vs_getfield (T := TX5) dX5_send_39 rfl (by decide) ww_inX5 q_197 rfl) ?_
  refine vg_cons (vs_getfield (T := TX1) dX5_send_42 rfl (by decide) ww_inX1 q_239 rfl) ?_
  refine vg_cons (vs_iload_n dX5_send_45 rfl rfl) ?_
  refine vg_cons (vs_aaload dX5_send_46 rfl rfl) ?_
  refine vg_cons (vs_callV (T := TX1) c_X1_sendOut dX5_send_47 rfl ww_good q_316 q_12 q_317 q_318 q_319 (by decide +kernel) (by decide) rfl) ?_
  refine vg_cons (vs_aload_n dX5_send_50 rfl rfl) ?_
  refine vg_cons (vs_getfield (T := TX5) dX5_send_51 rfl (by decide) ww_inX5 q_197 rfl) ?_
  refine vg_cons (vs_aload_n dX5_send_54 rfl rfl) ?_
  refine vg_cons (vs_getfield (T := TX5) dX5_send_55 rfl (by decide) ww_inX5 q_197 rfl) ?_
  refine vg_cons (vs_getfield (T := TX1) dX5_send_58 rfl (by decide) ww_inX1 q_239 rfl) ?_
  refine vg_cons (vs_iload_n dX5_send_61 rfl rfl) ?_
  refine vg_cons (vs_aaload dX5_send_62 rfl rfl) ?_
  refine vg_cons (vs_getfield (T := TX4) dX5_send_63 rfl (by decide) ww_inX4 q_241 rfl) ?_
  refine vg_cons (vs_callV (T := TX1) c_X1_peopleIn dX5_send_66 rfl ww_good q_320 q_12 q_321 q_322 q_323 (by decide +kernel) (by decide) rfl) ?_
  refine vg_cons (vs_ireturn dX5_send_69 rfl) ?_
  exact fun _ h => absurd h List.not_mem_nil
theorem m_X5_send : vg_Code k_X5_send := fun q h => (s_X5_send q h).1

theorem w_X5_send : vg_Wd sp_X5_send 2 := by
  intro av σ h
  unfold sp_X5_send at h
  split at h
  · exact Nat.le_of_ble_eq_true rfl
  · exact h.elim
theorem g_X5_send : vg_G k_X5_send sp_X5_send := by
  intro av σ h
  unfold sp_X5_send at h ⊢
  split at h
  next w =>
    obtain ⟨hw, hc, hcan, h1, h0⟩ := h
    have h12 := hw.2.2.1.2
    have hc12 : vp_in w 12 := jwide hc h12 (by decide)
    refine vg_run (cuts := [(34, [0, 1]), (50, [0, 1])]) m_X5_send 80 ?_
    refine And.intro ⟨hw, hc⟩ (And.intro hc12 (And.intro ⟨rfl, hw⟩ ?_))
    refine And.intro (fun z => absurd hcan (jb_0.mp z)) (fun _ => ?_)
    refine vg_run (cuts := [(50, [0, 1])]) m_X5_send 80 ?_
    refine And.intro hc12 (And.intro ⟨rfl, h1, h0⟩ ?_)
    dsimp only
    refine vg_run (cuts := []) m_X5_send 80 ?_
    refine And.intro hc12 (And.intro ?_ ?_)
    · rw [jV_put]
      exact ((jKeep.rf.up (by omega)).up (by omega)).wf hw
    · refine And.intro ?_ rfl
      rw [jV_put]
      rfl
  next => exact h.elim
theorem c_X5_send : vg_MetF ww_tb ww_nw ww_shp ww_nm ww_cl ww_tyl yX5_send cX5_send 2 (some .int) 3 sp_X5_send := vg_met ww_closed (by decide +kernel) rfl s_X5_send w_X5_send g_X5_send
def sp_X5_pass : vgC := fun av σ => match av with
  | [.inr (0, 0, 0), .inl (.int m)] => ((¬ m < 1 ∧ m ≤ 60) ∧ vp_in m 1000 ∧ jV σ 0 1 0 0 + m ≤ 9999 ∧ jWf (jV σ 0) ∧ jPl (jV σ 0), some (.inl (.int ((jPlay (jV σ 0) m.toNatClampNeg).2))), jPut σ 0 (jPlay (jV σ 0) m.toNatClampNeg).1)
  | _ => (False, none, σ)
def k_X5_pass : List (Nat × vgF) := [(0, vi_iload 1 1), (1, vi_icst (1) 2), (2, vi_icst (60) 4), (4, vi_callS sp_X5_checkRange 3 7), (7, vi_aload 0 8), (8, vi_get ww_shp 0 0 11), (11, vi_get ww_shp 1 0 14), (14, vi_iload 1 15), (15, vi_bin (fun x y => x + y) 16), (16, vi_icst (9999) 19), (19, vi_cmp (fun x y => x ≤ y) 32 22), (22, vi_no), (32, vi_aload 0 33), (33, vi_get ww_shp 0 0 36), (36, vi_iload 1 37), (37, vi_callV ww_shp 1 sp_X1_playMinutes 1 40), (40, vi_ret)]
set_option maxRecDepth 20000 in
theorem s_X5_pass : ∀ q ∈ k_X5_pass, vg_Snd ww_tb ww_nw ww_shp ww_nm ww_cl ww_tyl cX5_pass 2 RX5 (some .int) 6 q.1 q.2 := by
  refine vg_cons (vs_iload_n dX5_pass_0 rfl rfl) ?_
  refine vg_cons (vs_iconst dX5_pass_1 rfl rfl) ?_
  refine vg_cons (vs_bipush dX5_pass_2 (by decide) rfl) ?_
  refine vg_cons (vs_callS c_X5_checkRange dX5_pass_4 ww_good q_201 q_51 q_203 q_202 (by decide +kernel) (by decide) rfl) ?_
  refine vg_cons (vs_aload_n dX5_pass_7 rfl rfl) ?_
  refine vg_cons (vs_getfield (T := TX5) dX5_pass_8 rfl (by decide) ww_inX5 q_197 rfl) ?_
  refine vg_cons (vs_getfield (T := TX1) dX5_pass_11 rfl (by decide) ww_inX1 q_205 rfl) ?_
  refine vg_cons (vs_iload_n dX5_pass_14 rfl rfl) ?_
  refine vg_cons (vs_iadd dX5_pass_15 rfl) ?_
  refine vg_cons (vs_sipush dX5_pass_16 (by decide) rfl) ?_
  refine vg_cons (vs_cmp_le dX5_pass_19 (by decide) rfl) ?_
  refine vg_cons (vs_no) ?_
  refine vg_cons (vs_aload_n dX5_pass_32 rfl rfl) ?_
  refine vg_cons (vs_getfield (T := TX5) dX5_pass_33 rfl (by decide) ww_inX5 q_197 rfl) ?_
  refine vg_cons (vs_iload_n dX5_pass_36 rfl rfl) ?_
  refine vg_cons (vs_callV (T := TX1) c_X1_playMinutes dX5_pass_37 rfl ww_good q_281 q_12 q_282 q_283 q_284 (by decide +kernel) (by decide) rfl) ?_
  refine vg_cons (vs_ireturn dX5_pass_40 rfl) ?_
  exact fun _ h => absurd h List.not_mem_nil
theorem m_X5_pass : vg_Code k_X5_pass := fun q h => (s_X5_pass q h).1

theorem w_X5_pass : vg_Wd sp_X5_pass 2 := by
  intro av σ h
  unfold sp_X5_pass at h
  split at h
  · exact Nat.le_of_ble_eq_true rfl
  · exact h.elim
theorem g_X5_pass : vg_G k_X5_pass sp_X5_pass := by
  intro av σ h
  unfold sp_X5_pass at h ⊢
  split at h
  next m =>
    obtain ⟨hm, hm2, hn, hw, hp⟩ := h
    refine vg_run (cuts := []) m_X5_pass 80 ?_
    refine And.intro hm (And.intro (fun _ => ?_) (fun z => absurd hn z))
    exact And.intro ⟨hw, hp, hm2⟩ ⟨rfl, rfl⟩
  next => exact h.elim
theorem c_X5_pass : vg_MetF ww_tb ww_nw ww_shp ww_nm ww_cl ww_tyl yX5_pass cX5_pass 2 (some .int) 6 sp_X5_pass := vg_met ww_closed (by decide +kernel) rfl s_X5_pass w_X5_pass g_X5_pass
def jFm (x y : Int32) : Int32 := if x ^^^ y < 0 ∧ ¬ x - x / y * y = 0 then x - x / y * y + y else x - x / y * y
theorem vg_ofWF {l : Launch} {y : MethodName} {ws ws' : List Cond} {rm : Room} {Pc : Array Value → State → Prop} {Qc : Array Value → State → Outcome → State → Prop} {mc ms : Nat} {free : Addr → Prop} {cc : ByteArray} {maxL : Nat} {ret : Option FieldType}
    (hy : plainFor y = true) (hw : ws = Cond.code y cc maxL ret :: ws')
    (body : ∀ p e s m args below meth c s₁, BodyLoose p l y (headSpec ws rm) cc maxL ret e s m args below meth c s₁ → c.maxLocals = maxL → Pc args s →
      W p l e (headSpec ws rm).room s m args below meth c s.heap [] 0 0 (MQ below Qc args s mc ms free) (entryFrame m args maxL)) : Met l y ws rm Pc Qc mc ms free := by
  refine MetFree.of_bodySF (code := cc) (maxLocals := maxL) (ret := ret) hy ?_ ?_
  · intro args s m h hn
    obtain ⟨meth, c, h1, h2, h3, h4, h5, h6, -, -⟩ := Cond.code_spec hn (atoms_spec (ws := ws) h _ (by rw [hw]; exact List.mem_cons_self))
    exact ⟨meth, c, h1, h2, h3, h4, h5, h6⟩
  · intro p e s m args below meth c s₁ B hml hP _
    have hh0 : s₁.heap = s.heap := by rw [B.state]; rfl
    obtain ⟨t, a1, o, b1, b2, b3⟩ := body p e s m args below meth c s₁ B hml hP s₁ hh0 (Stand.of_body B)
    exact ⟨t, o, a1, b1, b2, ⟨b3.1, b3.2⟩⟩
theorem vg_metF {tb : List Cond} {nw : List (String × Nat × MethodName × String)} {shp : vgN → vgH} {nm : List vgN} {cl : List vw_C} {tyl : List FieldType} {y : MethodName} {cc : ByteArray} {nL : Nat} {own : String} {ret : Option FieldType} {d : Nat} {pre : vgT → vgS → Prop} {post : vgT → vgS → vgO} {code : List (Nat × vgF)}
    (hcl : vg_closed shp nm) (hy : plainFor y = true) (hown : y.cls = own) (hs : ∀ q ∈ code, vg_Snd tb nw shp nm cl tyl cc nL own ret d q.1 q.2)
    (hw : ∀ av σ, pre av σ → vg_wd av ≤ nL) (go : ∀ av σ, pre av σ → vg_Go code (post av σ) 0 (vg_args 0 av) [] σ) : vg_Met tb nw shp nm cl tyl y cc nL ret d pre post := by
  intro l D tys ad sz av σ hty hok hpre
  refine vg_ofWF (cc := cc) (maxL := nL) (ret := ret) hy rfl ?_
  intro p e s m args below meth c s₁ B hml hv
  obtain ⟨rfl, hsz, hP, hK, hD, hnw⟩ := hv
  have hx := B.exec
  have hb := B.bytes
  have hr := B.returns
  have hts : ∀ w ∈ tb, w.before (av.map (vg_cv ad)).toArray s = true := fun w h => atoms_spec (ws := .code y cc nL ret :: tb) B.pre w (List.mem_cons_of_mem _ h)
  have ho : s.vm.findClass own = some m.cls := by rw [← hown]; exact findClass_of_methodNamed B.named
  have hlocks := B.notSynchronized
  subst hsz
  have hDA : ∀ σ', va_D (vg_A nm ad s.heap.size) (vg_ws shp nm ad tys σ') := fun σ' => (vg_ws_D hD σ').weaken (fun k q hk _ => by
    unfold vg_ws at hk
    rw [List.getElem?_map] at hk
    cases hn : nm[k]? with
    | none => rw [hn] at hk; cases hk
    | some n => rw [hn] at hk; cases hk; exact Or.inl ⟨n, List.mem_of_getElem? hn, rfl⟩)
  have C0 : vg_C tb nw shp nm cl tyl cc nL own ret d p (vg_rm d) s m (av.map (vg_cv ad)).toArray meth c D tys ad (vg_A nm ad s.heap.size) := ⟨hx, hb, hml, ho, hts, hK, hty, hr, hlocks, rfl, fun q h => Or.inr h, hDA, hcl, hnw⟩
  have hl := lv_entry (av.map (vg_cv ad)) (n := nL) (by rw [vg_wd_eq]; exact hw av σ hpre)
  rw [vg_args_eq] at hl
  rw [lg_entry_eq]
  exact vg_sound hs C0 (go av σ hpre) s.heap [] _ hl (vg_args_ok av 0 hok) (fun v h => by cases h) hP va_S.rf

def sp_J9_floorMod_7cf53 : vgC := fun av σ => match av with
  | [.inl (.int x), .inl (.int y)] => (¬ y = 0, some (.inl (.int (jFm x y))), σ)
  | _ => (False, none, σ)
def k_J9_floorMod_7cf53 : List (Nat × vgF) := [(0, vi_iload 0 1), (1, vi_iload 1 2), (2, vi_div (fun x y => x - x / y * y) 3), (3, vi_istore 2 4), (4, vi_iload 0 5), (5, vi_iload 1 6), (6, vi_bin (fun x y => x ^^^ y) 7), (7, vi_if (fun x => 0 ≤ x) 18 10), (10, vi_iload 2 11), (11, vi_if (fun x => x = 0) 18 14), (14, vi_iload 2 15), (15, vi_iload 1 16), (16, vi_bin (fun x y => x + y) 17), (17, vi_ret), (18, vi_iload 2 19), (19, vi_ret)]
set_option maxRecDepth 20000 in
theorem s_J9_floorMod_7cf53 : ∀ q ∈ k_J9_floorMod_7cf53, vg_Snd ww_tb ww_nw ww_shp ww_nm ww_cl ww_tyl cJ9_floorMod_7cf53 3 RJ9 (some .int) 0 q.1 q.2 := by
  refine vg_cons (vs_iload_n dJ9_floorMod_7cf53_0 rfl rfl) ?_
  refine vg_cons (vs_iload_n dJ9_floorMod_7cf53_1 rfl rfl) ?_
  refine vg_cons (vs_irem dJ9_floorMod_7cf53_2 rfl) ?_
  refine vg_cons (vs_istore_n dJ9_floorMod_7cf53_3 rfl (by decide) rfl) ?_
  refine vg_cons (vs_iload_n dJ9_floorMod_7cf53_4 rfl rfl) ?_
  refine vg_cons (vs_iload_n dJ9_floorMod_7cf53_5 rfl rfl) ?_
  refine vg_cons (vs_ixor dJ9_floorMod_7cf53_6 rfl) ?_
  refine vg_cons (vs_if_ge dJ9_floorMod_7cf53_7 (by decide) rfl) ?_
  refine vg_cons (vs_iload_n dJ9_floorMod_7cf53_10 rfl rfl) ?_
  refine vg_cons (vs_if_eq dJ9_floorMod_7cf53_11 (by decide) rfl) ?_
  refine vg_cons (vs_iload_n dJ9_floorMod_7cf53_14 rfl rfl) ?_
  refine vg_cons (vs_iload_n dJ9_floorMod_7cf53_15 rfl rfl) ?_
  refine vg_cons (vs_iadd dJ9_floorMod_7cf53_16 rfl) ?_
  refine vg_cons (vs_ireturn dJ9_floorMod_7cf53_17 rfl) ?_
  refine vg_cons (vs_iload_n dJ9_floorMod_7cf53_18 rfl rfl) ?_
  refine vg_cons (vs_ireturn dJ9_floorMod_7cf53_19 rfl) ?_
  exact fun _ h => absurd h List.not_mem_nil
theorem m_J9_floorMod_7cf53 : vg_Code k_J9_floorMod_7cf53 := fun q h => (s_J9_floorMod_7cf53 q h).1

theorem w_J9_floorMod_7cf53 : vg_Wd sp_J9_floorMod_7cf53 3 := by
  intro av σ h
  unfold sp_J9_floorMod_7cf53 at h
  split at h
  · exact Nat.le_of_ble_eq_true rfl
  · exact h.elim
theorem g_J9_floorMod_7cf53 : vg_G k_J9_floorMod_7cf53 sp_J9_floorMod_7cf53 := by
  intro av σ h
  unfold sp_J9_floorMod_7cf53 at h ⊢
  split at h
  next x y =>
    refine vg_run (cuts := []) m_J9_floorMod_7cf53 30 ?_
    refine And.intro h (And.intro (fun z => ?_) (fun z => And.intro (fun z2 => ?_) (fun z2 => ?_)))
    · exact ⟨congrArg (fun x => some (Sum.inl (Value.int x))) (if_neg (c := x ^^^ y < 0 ∧ ¬ x - x / y * y = 0) (fun w => absurd w.1 (Int32.not_lt.mpr z))).symm, rfl⟩
    · exact ⟨congrArg (fun x => some (Sum.inl (Value.int x))) (if_neg (c := x ^^^ y < 0 ∧ ¬ x - x / y * y = 0) (fun w => w.2 z2)).symm, rfl⟩
    · exact ⟨congrArg (fun x => some (Sum.inl (Value.int x))) (if_pos (c := x ^^^ y < 0 ∧ ¬ x - x / y * y = 0) ⟨Int32.not_le.mp z, z2⟩).symm, rfl⟩
  next => exact h.elim
theorem c_J9_floorMod_7cf53 : vg_MetF ww_tb ww_nw ww_shp ww_nm ww_cl ww_tyl yJ9_floorMod_7cf53 cJ9_floorMod_7cf53 3 (some .int) 0 sp_J9_floorMod_7cf53 := vg_metF ww_closed (by decide +kernel) rfl s_J9_floorMod_7cf53 w_J9_floorMod_7cf53 g_J9_floorMod_7cf53
def jThen (t h : Int32) : Int32 := (t / 60 + 1 + jFm (h - (t / 60 + 1)) 24) * 60
def sp_X5_until : vgC := fun av σ => match av with
  | [.inr (0, 0, 0), .inl (.int q)] => ((¬ q < 0 ∧ q ≤ 23) ∧ jWf (jV σ 0) ∧ jSum (fun w => jb (¬ jV σ 0 11 w 7 = 0)) (jWc (jV σ 0)) ≤ 0 ∧ jThen (jV σ 0 1 0 0) q ≤ 9999, some (.inl (.int (jThen (jV σ 0 1 0 0) q))), jPut σ 0 (jUp (jV σ 0) 1 0 0 (jThen (jV σ 0 1 0 0) q)))
  | _ => (False, none, σ)
def k_X5_until : List (Nat × vgF) := [(0, vi_iload 1 1), (1, vi_icst (0) 2), (2, vi_icst (23) 4), (4, vi_callS sp_X5_checkRange 3 7), (7, vi_aload 0 8), (8, vi_get ww_shp 0 0 11), (11, vi_get ww_shp 1 0 14), (14, vi_icst (60) 16), (16, vi_div (fun x y => x / y) 17), (17, vi_icst (1) 18), (18, vi_bin (fun x y => x + y) 19), (19, vi_istore 2 20), (20, vi_iload 2 21), (21, vi_iload 1 22), (22, vi_iload 2 23), (23, vi_bin (fun x y => x - y) 24), (24, vi_icst (24) 26), (26, vi_callS sp_J9_floorMod_7cf53 2 29), (29, vi_bin (fun x y => x + y) 30), (30, vi_icst (60) 32), (32, vi_bin (fun x y => x * y) 33), (33, vi_istore 3 34), (34, vi_aload 0 35), (35, vi_get ww_shp 0 0 38), (38, vi_callV ww_shp 1 sp_X1_countInForce 0 41), (41, vi_if (fun x => 0 < x) 51 44), (44, vi_iload 3 45), (45, vi_icst (9999) 48), (48, vi_cmp (fun x y => x ≤ y) 61 51), (51, vi_no), (61, vi_aload 0 62), (62, vi_get ww_shp 0 0 65), (65, vi_iload 3 66), (66, vi_put ww_shp 1 0 69), (69, vi_iload 3 70), (70, vi_ret)]
set_option maxRecDepth 20000 in
theorem s_X5_until : ∀ q ∈ k_X5_until, vg_Snd ww_tb ww_nw ww_shp ww_nm ww_cl ww_tyl cX5_until 4 RX5 (some .int) 1 q.1 q.2 := by
  refine vg_cons (vs_iload_n dX5_until_0 rfl rfl) ?_
  refine vg_cons (vs_iconst dX5_until_1 rfl rfl) ?_
  refine vg_cons (vs_bipush dX5_until_2 (by decide) rfl) ?_
  refine vg_cons (vs_callS c_X5_checkRange dX5_until_4 ww_good q_201 q_51 q_203 q_202 (by decide +kernel) (by decide) rfl) ?_
  refine vg_cons (vs_aload_n dX5_until_7 rfl rfl) ?_
  refine vg_cons (vs_getfield (T := TX5) dX5_until_8 rfl (by decide) ww_inX5 q_197 rfl) ?_
  refine vg_cons (vs_getfield (T := TX1) dX5_until_11 rfl (by decide) ww_inX1 q_205 rfl) ?_
  refine vg_cons (vs_bipush dX5_until_14 (by decide) rfl) ?_
  refine vg_cons (vs_idiv dX5_until_16 rfl) ?_
  refine vg_cons (vs_iconst dX5_until_17 rfl rfl) ?_
  refine vg_cons (vs_iadd dX5_until_18 rfl) ?_
  refine vg_cons (vs_istore_n dX5_until_19 rfl (by decide) rfl) ?_
  refine vg_cons (vs_iload_n dX5_until_20 rfl rfl) ?_
  refine vg_cons (vs_iload_n dX5_until_21 rfl rfl) ?_
  refine vg_cons (vs_iload_n dX5_until_22 rfl rfl) ?_
  refine vg_cons (vs_isub dX5_until_23 rfl) ?_
  refine vg_cons (vs_bipush dX5_until_24 (by decide) rfl) ?_
  refine vg_cons (vs_callS c_J9_floorMod_7cf53 dX5_until_26 ww_good q_324 q_325 q_327 q_326 (by decide +kernel) (by decide) rfl) ?_
  refine vg_cons (vs_iadd dX5_until_29 rfl) ?_
  refine vg_cons (vs_bipush dX5_until_30 (by decide) rfl) ?_
  refine vg_cons (vs_imul dX5_until_32 rfl) ?_
  refine vg_cons (vs_istore_n dX5_until_33 rfl (by decide) rfl) ?_
  refine vg_cons (vs_aload_n dX5_until_34 rfl rfl) ?_
  refine vg_cons (vs_getfield (T := TX5) dX5_until_35 rfl (by decide) ww_inX5 q_197 rfl) ?_
  refine vg_cons (vs_callV (T := TX1) c_X1_countInForce dX5_until_38 rfl ww_good q_219 q_12 q_220 q_221 q_222 (by decide +kernel) (by decide) rfl) ?_
  refine vg_cons (vs_if_gt dX5_until_41 (by decide) rfl) ?_
  refine vg_cons (vs_iload_n dX5_until_44 rfl rfl) ?_
  refine vg_cons (vs_sipush dX5_until_45 (by decide) rfl) ?_
  refine vg_cons (vs_cmp_le dX5_until_48 (by decide) rfl) ?_
  refine vg_cons (vs_no) ?_
  refine vg_cons (vs_aload_n dX5_until_61 rfl rfl) ?_
  refine vg_cons (vs_getfield (T := TX5) dX5_until_62 rfl (by decide) ww_inX5 q_197 rfl) ?_
  refine vg_cons (vs_iload_n dX5_until_65 rfl rfl) ?_
  refine vg_cons (vs_putfield (T := TX1) tyX1 dX5_until_66 rfl (by decide) ww_inX1 tyX1_ok nmX1 rfl rfl q_205 rfl) ?_
  refine vg_cons (vs_iload_n dX5_until_69 rfl rfl) ?_
  refine vg_cons (vs_ireturn dX5_until_70 rfl) ?_
  exact fun _ h => absurd h List.not_mem_nil
theorem m_X5_until : vg_Code k_X5_until := fun q h => (s_X5_until q h).1

theorem w_X5_until : vg_Wd sp_X5_until 4 := by
  intro av σ h
  unfold sp_X5_until at h
  split at h
  · exact Nat.le_of_ble_eq_true rfl
  · exact h.elim
theorem g_X5_until : vg_G k_X5_until sp_X5_until := by
  intro av σ h
  unfold sp_X5_until at h ⊢
  split at h
  next q =>
    obtain ⟨hq, hw, hs, ht⟩ := h
    refine vg_run (cuts := []) m_X5_until 80 ?_
    refine And.intro hq (And.intro (by decide) (And.intro (by decide) (And.intro hw ?_)))
    refine And.intro (fun z => absurd z (Int32.not_lt.mpr hs)) (fun _ => ?_)
    refine And.intro (fun _ => ?_) (fun z => absurd ht z)
    refine And.intro rfl ?_
    dsimp only
    rw [jst0]
    rfl
  next => exact h.elim
theorem c_X5_until : vg_MetF ww_tb ww_nw ww_shp ww_nm ww_cl ww_tyl yX5_until cX5_until 4 (some .int) 1 sp_X5_until := vg_met ww_closed (by decide +kernel) rfl s_X5_until w_X5_until g_X5_until
