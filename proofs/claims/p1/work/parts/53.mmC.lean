-- words of the tables, and what stands at each place of the methods' code (laid by program)
theorem u_219 : Cond.code yX7_isCell cX7_isCell 1 (some .boolean) ∈ ww_tb := by decide +kernel
theorem u_220 : Cond.static yX7_isCell ∈ ww_tb := by decide +kernel
theorem u_221 : Cond.methodLink RX7 39 yX7_isCell ∈ ww_tb := by decide +kernel
theorem u_222 : Cond.fieldLink RX7 70 (TX6 3).1 (TX6 3).2.1 (TX6 3).2.2.1 ∈ ww_tb := by decide +kernel
theorem u_223 : Cond.fieldLink RX7 73 (TX6 12).1 (TX6 12).2.1 (TX6 12).2.2.1 ∈ ww_tb := by decide +kernel
theorem u_224 : Cond.fieldLink RX7 76 (TX6 4).1 (TX6 4).2.1 (TX6 4).2.2.1 ∈ ww_tb := by decide +kernel
theorem u_225 : Cond.code yX7_lay cX7_lay 3 none ∈ ww_tb := by decide +kernel
theorem u_226 : Cond.static yX7_lay ∈ ww_tb := by decide +kernel
theorem u_227 : Cond.methodLink RX7 79 yX7_lay ∈ ww_tb := by decide +kernel
theorem u_228 : Cond.fieldLink RX7 83 (TX6 13).1 (TX6 13).2.1 (TX6 13).2.2.1 ∈ ww_tb := by decide +kernel
theorem u_229 : Cond.fieldLink RX7 86 (TX6 5).1 (TX6 5).2.1 (TX6 5).2.2.1 ∈ ww_tb := by decide +kernel
theorem u_230 : Cond.fieldLink RX7 93 (TX6 14).1 (TX6 14).2.1 (TX6 14).2.2.1 ∈ ww_tb := by decide +kernel
theorem u_231 : Cond.fieldLink RX7 96 (TX6 6).1 (TX6 6).2.1 (TX6 6).2.2.1 ∈ ww_tb := by decide +kernel
theorem u_232 : Cond.fieldLink RX7 100 (TX6 8).1 (TX6 8).2.1 (TX6 8).2.2.1 ∈ ww_tb := by decide +kernel
theorem dX7_shelter_0 : decode cX7_shelter 0 = .ok (.aload_n 0, 1) := by decide +kernel
theorem dX7_shelter_1 : decode cX7_shelter 1 = .ok (.iconst 0, 1) := by decide +kernel
theorem dX7_shelter_2 : decode cX7_shelter 2 = .ok (.putfield 20, 3) := by decide +kernel
theorem dX7_shelter_5 : decode cX7_shelter 5 = .ok (.iload_n 1, 1) := by decide +kernel
theorem dX7_shelter_6 : decode cX7_shelter 6 = .ok (.invokestatic 39, 3) := by decide +kernel
theorem dX7_shelter_9 : decode cX7_shelter 9 = .ok (.ifCond .ne 9, 3) := by decide +kernel
theorem dX7_shelter_12 : decode cX7_shelter 12 = .ok (.aload_n 0, 1) := by decide +kernel
theorem dX7_shelter_13 : decode cX7_shelter 13 = .ok (.iconst 1, 1) := by decide +kernel
theorem dX7_shelter_14 : decode cX7_shelter 14 = .ok (.invokevirtual 43, 3) := by decide +kernel
theorem dX7_shelter_17 : decode cX7_shelter 17 = .ok (.ireturn, 1) := by decide +kernel
theorem dX7_shelter_18 : decode cX7_shelter 18 = .ok (.iload_n 2, 1) := by decide +kernel
theorem dX7_shelter_19 : decode cX7_shelter 19 = .ok (.iconst 1, 1) := by decide +kernel
theorem dX7_shelter_20 : decode cX7_shelter 20 = .ok (.sipush 200, 3) := by decide +kernel
theorem dX7_shelter_23 : decode cX7_shelter 23 = .ok (.invokestatic 29, 3) := by decide +kernel
theorem dX7_shelter_26 : decode cX7_shelter 26 = .ok (.ifCond .ne 9, 3) := by decide +kernel
theorem dX7_shelter_29 : decode cX7_shelter 29 = .ok (.aload_n 0, 1) := by decide +kernel
theorem dX7_shelter_30 : decode cX7_shelter 30 = .ok (.iconst 2, 1) := by decide +kernel
theorem dX7_shelter_31 : decode cX7_shelter 31 = .ok (.invokevirtual 43, 3) := by decide +kernel
theorem dX7_shelter_34 : decode cX7_shelter 34 = .ok (.ireturn, 1) := by decide +kernel
theorem dX7_shelter_35 : decode cX7_shelter 35 = .ok (.aload_n 0, 1) := by decide +kernel
theorem dX7_shelter_36 : decode cX7_shelter 36 = .ok (.getfield 10, 3) := by decide +kernel
theorem dX7_shelter_39 : decode cX7_shelter 39 = .ok (.getfield 67, 3) := by decide +kernel
theorem dX7_shelter_42 : decode cX7_shelter 42 = .ok (.iconst 3, 1) := by decide +kernel
theorem dX7_shelter_43 : decode cX7_shelter 43 = .ok (.if_icmp .ne 9, 3) := by decide +kernel
theorem dX7_shelter_46 : decode cX7_shelter 46 = .ok (.aload_n 0, 1) := by decide +kernel
theorem dX7_shelter_47 : decode cX7_shelter 47 = .ok (.iconst 3, 1) := by decide +kernel
theorem dX7_shelter_48 : decode cX7_shelter 48 = .ok (.invokevirtual 43, 3) := by decide +kernel
theorem dX7_shelter_51 : decode cX7_shelter 51 = .ok (.ireturn, 1) := by decide +kernel
theorem dX7_shelter_52 : decode cX7_shelter 52 = .ok (.aload_n 0, 1) := by decide +kernel
theorem dX7_shelter_53 : decode cX7_shelter 53 = .ok (.getfield 10, 3) := by decide +kernel
theorem dX7_shelter_56 : decode cX7_shelter 56 = .ok (.getfield 70, 3) := by decide +kernel
theorem dX7_shelter_59 : decode cX7_shelter 59 = .ok (.aload_n 0, 1) := by decide +kernel
theorem dX7_shelter_60 : decode cX7_shelter 60 = .ok (.getfield 10, 3) := by decide +kernel
theorem dX7_shelter_63 : decode cX7_shelter 63 = .ok (.getfield 67, 3) := by decide +kernel
theorem dX7_shelter_66 : decode cX7_shelter 66 = .ok (.aaload, 1) := by decide +kernel
theorem dX7_shelter_67 : decode cX7_shelter 67 = .ok (.iconst 0, 1) := by decide +kernel
theorem dX7_shelter_68 : decode cX7_shelter 68 = .ok (.iload_n 1, 1) := by decide +kernel
theorem dX7_shelter_69 : decode cX7_shelter 69 = .ok (.iastore, 1) := by decide +kernel
theorem dX7_shelter_70 : decode cX7_shelter 70 = .ok (.aload_n 0, 1) := by decide +kernel
theorem dX7_shelter_71 : decode cX7_shelter 71 = .ok (.getfield 10, 3) := by decide +kernel
theorem dX7_shelter_74 : decode cX7_shelter 74 = .ok (.getfield 70, 3) := by decide +kernel
theorem dX7_shelter_77 : decode cX7_shelter 77 = .ok (.aload_n 0, 1) := by decide +kernel
theorem dX7_shelter_78 : decode cX7_shelter 78 = .ok (.getfield 10, 3) := by decide +kernel
theorem dX7_shelter_81 : decode cX7_shelter 81 = .ok (.getfield 67, 3) := by decide +kernel
theorem dX7_shelter_84 : decode cX7_shelter 84 = .ok (.aaload, 1) := by decide +kernel
theorem dX7_shelter_85 : decode cX7_shelter 85 = .ok (.iconst 1, 1) := by decide +kernel
theorem dX7_shelter_86 : decode cX7_shelter 86 = .ok (.iload_n 2, 1) := by decide +kernel
theorem dX7_shelter_87 : decode cX7_shelter 87 = .ok (.iastore, 1) := by decide +kernel
theorem dX7_shelter_88 : decode cX7_shelter 88 = .ok (.aload_n 0, 1) := by decide +kernel
theorem dX7_shelter_89 : decode cX7_shelter 89 = .ok (.getfield 10, 3) := by decide +kernel
theorem dX7_shelter_92 : decode cX7_shelter 92 = .ok (.dup, 1) := by decide +kernel
theorem dX7_shelter_93 : decode cX7_shelter 93 = .ok (.getfield 67, 3) := by decide +kernel
theorem dX7_shelter_96 : decode cX7_shelter 96 = .ok (.dup_x1, 1) := by decide +kernel
theorem dX7_shelter_97 : decode cX7_shelter 97 = .ok (.iconst 1, 1) := by decide +kernel
theorem dX7_shelter_98 : decode cX7_shelter 98 = .ok (.iadd, 1) := by decide +kernel
theorem dX7_shelter_99 : decode cX7_shelter 99 = .ok (.putfield 67, 3) := by decide +kernel
theorem dX7_shelter_102 : decode cX7_shelter 102 = .ok (.ireturn, 1) := by decide +kernel
theorem dX7_siren_0 : decode cX7_siren 0 = .ok (.aload_n 0, 1) := by decide +kernel
theorem dX7_siren_1 : decode cX7_siren 1 = .ok (.iconst 0, 1) := by decide +kernel
theorem dX7_siren_2 : decode cX7_siren 2 = .ok (.putfield 20, 3) := by decide +kernel
theorem dX7_siren_5 : decode cX7_siren 5 = .ok (.iload_n 1, 1) := by decide +kernel
theorem dX7_siren_6 : decode cX7_siren 6 = .ok (.invokestatic 39, 3) := by decide +kernel
theorem dX7_siren_9 : decode cX7_siren 9 = .ok (.ifCond .ne 9, 3) := by decide +kernel
theorem dX7_siren_12 : decode cX7_siren 12 = .ok (.aload_n 0, 1) := by decide +kernel
theorem dX7_siren_13 : decode cX7_siren 13 = .ok (.iconst 1, 1) := by decide +kernel
theorem dX7_siren_14 : decode cX7_siren 14 = .ok (.invokevirtual 43, 3) := by decide +kernel
theorem dX7_siren_17 : decode cX7_siren 17 = .ok (.ireturn, 1) := by decide +kernel
theorem dX7_siren_18 : decode cX7_siren 18 = .ok (.iload_n 2, 1) := by decide +kernel
theorem dX7_siren_19 : decode cX7_siren 19 = .ok (.iconst 0, 1) := by decide +kernel
theorem dX7_siren_20 : decode cX7_siren 20 = .ok (.iconst 3, 1) := by decide +kernel
theorem dX7_siren_21 : decode cX7_siren 21 = .ok (.invokestatic 29, 3) := by decide +kernel
theorem dX7_siren_24 : decode cX7_siren 24 = .ok (.ifCond .ne 9, 3) := by decide +kernel
theorem dX7_siren_27 : decode cX7_siren 27 = .ok (.aload_n 0, 1) := by decide +kernel
theorem dX7_siren_28 : decode cX7_siren 28 = .ok (.iconst 2, 1) := by decide +kernel
theorem dX7_siren_29 : decode cX7_siren 29 = .ok (.invokevirtual 43, 3) := by decide +kernel
theorem dX7_siren_32 : decode cX7_siren 32 = .ok (.ireturn, 1) := by decide +kernel
theorem dX7_siren_33 : decode cX7_siren 33 = .ok (.aload_n 0, 1) := by decide +kernel
theorem dX7_siren_34 : decode cX7_siren 34 = .ok (.getfield 10, 3) := by decide +kernel
theorem dX7_siren_37 : decode cX7_siren 37 = .ok (.getfield 73, 3) := by decide +kernel
theorem dX7_siren_40 : decode cX7_siren 40 = .ok (.iconst 4, 1) := by decide +kernel
theorem dX7_siren_41 : decode cX7_siren 41 = .ok (.if_icmp .ne 9, 3) := by decide +kernel
theorem dX7_siren_44 : decode cX7_siren 44 = .ok (.aload_n 0, 1) := by decide +kernel
theorem dX7_siren_45 : decode cX7_siren 45 = .ok (.iconst 3, 1) := by decide +kernel
theorem dX7_siren_46 : decode cX7_siren 46 = .ok (.invokevirtual 43, 3) := by decide +kernel
theorem dX7_siren_49 : decode cX7_siren 49 = .ok (.ireturn, 1) := by decide +kernel
theorem dX7_siren_50 : decode cX7_siren 50 = .ok (.aload_n 0, 1) := by decide +kernel
theorem dX7_siren_51 : decode cX7_siren 51 = .ok (.getfield 10, 3) := by decide +kernel
theorem dX7_siren_54 : decode cX7_siren 54 = .ok (.getfield 76, 3) := by decide +kernel
theorem dX7_siren_57 : decode cX7_siren 57 = .ok (.aload_n 0, 1) := by decide +kernel
theorem dX7_siren_58 : decode cX7_siren 58 = .ok (.getfield 10, 3) := by decide +kernel
theorem dX7_siren_61 : decode cX7_siren 61 = .ok (.getfield 73, 3) := by decide +kernel
theorem dX7_siren_64 : decode cX7_siren 64 = .ok (.aaload, 1) := by decide +kernel
theorem dX7_siren_65 : decode cX7_siren 65 = .ok (.iload_n 1, 1) := by decide +kernel
theorem dX7_siren_66 : decode cX7_siren 66 = .ok (.iload_n 2, 1) := by decide +kernel
theorem dX7_siren_67 : decode cX7_siren 67 = .ok (.invokestatic 79, 3) := by decide +kernel
theorem dX7_siren_70 : decode cX7_siren 70 = .ok (.aload_n 0, 1) := by decide +kernel
theorem dX7_siren_71 : decode cX7_siren 71 = .ok (.getfield 10, 3) := by decide +kernel
theorem dX7_siren_74 : decode cX7_siren 74 = .ok (.dup, 1) := by decide +kernel
theorem dX7_siren_75 : decode cX7_siren 75 = .ok (.getfield 73, 3) := by decide +kernel
theorem dX7_siren_78 : decode cX7_siren 78 = .ok (.dup_x1, 1) := by decide +kernel
theorem dX7_siren_79 : decode cX7_siren 79 = .ok (.iconst 1, 1) := by decide +kernel
theorem dX7_siren_80 : decode cX7_siren 80 = .ok (.iadd, 1) := by decide +kernel
theorem dX7_siren_81 : decode cX7_siren 81 = .ok (.putfield 73, 3) := by decide +kernel
theorem dX7_siren_84 : decode cX7_siren 84 = .ok (.ireturn, 1) := by decide +kernel
theorem dX7_mast_0 : decode cX7_mast 0 = .ok (.aload_n 0, 1) := by decide +kernel
theorem dX7_mast_1 : decode cX7_mast 1 = .ok (.iconst 0, 1) := by decide +kernel
theorem dX7_mast_2 : decode cX7_mast 2 = .ok (.putfield 20, 3) := by decide +kernel
theorem dX7_mast_5 : decode cX7_mast 5 = .ok (.iload_n 1, 1) := by decide +kernel
theorem dX7_mast_6 : decode cX7_mast 6 = .ok (.invokestatic 39, 3) := by decide +kernel
theorem dX7_mast_9 : decode cX7_mast 9 = .ok (.ifCond .ne 9, 3) := by decide +kernel
theorem dX7_mast_12 : decode cX7_mast 12 = .ok (.aload_n 0, 1) := by decide +kernel
theorem dX7_mast_13 : decode cX7_mast 13 = .ok (.iconst 1, 1) := by decide +kernel
theorem dX7_mast_14 : decode cX7_mast 14 = .ok (.invokevirtual 43, 3) := by decide +kernel
theorem dX7_mast_17 : decode cX7_mast 17 = .ok (.ireturn, 1) := by decide +kernel
theorem dX7_mast_18 : decode cX7_mast 18 = .ok (.iload_n 2, 1) := by decide +kernel
theorem dX7_mast_19 : decode cX7_mast 19 = .ok (.iconst 0, 1) := by decide +kernel
theorem dX7_mast_20 : decode cX7_mast 20 = .ok (.iconst 3, 1) := by decide +kernel
theorem dX7_mast_21 : decode cX7_mast 21 = .ok (.invokestatic 29, 3) := by decide +kernel
theorem dX7_mast_24 : decode cX7_mast 24 = .ok (.ifCond .ne 9, 3) := by decide +kernel
theorem dX7_mast_27 : decode cX7_mast 27 = .ok (.aload_n 0, 1) := by decide +kernel
theorem dX7_mast_28 : decode cX7_mast 28 = .ok (.iconst 2, 1) := by decide +kernel
theorem dX7_mast_29 : decode cX7_mast 29 = .ok (.invokevirtual 43, 3) := by decide +kernel
theorem dX7_mast_32 : decode cX7_mast 32 = .ok (.ireturn, 1) := by decide +kernel
theorem dX7_mast_33 : decode cX7_mast 33 = .ok (.aload_n 0, 1) := by decide +kernel
theorem dX7_mast_34 : decode cX7_mast 34 = .ok (.getfield 10, 3) := by decide +kernel
theorem dX7_mast_37 : decode cX7_mast 37 = .ok (.getfield 83, 3) := by decide +kernel
theorem dX7_mast_40 : decode cX7_mast 40 = .ok (.iconst 4, 1) := by decide +kernel
theorem dX7_mast_41 : decode cX7_mast 41 = .ok (.if_icmp .ne 9, 3) := by decide +kernel
theorem dX7_mast_44 : decode cX7_mast 44 = .ok (.aload_n 0, 1) := by decide +kernel
theorem dX7_mast_45 : decode cX7_mast 45 = .ok (.iconst 3, 1) := by decide +kernel
theorem dX7_mast_46 : decode cX7_mast 46 = .ok (.invokevirtual 43, 3) := by decide +kernel
theorem dX7_mast_49 : decode cX7_mast 49 = .ok (.ireturn, 1) := by decide +kernel
theorem dX7_mast_50 : decode cX7_mast 50 = .ok (.aload_n 0, 1) := by decide +kernel
theorem dX7_mast_51 : decode cX7_mast 51 = .ok (.getfield 10, 3) := by decide +kernel
theorem dX7_mast_54 : decode cX7_mast 54 = .ok (.getfield 86, 3) := by decide +kernel
theorem dX7_mast_57 : decode cX7_mast 57 = .ok (.aload_n 0, 1) := by decide +kernel
theorem dX7_mast_58 : decode cX7_mast 58 = .ok (.getfield 10, 3) := by decide +kernel
theorem dX7_mast_61 : decode cX7_mast 61 = .ok (.getfield 83, 3) := by decide +kernel
theorem dX7_mast_64 : decode cX7_mast 64 = .ok (.aaload, 1) := by decide +kernel
theorem dX7_mast_65 : decode cX7_mast 65 = .ok (.iload_n 1, 1) := by decide +kernel
theorem dX7_mast_66 : decode cX7_mast 66 = .ok (.iload_n 2, 1) := by decide +kernel
theorem dX7_mast_67 : decode cX7_mast 67 = .ok (.invokestatic 79, 3) := by decide +kernel
theorem dX7_mast_70 : decode cX7_mast 70 = .ok (.aload_n 0, 1) := by decide +kernel
theorem dX7_mast_71 : decode cX7_mast 71 = .ok (.getfield 10, 3) := by decide +kernel
theorem dX7_mast_74 : decode cX7_mast 74 = .ok (.dup, 1) := by decide +kernel
theorem dX7_mast_75 : decode cX7_mast 75 = .ok (.getfield 83, 3) := by decide +kernel
theorem dX7_mast_78 : decode cX7_mast 78 = .ok (.dup_x1, 1) := by decide +kernel
theorem dX7_mast_79 : decode cX7_mast 79 = .ok (.iconst 1, 1) := by decide +kernel
theorem dX7_mast_80 : decode cX7_mast 80 = .ok (.iadd, 1) := by decide +kernel
theorem dX7_mast_81 : decode cX7_mast 81 = .ok (.putfield 83, 3) := by decide +kernel
theorem dX7_mast_84 : decode cX7_mast 84 = .ok (.ireturn, 1) := by decide +kernel
theorem dX7_lines_0 : decode cX7_lines 0 = .ok (.aload_n 0, 1) := by decide +kernel
theorem dX7_lines_1 : decode cX7_lines 1 = .ok (.iconst 0, 1) := by decide +kernel
theorem dX7_lines_2 : decode cX7_lines 2 = .ok (.putfield 20, 3) := by decide +kernel
theorem dX7_lines_5 : decode cX7_lines 5 = .ok (.iload_n 1, 1) := by decide +kernel
theorem dX7_lines_6 : decode cX7_lines 6 = .ok (.iconst 0, 1) := by decide +kernel
theorem dX7_lines_7 : decode cX7_lines 7 = .ok (.iconst 3, 1) := by decide +kernel
theorem dX7_lines_8 : decode cX7_lines 8 = .ok (.invokestatic 29, 3) := by decide +kernel
theorem dX7_lines_11 : decode cX7_lines 11 = .ok (.ifCond .ne 9, 3) := by decide +kernel
theorem dX7_lines_14 : decode cX7_lines 14 = .ok (.aload_n 0, 1) := by decide +kernel
theorem dX7_lines_15 : decode cX7_lines 15 = .ok (.iconst 1, 1) := by decide +kernel
theorem dX7_lines_16 : decode cX7_lines 16 = .ok (.invokevirtual 43, 3) := by decide +kernel
theorem dX7_lines_19 : decode cX7_lines 19 = .ok (.ireturn, 1) := by decide +kernel
theorem dX7_lines_20 : decode cX7_lines 20 = .ok (.aload_n 0, 1) := by decide +kernel
theorem dX7_lines_21 : decode cX7_lines 21 = .ok (.getfield 10, 3) := by decide +kernel
theorem dX7_lines_24 : decode cX7_lines 24 = .ok (.getfield 93, 3) := by decide +kernel
theorem dX7_lines_27 : decode cX7_lines 27 = .ok (.istore_n 2, 1) := by decide +kernel
theorem dX7_lines_28 : decode cX7_lines 28 = .ok (.aload_n 0, 1) := by decide +kernel
theorem dX7_lines_29 : decode cX7_lines 29 = .ok (.getfield 10, 3) := by decide +kernel
theorem dX7_lines_32 : decode cX7_lines 32 = .ok (.iload_n 1, 1) := by decide +kernel
theorem dX7_lines_33 : decode cX7_lines 33 = .ok (.putfield 93, 3) := by decide +kernel
theorem dX7_lines_36 : decode cX7_lines 36 = .ok (.iload_n 2, 1) := by decide +kernel
theorem dX7_lines_37 : decode cX7_lines 37 = .ok (.ireturn, 1) := by decide +kernel
theorem dX7_danger_0 : decode cX7_danger 0 = .ok (.aload_n 0, 1) := by decide +kernel
theorem dX7_danger_1 : decode cX7_danger 1 = .ok (.iconst 0, 1) := by decide +kernel
theorem dX7_danger_2 : decode cX7_danger 2 = .ok (.putfield 20, 3) := by decide +kernel
theorem dX7_danger_5 : decode cX7_danger 5 = .ok (.iload_n 1, 1) := by decide +kernel
theorem dX7_danger_6 : decode cX7_danger 6 = .ok (.invokestatic 39, 3) := by decide +kernel
theorem dX7_danger_9 : decode cX7_danger 9 = .ok (.ifCond .ne 9, 3) := by decide +kernel
theorem dX7_danger_12 : decode cX7_danger 12 = .ok (.aload_n 0, 1) := by decide +kernel
theorem dX7_danger_13 : decode cX7_danger 13 = .ok (.iconst 1, 1) := by decide +kernel
theorem dX7_danger_14 : decode cX7_danger 14 = .ok (.invokevirtual 43, 3) := by decide +kernel
theorem dX7_danger_17 : decode cX7_danger 17 = .ok (.ireturn, 1) := by decide +kernel
theorem dX7_danger_18 : decode cX7_danger 18 = .ok (.iload_n 2, 1) := by decide +kernel
theorem dX7_danger_19 : decode cX7_danger 19 = .ok (.iconst (-1), 1) := by decide +kernel
theorem dX7_danger_20 : decode cX7_danger 20 = .ok (.sipush 999, 3) := by decide +kernel
theorem dX7_danger_23 : decode cX7_danger 23 = .ok (.invokestatic 29, 3) := by decide +kernel
theorem dX7_danger_26 : decode cX7_danger 26 = .ok (.ifCond .ne 9, 3) := by decide +kernel
theorem dX7_danger_29 : decode cX7_danger 29 = .ok (.aload_n 0, 1) := by decide +kernel
theorem dX7_danger_30 : decode cX7_danger 30 = .ok (.iconst 2, 1) := by decide +kernel
theorem dX7_danger_31 : decode cX7_danger 31 = .ok (.invokevirtual 43, 3) := by decide +kernel
theorem dX7_danger_34 : decode cX7_danger 34 = .ok (.ireturn, 1) := by decide +kernel
theorem dX7_danger_35 : decode cX7_danger 35 = .ok (.aload_n 0, 1) := by decide +kernel
theorem dX7_danger_36 : decode cX7_danger 36 = .ok (.getfield 10, 3) := by decide +kernel
theorem dX7_danger_39 : decode cX7_danger 39 = .ok (.getfield 96, 3) := by decide +kernel
theorem dX7_danger_42 : decode cX7_danger 42 = .ok (.iload_n 1, 1) := by decide +kernel
theorem dX7_danger_43 : decode cX7_danger 43 = .ok (.iaload, 1) := by decide +kernel
theorem dX7_danger_44 : decode cX7_danger 44 = .ok (.istore_n 3, 1) := by decide +kernel
theorem dX7_danger_45 : decode cX7_danger 45 = .ok (.aload_n 0, 1) := by decide +kernel
theorem dX7_danger_46 : decode cX7_danger 46 = .ok (.getfield 10, 3) := by decide +kernel
theorem dX7_danger_49 : decode cX7_danger 49 = .ok (.getfield 96, 3) := by decide +kernel
theorem dX7_danger_52 : decode cX7_danger 52 = .ok (.iload_n 1, 1) := by decide +kernel
theorem dX7_danger_53 : decode cX7_danger 53 = .ok (.iload_n 2, 1) := by decide +kernel
theorem dX7_danger_54 : decode cX7_danger 54 = .ok (.iconst (-1), 1) := by decide +kernel
theorem dX7_danger_55 : decode cX7_danger 55 = .ok (.if_icmp .ne 7, 3) := by decide +kernel
theorem dX7_danger_58 : decode cX7_danger 58 = .ok (.iconst (-1), 1) := by decide +kernel
theorem dX7_danger_59 : decode cX7_danger 59 = .ok (.goto 12, 3) := by decide +kernel
theorem dX7_danger_62 : decode cX7_danger 62 = .ok (.aload_n 0, 1) := by decide +kernel
theorem dX7_danger_63 : decode cX7_danger 63 = .ok (.getfield 10, 3) := by decide +kernel
theorem dX7_danger_66 : decode cX7_danger 66 = .ok (.getfield 100, 3) := by decide +kernel
theorem dX7_danger_69 : decode cX7_danger 69 = .ok (.iload_n 2, 1) := by decide +kernel
theorem dX7_danger_70 : decode cX7_danger 70 = .ok (.iadd, 1) := by decide +kernel
theorem dX7_danger_71 : decode cX7_danger 71 = .ok (.iastore, 1) := by decide +kernel
theorem dX7_danger_72 : decode cX7_danger 72 = .ok (.iload_n 3, 1) := by decide +kernel
theorem dX7_danger_73 : decode cX7_danger 73 = .ok (.ireturn, 1) := by decide +kernel
/-! .. methods that make no cell -/
theorem mm_in {n : Nat} (i : Nat) (h : i < n) (hn : n < 1000) : vp_in (nI i) n := jin rfl h hn
theorem mm_z {σ : vgS} {x : Int32} : vg_st σ (40, 0, 0) 0 x (41, 0, 0) = σ (41, 0, 0) := by
  funext k
  unfold vg_st
  rw [if_neg (fun z => by cases z.1)]
def k_X7_shelter : List (Nat × vgF) := [(0, vi_aload 0 1), (1, vi_icst (0) 2), (2, vi_put mm_shp 0 0 5), (5, vi_iload 1 6), (6, vi_callS sp_X7_isCell 1 9), (9, vi_if (fun x => x = 0) 12 18), (12, vi_aload 0 13), (13, vi_icst (1) 14), (14, vi_callV mm_shp 0 sp_X7_no 1 17), (17, vi_ret), (18, vi_iload 2 19), (19, vi_icst (1) 20), (20, vi_icst (200) 23), (23, vi_callS sp_X7_in 3 26), (26, vi_if (fun x => x = 0) 29 35), (29, vi_aload 0 30), (30, vi_icst (2) 31), (31, vi_callV mm_shp 0 sp_X7_no 1 34), (34, vi_ret), (35, vi_aload 0 36), (36, vi_get mm_shp 0 1 39), (39, vi_get mm_shp 1 11 42), (42, vi_icst (3) 43), (43, vi_cmp (fun x y => x = y) 46 52), (46, vi_aload 0 47), (47, vi_icst (3) 48), (48, vi_callV mm_shp 0 sp_X7_no 1 51), (51, vi_ret), (52, vi_aload 0 53), (53, vi_get mm_shp 0 1 56), (56, vi_get mm_shp 1 3 59), (59, vi_aload 0 60), (60, vi_get mm_shp 0 1 63), (63, vi_get mm_shp 1 11 66), (66, vi_aald mm_shp 2 67), (67, vi_icst (0) 68), (68, vi_iload 1 69), (69, vi_ast mm_shp 0 70), (70, vi_aload 0 71), (71, vi_get mm_shp 0 1 74), (74, vi_get mm_shp 1 3 77), (77, vi_aload 0 78), (78, vi_get mm_shp 0 1 81), (81, vi_get mm_shp 1 11 84), (84, vi_aald mm_shp 2 85), (85, vi_icst (1) 86), (86, vi_iload 2 87), (87, vi_ast mm_shp 0 88), (88, vi_aload 0 89), (89, vi_get mm_shp 0 1 92), (92, vi_dup 93), (93, vi_get mm_shp 1 11 96), (96, vi_dupx1 97), (97, vi_icst (1) 98), (98, vi_bin (fun x y => x + y) 99), (99, vi_put mm_shp 1 11 102), (102, vi_ret)]
set_option maxRecDepth 20000 in
theorem s_X7_shelter {nm : List vgN} (hcl : vg_closed mm_shp nm) : ∀ q ∈ k_X7_shelter, vg_Snd ww_tb [] mm_shp nm mm_cl mm_tyl cX7_shelter 3 RX7 (some .int) 2 q.1 q.2 := by
  refine vg_cons (vs_aload_n dX7_shelter_0 rfl rfl) ?_
  refine vg_cons (vs_iconst dX7_shelter_1 rfl rfl) ?_
  refine vg_cons (vs_putfield (T := TX7) tyX7 dX7_shelter_2 rfl (by decide) mm_inX7 tyX7_ok nmX7 rfl rfl u_201 rfl) ?_
  refine vg_cons (vs_iload_n dX7_shelter_5 rfl rfl) ?_
  refine vg_cons (vs_callS (c_X7_isCell hcl) dX7_shelter_6 ww_good u_219 u_198 u_221 u_220 (by decide +kernel) (by decide) rfl) ?_
  refine vg_cons (vs_if_ne dX7_shelter_9 (by decide) rfl) ?_
  refine vg_cons (vs_aload_n dX7_shelter_12 rfl rfl) ?_
  refine vg_cons (vs_iconst dX7_shelter_13 rfl rfl) ?_
  refine vg_cons (vs_callV (T := TX7) (c_X7_no hcl) dX7_shelter_14 rfl ww_good u_210 u_198 u_211 u_212 u_213 (by decide +kernel) (by decide) rfl) ?_
  refine vg_cons (vs_ireturn dX7_shelter_17 rfl) ?_
  refine vg_cons (vs_iload_n dX7_shelter_18 rfl rfl) ?_
  refine vg_cons (vs_iconst dX7_shelter_19 rfl rfl) ?_
  refine vg_cons (vs_sipush dX7_shelter_20 (by decide) rfl) ?_
  refine vg_cons (vs_callS (c_X7_in hcl) dX7_shelter_23 ww_good u_197 u_198 u_200 u_199 (by decide +kernel) (by decide) rfl) ?_
  refine vg_cons (vs_if_ne dX7_shelter_26 (by decide) rfl) ?_
  refine vg_cons (vs_aload_n dX7_shelter_29 rfl rfl) ?_
  refine vg_cons (vs_iconst dX7_shelter_30 rfl rfl) ?_
  refine vg_cons (vs_callV (T := TX7) (c_X7_no hcl) dX7_shelter_31 rfl ww_good u_210 u_198 u_211 u_212 u_213 (by decide +kernel) (by decide) rfl) ?_
  refine vg_cons (vs_ireturn dX7_shelter_34 rfl) ?_
  refine vg_cons (vs_aload_n dX7_shelter_35 rfl rfl) ?_
  refine vg_cons (vs_getfield (T := TX7) dX7_shelter_36 rfl (by decide) mm_inX7 u_202 rfl) ?_
  refine vg_cons (vs_getfield (T := TX6) dX7_shelter_39 rfl (by decide) mm_inX6 u_218 rfl) ?_
  refine vg_cons (vs_iconst dX7_shelter_42 rfl rfl) ?_
  refine vg_cons (vs_cmp_ne dX7_shelter_43 (by decide) rfl) ?_
  refine vg_cons (vs_aload_n dX7_shelter_46 rfl rfl) ?_
  refine vg_cons (vs_iconst dX7_shelter_47 rfl rfl) ?_
  refine vg_cons (vs_callV (T := TX7) (c_X7_no hcl) dX7_shelter_48 rfl ww_good u_210 u_198 u_211 u_212 u_213 (by decide +kernel) (by decide) rfl) ?_
  refine vg_cons (vs_ireturn dX7_shelter_51 rfl) ?_
  refine vg_cons (vs_aload_n dX7_shelter_52 rfl rfl) ?_
  refine vg_cons (vs_getfield (T := TX7) dX7_shelter_53 rfl (by decide) mm_inX7 u_202 rfl) ?_
  refine vg_cons (vs_getfield (T := TX6) dX7_shelter_56 rfl (by decide) mm_inX6 u_222 rfl) ?_
  refine vg_cons (vs_aload_n dX7_shelter_59 rfl rfl) ?_
  refine vg_cons (vs_getfield (T := TX7) dX7_shelter_60 rfl (by decide) mm_inX7 u_202 rfl) ?_
  refine vg_cons (vs_getfield (T := TX6) dX7_shelter_63 rfl (by decide) mm_inX6 u_218 rfl) ?_
  refine vg_cons (vs_aaloadA dX7_shelter_66 rfl rfl rfl) ?_
  refine vg_cons (vs_iconst dX7_shelter_67 rfl rfl) ?_
  refine vg_cons (vs_iload_n dX7_shelter_68 rfl rfl) ?_
  refine vg_cons (vs_iastore dX7_shelter_69 rfl rfl) ?_
  refine vg_cons (vs_aload_n dX7_shelter_70 rfl rfl) ?_
  refine vg_cons (vs_getfield (T := TX7) dX7_shelter_71 rfl (by decide) mm_inX7 u_202 rfl) ?_
  refine vg_cons (vs_getfield (T := TX6) dX7_shelter_74 rfl (by decide) mm_inX6 u_222 rfl) ?_
  refine vg_cons (vs_aload_n dX7_shelter_77 rfl rfl) ?_
  refine vg_cons (vs_getfield (T := TX7) dX7_shelter_78 rfl (by decide) mm_inX7 u_202 rfl) ?_
  refine vg_cons (vs_getfield (T := TX6) dX7_shelter_81 rfl (by decide) mm_inX6 u_218 rfl) ?_
  refine vg_cons (vs_aaloadA dX7_shelter_84 rfl rfl rfl) ?_
  refine vg_cons (vs_iconst dX7_shelter_85 rfl rfl) ?_
  refine vg_cons (vs_iload_n dX7_shelter_86 rfl rfl) ?_
  refine vg_cons (vs_iastore dX7_shelter_87 rfl rfl) ?_
  refine vg_cons (vs_aload_n dX7_shelter_88 rfl rfl) ?_
  refine vg_cons (vs_getfield (T := TX7) dX7_shelter_89 rfl (by decide) mm_inX7 u_202 rfl) ?_
  refine vg_cons (vs_dup dX7_shelter_92 rfl) ?_
  refine vg_cons (vs_getfield (T := TX6) dX7_shelter_93 rfl (by decide) mm_inX6 u_218 rfl) ?_
  refine vg_cons (vs_dup_x1 dX7_shelter_96 rfl) ?_
  refine vg_cons (vs_iconst dX7_shelter_97 rfl rfl) ?_
  refine vg_cons (vs_iadd dX7_shelter_98 rfl) ?_
  refine vg_cons (vs_putfield (T := TX6) tyX6 dX7_shelter_99 rfl (by decide) mm_inX6 tyX6_ok nmX6 rfl rfl u_218 rfl) ?_
  refine vg_cons (vs_ireturn dX7_shelter_102 rfl) ?_
  exact fun _ h => absurd h List.not_mem_nil
theorem m_X7_shelter : vg_Code k_X7_shelter := fun q h => (s_X7_shelter (nm := []) (fun n hn => nomatch hn) q h).1

def pm_X7_shelter : vgT → vgS → Prop := fun av σ => match av with
  | [.inr (40, 0, 0), .inl (.int c), .inl (.int r)] => mm_fr σ
  | _ => False
def mf_X7_shelter : vgT → Int32 × Int32 := fun av => match av with
  | [.inr (40, 0, 0), .inl (.int c), .inl (.int r)] => (if wp_c c then (if wp_r r (1) (200) then (0, 0) else (2, 0)) else (1, 0))
  | _ => (0, 0)
theorem wm_X7_shelter : ∀ av σ, pm_X7_shelter av σ → vg_wd av ≤ 3 := by
  intro av σ h
  unfold pm_X7_shelter at h
  split at h
  · exact Nat.le_of_ble_eq_true rfl
  · exact h.elim
set_option maxRecDepth 20000 in
theorem gm_X7_shelter : ∀ av σ, pm_X7_shelter av σ → vg_Go k_X7_shelter (mm_Po (mf_X7_shelter av)) 0 (vg_args 0 av) [] σ := by
  intro av σ h
  unfold pm_X7_shelter at h
  split at h
  next c r =>
    refine vg_run (cuts := []) m_X7_shelter 80 ?_
    refine And.intro trivial (And.intro (fun z => ?_) (fun z => ?_))
    · have e : mf_X7_shelter [.inr (40, 0, 0), .inl (.int c), .inl (.int r)] = (1, 0) := by
        show (if _ then _ else _) = _
        rw [if_neg (jb_0.mp z)]
      rw [e]
      exact And.intro trivial ⟨rfl, rfl⟩
    have c1 : wp_c c := Classical.not_not.mp (fun y => z (jb_0.mpr y))
    refine And.intro trivial (And.intro (fun z => ?_) (fun z => ?_))
    · have e : mf_X7_shelter [.inr (40, 0, 0), .inl (.int c), .inl (.int r)] = (2, 0) := by
        show (if _ then _ else _) = _
        rw [if_pos c1, if_neg (jb_0.mp z)]
      rw [e]
      exact And.intro trivial ⟨rfl, rfl⟩
    have c2 : wp_r r (1) (200) := Classical.not_not.mp (fun y => z (jb_0.mpr y))
    have e : mf_X7_shelter [.inr (40, 0, 0), .inl (.int c), .inl (.int r)] = (0, 0) := by
      show (if _ then _ else _) = _
      rw [if_pos c1, if_pos c2]
    rw [e]
    have hs : σ (41, 0, 0) 11 = 0 := h.1.2.2.2.1
    refine And.intro (fun z => absurd (hs.symm.trans z) (by decide)) (fun _ => ?_)
    have hin : vp_in (σ (41, 0, 0) 11) 3 := jin (i := 0) hs (by decide) (by decide)
    refine And.intro hin (And.intro (jin (i := 0) rfl (by decide) (by decide)) (And.intro hin (And.intro (jin (i := 1) rfl (by decide) (by decide)) ?_)))
    refine And.intro rfl (And.intro ⟨rfl, rfl⟩ ?_)
    exact ⟨congrArg (fun x => some (Sum.inl (Value.int x))) hs, rfl⟩
  next => exact h.elim
theorem r_X7_shelter {nm : List vgN} (hcl : vg_closed mm_shp nm) : vg_Met ww_tb [] mm_shp nm mm_cl mm_tyl yX7_shelter cX7_shelter 3 (some .int) 2 pm_X7_shelter (fun av _ => mm_Po (mf_X7_shelter av)) := vg_met hcl (by decide +kernel) rfl (s_X7_shelter hcl) wm_X7_shelter gm_X7_shelter
def k_X7_siren : List (Nat × vgF) := [(0, vi_aload 0 1), (1, vi_icst (0) 2), (2, vi_put mm_shp 0 0 5), (5, vi_iload 1 6), (6, vi_callS sp_X7_isCell 1 9), (9, vi_if (fun x => x = 0) 12 18), (12, vi_aload 0 13), (13, vi_icst (1) 14), (14, vi_callV mm_shp 0 sp_X7_no 1 17), (17, vi_ret), (18, vi_iload 2 19), (19, vi_icst (0) 20), (20, vi_icst (3) 21), (21, vi_callS sp_X7_in 3 24), (24, vi_if (fun x => x = 0) 27 33), (27, vi_aload 0 28), (28, vi_icst (2) 29), (29, vi_callV mm_shp 0 sp_X7_no 1 32), (32, vi_ret), (33, vi_aload 0 34), (34, vi_get mm_shp 0 1 37), (37, vi_get mm_shp 1 12 40), (40, vi_icst (4) 41), (41, vi_cmp (fun x y => x = y) 44 50), (44, vi_aload 0 45), (45, vi_icst (3) 46), (46, vi_callV mm_shp 0 sp_X7_no 1 49), (49, vi_ret), (50, vi_aload 0 51), (51, vi_get mm_shp 0 1 54), (54, vi_get mm_shp 1 4 57), (57, vi_aload 0 58), (58, vi_get mm_shp 0 1 61), (61, vi_get mm_shp 1 12 64), (64, vi_aald mm_shp 2 65), (65, vi_iload 1 66), (66, vi_iload 2 67), (67, vi_callS sp_X7_lay 3 70), (70, vi_aload 0 71), (71, vi_get mm_shp 0 1 74), (74, vi_dup 75), (75, vi_get mm_shp 1 12 78), (78, vi_dupx1 79), (79, vi_icst (1) 80), (80, vi_bin (fun x y => x + y) 81), (81, vi_put mm_shp 1 12 84), (84, vi_ret)]
set_option maxRecDepth 20000 in
theorem s_X7_siren {nm : List vgN} (hcl : vg_closed mm_shp nm) : ∀ q ∈ k_X7_siren, vg_Snd ww_tb [] mm_shp nm mm_cl mm_tyl cX7_siren 3 RX7 (some .int) 2 q.1 q.2 := by
  refine vg_cons (vs_aload_n dX7_siren_0 rfl rfl) ?_
  refine vg_cons (vs_iconst dX7_siren_1 rfl rfl) ?_
  refine vg_cons (vs_putfield (T := TX7) tyX7 dX7_siren_2 rfl (by decide) mm_inX7 tyX7_ok nmX7 rfl rfl u_201 rfl) ?_
  refine vg_cons (vs_iload_n dX7_siren_5 rfl rfl) ?_
  refine vg_cons (vs_callS (c_X7_isCell hcl) dX7_siren_6 ww_good u_219 u_198 u_221 u_220 (by decide +kernel) (by decide) rfl) ?_
  refine vg_cons (vs_if_ne dX7_siren_9 (by decide) rfl) ?_
  refine vg_cons (vs_aload_n dX7_siren_12 rfl rfl) ?_
  refine vg_cons (vs_iconst dX7_siren_13 rfl rfl) ?_
  refine vg_cons (vs_callV (T := TX7) (c_X7_no hcl) dX7_siren_14 rfl ww_good u_210 u_198 u_211 u_212 u_213 (by decide +kernel) (by decide) rfl) ?_
  refine vg_cons (vs_ireturn dX7_siren_17 rfl) ?_
  refine vg_cons (vs_iload_n dX7_siren_18 rfl rfl) ?_
  refine vg_cons (vs_iconst dX7_siren_19 rfl rfl) ?_
  refine vg_cons (vs_iconst dX7_siren_20 rfl rfl) ?_
  refine vg_cons (vs_callS (c_X7_in hcl) dX7_siren_21 ww_good u_197 u_198 u_200 u_199 (by decide +kernel) (by decide) rfl) ?_
  refine vg_cons (vs_if_ne dX7_siren_24 (by decide) rfl) ?_
  refine vg_cons (vs_aload_n dX7_siren_27 rfl rfl) ?_
  refine vg_cons (vs_iconst dX7_siren_28 rfl rfl) ?_
  refine vg_cons (vs_callV (T := TX7) (c_X7_no hcl) dX7_siren_29 rfl ww_good u_210 u_198 u_211 u_212 u_213 (by decide +kernel) (by decide) rfl) ?_
  refine vg_cons (vs_ireturn dX7_siren_32 rfl) ?_
  refine vg_cons (vs_aload_n dX7_siren_33 rfl rfl) ?_
  refine vg_cons (vs_getfield (T := TX7) dX7_siren_34 rfl (by decide) mm_inX7 u_202 rfl) ?_
  refine vg_cons (vs_getfield (T := TX6) dX7_siren_37 rfl (by decide) mm_inX6 u_223 rfl) ?_
  refine vg_cons (vs_iconst dX7_siren_40 rfl rfl) ?_
  refine vg_cons (vs_cmp_ne dX7_siren_41 (by decide) rfl) ?_
  refine vg_cons (vs_aload_n dX7_siren_44 rfl rfl) ?_
  refine vg_cons (vs_iconst dX7_siren_45 rfl rfl) ?_
  refine vg_cons (vs_callV (T := TX7) (c_X7_no hcl) dX7_siren_46 rfl ww_good u_210 u_198 u_211 u_212 u_213 (by decide +kernel) (by decide) rfl) ?_
  refine vg_cons (vs_ireturn dX7_siren_49 rfl) ?_
  refine vg_cons (vs_aload_n dX7_siren_50 rfl rfl) ?_
  refine vg_cons (vs_getfield (T := TX7) dX7_siren_51 rfl (by decide) mm_inX7 u_202 rfl) ?_
  refine vg_cons (vs_getfield (T := TX6) dX7_siren_54 rfl (by decide) mm_inX6 u_224 rfl) ?_
  refine vg_cons (vs_aload_n dX7_siren_57 rfl rfl) ?_
  refine vg_cons (vs_getfield (T := TX7) dX7_siren_58 rfl (by decide) mm_inX7 u_202 rfl) ?_
  refine vg_cons (vs_getfield (T := TX6) dX7_siren_61 rfl (by decide) mm_inX6 u_223 rfl) ?_
  refine vg_cons (vs_aaloadA dX7_siren_64 rfl rfl rfl) ?_
  refine vg_cons (vs_iload_n dX7_siren_65 rfl rfl) ?_
  refine vg_cons (vs_iload_n dX7_siren_66 rfl rfl) ?_
  refine vg_cons (vs_callS (c_X7_lay hcl) dX7_siren_67 ww_good u_225 u_198 u_227 u_226 (by decide +kernel) (by decide) rfl) ?_
  refine vg_cons (vs_aload_n dX7_siren_70 rfl rfl) ?_
  refine vg_cons (vs_getfield (T := TX7) dX7_siren_71 rfl (by decide) mm_inX7 u_202 rfl) ?_
  refine vg_cons (vs_dup dX7_siren_74 rfl) ?_
  refine vg_cons (vs_getfield (T := TX6) dX7_siren_75 rfl (by decide) mm_inX6 u_223 rfl) ?_
  refine vg_cons (vs_dup_x1 dX7_siren_78 rfl) ?_
  refine vg_cons (vs_iconst dX7_siren_79 rfl rfl) ?_
  refine vg_cons (vs_iadd dX7_siren_80 rfl) ?_
  refine vg_cons (vs_putfield (T := TX6) tyX6 dX7_siren_81 rfl (by decide) mm_inX6 tyX6_ok nmX6 rfl rfl u_223 rfl) ?_
  refine vg_cons (vs_ireturn dX7_siren_84 rfl) ?_
  exact fun _ h => absurd h List.not_mem_nil
theorem m_X7_siren : vg_Code k_X7_siren := fun q h => (s_X7_siren (nm := []) (fun n hn => nomatch hn) q h).1

def pm_X7_siren : vgT → vgS → Prop := fun av σ => match av with
  | [.inr (40, 0, 0), .inl (.int c), .inl (.int r)] => mm_fr σ
  | _ => False
def mf_X7_siren : vgT → Int32 × Int32 := fun av => match av with
  | [.inr (40, 0, 0), .inl (.int c), .inl (.int r)] => (if wp_c c then (if wp_r r (0) (3) then (0, 0) else (2, 0)) else (1, 0))
  | _ => (0, 0)
theorem wm_X7_siren : ∀ av σ, pm_X7_siren av σ → vg_wd av ≤ 3 := by
  intro av σ h
  unfold pm_X7_siren at h
  split at h
  · exact Nat.le_of_ble_eq_true rfl
  · exact h.elim
set_option maxRecDepth 20000 in
theorem gm_X7_siren : ∀ av σ, pm_X7_siren av σ → vg_Go k_X7_siren (mm_Po (mf_X7_siren av)) 0 (vg_args 0 av) [] σ := by
  intro av σ h
  unfold pm_X7_siren at h
  split at h
  next c r =>
    refine vg_run (cuts := []) m_X7_siren 80 ?_
    refine And.intro trivial (And.intro (fun z => ?_) (fun z => ?_))
    · have e : mf_X7_siren [.inr (40, 0, 0), .inl (.int c), .inl (.int r)] = (1, 0) := by
        show (if _ then _ else _) = _
        rw [if_neg (jb_0.mp z)]
      rw [e]
      exact And.intro trivial ⟨rfl, rfl⟩
    have c1 : wp_c c := Classical.not_not.mp (fun y => z (jb_0.mpr y))
    refine And.intro trivial (And.intro (fun z => ?_) (fun z => ?_))
    · have e : mf_X7_siren [.inr (40, 0, 0), .inl (.int c), .inl (.int r)] = (2, 0) := by
        show (if _ then _ else _) = _
        rw [if_pos c1, if_neg (jb_0.mp z)]
      rw [e]
      exact And.intro trivial ⟨rfl, rfl⟩
    have c2 : wp_r r (0) (3) := Classical.not_not.mp (fun y => z (jb_0.mpr y))
    have e : mf_X7_siren [.inr (40, 0, 0), .inl (.int c), .inl (.int r)] = (0, 0) := by
      show (if _ then _ else _) = _
      rw [if_pos c1, if_pos c2]
    rw [e]
    have hs : σ (41, 0, 0) 12 = 0 := h.1.2.2.2.2.1
    refine And.intro (fun z => absurd (hs.symm.trans z) (by decide)) (fun _ => ?_)
    have hin : vp_in (σ (41, 0, 0) 12) 5 := jin (i := 0) hs (by decide) (by decide)
    refine And.intro hin (And.intro trivial ?_)
    refine And.intro rfl (And.intro ⟨rfl, rfl⟩ ?_)
    exact ⟨congrArg (fun x => some (Sum.inl (Value.int x))) hs, rfl⟩
  next => exact h.elim
theorem r_X7_siren {nm : List vgN} (hcl : vg_closed mm_shp nm) : vg_Met ww_tb [] mm_shp nm mm_cl mm_tyl yX7_siren cX7_siren 3 (some .int) 2 pm_X7_siren (fun av _ => mm_Po (mf_X7_siren av)) := vg_met hcl (by decide +kernel) rfl (s_X7_siren hcl) wm_X7_siren gm_X7_siren
def k_X7_mast : List (Nat × vgF) := [(0, vi_aload 0 1), (1, vi_icst (0) 2), (2, vi_put mm_shp 0 0 5), (5, vi_iload 1 6), (6, vi_callS sp_X7_isCell 1 9), (9, vi_if (fun x => x = 0) 12 18), (12, vi_aload 0 13), (13, vi_icst (1) 14), (14, vi_callV mm_shp 0 sp_X7_no 1 17), (17, vi_ret), (18, vi_iload 2 19), (19, vi_icst (0) 20), (20, vi_icst (3) 21), (21, vi_callS sp_X7_in 3 24), (24, vi_if (fun x => x = 0) 27 33), (27, vi_aload 0 28), (28, vi_icst (2) 29), (29, vi_callV mm_shp 0 sp_X7_no 1 32), (32, vi_ret), (33, vi_aload 0 34), (34, vi_get mm_shp 0 1 37), (37, vi_get mm_shp 1 13 40), (40, vi_icst (4) 41), (41, vi_cmp (fun x y => x = y) 44 50), (44, vi_aload 0 45), (45, vi_icst (3) 46), (46, vi_callV mm_shp 0 sp_X7_no 1 49), (49, vi_ret), (50, vi_aload 0 51), (51, vi_get mm_shp 0 1 54), (54, vi_get mm_shp 1 5 57), (57, vi_aload 0 58), (58, vi_get mm_shp 0 1 61), (61, vi_get mm_shp 1 13 64), (64, vi_aald mm_shp 2 65), (65, vi_iload 1 66), (66, vi_iload 2 67), (67, vi_callS sp_X7_lay 3 70), (70, vi_aload 0 71), (71, vi_get mm_shp 0 1 74), (74, vi_dup 75), (75, vi_get mm_shp 1 13 78), (78, vi_dupx1 79), (79, vi_icst (1) 80), (80, vi_bin (fun x y => x + y) 81), (81, vi_put mm_shp 1 13 84), (84, vi_ret)]
set_option maxRecDepth 20000 in
theorem s_X7_mast {nm : List vgN} (hcl : vg_closed mm_shp nm) : ∀ q ∈ k_X7_mast, vg_Snd ww_tb [] mm_shp nm mm_cl mm_tyl cX7_mast 3 RX7 (some .int) 2 q.1 q.2 := by
  refine vg_cons (vs_aload_n dX7_mast_0 rfl rfl) ?_
  refine vg_cons (vs_iconst dX7_mast_1 rfl rfl) ?_
  refine vg_cons (vs_putfield (T := TX7) tyX7 dX7_mast_2 rfl (by decide) mm_inX7 tyX7_ok nmX7 rfl rfl u_201 rfl) ?_
  refine vg_cons (vs_iload_n dX7_mast_5 rfl rfl) ?_
  refine vg_cons (vs_callS (c_X7_isCell hcl) dX7_mast_6 ww_good u_219 u_198 u_221 u_220 (by decide +kernel) (by decide) rfl) ?_
  refine vg_cons (vs_if_ne dX7_mast_9 (by decide) rfl) ?_
  refine vg_cons (vs_aload_n dX7_mast_12 rfl rfl) ?_
  refine vg_cons (vs_iconst dX7_mast_13 rfl rfl) ?_
  refine vg_cons (vs_callV (T := TX7) (c_X7_no hcl) dX7_mast_14 rfl ww_good u_210 u_198 u_211 u_212 u_213 (by decide +kernel) (by decide) rfl) ?_
  refine vg_cons (vs_ireturn dX7_mast_17 rfl) ?_
  refine vg_cons (vs_iload_n dX7_mast_18 rfl rfl) ?_
  refine vg_cons (vs_iconst dX7_mast_19 rfl rfl) ?_
  refine vg_cons (vs_iconst dX7_mast_20 rfl rfl) ?_
  refine vg_cons (vs_callS (c_X7_in hcl) dX7_mast_21 ww_good u_197 u_198 u_200 u_199 (by decide +kernel) (by decide) rfl) ?_
  refine vg_cons (vs_if_ne dX7_mast_24 (by decide) rfl) ?_
  refine vg_cons (vs_aload_n dX7_mast_27 rfl rfl) ?_
  refine vg_cons (vs_iconst dX7_mast_28 rfl rfl) ?_
  refine vg_cons (vs_callV (T := TX7) (c_X7_no hcl) dX7_mast_29 rfl ww_good u_210 u_198 u_211 u_212 u_213 (by decide +kernel) (by decide) rfl) ?_
  refine vg_cons (vs_ireturn dX7_mast_32 rfl) ?_
  refine vg_cons (vs_aload_n dX7_mast_33 rfl rfl) ?_
  refine vg_cons (vs_getfield (T := TX7) dX7_mast_34 rfl (by decide) mm_inX7 u_202 rfl) ?_
  refine vg_cons (vs_getfield (T := TX6) dX7_mast_37 rfl (by decide) mm_inX6 u_228 rfl) ?_
  refine vg_cons (vs_iconst dX7_mast_40 rfl rfl) ?_
  refine vg_cons (vs_cmp_ne dX7_mast_41 (by decide) rfl) ?_
  refine vg_cons (vs_aload_n dX7_mast_44 rfl rfl) ?_
  refine vg_cons (vs_iconst dX7_mast_45 rfl rfl) ?_
  refine vg_cons (vs_callV (T := TX7) (c_X7_no hcl) dX7_mast_46 rfl ww_good u_210 u_198 u_211 u_212 u_213 (by decide +kernel) (by decide) rfl) ?_
  refine vg_cons (vs_ireturn dX7_mast_49 rfl) ?_
  refine vg_cons (vs_aload_n dX7_mast_50 rfl rfl) ?_
  refine vg_cons (vs_getfield (T := TX7) dX7_mast_51 rfl (by decide) mm_inX7 u_202 rfl) ?_
  refine vg_cons (vs_getfield (T := TX6) dX7_mast_54 rfl (by decide) mm_inX6 u_229 rfl) ?_
  refine vg_cons (vs_aload_n dX7_mast_57 rfl rfl) ?_
  refine vg_cons (vs_getfield (T := TX7) dX7_mast_58 rfl (by decide) mm_inX7 u_202 rfl) ?_
  refine vg_cons (vs_getfield (T := TX6) dX7_mast_61 rfl (by decide) mm_inX6 u_228 rfl) ?_
  refine vg_cons (vs_aaloadA dX7_mast_64 rfl rfl rfl) ?_
  refine vg_cons (vs_iload_n dX7_mast_65 rfl rfl) ?_
  refine vg_cons (vs_iload_n dX7_mast_66 rfl rfl) ?_
  refine vg_cons (vs_callS (c_X7_lay hcl) dX7_mast_67 ww_good u_225 u_198 u_227 u_226 (by decide +kernel) (by decide) rfl) ?_
  refine vg_cons (vs_aload_n dX7_mast_70 rfl rfl) ?_
  refine vg_cons (vs_getfield (T := TX7) dX7_mast_71 rfl (by decide) mm_inX7 u_202 rfl) ?_
  refine vg_cons (vs_dup dX7_mast_74 rfl) ?_
  refine vg_cons (vs_getfield (T := TX6) dX7_mast_75 rfl (by decide) mm_inX6 u_228 rfl) ?_
  refine vg_cons (vs_dup_x1 dX7_mast_78 rfl) ?_
  refine vg_cons (vs_iconst dX7_mast_79 rfl rfl) ?_
  refine vg_cons (vs_iadd dX7_mast_80 rfl) ?_
  refine vg_cons (vs_putfield (T := TX6) tyX6 dX7_mast_81 rfl (by decide) mm_inX6 tyX6_ok nmX6 rfl rfl u_228 rfl) ?_
  refine vg_cons (vs_ireturn dX7_mast_84 rfl) ?_
  exact fun _ h => absurd h List.not_mem_nil
theorem m_X7_mast : vg_Code k_X7_mast := fun q h => (s_X7_mast (nm := []) (fun n hn => nomatch hn) q h).1

def pm_X7_mast : vgT → vgS → Prop := fun av σ => match av with
  | [.inr (40, 0, 0), .inl (.int c), .inl (.int r)] => mm_fr σ
  | _ => False
def mf_X7_mast : vgT → Int32 × Int32 := fun av => match av with
  | [.inr (40, 0, 0), .inl (.int c), .inl (.int r)] => (if wp_c c then (if wp_r r (0) (3) then (0, 0) else (2, 0)) else (1, 0))
  | _ => (0, 0)
theorem wm_X7_mast : ∀ av σ, pm_X7_mast av σ → vg_wd av ≤ 3 := by
  intro av σ h
  unfold pm_X7_mast at h
  split at h
  · exact Nat.le_of_ble_eq_true rfl
  · exact h.elim
set_option maxRecDepth 20000 in
theorem gm_X7_mast : ∀ av σ, pm_X7_mast av σ → vg_Go k_X7_mast (mm_Po (mf_X7_mast av)) 0 (vg_args 0 av) [] σ := by
  intro av σ h
  unfold pm_X7_mast at h
  split at h
  next c r =>
    refine vg_run (cuts := []) m_X7_mast 80 ?_
    refine And.intro trivial (And.intro (fun z => ?_) (fun z => ?_))
    · have e : mf_X7_mast [.inr (40, 0, 0), .inl (.int c), .inl (.int r)] = (1, 0) := by
        show (if _ then _ else _) = _
        rw [if_neg (jb_0.mp z)]
      rw [e]
      exact And.intro trivial ⟨rfl, rfl⟩
    have c1 : wp_c c := Classical.not_not.mp (fun y => z (jb_0.mpr y))
    refine And.intro trivial (And.intro (fun z => ?_) (fun z => ?_))
    · have e : mf_X7_mast [.inr (40, 0, 0), .inl (.int c), .inl (.int r)] = (2, 0) := by
        show (if _ then _ else _) = _
        rw [if_pos c1, if_neg (jb_0.mp z)]
      rw [e]
      exact And.intro trivial ⟨rfl, rfl⟩
    have c2 : wp_r r (0) (3) := Classical.not_not.mp (fun y => z (jb_0.mpr y))
    have e : mf_X7_mast [.inr (40, 0, 0), .inl (.int c), .inl (.int r)] = (0, 0) := by
      show (if _ then _ else _) = _
      rw [if_pos c1, if_pos c2]
    rw [e]
    have hs : σ (41, 0, 0) 13 = 0 := h.1.2.2.2.2.2.1
    refine And.intro (fun z => absurd (hs.symm.trans z) (by decide)) (fun _ => ?_)
    have hin : vp_in (σ (41, 0, 0) 13) 4 := jin (i := 0) hs (by decide) (by decide)
    refine And.intro hin (And.intro trivial ?_)
    refine And.intro rfl (And.intro ⟨rfl, rfl⟩ ?_)
    exact ⟨congrArg (fun x => some (Sum.inl (Value.int x))) hs, rfl⟩
  next => exact h.elim
theorem r_X7_mast {nm : List vgN} (hcl : vg_closed mm_shp nm) : vg_Met ww_tb [] mm_shp nm mm_cl mm_tyl yX7_mast cX7_mast 3 (some .int) 2 pm_X7_mast (fun av _ => mm_Po (mf_X7_mast av)) := vg_met hcl (by decide +kernel) rfl (s_X7_mast hcl) wm_X7_mast gm_X7_mast
def k_X7_lines : List (Nat × vgF) := [(0, vi_aload 0 1), (1, vi_icst (0) 2), (2, vi_put mm_shp 0 0 5), (5, vi_iload 1 6), (6, vi_icst (0) 7), (7, vi_icst (3) 8), (8, vi_callS sp_X7_in 3 11), (11, vi_if (fun x => x = 0) 14 20), (14, vi_aload 0 15), (15, vi_icst (1) 16), (16, vi_callV mm_shp 0 sp_X7_no 1 19), (19, vi_ret), (20, vi_aload 0 21), (21, vi_get mm_shp 0 1 24), (24, vi_get mm_shp 1 14 27), (27, vi_istore 2 28), (28, vi_aload 0 29), (29, vi_get mm_shp 0 1 32), (32, vi_iload 1 33), (33, vi_put mm_shp 1 14 36), (36, vi_iload 2 37), (37, vi_ret)]
set_option maxRecDepth 20000 in
theorem s_X7_lines {nm : List vgN} (hcl : vg_closed mm_shp nm) : ∀ q ∈ k_X7_lines, vg_Snd ww_tb [] mm_shp nm mm_cl mm_tyl cX7_lines 3 RX7 (some .int) 1 q.1 q.2 := by
  refine vg_cons (vs_aload_n dX7_lines_0 rfl rfl) ?_
  refine vg_cons (vs_iconst dX7_lines_1 rfl rfl) ?_
  refine vg_cons (vs_putfield (T := TX7) tyX7 dX7_lines_2 rfl (by decide) mm_inX7 tyX7_ok nmX7 rfl rfl u_201 rfl) ?_
  refine vg_cons (vs_iload_n dX7_lines_5 rfl rfl) ?_
  refine vg_cons (vs_iconst dX7_lines_6 rfl rfl) ?_
  refine vg_cons (vs_iconst dX7_lines_7 rfl rfl) ?_
  refine vg_cons (vs_callS (c_X7_in hcl) dX7_lines_8 ww_good u_197 u_198 u_200 u_199 (by decide +kernel) (by decide) rfl) ?_
  refine vg_cons (vs_if_ne dX7_lines_11 (by decide) rfl) ?_
  refine vg_cons (vs_aload_n dX7_lines_14 rfl rfl) ?_
  refine vg_cons (vs_iconst dX7_lines_15 rfl rfl) ?_
  refine vg_cons (vs_callV (T := TX7) (c_X7_no hcl) dX7_lines_16 rfl ww_good u_210 u_198 u_211 u_212 u_213 (by decide +kernel) (by decide) rfl) ?_
  refine vg_cons (vs_ireturn dX7_lines_19 rfl) ?_
  refine vg_cons (vs_aload_n dX7_lines_20 rfl rfl) ?_
  refine vg_cons (vs_getfield (T := TX7) dX7_lines_21 rfl (by decide) mm_inX7 u_202 rfl) ?_
  refine vg_cons (vs_getfield (T := TX6) dX7_lines_24 rfl (by decide) mm_inX6 u_230 rfl) ?_
  refine vg_cons (vs_istore_n dX7_lines_27 rfl (by decide) rfl) ?_
  refine vg_cons (vs_aload_n dX7_lines_28 rfl rfl) ?_
  refine vg_cons (vs_getfield (T := TX7) dX7_lines_29 rfl (by decide) mm_inX7 u_202 rfl) ?_
  refine vg_cons (vs_iload_n dX7_lines_32 rfl rfl) ?_
  refine vg_cons (vs_putfield (T := TX6) tyX6 dX7_lines_33 rfl (by decide) mm_inX6 tyX6_ok nmX6 rfl rfl u_230 rfl) ?_
  refine vg_cons (vs_iload_n dX7_lines_36 rfl rfl) ?_
  refine vg_cons (vs_ireturn dX7_lines_37 rfl) ?_
  exact fun _ h => absurd h List.not_mem_nil
theorem m_X7_lines : vg_Code k_X7_lines := fun q h => (s_X7_lines (nm := []) (fun n hn => nomatch hn) q h).1

def pm_X7_lines : vgT → vgS → Prop := fun av σ => match av with
  | [.inr (40, 0, 0), .inl (.int l)] => mm_fr σ
  | _ => False
def mf_X7_lines : vgT → Int32 × Int32 := fun av => match av with
  | [.inr (40, 0, 0), .inl (.int l)] => (if wp_r l (0) (3) then (0, 1) else (1, 0))
  | _ => (0, 0)
theorem wm_X7_lines : ∀ av σ, pm_X7_lines av σ → vg_wd av ≤ 3 := by
  intro av σ h
  unfold pm_X7_lines at h
  split at h
  · exact Nat.le_of_ble_eq_true rfl
  · exact h.elim
set_option maxRecDepth 20000 in
theorem gm_X7_lines : ∀ av σ, pm_X7_lines av σ → vg_Go k_X7_lines (mm_Po (mf_X7_lines av)) 0 (vg_args 0 av) [] σ := by
  intro av σ h
  unfold pm_X7_lines at h
  split at h
  next l =>
    refine vg_run (cuts := []) m_X7_lines 80 ?_
    refine And.intro trivial (And.intro (fun z => ?_) (fun z => ?_))
    · have e : mf_X7_lines [.inr (40, 0, 0), .inl (.int l)] = (1, 0) := by
        show (if _ then _ else _) = _
        rw [if_neg (jb_0.mp z)]
      rw [e]
      exact And.intro trivial ⟨rfl, rfl⟩
    have c1 : wp_r l (0) (3) := Classical.not_not.mp (fun y => z (jb_0.mpr y))
    have e : mf_X7_lines [.inr (40, 0, 0), .inl (.int l)] = (0, 1) := by
      show (if _ then _ else _) = _
      rw [if_pos c1]
    rw [e]
    exact ⟨congrArg (fun x => some (Sum.inl (Value.int x))) (show σ (41, 0, 0) 14 = 1 from h.1.2.2.2.2.2.2.1), rfl⟩
  next => exact h.elim
theorem r_X7_lines {nm : List vgN} (hcl : vg_closed mm_shp nm) : vg_Met ww_tb [] mm_shp nm mm_cl mm_tyl yX7_lines cX7_lines 3 (some .int) 1 pm_X7_lines (fun av _ => mm_Po (mf_X7_lines av)) := vg_met hcl (by decide +kernel) rfl (s_X7_lines hcl) wm_X7_lines gm_X7_lines
def k_X7_danger : List (Nat × vgF) := [(0, vi_aload 0 1), (1, vi_icst (0) 2), (2, vi_put mm_shp 0 0 5), (5, vi_iload 1 6), (6, vi_callS sp_X7_isCell 1 9), (9, vi_if (fun x => x = 0) 12 18), (12, vi_aload 0 13), (13, vi_icst (1) 14), (14, vi_callV mm_shp 0 sp_X7_no 1 17), (17, vi_ret), (18, vi_iload 2 19), (19, vi_icst (-1) 20), (20, vi_icst (999) 23), (23, vi_callS sp_X7_in 3 26), (26, vi_if (fun x => x = 0) 29 35), (29, vi_aload 0 30), (30, vi_icst (2) 31), (31, vi_callV mm_shp 0 sp_X7_no 1 34), (34, vi_ret), (35, vi_aload 0 36), (36, vi_get mm_shp 0 1 39), (39, vi_get mm_shp 1 6 42), (42, vi_iload 1 43), (43, vi_ald mm_shp 0 44), (44, vi_istore 3 45), (45, vi_aload 0 46), (46, vi_get mm_shp 0 1 49), (49, vi_get mm_shp 1 6 52), (52, vi_iload 1 53), (53, vi_iload 2 54), (54, vi_icst (-1) 55), (55, vi_cmp (fun x y => x = y) 58 62), (58, vi_icst (-1) 59), (59, vi_goto 71), (62, vi_aload 0 63), (63, vi_get mm_shp 0 1 66), (66, vi_get mm_shp 1 8 69), (69, vi_iload 2 70), (70, vi_bin (fun x y => x + y) 71), (71, vi_ast mm_shp 0 72), (72, vi_iload 3 73), (73, vi_ret)]
set_option maxRecDepth 20000 in
theorem s_X7_danger {nm : List vgN} (hcl : vg_closed mm_shp nm) : ∀ q ∈ k_X7_danger, vg_Snd ww_tb [] mm_shp nm mm_cl mm_tyl cX7_danger 4 RX7 (some .int) 2 q.1 q.2 := by
  refine vg_cons (vs_aload_n dX7_danger_0 rfl rfl) ?_
  refine vg_cons (vs_iconst dX7_danger_1 rfl rfl) ?_
  refine vg_cons (vs_putfield (T := TX7) tyX7 dX7_danger_2 rfl (by decide) mm_inX7 tyX7_ok nmX7 rfl rfl u_201 rfl) ?_
  refine vg_cons (vs_iload_n dX7_danger_5 rfl rfl) ?_
  refine vg_cons (vs_callS (c_X7_isCell hcl) dX7_danger_6 ww_good u_219 u_198 u_221 u_220 (by decide +kernel) (by decide) rfl) ?_
  refine vg_cons (vs_if_ne dX7_danger_9 (by decide) rfl) ?_
  refine vg_cons (vs_aload_n dX7_danger_12 rfl rfl) ?_
  refine vg_cons (vs_iconst dX7_danger_13 rfl rfl) ?_
  refine vg_cons (vs_callV (T := TX7) (c_X7_no hcl) dX7_danger_14 rfl ww_good u_210 u_198 u_211 u_212 u_213 (by decide +kernel) (by decide) rfl) ?_
  refine vg_cons (vs_ireturn dX7_danger_17 rfl) ?_
  refine vg_cons (vs_iload_n dX7_danger_18 rfl rfl) ?_
  refine vg_cons (vs_iconst dX7_danger_19 rfl rfl) ?_
  refine vg_cons (vs_sipush dX7_danger_20 (by decide) rfl) ?_
  refine vg_cons (vs_callS (c_X7_in hcl) dX7_danger_23 ww_good u_197 u_198 u_200 u_199 (by decide +kernel) (by decide) rfl) ?_
  refine vg_cons (vs_if_ne dX7_danger_26 (by decide) rfl) ?_
  refine vg_cons (vs_aload_n dX7_danger_29 rfl rfl) ?_
  refine vg_cons (vs_iconst dX7_danger_30 rfl rfl) ?_
  refine vg_cons (vs_callV (T := TX7) (c_X7_no hcl) dX7_danger_31 rfl ww_good u_210 u_198 u_211 u_212 u_213 (by decide +kernel) (by decide) rfl) ?_
  refine vg_cons (vs_ireturn dX7_danger_34 rfl) ?_
  refine vg_cons (vs_aload_n dX7_danger_35 rfl rfl) ?_
  refine vg_cons (vs_getfield (T := TX7) dX7_danger_36 rfl (by decide) mm_inX7 u_202 rfl) ?_
  refine vg_cons (vs_getfield (T := TX6) dX7_danger_39 rfl (by decide) mm_inX6 u_231 rfl) ?_
  refine vg_cons (vs_iload_n dX7_danger_42 rfl rfl) ?_
  refine vg_cons (vs_iaload dX7_danger_43 rfl rfl) ?_
  refine vg_cons (vs_istore_n dX7_danger_44 rfl (by decide) rfl) ?_
  refine vg_cons (vs_aload_n dX7_danger_45 rfl rfl) ?_
  refine vg_cons (vs_getfield (T := TX7) dX7_danger_46 rfl (by decide) mm_inX7 u_202 rfl) ?_
  refine vg_cons (vs_getfield (T := TX6) dX7_danger_49 rfl (by decide) mm_inX6 u_231 rfl) ?_
  refine vg_cons (vs_iload_n dX7_danger_52 rfl rfl) ?_
  refine vg_cons (vs_iload_n dX7_danger_53 rfl rfl) ?_
  refine vg_cons (vs_iconst dX7_danger_54 rfl rfl) ?_
  refine vg_cons (vs_cmp_ne dX7_danger_55 (by decide) rfl) ?_
  refine vg_cons (vs_iconst dX7_danger_58 rfl rfl) ?_
  refine vg_cons (vs_goto dX7_danger_59 (by decide)) ?_
  refine vg_cons (vs_aload_n dX7_danger_62 rfl rfl) ?_
  refine vg_cons (vs_getfield (T := TX7) dX7_danger_63 rfl (by decide) mm_inX7 u_202 rfl) ?_
  refine vg_cons (vs_getfield (T := TX6) dX7_danger_66 rfl (by decide) mm_inX6 u_232 rfl) ?_
  refine vg_cons (vs_iload_n dX7_danger_69 rfl rfl) ?_
  refine vg_cons (vs_iadd dX7_danger_70 rfl) ?_
  refine vg_cons (vs_iastore dX7_danger_71 rfl rfl) ?_
  refine vg_cons (vs_iload_n dX7_danger_72 rfl rfl) ?_
  refine vg_cons (vs_ireturn dX7_danger_73 rfl) ?_
  exact fun _ h => absurd h List.not_mem_nil
theorem m_X7_danger : vg_Code k_X7_danger := fun q h => (s_X7_danger (nm := []) (fun n hn => nomatch hn) q h).1

def pm_X7_danger : vgT → vgS → Prop := fun av σ => match av with
  | [.inr (40, 0, 0), .inl (.int c), .inl (.int a)] => mm_fr σ
  | _ => False
def mf_X7_danger : vgT → Int32 × Int32 := fun av => match av with
  | [.inr (40, 0, 0), .inl (.int c), .inl (.int a)] => (if wp_c c then (if wp_r a (-1) (999) then (0, (-1)) else (2, 0)) else (1, 0))
  | _ => (0, 0)
theorem wm_X7_danger : ∀ av σ, pm_X7_danger av σ → vg_wd av ≤ 4 := by
  intro av σ h
  unfold pm_X7_danger at h
  split at h
  · exact Nat.le_of_ble_eq_true rfl
  · exact h.elim
set_option maxRecDepth 20000 in
theorem gm_X7_danger : ∀ av σ, pm_X7_danger av σ → vg_Go k_X7_danger (mm_Po (mf_X7_danger av)) 0 (vg_args 0 av) [] σ := by
  intro av σ h
  unfold pm_X7_danger at h
  split at h
  next c a =>
    refine vg_run (cuts := []) m_X7_danger 80 ?_
    refine And.intro trivial (And.intro (fun z => ?_) (fun z => ?_))
    · have e : mf_X7_danger [.inr (40, 0, 0), .inl (.int c), .inl (.int a)] = (1, 0) := by
        show (if _ then _ else _) = _
        rw [if_neg (jb_0.mp z)]
      rw [e]
      exact And.intro trivial ⟨rfl, rfl⟩
    have c1 : wp_c c := Classical.not_not.mp (fun y => z (jb_0.mpr y))
    refine And.intro trivial (And.intro (fun z => ?_) (fun z => ?_))
    · have e : mf_X7_danger [.inr (40, 0, 0), .inl (.int c), .inl (.int a)] = (2, 0) := by
        show (if _ then _ else _) = _
        rw [if_pos c1, if_neg (jb_0.mp z)]
      rw [e]
      exact And.intro trivial ⟨rfl, rfl⟩
    have c2 : wp_r a (-1) (999) := Classical.not_not.mp (fun y => z (jb_0.mpr y))
    have e : mf_X7_danger [.inr (40, 0, 0), .inl (.int c), .inl (.int a)] = (0, (-1)) := by
      show (if _ then _ else _) = _
      rw [if_pos c1, if_pos c2]
    rw [e]
    have hv : vp_in c 16 := jc16.mpr c1
    have h6 : σ (48, 0, 0) c.toNatClampNeg = -1 := h.2.2 _ (by rcases Nat.lt_or_ge c.toNatClampNeg 16 with y | y; exact y; exact absurd (Or.inr y) hv)
    refine And.intro hv ?_
    refine And.intro (fun _ => And.intro hv ?_) (fun _ => And.intro hv ?_)
    · exact ⟨congrArg (fun x => some (Sum.inl (Value.int x))) h6, rfl⟩
    · exact ⟨congrArg (fun x => some (Sum.inl (Value.int x))) h6, rfl⟩
  next => exact h.elim
theorem r_X7_danger {nm : List vgN} (hcl : vg_closed mm_shp nm) : vg_Met ww_tb [] mm_shp nm mm_cl mm_tyl yX7_danger cX7_danger 4 (some .int) 2 pm_X7_danger (fun av _ => mm_Po (mf_X7_danger av)) := vg_met hcl (by decide +kernel) rfl (s_X7_danger hcl) wm_X7_danger gm_X7_danger
