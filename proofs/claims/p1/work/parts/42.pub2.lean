-- words of the tables, and what stands at each place of the methods' code (laid by program)
theorem u_75 : Cond.code yX5_checkCell cX5_checkCell 1 none ∈ ww_tb := by decide +kernel
theorem u_76 : Cond.static yX5_checkCell ∈ ww_tb := by decide +kernel
theorem u_77 : Cond.methodLink RX5 19 yX5_checkCell ∈ ww_tb := by decide +kernel
theorem u_78 : Cond.fieldLink RX5 38 (TX1 7).1 (TX1 7).2.1 (TX1 7).2.2.1 ∈ ww_tb := by decide +kernel
theorem u_79 : Cond.fieldLink RX5 42 (TX0 0).1 (TX0 0).2.1 (TX0 0).2.2.1 ∈ ww_tb := by decide +kernel
theorem u_80 : Cond.fieldLink RX5 47 (TX0 1).1 (TX0 1).2.1 (TX0 1).2.2.1 ∈ ww_tb := by decide +kernel
theorem u_81 : Cond.fieldLink RX5 50 (TX0 2).1 (TX0 2).2.1 (TX0 2).2.2.1 ∈ ww_tb := by decide +kernel
theorem u_82 : Cond.fieldLink RX5 53 (TX0 4).1 (TX0 4).2.1 (TX0 4).2.2.1 ∈ ww_tb := by decide +kernel
theorem u_83 : Cond.fieldLink RX5 57 (TX0 5).1 (TX0 5).2.1 (TX0 5).2.2.1 ∈ ww_tb := by decide +kernel
theorem u_84 : Cond.fieldLink RX5 66 (TX1 5).1 (TX1 5).2.1 (TX1 5).2.2.1 ∈ ww_tb := by decide +kernel
theorem u_85 : Cond.fieldLink RX5 71 (TX1 8).1 (TX1 8).2.1 (TX1 8).2.2.1 ∈ ww_tb := by decide +kernel
theorem u_86 : Cond.fieldLink RX5 75 (TX3 0).1 (TX3 0).2.1 (TX3 0).2.2.1 ∈ ww_tb := by decide +kernel
theorem u_87 : Cond.fieldLink RX5 78 (TX3 1).1 (TX3 1).2.1 (TX3 1).2.2.1 ∈ ww_tb := by decide +kernel
theorem u_88 : Cond.fieldLink RX5 81 (TX1 10).1 (TX1 10).2.1 (TX1 10).2.2.1 ∈ ww_tb := by decide +kernel
theorem u_89 : Cond.fieldLink RX5 85 (TX2 3).1 (TX2 3).2.1 (TX2 3).2.2.1 ∈ ww_tb := by decide +kernel
theorem u_90 : Cond.code yX2_add cX2_add 3 (some .int) ∈ ww_tb := by decide +kernel
theorem u_91 : Cond.methodLink RX5 92 yX2_add ∈ ww_tb := by decide +kernel
theorem u_92 : Cond.instanceMethod yX2_add ∈ ww_tb := by decide +kernel
theorem u_93 : Cond.selects RX2 yX2_add yX2_add ∈ ww_tb := by decide +kernel
theorem u_94 : Cond.fieldLink RX5 96 (TX1 11).1 (TX1 11).2.1 (TX1 11).2.2.1 ∈ ww_tb := by decide +kernel
theorem u_95 : Cond.fieldLink RX5 105 (TX1 1).1 (TX1 1).2.1 (TX1 1).2.2.1 ∈ ww_tb := by decide +kernel
theorem u_96 : Cond.fieldLink RX5 108 (TX1 12).1 (TX1 12).2.1 (TX1 12).2.2.1 ∈ ww_tb := by decide +kernel
theorem u_97 : Cond.fieldLink RX5 112 (TX1 0).1 (TX1 0).2.1 (TX1 0).2.2.1 ∈ ww_tb := by decide +kernel
theorem u_98 : Cond.code yX5_checkOfficer cX5_checkOfficer 1 none ∈ ww_tb := by decide +kernel
theorem u_99 : Cond.static yX5_checkOfficer ∈ ww_tb := by decide +kernel
theorem u_100 : Cond.methodLink RX5 115 yX5_checkOfficer ∈ ww_tb := by decide +kernel
theorem u_101 : Cond.fieldLink RX5 118 (TX1 2).1 (TX1 2).2.1 (TX1 2).2.2.1 ∈ ww_tb := by decide +kernel
theorem u_102 : Cond.code yX5_isIn cX5_isIn 2 (some .boolean) ∈ ww_tb := by decide +kernel
theorem u_103 : Cond.static yX5_isIn ∈ ww_tb := by decide +kernel
theorem u_104 : Cond.methodLink RX5 121 yX5_isIn ∈ ww_tb := by decide +kernel
theorem dX5_group_0 : decode cX5_group 0 = .ok (.iload_n 1, 1) := by decide +kernel
theorem dX5_group_1 : decode cX5_group 1 = .ok (.invokestatic 19, 3) := by decide +kernel
theorem dX5_group_4 : decode cX5_group 4 = .ok (.iload_n 2, 1) := by decide +kernel
theorem dX5_group_5 : decode cX5_group 5 = .ok (.iconst 1, 1) := by decide +kernel
theorem dX5_group_6 : decode cX5_group 6 = .ok (.bipush 99, 2) := by decide +kernel
theorem dX5_group_8 : decode cX5_group 8 = .ok (.invokestatic 23, 3) := by decide +kernel
theorem dX5_group_11 : decode cX5_group 11 = .ok (.iload_n 3, 1) := by decide +kernel
theorem dX5_group_12 : decode cX5_group 12 = .ok (.iconst 0, 1) := by decide +kernel
theorem dX5_group_13 : decode cX5_group 13 = .ok (.iconst 2, 1) := by decide +kernel
theorem dX5_group_14 : decode cX5_group 14 = .ok (.invokestatic 23, 3) := by decide +kernel
theorem dX5_group_17 : decode cX5_group 17 = .ok (.aload_n 0, 1) := by decide +kernel
theorem dX5_group_18 : decode cX5_group 18 = .ok (.getfield 10, 3) := by decide +kernel
theorem dX5_group_21 : decode cX5_group 21 = .ok (.getfield 27, 3) := by decide +kernel
theorem dX5_group_24 : decode cX5_group 24 = .ok (.bipush 8, 2) := by decide +kernel
theorem dX5_group_26 : decode cX5_group 26 = .ok (.if_icmp .lt 13, 3) := by decide +kernel
theorem dX5_group_29 : decode cX5_group 29 = .ok (.new 31, 3) := by decide +kernel
theorem dX5_group_32 : decode cX5_group 32 = .ok (.dup, 1) := by decide +kernel
theorem dX5_group_33 : decode cX5_group 33 = .ok (.ldc 33, 2) := by decide +kernel
theorem dX5_group_35 : decode cX5_group 35 = .ok (.invokespecial 35, 3) := by decide +kernel
theorem dX5_group_38 : decode cX5_group 38 = .ok (.athrow, 1) := by decide +kernel
theorem dX5_group_39 : decode cX5_group 39 = .ok (.aload_n 0, 1) := by decide +kernel
theorem dX5_group_40 : decode cX5_group 40 = .ok (.getfield 10, 3) := by decide +kernel
theorem dX5_group_43 : decode cX5_group 43 = .ok (.getfield 38, 3) := by decide +kernel
theorem dX5_group_46 : decode cX5_group 46 = .ok (.aload_n 0, 1) := by decide +kernel
theorem dX5_group_47 : decode cX5_group 47 = .ok (.getfield 10, 3) := by decide +kernel
theorem dX5_group_50 : decode cX5_group 50 = .ok (.getfield 27, 3) := by decide +kernel
theorem dX5_group_53 : decode cX5_group 53 = .ok (.aaload, 1) := by decide +kernel
theorem dX5_group_54 : decode cX5_group 54 = .ok (.astore 6, 2) := by decide +kernel
theorem dX5_group_56 : decode cX5_group 56 = .ok (.aload 6, 2) := by decide +kernel
theorem dX5_group_58 : decode cX5_group 58 = .ok (.iload_n 1, 1) := by decide +kernel
theorem dX5_group_59 : decode cX5_group 59 = .ok (.putfield 42, 3) := by decide +kernel
theorem dX5_group_62 : decode cX5_group 62 = .ok (.aload 6, 2) := by decide +kernel
theorem dX5_group_64 : decode cX5_group 64 = .ok (.iload_n 2, 1) := by decide +kernel
theorem dX5_group_65 : decode cX5_group 65 = .ok (.putfield 47, 3) := by decide +kernel
theorem dX5_group_68 : decode cX5_group 68 = .ok (.aload 6, 2) := by decide +kernel
theorem dX5_group_70 : decode cX5_group 70 = .ok (.iload_n 3, 1) := by decide +kernel
theorem dX5_group_71 : decode cX5_group 71 = .ok (.putfield 50, 3) := by decide +kernel
theorem dX5_group_74 : decode cX5_group 74 = .ok (.aload 6, 2) := by decide +kernel
theorem dX5_group_76 : decode cX5_group 76 = .ok (.iload 4, 2) := by decide +kernel
theorem dX5_group_78 : decode cX5_group 78 = .ok (.putfield 53, 3) := by decide +kernel
theorem dX5_group_81 : decode cX5_group 81 = .ok (.aload 6, 2) := by decide +kernel
theorem dX5_group_83 : decode cX5_group 83 = .ok (.iload 5, 2) := by decide +kernel
theorem dX5_group_85 : decode cX5_group 85 = .ok (.putfield 57, 3) := by decide +kernel
theorem dX5_group_88 : decode cX5_group 88 = .ok (.aload_n 0, 1) := by decide +kernel
theorem dX5_group_89 : decode cX5_group 89 = .ok (.getfield 10, 3) := by decide +kernel
theorem dX5_group_92 : decode cX5_group 92 = .ok (.dup, 1) := by decide +kernel
theorem dX5_group_93 : decode cX5_group 93 = .ok (.getfield 27, 3) := by decide +kernel
theorem dX5_group_96 : decode cX5_group 96 = .ok (.dup_x1, 1) := by decide +kernel
theorem dX5_group_97 : decode cX5_group 97 = .ok (.iconst 1, 1) := by decide +kernel
theorem dX5_group_98 : decode cX5_group 98 = .ok (.iadd, 1) := by decide +kernel
theorem dX5_group_99 : decode cX5_group 99 = .ok (.putfield 27, 3) := by decide +kernel
theorem dX5_group_102 : decode cX5_group 102 = .ok (.ireturn, 1) := by decide +kernel
theorem dX5_shelter_0 : decode cX5_shelter 0 = .ok (.iload_n 1, 1) := by decide +kernel
theorem dX5_shelter_1 : decode cX5_shelter 1 = .ok (.invokestatic 19, 3) := by decide +kernel
theorem dX5_shelter_4 : decode cX5_shelter 4 = .ok (.iload_n 2, 1) := by decide +kernel
theorem dX5_shelter_5 : decode cX5_shelter 5 = .ok (.iconst 1, 1) := by decide +kernel
theorem dX5_shelter_6 : decode cX5_shelter 6 = .ok (.sipush 200, 3) := by decide +kernel
theorem dX5_shelter_9 : decode cX5_shelter 9 = .ok (.invokestatic 23, 3) := by decide +kernel
theorem dX5_shelter_12 : decode cX5_shelter 12 = .ok (.aload_n 0, 1) := by decide +kernel
theorem dX5_shelter_13 : decode cX5_shelter 13 = .ok (.getfield 10, 3) := by decide +kernel
theorem dX5_shelter_16 : decode cX5_shelter 16 = .ok (.getfield 66, 3) := by decide +kernel
theorem dX5_shelter_19 : decode cX5_shelter 19 = .ok (.iconst 3, 1) := by decide +kernel
theorem dX5_shelter_20 : decode cX5_shelter 20 = .ok (.if_icmp .lt 13, 3) := by decide +kernel
theorem dX5_shelter_23 : decode cX5_shelter 23 = .ok (.new 31, 3) := by decide +kernel
theorem dX5_shelter_26 : decode cX5_shelter 26 = .ok (.dup, 1) := by decide +kernel
theorem dX5_shelter_27 : decode cX5_shelter 27 = .ok (.ldc 69, 2) := by decide +kernel
theorem dX5_shelter_29 : decode cX5_shelter 29 = .ok (.invokespecial 35, 3) := by decide +kernel
theorem dX5_shelter_32 : decode cX5_shelter 32 = .ok (.athrow, 1) := by decide +kernel
theorem dX5_shelter_33 : decode cX5_shelter 33 = .ok (.aload_n 0, 1) := by decide +kernel
theorem dX5_shelter_34 : decode cX5_shelter 34 = .ok (.getfield 10, 3) := by decide +kernel
theorem dX5_shelter_37 : decode cX5_shelter 37 = .ok (.getfield 71, 3) := by decide +kernel
theorem dX5_shelter_40 : decode cX5_shelter 40 = .ok (.aload_n 0, 1) := by decide +kernel
theorem dX5_shelter_41 : decode cX5_shelter 41 = .ok (.getfield 10, 3) := by decide +kernel
theorem dX5_shelter_44 : decode cX5_shelter 44 = .ok (.getfield 66, 3) := by decide +kernel
theorem dX5_shelter_47 : decode cX5_shelter 47 = .ok (.aaload, 1) := by decide +kernel
theorem dX5_shelter_48 : decode cX5_shelter 48 = .ok (.astore_n 3, 1) := by decide +kernel
theorem dX5_shelter_49 : decode cX5_shelter 49 = .ok (.aload_n 3, 1) := by decide +kernel
theorem dX5_shelter_50 : decode cX5_shelter 50 = .ok (.iload_n 1, 1) := by decide +kernel
theorem dX5_shelter_51 : decode cX5_shelter 51 = .ok (.putfield 75, 3) := by decide +kernel
theorem dX5_shelter_54 : decode cX5_shelter 54 = .ok (.aload_n 3, 1) := by decide +kernel
theorem dX5_shelter_55 : decode cX5_shelter 55 = .ok (.iload_n 2, 1) := by decide +kernel
theorem dX5_shelter_56 : decode cX5_shelter 56 = .ok (.putfield 78, 3) := by decide +kernel
theorem dX5_shelter_59 : decode cX5_shelter 59 = .ok (.aload_n 0, 1) := by decide +kernel
theorem dX5_shelter_60 : decode cX5_shelter 60 = .ok (.getfield 10, 3) := by decide +kernel
theorem dX5_shelter_63 : decode cX5_shelter 63 = .ok (.dup, 1) := by decide +kernel
theorem dX5_shelter_64 : decode cX5_shelter 64 = .ok (.getfield 66, 3) := by decide +kernel
theorem dX5_shelter_67 : decode cX5_shelter 67 = .ok (.dup_x1, 1) := by decide +kernel
theorem dX5_shelter_68 : decode cX5_shelter 68 = .ok (.iconst 1, 1) := by decide +kernel
theorem dX5_shelter_69 : decode cX5_shelter 69 = .ok (.iadd, 1) := by decide +kernel
theorem dX5_shelter_70 : decode cX5_shelter 70 = .ok (.putfield 66, 3) := by decide +kernel
theorem dX5_shelter_73 : decode cX5_shelter 73 = .ok (.ireturn, 1) := by decide +kernel
theorem dX5_siren_0 : decode cX5_siren 0 = .ok (.iload_n 1, 1) := by decide +kernel
theorem dX5_siren_1 : decode cX5_siren 1 = .ok (.invokestatic 19, 3) := by decide +kernel
theorem dX5_siren_4 : decode cX5_siren 4 = .ok (.iload_n 2, 1) := by decide +kernel
theorem dX5_siren_5 : decode cX5_siren 5 = .ok (.iconst 0, 1) := by decide +kernel
theorem dX5_siren_6 : decode cX5_siren 6 = .ok (.iconst 3, 1) := by decide +kernel
theorem dX5_siren_7 : decode cX5_siren 7 = .ok (.invokestatic 23, 3) := by decide +kernel
theorem dX5_siren_10 : decode cX5_siren 10 = .ok (.aload_n 0, 1) := by decide +kernel
theorem dX5_siren_11 : decode cX5_siren 11 = .ok (.getfield 10, 3) := by decide +kernel
theorem dX5_siren_14 : decode cX5_siren 14 = .ok (.getfield 81, 3) := by decide +kernel
theorem dX5_siren_17 : decode cX5_siren 17 = .ok (.getfield 85, 3) := by decide +kernel
theorem dX5_siren_20 : decode cX5_siren 20 = .ok (.iconst 4, 1) := by decide +kernel
theorem dX5_siren_21 : decode cX5_siren 21 = .ok (.if_icmp .lt 13, 3) := by decide +kernel
theorem dX5_siren_24 : decode cX5_siren 24 = .ok (.new 31, 3) := by decide +kernel
theorem dX5_siren_27 : decode cX5_siren 27 = .ok (.dup, 1) := by decide +kernel
theorem dX5_siren_28 : decode cX5_siren 28 = .ok (.ldc 90, 2) := by decide +kernel
theorem dX5_siren_30 : decode cX5_siren 30 = .ok (.invokespecial 35, 3) := by decide +kernel
theorem dX5_siren_33 : decode cX5_siren 33 = .ok (.athrow, 1) := by decide +kernel
theorem dX5_siren_34 : decode cX5_siren 34 = .ok (.aload_n 0, 1) := by decide +kernel
theorem dX5_siren_35 : decode cX5_siren 35 = .ok (.getfield 10, 3) := by decide +kernel
theorem dX5_siren_38 : decode cX5_siren 38 = .ok (.getfield 81, 3) := by decide +kernel
theorem dX5_siren_41 : decode cX5_siren 41 = .ok (.iload_n 1, 1) := by decide +kernel
theorem dX5_siren_42 : decode cX5_siren 42 = .ok (.iload_n 2, 1) := by decide +kernel
theorem dX5_siren_43 : decode cX5_siren 43 = .ok (.invokevirtual 92, 3) := by decide +kernel
theorem dX5_siren_46 : decode cX5_siren 46 = .ok (.ireturn, 1) := by decide +kernel
theorem dX5_mast_0 : decode cX5_mast 0 = .ok (.iload_n 1, 1) := by decide +kernel
theorem dX5_mast_1 : decode cX5_mast 1 = .ok (.invokestatic 19, 3) := by decide +kernel
theorem dX5_mast_4 : decode cX5_mast 4 = .ok (.iload_n 2, 1) := by decide +kernel
theorem dX5_mast_5 : decode cX5_mast 5 = .ok (.iconst 0, 1) := by decide +kernel
theorem dX5_mast_6 : decode cX5_mast 6 = .ok (.iconst 3, 1) := by decide +kernel
theorem dX5_mast_7 : decode cX5_mast 7 = .ok (.invokestatic 23, 3) := by decide +kernel
theorem dX5_mast_10 : decode cX5_mast 10 = .ok (.aload_n 0, 1) := by decide +kernel
theorem dX5_mast_11 : decode cX5_mast 11 = .ok (.getfield 10, 3) := by decide +kernel
theorem dX5_mast_14 : decode cX5_mast 14 = .ok (.getfield 96, 3) := by decide +kernel
theorem dX5_mast_17 : decode cX5_mast 17 = .ok (.getfield 85, 3) := by decide +kernel
theorem dX5_mast_20 : decode cX5_mast 20 = .ok (.iconst 4, 1) := by decide +kernel
theorem dX5_mast_21 : decode cX5_mast 21 = .ok (.if_icmp .lt 13, 3) := by decide +kernel
theorem dX5_mast_24 : decode cX5_mast 24 = .ok (.new 31, 3) := by decide +kernel
theorem dX5_mast_27 : decode cX5_mast 27 = .ok (.dup, 1) := by decide +kernel
theorem dX5_mast_28 : decode cX5_mast 28 = .ok (.ldc 99, 2) := by decide +kernel
theorem dX5_mast_30 : decode cX5_mast 30 = .ok (.invokespecial 35, 3) := by decide +kernel
theorem dX5_mast_33 : decode cX5_mast 33 = .ok (.athrow, 1) := by decide +kernel
theorem dX5_mast_34 : decode cX5_mast 34 = .ok (.aload_n 0, 1) := by decide +kernel
theorem dX5_mast_35 : decode cX5_mast 35 = .ok (.getfield 10, 3) := by decide +kernel
theorem dX5_mast_38 : decode cX5_mast 38 = .ok (.getfield 96, 3) := by decide +kernel
theorem dX5_mast_41 : decode cX5_mast 41 = .ok (.iload_n 1, 1) := by decide +kernel
theorem dX5_mast_42 : decode cX5_mast 42 = .ok (.iload_n 2, 1) := by decide +kernel
theorem dX5_mast_43 : decode cX5_mast 43 = .ok (.invokevirtual 92, 3) := by decide +kernel
theorem dX5_mast_46 : decode cX5_mast 46 = .ok (.ireturn, 1) := by decide +kernel
theorem dX5_lines_0 : decode cX5_lines 0 = .ok (.iload_n 1, 1) := by decide +kernel
theorem dX5_lines_1 : decode cX5_lines 1 = .ok (.iconst 0, 1) := by decide +kernel
theorem dX5_lines_2 : decode cX5_lines 2 = .ok (.iconst 3, 1) := by decide +kernel
theorem dX5_lines_3 : decode cX5_lines 3 = .ok (.invokestatic 23, 3) := by decide +kernel
theorem dX5_lines_6 : decode cX5_lines 6 = .ok (.aload_n 0, 1) := by decide +kernel
theorem dX5_lines_7 : decode cX5_lines 7 = .ok (.getfield 10, 3) := by decide +kernel
theorem dX5_lines_10 : decode cX5_lines 10 = .ok (.getfield 105, 3) := by decide +kernel
theorem dX5_lines_13 : decode cX5_lines 13 = .ok (.istore_n 2, 1) := by decide +kernel
theorem dX5_lines_14 : decode cX5_lines 14 = .ok (.aload_n 0, 1) := by decide +kernel
theorem dX5_lines_15 : decode cX5_lines 15 = .ok (.getfield 10, 3) := by decide +kernel
theorem dX5_lines_18 : decode cX5_lines 18 = .ok (.iload_n 1, 1) := by decide +kernel
theorem dX5_lines_19 : decode cX5_lines 19 = .ok (.putfield 105, 3) := by decide +kernel
theorem dX5_lines_22 : decode cX5_lines 22 = .ok (.iload_n 2, 1) := by decide +kernel
theorem dX5_lines_23 : decode cX5_lines 23 = .ok (.ireturn, 1) := by decide +kernel
theorem dX5_danger_0 : decode cX5_danger 0 = .ok (.iload_n 1, 1) := by decide +kernel
theorem dX5_danger_1 : decode cX5_danger 1 = .ok (.invokestatic 19, 3) := by decide +kernel
theorem dX5_danger_4 : decode cX5_danger 4 = .ok (.iload_n 2, 1) := by decide +kernel
theorem dX5_danger_5 : decode cX5_danger 5 = .ok (.iconst (-1), 1) := by decide +kernel
theorem dX5_danger_6 : decode cX5_danger 6 = .ok (.sipush 999, 3) := by decide +kernel
theorem dX5_danger_9 : decode cX5_danger 9 = .ok (.invokestatic 23, 3) := by decide +kernel
theorem dX5_danger_12 : decode cX5_danger 12 = .ok (.aload_n 0, 1) := by decide +kernel
theorem dX5_danger_13 : decode cX5_danger 13 = .ok (.getfield 10, 3) := by decide +kernel
theorem dX5_danger_16 : decode cX5_danger 16 = .ok (.getfield 108, 3) := by decide +kernel
theorem dX5_danger_19 : decode cX5_danger 19 = .ok (.iload_n 1, 1) := by decide +kernel
theorem dX5_danger_20 : decode cX5_danger 20 = .ok (.iaload, 1) := by decide +kernel
theorem dX5_danger_21 : decode cX5_danger 21 = .ok (.istore_n 3, 1) := by decide +kernel
theorem dX5_danger_22 : decode cX5_danger 22 = .ok (.aload_n 0, 1) := by decide +kernel
theorem dX5_danger_23 : decode cX5_danger 23 = .ok (.getfield 10, 3) := by decide +kernel
theorem dX5_danger_26 : decode cX5_danger 26 = .ok (.getfield 108, 3) := by decide +kernel
theorem dX5_danger_29 : decode cX5_danger 29 = .ok (.iload_n 1, 1) := by decide +kernel
theorem dX5_danger_30 : decode cX5_danger 30 = .ok (.iload_n 2, 1) := by decide +kernel
theorem dX5_danger_31 : decode cX5_danger 31 = .ok (.iconst (-1), 1) := by decide +kernel
theorem dX5_danger_32 : decode cX5_danger 32 = .ok (.if_icmp .ne 7, 3) := by decide +kernel
theorem dX5_danger_35 : decode cX5_danger 35 = .ok (.iconst (-1), 1) := by decide +kernel
theorem dX5_danger_36 : decode cX5_danger 36 = .ok (.goto 12, 3) := by decide +kernel
theorem dX5_danger_39 : decode cX5_danger 39 = .ok (.aload_n 0, 1) := by decide +kernel
theorem dX5_danger_40 : decode cX5_danger 40 = .ok (.getfield 10, 3) := by decide +kernel
theorem dX5_danger_43 : decode cX5_danger 43 = .ok (.getfield 112, 3) := by decide +kernel
theorem dX5_danger_46 : decode cX5_danger 46 = .ok (.iload_n 2, 1) := by decide +kernel
theorem dX5_danger_47 : decode cX5_danger 47 = .ok (.iadd, 1) := by decide +kernel
theorem dX5_danger_48 : decode cX5_danger 48 = .ok (.iastore, 1) := by decide +kernel
theorem dX5_danger_49 : decode cX5_danger 49 = .ok (.iload_n 3, 1) := by decide +kernel
theorem dX5_danger_50 : decode cX5_danger 50 = .ok (.ireturn, 1) := by decide +kernel
theorem dX5_key_0 : decode cX5_key 0 = .ok (.iload_n 1, 1) := by decide +kernel
theorem dX5_key_1 : decode cX5_key 1 = .ok (.invokestatic 115, 3) := by decide +kernel
theorem dX5_key_4 : decode cX5_key 4 = .ok (.aload_n 0, 1) := by decide +kernel
theorem dX5_key_5 : decode cX5_key 5 = .ok (.getfield 10, 3) := by decide +kernel
theorem dX5_key_8 : decode cX5_key 8 = .ok (.getfield 118, 3) := by decide +kernel
theorem dX5_key_11 : decode cX5_key 11 = .ok (.iload_n 1, 1) := by decide +kernel
theorem dX5_key_12 : decode cX5_key 12 = .ok (.invokestatic 121, 3) := by decide +kernel
theorem dX5_key_15 : decode cX5_key 15 = .ok (.istore_n 3, 1) := by decide +kernel
theorem dX5_key_16 : decode cX5_key 16 = .ok (.aload_n 0, 1) := by decide +kernel
theorem dX5_key_17 : decode cX5_key 17 = .ok (.getfield 10, 3) := by decide +kernel
theorem dX5_key_20 : decode cX5_key 20 = .ok (.iload_n 2, 1) := by decide +kernel
theorem dX5_key_21 : decode cX5_key 21 = .ok (.ifCond .eq 17, 3) := by decide +kernel
theorem dX5_key_24 : decode cX5_key 24 = .ok (.aload_n 0, 1) := by decide +kernel
theorem dX5_key_25 : decode cX5_key 25 = .ok (.getfield 10, 3) := by decide +kernel
theorem dX5_key_28 : decode cX5_key 28 = .ok (.getfield 118, 3) := by decide +kernel
theorem dX5_key_31 : decode cX5_key 31 = .ok (.iconst 1, 1) := by decide +kernel
theorem dX5_key_32 : decode cX5_key 32 = .ok (.iload_n 1, 1) := by decide +kernel
theorem dX5_key_33 : decode cX5_key 33 = .ok (.ishl, 1) := by decide +kernel
theorem dX5_key_34 : decode cX5_key 34 = .ok (.ior, 1) := by decide +kernel
theorem dX5_key_35 : decode cX5_key 35 = .ok (.goto 16, 3) := by decide +kernel
theorem dX5_key_38 : decode cX5_key 38 = .ok (.aload_n 0, 1) := by decide +kernel
theorem dX5_key_39 : decode cX5_key 39 = .ok (.getfield 10, 3) := by decide +kernel
theorem dX5_key_42 : decode cX5_key 42 = .ok (.getfield 118, 3) := by decide +kernel
theorem dX5_key_45 : decode cX5_key 45 = .ok (.iconst 1, 1) := by decide +kernel
theorem dX5_key_46 : decode cX5_key 46 = .ok (.iload_n 1, 1) := by decide +kernel
theorem dX5_key_47 : decode cX5_key 47 = .ok (.ishl, 1) := by decide +kernel
theorem dX5_key_48 : decode cX5_key 48 = .ok (.iconst (-1), 1) := by decide +kernel
theorem dX5_key_49 : decode cX5_key 49 = .ok (.ixor, 1) := by decide +kernel
theorem dX5_key_50 : decode cX5_key 50 = .ok (.iand, 1) := by decide +kernel
theorem dX5_key_51 : decode cX5_key 51 = .ok (.putfield 118, 3) := by decide +kernel
theorem dX5_key_54 : decode cX5_key 54 = .ok (.iload_n 3, 1) := by decide +kernel
theorem dX5_key_55 : decode cX5_key 55 = .ok (.ireturn, 1) := by decide +kernel
theorem jle15 (c : Int32) : c < (15 : Int32) + 1 ↔ c ≤ 15 := by
  rw [Int32.lt_iff_toInt_lt, Int32.le_iff_toInt_le, show ((15 : Int32) + 1).toInt = 16 from by decide, show (15 : Int32).toInt = 15 from by decide]
  omega
theorem jle3 (c : Int32) : c < (3 : Int32) + 1 ↔ c ≤ 3 := by
  rw [Int32.lt_iff_toInt_lt, Int32.le_iff_toInt_le, show ((3 : Int32) + 1).toInt = 4 from by decide, show (3 : Int32).toInt = 3 from by decide]
  omega
theorem jc16 {c : Int32} : vp_in c 16 ↔ (¬ c < 0 ∧ c ≤ 15) := by
  constructor
  · intro h
    have := jlt h (by decide)
    exact ⟨this.1, by have h2 := this.2; rw [show (nI 16) = (15 : Int32) + 1 from rfl] at h2; exact (jle15 c).mp h2⟩
  · intro h
    exact jin0 (by decide) h.1 (by rw [show (nI 16) = (15 : Int32) + 1 from rfl]; have h2 := h.2; exact (jle15 c).mpr h2)
theorem jc4 {c : Int32} : vp_in c 4 ↔ (¬ c < 0 ∧ c ≤ 3) := by
  constructor
  · intro h
    have := jlt h (by decide)
    exact ⟨this.1, by have h2 := this.2; rw [show (nI 4) = (3 : Int32) + 1 from rfl] at h2; exact (jle3 c).mp h2⟩
  · intro h
    exact jin0 (by decide) h.1 (by rw [show (nI 4) = (3 : Int32) + 1 from rfl]; have h2 := h.2; exact (jle3 c).mpr h2)
abbrev wp_c (c : Int32) : Prop := ¬ c < 0 ∧ c ≤ 15
abbrev wp_o (c : Int32) : Prop := ¬ c < 0 ∧ c ≤ 3
abbrev wp_r (c x y : Int32) : Prop := ¬ c < x ∧ c ≤ y
abbrev wp_w (a d t : Int32) : Prop := (¬ a < 1 ∧ a ≤ 65535) ∧ (¬ d < 0 ∧ d ≤ 1) ∧ ¬ t < 1 ∧ t ≤ 7
def ke_X5_group : List (Nat × vgF) := [(0, vi_iload 1 1), (1, vi_callSX sp_X5_checkCell tx_X5_checkCell 1 1 4), (4, vi_iload 2 5), (5, vi_icst (1) 6), (6, vi_icst (99) 8), (8, vi_callSX sp_X5_checkRange tx_X5_checkRange 2 3 11), (11, vi_iload 3 12), (12, vi_icst (0) 13), (13, vi_icst (2) 14), (14, vi_callSX sp_X5_checkRange tx_X5_checkRange 2 3 17), (17, vi_aload 0 18), (18, vi_get ww_shp 0 0 21), (21, vi_get ww_shp 1 4 24), (24, vi_icst (8) 26), (26, vi_cmp (fun x y => x < y) 39 29), (29, vi_no), (39, vi_aload 0 40), (40, vi_get ww_shp 0 0 43), (43, vi_get ww_shp 1 7 46), (46, vi_aload 0 47), (47, vi_get ww_shp 0 0 50), (50, vi_get ww_shp 1 4 53), (53, vi_aald ww_shp 2 54), (54, vi_astore 6 56), (56, vi_aload 6 58), (58, vi_iload 1 59), (59, vi_put ww_shp 5 0 62), (62, vi_aload 6 64), (64, vi_iload 2 65), (65, vi_put ww_shp 5 1 68), (68, vi_aload 6 70), (70, vi_iload 3 71), (71, vi_put ww_shp 5 2 74), (74, vi_aload 6 76), (76, vi_iload 4 78), (78, vi_putZ ww_shp 5 4 81), (81, vi_aload 6 83), (83, vi_iload 5 85), (85, vi_putZ ww_shp 5 5 88), (88, vi_aload 0 89), (89, vi_get ww_shp 0 0 92), (92, vi_dup 93), (93, vi_get ww_shp 1 4 96), (96, vi_dupx1 97), (97, vi_icst (1) 98), (98, vi_bin (fun x y => x + y) 99), (99, vi_put ww_shp 1 4 102), (102, vi_ret)]
set_option maxRecDepth 20000 in
theorem se_X5_group : ∀ q ∈ ke_X5_group, vm_Snd true ww_tb ww_tbx ww_strs ww_nw ww_shp ww_nm ww_cl ww_tyl cX5_group 7 RX5 (some .int) 7 q.1 q.2 := by
  refine vg_cons (vt_iload_n dX5_group_0 rfl rfl) ?_
  refine vg_cons (vt_callSX c_X5_checkCell t_X5_checkCell ww_mv dX5_group_1 ww_good u_75 u_64 u_77 u_76 (by decide +kernel) (by decide) rfl) ?_
  refine vg_cons (vt_iload_n dX5_group_4 rfl rfl) ?_
  refine vg_cons (vt_iconst dX5_group_5 rfl rfl) ?_
  refine vg_cons (vt_bipush dX5_group_6 (by decide) rfl) ?_
  refine vg_cons (vt_callSX c_X5_checkRange t_X5_checkRange ww_mv dX5_group_8 ww_good u_63 u_64 u_66 u_65 (by decide +kernel) (by decide) rfl) ?_
  refine vg_cons (vt_iload_n dX5_group_11 rfl rfl) ?_
  refine vg_cons (vt_iconst dX5_group_12 rfl rfl) ?_
  refine vg_cons (vt_iconst dX5_group_13 rfl rfl) ?_
  refine vg_cons (vt_callSX c_X5_checkRange t_X5_checkRange ww_mv dX5_group_14 ww_good u_63 u_64 u_66 u_65 (by decide +kernel) (by decide) rfl) ?_
  refine vg_cons (vt_aload_n dX5_group_17 rfl rfl) ?_
  refine vg_cons (vt_getfield (T := TX5) dX5_group_18 rfl (by decide) ww_inX5 u_58 rfl) ?_
  refine vg_cons (vt_getfield (T := TX1) dX5_group_21 rfl (by decide) ww_inX1 u_60 rfl) ?_
  refine vg_cons (vt_bipush dX5_group_24 (by decide) rfl) ?_
  refine vg_cons (vt_cmp_lt dX5_group_26 (by decide) rfl) ?_
  refine vg_cons (vt_no) ?_
  refine vg_cons (vt_aload_n dX5_group_39 rfl rfl) ?_
  refine vg_cons (vt_getfield (T := TX5) dX5_group_40 rfl (by decide) ww_inX5 u_58 rfl) ?_
  refine vg_cons (vt_getfield (T := TX1) dX5_group_43 rfl (by decide) ww_inX1 u_78 rfl) ?_
  refine vg_cons (vt_aload_n dX5_group_46 rfl rfl) ?_
  refine vg_cons (vt_getfield (T := TX5) dX5_group_47 rfl (by decide) ww_inX5 u_58 rfl) ?_
  refine vg_cons (vt_getfield (T := TX1) dX5_group_50 rfl (by decide) ww_inX1 u_60 rfl) ?_
  refine vg_cons (vt_aaload dX5_group_53 rfl rfl) ?_
  refine vg_cons (vt_astore dX5_group_54 (by decide) rfl) ?_
  refine vg_cons (vt_aload dX5_group_56 rfl) ?_
  refine vg_cons (vt_iload_n dX5_group_58 rfl rfl) ?_
  refine vg_cons (vt_putfield (T := TX0) tyX0 dX5_group_59 rfl (by decide) ww_inX0 tyX0_ok nmX0 rfl rfl u_79 rfl) ?_
  refine vg_cons (vt_aload dX5_group_62 rfl) ?_
  refine vg_cons (vt_iload_n dX5_group_64 rfl rfl) ?_
  refine vg_cons (vt_putfield (T := TX0) tyX0 dX5_group_65 rfl (by decide) ww_inX0 tyX0_ok nmX0 rfl rfl u_80 rfl) ?_
  refine vg_cons (vt_aload dX5_group_68 rfl) ?_
  refine vg_cons (vt_iload_n dX5_group_70 rfl rfl) ?_
  refine vg_cons (vt_putfield (T := TX0) tyX0 dX5_group_71 rfl (by decide) ww_inX0 tyX0_ok nmX0 rfl rfl u_81 rfl) ?_
  refine vg_cons (vt_aload dX5_group_74 rfl) ?_
  refine vg_cons (vt_iload dX5_group_76 rfl) ?_
  refine vg_cons (vt_putfieldZ (T := TX0) tyX0 dX5_group_78 rfl (by decide) ww_inX0 tyX0_ok nmX0 rfl rfl u_82 rfl) ?_
  refine vg_cons (vt_aload dX5_group_81 rfl) ?_
  refine vg_cons (vt_iload dX5_group_83 rfl) ?_
  refine vg_cons (vt_putfieldZ (T := TX0) tyX0 dX5_group_85 rfl (by decide) ww_inX0 tyX0_ok nmX0 rfl rfl u_83 rfl) ?_
  refine vg_cons (vt_aload_n dX5_group_88 rfl rfl) ?_
  refine vg_cons (vt_getfield (T := TX5) dX5_group_89 rfl (by decide) ww_inX5 u_58 rfl) ?_
  refine vg_cons (vt_dup dX5_group_92 rfl) ?_
  refine vg_cons (vt_getfield (T := TX1) dX5_group_93 rfl (by decide) ww_inX1 u_60 rfl) ?_
  refine vg_cons (vt_dup_x1 dX5_group_96 rfl) ?_
  refine vg_cons (vt_iconst dX5_group_97 rfl rfl) ?_
  refine vg_cons (vt_iadd dX5_group_98 rfl) ?_
  refine vg_cons (vt_putfield (T := TX1) tyX1 dX5_group_99 rfl (by decide) ww_inX1 tyX1_ok nmX1 rfl rfl u_60 rfl) ?_
  refine vg_cons (vt_ireturn dX5_group_102 rfl) ?_
  exact fun _ h => absurd h List.not_mem_nil
theorem me_X5_group : vg_Code ke_X5_group := fun q h => (se_X5_group q h).1

def pr_X5_group : vgT → vgS → Prop := fun av σ => match av with
  | [.inr (0, 0, 0), .inl (.int c), .inl (.int p), .inl (.int t), .inl (.int d), .inl (.int r)] => wx_fr σ ∧ (d = 0 ∨ d = 1) ∧ (r = 0 ∨ r = 1)
  | _ => False
def pf_X5_group : vgT → Nat × Int32 := fun av => match av with
  | [.inr (0, 0, 0), .inl (.int c), .inl (.int p), .inl (.int t), .inl (.int d), .inl (.int r)] => (if wp_c c then (if wp_r p (1) (99) then (if wp_r t (0) (2) then (0, 0) else (2, 0)) else (2, 0)) else (1, 0))
  | _ => (0, 0)
theorem wp_X5_group : ∀ av σ, pr_X5_group av σ → vg_wd av ≤ 7 := by
  intro av σ h
  unfold pr_X5_group at h
  split at h
  · exact Nat.le_of_ble_eq_true rfl
  · exact h.elim
set_option maxRecDepth 20000 in
theorem gp_X5_group : ∀ av σ, pr_X5_group av σ → vg_Go ke_X5_group (fun r _ => r = po (pf_X5_group av)) 0 (vg_args 0 av) [] σ := by
  intro av σ h
  unfold pr_X5_group at h
  split at h
  next c p t d r =>
    obtain ⟨h, hb1, hb2⟩ := h
    refine vg_run (cuts := []) me_X5_group 80 ?_
    refine And.intro (fun z => ?_) (fun z => And.intro (Classical.not_not.mp z) ?_)
    · show vm_th 1 = po (pf_X5_group [.inr (0, 0, 0), .inl (.int c), .inl (.int p), .inl (.int t), .inl (.int d), .inl (.int r)])
      have e : pf_X5_group [.inr (0, 0, 0), .inl (.int c), .inl (.int p), .inl (.int t), .inl (.int d), .inl (.int r)] = (1, 0) := by
        show (if _ then _ else _) = _
        rw [if_neg (show ¬ (wp_c c) from (fun y => z (jc16.mpr y)))]
      rw [e]
      rfl
    have c1 : wp_c c := jc16.mp (Classical.not_not.mp z)
    refine And.intro (fun z => ?_) (fun z => And.intro (Classical.not_not.mp z) ?_)
    · show vm_th 2 = po (pf_X5_group [.inr (0, 0, 0), .inl (.int c), .inl (.int p), .inl (.int t), .inl (.int d), .inl (.int r)])
      have e : pf_X5_group [.inr (0, 0, 0), .inl (.int c), .inl (.int p), .inl (.int t), .inl (.int d), .inl (.int r)] = (2, 0) := by
        show (if _ then _ else _) = _
        rw [if_pos c1, if_neg (show ¬ (wp_r p (1) (99)) from z)]
      rw [e]
      rfl
    have c2 : wp_r p (1) (99) := Classical.not_not.mp z
    refine And.intro (fun z => ?_) (fun z => And.intro (Classical.not_not.mp z) ?_)
    · show vm_th 2 = po (pf_X5_group [.inr (0, 0, 0), .inl (.int c), .inl (.int p), .inl (.int t), .inl (.int d), .inl (.int r)])
      have e : pf_X5_group [.inr (0, 0, 0), .inl (.int c), .inl (.int p), .inl (.int t), .inl (.int d), .inl (.int r)] = (2, 0) := by
        show (if _ then _ else _) = _
        rw [if_pos c1, if_pos c2, if_neg (show ¬ (wp_r t (0) (2)) from z)]
      rw [e]
      rfl
    have c3 : wp_r t (0) (2) := Classical.not_not.mp z
    have e : pf_X5_group [.inr (0, 0, 0), .inl (.int c), .inl (.int p), .inl (.int t), .inl (.int d), .inl (.int r)] = (0, 0) := by
      show (if _ then _ else _) = _
      rw [if_pos c1, if_pos c2, if_pos c3]
    rw [e]
    refine And.intro (fun _ => ?_) (fun z => absurd (show σ (1, 0, 0) 4 < 8 by rw [wx_g h]; decide) z)
    refine And.intro (jin (show σ (1, 0, 0) 4 = nI 0 from wx_g h) (by decide) (by decide)) ?_
    refine And.intro hb1 (And.intro hb2 ?_)
    refine And.intro rfl (And.intro ⟨rfl, rfl⟩ ?_)
    exact congrArg (fun x => some (Sum.inl (Value.int x))) (show σ (1, 0, 0) 4 = 0 from wx_g h)
  next => exact h.elim
theorem p_X5_group : vm_MetX ww_tb ww_tbx ww_strs ww_nw ww_shp ww_nm ww_cl ww_tyl yX5_group cX5_group 7 (some .int) 7 pr_X5_group (fun av _ r _ => r = po (pf_X5_group av)) := vm_metX ww_closed (by decide +kernel) rfl ww_mv se_X5_group wp_X5_group gp_X5_group
def ke_X5_shelter : List (Nat × vgF) := [(0, vi_iload 1 1), (1, vi_callSX sp_X5_checkCell tx_X5_checkCell 1 1 4), (4, vi_iload 2 5), (5, vi_icst (1) 6), (6, vi_icst (200) 9), (9, vi_callSX sp_X5_checkRange tx_X5_checkRange 2 3 12), (12, vi_aload 0 13), (13, vi_get ww_shp 0 0 16), (16, vi_get ww_shp 1 5 19), (19, vi_icst (3) 20), (20, vi_cmp (fun x y => x < y) 33 23), (23, vi_no), (33, vi_aload 0 34), (34, vi_get ww_shp 0 0 37), (37, vi_get ww_shp 1 8 40), (40, vi_aload 0 41), (41, vi_get ww_shp 0 0 44), (44, vi_get ww_shp 1 5 47), (47, vi_aald ww_shp 3 48), (48, vi_astore 3 49), (49, vi_aload 3 50), (50, vi_iload 1 51), (51, vi_put ww_shp 3 0 54), (54, vi_aload 3 55), (55, vi_iload 2 56), (56, vi_put ww_shp 3 1 59), (59, vi_aload 0 60), (60, vi_get ww_shp 0 0 63), (63, vi_dup 64), (64, vi_get ww_shp 1 5 67), (67, vi_dupx1 68), (68, vi_icst (1) 69), (69, vi_bin (fun x y => x + y) 70), (70, vi_put ww_shp 1 5 73), (73, vi_ret)]
set_option maxRecDepth 20000 in
theorem se_X5_shelter : ∀ q ∈ ke_X5_shelter, vm_Snd true ww_tb ww_tbx ww_strs ww_nw ww_shp ww_nm ww_cl ww_tyl cX5_shelter 4 RX5 (some .int) 7 q.1 q.2 := by
  refine vg_cons (vt_iload_n dX5_shelter_0 rfl rfl) ?_
  refine vg_cons (vt_callSX c_X5_checkCell t_X5_checkCell ww_mv dX5_shelter_1 ww_good u_75 u_64 u_77 u_76 (by decide +kernel) (by decide) rfl) ?_
  refine vg_cons (vt_iload_n dX5_shelter_4 rfl rfl) ?_
  refine vg_cons (vt_iconst dX5_shelter_5 rfl rfl) ?_
  refine vg_cons (vt_sipush dX5_shelter_6 (by decide) rfl) ?_
  refine vg_cons (vt_callSX c_X5_checkRange t_X5_checkRange ww_mv dX5_shelter_9 ww_good u_63 u_64 u_66 u_65 (by decide +kernel) (by decide) rfl) ?_
  refine vg_cons (vt_aload_n dX5_shelter_12 rfl rfl) ?_
  refine vg_cons (vt_getfield (T := TX5) dX5_shelter_13 rfl (by decide) ww_inX5 u_58 rfl) ?_
  refine vg_cons (vt_getfield (T := TX1) dX5_shelter_16 rfl (by decide) ww_inX1 u_84 rfl) ?_
  refine vg_cons (vt_iconst dX5_shelter_19 rfl rfl) ?_
  refine vg_cons (vt_cmp_lt dX5_shelter_20 (by decide) rfl) ?_
  refine vg_cons (vt_no) ?_
  refine vg_cons (vt_aload_n dX5_shelter_33 rfl rfl) ?_
  refine vg_cons (vt_getfield (T := TX5) dX5_shelter_34 rfl (by decide) ww_inX5 u_58 rfl) ?_
  refine vg_cons (vt_getfield (T := TX1) dX5_shelter_37 rfl (by decide) ww_inX1 u_85 rfl) ?_
  refine vg_cons (vt_aload_n dX5_shelter_40 rfl rfl) ?_
  refine vg_cons (vt_getfield (T := TX5) dX5_shelter_41 rfl (by decide) ww_inX5 u_58 rfl) ?_
  refine vg_cons (vt_getfield (T := TX1) dX5_shelter_44 rfl (by decide) ww_inX1 u_84 rfl) ?_
  refine vg_cons (vt_aaload dX5_shelter_47 rfl rfl) ?_
  refine vg_cons (vt_astore_n dX5_shelter_48 rfl (by decide) rfl) ?_
  refine vg_cons (vt_aload_n dX5_shelter_49 rfl rfl) ?_
  refine vg_cons (vt_iload_n dX5_shelter_50 rfl rfl) ?_
  refine vg_cons (vt_putfield (T := TX3) tyX3 dX5_shelter_51 rfl (by decide) ww_inX3 tyX3_ok nmX3 rfl rfl u_86 rfl) ?_
  refine vg_cons (vt_aload_n dX5_shelter_54 rfl rfl) ?_
  refine vg_cons (vt_iload_n dX5_shelter_55 rfl rfl) ?_
  refine vg_cons (vt_putfield (T := TX3) tyX3 dX5_shelter_56 rfl (by decide) ww_inX3 tyX3_ok nmX3 rfl rfl u_87 rfl) ?_
  refine vg_cons (vt_aload_n dX5_shelter_59 rfl rfl) ?_
  refine vg_cons (vt_getfield (T := TX5) dX5_shelter_60 rfl (by decide) ww_inX5 u_58 rfl) ?_
  refine vg_cons (vt_dup dX5_shelter_63 rfl) ?_
  refine vg_cons (vt_getfield (T := TX1) dX5_shelter_64 rfl (by decide) ww_inX1 u_84 rfl) ?_
  refine vg_cons (vt_dup_x1 dX5_shelter_67 rfl) ?_
  refine vg_cons (vt_iconst dX5_shelter_68 rfl rfl) ?_
  refine vg_cons (vt_iadd dX5_shelter_69 rfl) ?_
  refine vg_cons (vt_putfield (T := TX1) tyX1 dX5_shelter_70 rfl (by decide) ww_inX1 tyX1_ok nmX1 rfl rfl u_84 rfl) ?_
  refine vg_cons (vt_ireturn dX5_shelter_73 rfl) ?_
  exact fun _ h => absurd h List.not_mem_nil
theorem me_X5_shelter : vg_Code ke_X5_shelter := fun q h => (se_X5_shelter q h).1

def pr_X5_shelter : vgT → vgS → Prop := fun av σ => match av with
  | [.inr (0, 0, 0), .inl (.int c), .inl (.int r)] => wx_fr σ
  | _ => False
def pf_X5_shelter : vgT → Nat × Int32 := fun av => match av with
  | [.inr (0, 0, 0), .inl (.int c), .inl (.int r)] => (if wp_c c then (if wp_r r (1) (200) then (0, 0) else (2, 0)) else (1, 0))
  | _ => (0, 0)
theorem wp_X5_shelter : ∀ av σ, pr_X5_shelter av σ → vg_wd av ≤ 4 := by
  intro av σ h
  unfold pr_X5_shelter at h
  split at h
  · exact Nat.le_of_ble_eq_true rfl
  · exact h.elim
set_option maxRecDepth 20000 in
theorem gp_X5_shelter : ∀ av σ, pr_X5_shelter av σ → vg_Go ke_X5_shelter (fun r _ => r = po (pf_X5_shelter av)) 0 (vg_args 0 av) [] σ := by
  intro av σ h
  unfold pr_X5_shelter at h
  split at h
  next c r =>
    refine vg_run (cuts := []) me_X5_shelter 80 ?_
    refine And.intro (fun z => ?_) (fun z => And.intro (Classical.not_not.mp z) ?_)
    · show vm_th 1 = po (pf_X5_shelter [.inr (0, 0, 0), .inl (.int c), .inl (.int r)])
      have e : pf_X5_shelter [.inr (0, 0, 0), .inl (.int c), .inl (.int r)] = (1, 0) := by
        show (if _ then _ else _) = _
        rw [if_neg (show ¬ (wp_c c) from (fun y => z (jc16.mpr y)))]
      rw [e]
      rfl
    have c1 : wp_c c := jc16.mp (Classical.not_not.mp z)
    refine And.intro (fun z => ?_) (fun z => And.intro (Classical.not_not.mp z) ?_)
    · show vm_th 2 = po (pf_X5_shelter [.inr (0, 0, 0), .inl (.int c), .inl (.int r)])
      have e : pf_X5_shelter [.inr (0, 0, 0), .inl (.int c), .inl (.int r)] = (2, 0) := by
        show (if _ then _ else _) = _
        rw [if_pos c1, if_neg (show ¬ (wp_r r (1) (200)) from z)]
      rw [e]
      rfl
    have c2 : wp_r r (1) (200) := Classical.not_not.mp z
    have e : pf_X5_shelter [.inr (0, 0, 0), .inl (.int c), .inl (.int r)] = (0, 0) := by
      show (if _ then _ else _) = _
      rw [if_pos c1, if_pos c2]
    rw [e]
    refine And.intro (fun _ => ?_) (fun z => absurd (show σ (1, 0, 0) 5 < 3 by rw [wx_s h]; decide) z)
    refine And.intro (jin (show σ (1, 0, 0) 5 = nI 0 from wx_s h) (by decide) (by decide)) ?_
    refine And.intro rfl (And.intro ⟨rfl, rfl⟩ ?_)
    exact congrArg (fun x => some (Sum.inl (Value.int x))) (show σ (1, 0, 0) 5 = 0 from wx_s h)
  next => exact h.elim
theorem p_X5_shelter : vm_MetX ww_tb ww_tbx ww_strs ww_nw ww_shp ww_nm ww_cl ww_tyl yX5_shelter cX5_shelter 4 (some .int) 7 pr_X5_shelter (fun av _ r _ => r = po (pf_X5_shelter av)) := vm_metX ww_closed (by decide +kernel) rfl ww_mv se_X5_shelter wp_X5_shelter gp_X5_shelter
def ke_X5_siren : List (Nat × vgF) := [(0, vi_iload 1 1), (1, vi_callSX sp_X5_checkCell tx_X5_checkCell 1 1 4), (4, vi_iload 2 5), (5, vi_icst (0) 6), (6, vi_icst (3) 7), (7, vi_callSX sp_X5_checkRange tx_X5_checkRange 2 3 10), (10, vi_aload 0 11), (11, vi_get ww_shp 0 0 14), (14, vi_get ww_shp 1 10 17), (17, vi_get ww_shp 2 3 20), (20, vi_icst (4) 21), (21, vi_cmp (fun x y => x < y) 34 24), (24, vi_no), (34, vi_aload 0 35), (35, vi_get ww_shp 0 0 38), (38, vi_get ww_shp 1 10 41), (41, vi_iload 1 42), (42, vi_iload 2 43), (43, vi_callV ww_shp 2 sp_X2_add 2 46), (46, vi_ret)]
set_option maxRecDepth 20000 in
theorem se_X5_siren : ∀ q ∈ ke_X5_siren, vm_Snd true ww_tb ww_tbx ww_strs ww_nw ww_shp ww_nm ww_cl ww_tyl cX5_siren 3 RX5 (some .int) 7 q.1 q.2 := by
  refine vg_cons (vt_iload_n dX5_siren_0 rfl rfl) ?_
  refine vg_cons (vt_callSX c_X5_checkCell t_X5_checkCell ww_mv dX5_siren_1 ww_good u_75 u_64 u_77 u_76 (by decide +kernel) (by decide) rfl) ?_
  refine vg_cons (vt_iload_n dX5_siren_4 rfl rfl) ?_
  refine vg_cons (vt_iconst dX5_siren_5 rfl rfl) ?_
  refine vg_cons (vt_iconst dX5_siren_6 rfl rfl) ?_
  refine vg_cons (vt_callSX c_X5_checkRange t_X5_checkRange ww_mv dX5_siren_7 ww_good u_63 u_64 u_66 u_65 (by decide +kernel) (by decide) rfl) ?_
  refine vg_cons (vt_aload_n dX5_siren_10 rfl rfl) ?_
  refine vg_cons (vt_getfield (T := TX5) dX5_siren_11 rfl (by decide) ww_inX5 u_58 rfl) ?_
  refine vg_cons (vt_getfield (T := TX1) dX5_siren_14 rfl (by decide) ww_inX1 u_88 rfl) ?_
  refine vg_cons (vt_getfield (T := TX2) dX5_siren_17 rfl (by decide) ww_inX2 u_89 rfl) ?_
  refine vg_cons (vt_iconst dX5_siren_20 rfl rfl) ?_
  refine vg_cons (vt_cmp_lt dX5_siren_21 (by decide) rfl) ?_
  refine vg_cons (vt_no) ?_
  refine vg_cons (vt_aload_n dX5_siren_34 rfl rfl) ?_
  refine vg_cons (vt_getfield (T := TX5) dX5_siren_35 rfl (by decide) ww_inX5 u_58 rfl) ?_
  refine vg_cons (vt_getfield (T := TX1) dX5_siren_38 rfl (by decide) ww_inX1 u_88 rfl) ?_
  refine vg_cons (vt_iload_n dX5_siren_41 rfl rfl) ?_
  refine vg_cons (vt_iload_n dX5_siren_42 rfl rfl) ?_
  refine vg_cons (vt_callV (T := TX2) c_X2_add dX5_siren_43 rfl ww_good u_90 u_31 u_91 u_92 u_93 (by decide +kernel) (by decide) rfl) ?_
  refine vg_cons (vt_ireturn dX5_siren_46 rfl) ?_
  exact fun _ h => absurd h List.not_mem_nil
theorem me_X5_siren : vg_Code ke_X5_siren := fun q h => (se_X5_siren q h).1

def pr_X5_siren : vgT → vgS → Prop := fun av σ => match av with
  | [.inr (0, 0, 0), .inl (.int c), .inl (.int r)] => wx_fr σ
  | _ => False
def pf_X5_siren : vgT → Nat × Int32 := fun av => match av with
  | [.inr (0, 0, 0), .inl (.int c), .inl (.int r)] => (if wp_c c then (if wp_r r (0) (3) then (0, 0) else (2, 0)) else (1, 0))
  | _ => (0, 0)
theorem wp_X5_siren : ∀ av σ, pr_X5_siren av σ → vg_wd av ≤ 3 := by
  intro av σ h
  unfold pr_X5_siren at h
  split at h
  · exact Nat.le_of_ble_eq_true rfl
  · exact h.elim
set_option maxRecDepth 20000 in
theorem gp_X5_siren : ∀ av σ, pr_X5_siren av σ → vg_Go ke_X5_siren (fun r _ => r = po (pf_X5_siren av)) 0 (vg_args 0 av) [] σ := by
  intro av σ h
  unfold pr_X5_siren at h
  split at h
  next c r =>
    refine vg_run (cuts := []) me_X5_siren 80 ?_
    refine And.intro (fun z => ?_) (fun z => And.intro (Classical.not_not.mp z) ?_)
    · show vm_th 1 = po (pf_X5_siren [.inr (0, 0, 0), .inl (.int c), .inl (.int r)])
      have e : pf_X5_siren [.inr (0, 0, 0), .inl (.int c), .inl (.int r)] = (1, 0) := by
        show (if _ then _ else _) = _
        rw [if_neg (show ¬ (wp_c c) from (fun y => z (jc16.mpr y)))]
      rw [e]
      rfl
    have c1 : wp_c c := jc16.mp (Classical.not_not.mp z)
    refine And.intro (fun z => ?_) (fun z => And.intro (Classical.not_not.mp z) ?_)
    · show vm_th 2 = po (pf_X5_siren [.inr (0, 0, 0), .inl (.int c), .inl (.int r)])
      have e : pf_X5_siren [.inr (0, 0, 0), .inl (.int c), .inl (.int r)] = (2, 0) := by
        show (if _ then _ else _) = _
        rw [if_pos c1, if_neg (show ¬ (wp_r r (0) (3)) from z)]
      rw [e]
      rfl
    have c2 : wp_r r (0) (3) := Classical.not_not.mp z
    have e : pf_X5_siren [.inr (0, 0, 0), .inl (.int c), .inl (.int r)] = (0, 0) := by
      show (if _ then _ else _) = _
      rw [if_pos c1, if_pos c2]
    rw [e]
    refine And.intro (fun _ => ?_) (fun z => absurd (show σ (5, 0, 0) 3 < 4 by rw [wx_n0 h]; decide) z)
    refine And.intro ⟨h.1.2.2.2.1.1, by show jNc (jV σ 0) 0 ≤ 4; rw [h.2.1.2.2.2.1]; decide⟩ ?_
    exact congrArg (fun x => some (Sum.inl (Value.int x))) (show σ (5, 0, 0) 3 = 0 from wx_n0 h)
  next => exact h.elim
theorem p_X5_siren : vm_MetX ww_tb ww_tbx ww_strs ww_nw ww_shp ww_nm ww_cl ww_tyl yX5_siren cX5_siren 3 (some .int) 7 pr_X5_siren (fun av _ r _ => r = po (pf_X5_siren av)) := vm_metX ww_closed (by decide +kernel) rfl ww_mv se_X5_siren wp_X5_siren gp_X5_siren
def ke_X5_mast : List (Nat × vgF) := [(0, vi_iload 1 1), (1, vi_callSX sp_X5_checkCell tx_X5_checkCell 1 1 4), (4, vi_iload 2 5), (5, vi_icst (0) 6), (6, vi_icst (3) 7), (7, vi_callSX sp_X5_checkRange tx_X5_checkRange 2 3 10), (10, vi_aload 0 11), (11, vi_get ww_shp 0 0 14), (14, vi_get ww_shp 1 11 17), (17, vi_get ww_shp 2 3 20), (20, vi_icst (4) 21), (21, vi_cmp (fun x y => x < y) 34 24), (24, vi_no), (34, vi_aload 0 35), (35, vi_get ww_shp 0 0 38), (38, vi_get ww_shp 1 11 41), (41, vi_iload 1 42), (42, vi_iload 2 43), (43, vi_callV ww_shp 2 sp_X2_add 2 46), (46, vi_ret)]
set_option maxRecDepth 20000 in
theorem se_X5_mast : ∀ q ∈ ke_X5_mast, vm_Snd true ww_tb ww_tbx ww_strs ww_nw ww_shp ww_nm ww_cl ww_tyl cX5_mast 3 RX5 (some .int) 7 q.1 q.2 := by
  refine vg_cons (vt_iload_n dX5_mast_0 rfl rfl) ?_
  refine vg_cons (vt_callSX c_X5_checkCell t_X5_checkCell ww_mv dX5_mast_1 ww_good u_75 u_64 u_77 u_76 (by decide +kernel) (by decide) rfl) ?_
  refine vg_cons (vt_iload_n dX5_mast_4 rfl rfl) ?_
  refine vg_cons (vt_iconst dX5_mast_5 rfl rfl) ?_
  refine vg_cons (vt_iconst dX5_mast_6 rfl rfl) ?_
  refine vg_cons (vt_callSX c_X5_checkRange t_X5_checkRange ww_mv dX5_mast_7 ww_good u_63 u_64 u_66 u_65 (by decide +kernel) (by decide) rfl) ?_
  refine vg_cons (vt_aload_n dX5_mast_10 rfl rfl) ?_
  refine vg_cons (vt_getfield (T := TX5) dX5_mast_11 rfl (by decide) ww_inX5 u_58 rfl) ?_
  refine vg_cons (vt_getfield (T := TX1) dX5_mast_14 rfl (by decide) ww_inX1 u_94 rfl) ?_
  refine vg_cons (vt_getfield (T := TX2) dX5_mast_17 rfl (by decide) ww_inX2 u_89 rfl) ?_
  refine vg_cons (vt_iconst dX5_mast_20 rfl rfl) ?_
  refine vg_cons (vt_cmp_lt dX5_mast_21 (by decide) rfl) ?_
  refine vg_cons (vt_no) ?_
  refine vg_cons (vt_aload_n dX5_mast_34 rfl rfl) ?_
  refine vg_cons (vt_getfield (T := TX5) dX5_mast_35 rfl (by decide) ww_inX5 u_58 rfl) ?_
  refine vg_cons (vt_getfield (T := TX1) dX5_mast_38 rfl (by decide) ww_inX1 u_94 rfl) ?_
  refine vg_cons (vt_iload_n dX5_mast_41 rfl rfl) ?_
  refine vg_cons (vt_iload_n dX5_mast_42 rfl rfl) ?_
  refine vg_cons (vt_callV (T := TX2) c_X2_add dX5_mast_43 rfl ww_good u_90 u_31 u_91 u_92 u_93 (by decide +kernel) (by decide) rfl) ?_
  refine vg_cons (vt_ireturn dX5_mast_46 rfl) ?_
  exact fun _ h => absurd h List.not_mem_nil
theorem me_X5_mast : vg_Code ke_X5_mast := fun q h => (se_X5_mast q h).1

def pr_X5_mast : vgT → vgS → Prop := fun av σ => match av with
  | [.inr (0, 0, 0), .inl (.int c), .inl (.int r)] => wx_fr σ
  | _ => False
def pf_X5_mast : vgT → Nat × Int32 := fun av => match av with
  | [.inr (0, 0, 0), .inl (.int c), .inl (.int r)] => (if wp_c c then (if wp_r r (0) (3) then (0, 0) else (2, 0)) else (1, 0))
  | _ => (0, 0)
theorem wp_X5_mast : ∀ av σ, pr_X5_mast av σ → vg_wd av ≤ 3 := by
  intro av σ h
  unfold pr_X5_mast at h
  split at h
  · exact Nat.le_of_ble_eq_true rfl
  · exact h.elim
set_option maxRecDepth 20000 in
theorem gp_X5_mast : ∀ av σ, pr_X5_mast av σ → vg_Go ke_X5_mast (fun r _ => r = po (pf_X5_mast av)) 0 (vg_args 0 av) [] σ := by
  intro av σ h
  unfold pr_X5_mast at h
  split at h
  next c r =>
    refine vg_run (cuts := []) me_X5_mast 80 ?_
    refine And.intro (fun z => ?_) (fun z => And.intro (Classical.not_not.mp z) ?_)
    · show vm_th 1 = po (pf_X5_mast [.inr (0, 0, 0), .inl (.int c), .inl (.int r)])
      have e : pf_X5_mast [.inr (0, 0, 0), .inl (.int c), .inl (.int r)] = (1, 0) := by
        show (if _ then _ else _) = _
        rw [if_neg (show ¬ (wp_c c) from (fun y => z (jc16.mpr y)))]
      rw [e]
      rfl
    have c1 : wp_c c := jc16.mp (Classical.not_not.mp z)
    refine And.intro (fun z => ?_) (fun z => And.intro (Classical.not_not.mp z) ?_)
    · show vm_th 2 = po (pf_X5_mast [.inr (0, 0, 0), .inl (.int c), .inl (.int r)])
      have e : pf_X5_mast [.inr (0, 0, 0), .inl (.int c), .inl (.int r)] = (2, 0) := by
        show (if _ then _ else _) = _
        rw [if_pos c1, if_neg (show ¬ (wp_r r (0) (3)) from z)]
      rw [e]
      rfl
    have c2 : wp_r r (0) (3) := Classical.not_not.mp z
    have e : pf_X5_mast [.inr (0, 0, 0), .inl (.int c), .inl (.int r)] = (0, 0) := by
      show (if _ then _ else _) = _
      rw [if_pos c1, if_pos c2]
    rw [e]
    refine And.intro (fun _ => ?_) (fun z => absurd (show σ (5, 0, 1) 3 < 4 by rw [wx_n1 h]; decide) z)
    refine And.intro ⟨h.1.2.2.2.2.1, by show jNc (jV σ 0) 1 ≤ 4; rw [h.2.1.2.2.2.2]; decide⟩ ?_
    exact congrArg (fun x => some (Sum.inl (Value.int x))) (show σ (5, 0, 1) 3 = 0 from wx_n1 h)
  next => exact h.elim
theorem p_X5_mast : vm_MetX ww_tb ww_tbx ww_strs ww_nw ww_shp ww_nm ww_cl ww_tyl yX5_mast cX5_mast 3 (some .int) 7 pr_X5_mast (fun av _ r _ => r = po (pf_X5_mast av)) := vm_metX ww_closed (by decide +kernel) rfl ww_mv se_X5_mast wp_X5_mast gp_X5_mast
def ke_X5_lines : List (Nat × vgF) := [(0, vi_iload 1 1), (1, vi_icst (0) 2), (2, vi_icst (3) 3), (3, vi_callSX sp_X5_checkRange tx_X5_checkRange 2 3 6), (6, vi_aload 0 7), (7, vi_get ww_shp 0 0 10), (10, vi_get ww_shp 1 1 13), (13, vi_istore 2 14), (14, vi_aload 0 15), (15, vi_get ww_shp 0 0 18), (18, vi_iload 1 19), (19, vi_put ww_shp 1 1 22), (22, vi_iload 2 23), (23, vi_ret)]
set_option maxRecDepth 20000 in
theorem se_X5_lines : ∀ q ∈ ke_X5_lines, vm_Snd true ww_tb ww_tbx ww_strs ww_nw ww_shp ww_nm ww_cl ww_tyl cX5_lines 3 RX5 (some .int) 7 q.1 q.2 := by
  refine vg_cons (vt_iload_n dX5_lines_0 rfl rfl) ?_
  refine vg_cons (vt_iconst dX5_lines_1 rfl rfl) ?_
  refine vg_cons (vt_iconst dX5_lines_2 rfl rfl) ?_
  refine vg_cons (vt_callSX c_X5_checkRange t_X5_checkRange ww_mv dX5_lines_3 ww_good u_63 u_64 u_66 u_65 (by decide +kernel) (by decide) rfl) ?_
  refine vg_cons (vt_aload_n dX5_lines_6 rfl rfl) ?_
  refine vg_cons (vt_getfield (T := TX5) dX5_lines_7 rfl (by decide) ww_inX5 u_58 rfl) ?_
  refine vg_cons (vt_getfield (T := TX1) dX5_lines_10 rfl (by decide) ww_inX1 u_95 rfl) ?_
  refine vg_cons (vt_istore_n dX5_lines_13 rfl (by decide) rfl) ?_
  refine vg_cons (vt_aload_n dX5_lines_14 rfl rfl) ?_
  refine vg_cons (vt_getfield (T := TX5) dX5_lines_15 rfl (by decide) ww_inX5 u_58 rfl) ?_
  refine vg_cons (vt_iload_n dX5_lines_18 rfl rfl) ?_
  refine vg_cons (vt_putfield (T := TX1) tyX1 dX5_lines_19 rfl (by decide) ww_inX1 tyX1_ok nmX1 rfl rfl u_95 rfl) ?_
  refine vg_cons (vt_iload_n dX5_lines_22 rfl rfl) ?_
  refine vg_cons (vt_ireturn dX5_lines_23 rfl) ?_
  exact fun _ h => absurd h List.not_mem_nil
theorem me_X5_lines : vg_Code ke_X5_lines := fun q h => (se_X5_lines q h).1

def pr_X5_lines : vgT → vgS → Prop := fun av σ => match av with
  | [.inr (0, 0, 0), .inl (.int l)] => wx_fr σ
  | _ => False
def pf_X5_lines : vgT → Nat × Int32 := fun av => match av with
  | [.inr (0, 0, 0), .inl (.int l)] => (if wp_r l (0) (3) then (0, 1) else (2, 0))
  | _ => (0, 0)
theorem wp_X5_lines : ∀ av σ, pr_X5_lines av σ → vg_wd av ≤ 3 := by
  intro av σ h
  unfold pr_X5_lines at h
  split at h
  · exact Nat.le_of_ble_eq_true rfl
  · exact h.elim
set_option maxRecDepth 20000 in
theorem gp_X5_lines : ∀ av σ, pr_X5_lines av σ → vg_Go ke_X5_lines (fun r _ => r = po (pf_X5_lines av)) 0 (vg_args 0 av) [] σ := by
  intro av σ h
  unfold pr_X5_lines at h
  split at h
  next l =>
    refine vg_run (cuts := []) me_X5_lines 80 ?_
    refine And.intro (fun z => ?_) (fun z => And.intro (Classical.not_not.mp z) ?_)
    · show vm_th 2 = po (pf_X5_lines [.inr (0, 0, 0), .inl (.int l)])
      have e : pf_X5_lines [.inr (0, 0, 0), .inl (.int l)] = (2, 0) := by
        show (if _ then _ else _) = _
        rw [if_neg (show ¬ (wp_r l (0) (3)) from z)]
      rw [e]
      rfl
    have c1 : wp_r l (0) (3) := Classical.not_not.mp z
    have e : pf_X5_lines [.inr (0, 0, 0), .inl (.int l)] = (0, 1) := by
      show (if _ then _ else _) = _
      rw [if_pos c1]
    rw [e]
    exact congrArg (fun x => some (Sum.inl (Value.int x))) (show σ (1, 0, 0) 1 = 1 from h.2.2.2.1.2.1)
  next => exact h.elim
theorem p_X5_lines : vm_MetX ww_tb ww_tbx ww_strs ww_nw ww_shp ww_nm ww_cl ww_tyl yX5_lines cX5_lines 3 (some .int) 7 pr_X5_lines (fun av _ r _ => r = po (pf_X5_lines av)) := vm_metX ww_closed (by decide +kernel) rfl ww_mv se_X5_lines wp_X5_lines gp_X5_lines
def ke_X5_danger : List (Nat × vgF) := [(0, vi_iload 1 1), (1, vi_callSX sp_X5_checkCell tx_X5_checkCell 1 1 4), (4, vi_iload 2 5), (5, vi_icst (-1) 6), (6, vi_icst (999) 9), (9, vi_callSX sp_X5_checkRange tx_X5_checkRange 2 3 12), (12, vi_aload 0 13), (13, vi_get ww_shp 0 0 16), (16, vi_get ww_shp 1 12 19), (19, vi_iload 1 20), (20, vi_ald ww_shp 0 21), (21, vi_istore 3 22), (22, vi_aload 0 23), (23, vi_get ww_shp 0 0 26), (26, vi_get ww_shp 1 12 29), (29, vi_iload 1 30), (30, vi_iload 2 31), (31, vi_icst (-1) 32), (32, vi_cmp (fun x y => x = y) 35 39), (35, vi_icst (-1) 36), (36, vi_goto 48), (39, vi_aload 0 40), (40, vi_get ww_shp 0 0 43), (43, vi_get ww_shp 1 0 46), (46, vi_iload 2 47), (47, vi_bin (fun x y => x + y) 48), (48, vi_ast ww_shp 0 49), (49, vi_iload 3 50), (50, vi_ret)]
set_option maxRecDepth 20000 in
theorem se_X5_danger : ∀ q ∈ ke_X5_danger, vm_Snd true ww_tb ww_tbx ww_strs ww_nw ww_shp ww_nm ww_cl ww_tyl cX5_danger 4 RX5 (some .int) 7 q.1 q.2 := by
  refine vg_cons (vt_iload_n dX5_danger_0 rfl rfl) ?_
  refine vg_cons (vt_callSX c_X5_checkCell t_X5_checkCell ww_mv dX5_danger_1 ww_good u_75 u_64 u_77 u_76 (by decide +kernel) (by decide) rfl) ?_
  refine vg_cons (vt_iload_n dX5_danger_4 rfl rfl) ?_
  refine vg_cons (vt_iconst dX5_danger_5 rfl rfl) ?_
  refine vg_cons (vt_sipush dX5_danger_6 (by decide) rfl) ?_
  refine vg_cons (vt_callSX c_X5_checkRange t_X5_checkRange ww_mv dX5_danger_9 ww_good u_63 u_64 u_66 u_65 (by decide +kernel) (by decide) rfl) ?_
  refine vg_cons (vt_aload_n dX5_danger_12 rfl rfl) ?_
  refine vg_cons (vt_getfield (T := TX5) dX5_danger_13 rfl (by decide) ww_inX5 u_58 rfl) ?_
  refine vg_cons (vt_getfield (T := TX1) dX5_danger_16 rfl (by decide) ww_inX1 u_96 rfl) ?_
  refine vg_cons (vt_iload_n dX5_danger_19 rfl rfl) ?_
  refine vg_cons (vt_iaload dX5_danger_20 rfl rfl) ?_
  refine vg_cons (vt_istore_n dX5_danger_21 rfl (by decide) rfl) ?_
  refine vg_cons (vt_aload_n dX5_danger_22 rfl rfl) ?_
  refine vg_cons (vt_getfield (T := TX5) dX5_danger_23 rfl (by decide) ww_inX5 u_58 rfl) ?_
  refine vg_cons (vt_getfield (T := TX1) dX5_danger_26 rfl (by decide) ww_inX1 u_96 rfl) ?_
  refine vg_cons (vt_iload_n dX5_danger_29 rfl rfl) ?_
  refine vg_cons (vt_iload_n dX5_danger_30 rfl rfl) ?_
  refine vg_cons (vt_iconst dX5_danger_31 rfl rfl) ?_
  refine vg_cons (vt_cmp_ne dX5_danger_32 (by decide) rfl) ?_
  refine vg_cons (vt_iconst dX5_danger_35 rfl rfl) ?_
  refine vg_cons (vt_goto dX5_danger_36 (by decide)) ?_
  refine vg_cons (vt_aload_n dX5_danger_39 rfl rfl) ?_
  refine vg_cons (vt_getfield (T := TX5) dX5_danger_40 rfl (by decide) ww_inX5 u_58 rfl) ?_
  refine vg_cons (vt_getfield (T := TX1) dX5_danger_43 rfl (by decide) ww_inX1 u_97 rfl) ?_
  refine vg_cons (vt_iload_n dX5_danger_46 rfl rfl) ?_
  refine vg_cons (vt_iadd dX5_danger_47 rfl) ?_
  refine vg_cons (vt_iastore dX5_danger_48 rfl rfl) ?_
  refine vg_cons (vt_iload_n dX5_danger_49 rfl rfl) ?_
  refine vg_cons (vt_ireturn dX5_danger_50 rfl) ?_
  exact fun _ h => absurd h List.not_mem_nil
theorem me_X5_danger : vg_Code ke_X5_danger := fun q h => (se_X5_danger q h).1

def pr_X5_danger : vgT → vgS → Prop := fun av σ => match av with
  | [.inr (0, 0, 0), .inl (.int c), .inl (.int a)] => wx_fr σ
  | _ => False
def pf_X5_danger : vgT → Nat × Int32 := fun av => match av with
  | [.inr (0, 0, 0), .inl (.int c), .inl (.int a)] => (if wp_c c then (if wp_r a (-1) (999) then (0, (-1)) else (2, 0)) else (1, 0))
  | _ => (0, 0)
theorem wp_X5_danger : ∀ av σ, pr_X5_danger av σ → vg_wd av ≤ 4 := by
  intro av σ h
  unfold pr_X5_danger at h
  split at h
  · exact Nat.le_of_ble_eq_true rfl
  · exact h.elim
set_option maxRecDepth 20000 in
theorem gp_X5_danger : ∀ av σ, pr_X5_danger av σ → vg_Go ke_X5_danger (fun r _ => r = po (pf_X5_danger av)) 0 (vg_args 0 av) [] σ := by
  intro av σ h
  unfold pr_X5_danger at h
  split at h
  next c a =>
    refine vg_run (cuts := []) me_X5_danger 80 ?_
    refine And.intro (fun z => ?_) (fun z => And.intro (Classical.not_not.mp z) ?_)
    · show vm_th 1 = po (pf_X5_danger [.inr (0, 0, 0), .inl (.int c), .inl (.int a)])
      have e : pf_X5_danger [.inr (0, 0, 0), .inl (.int c), .inl (.int a)] = (1, 0) := by
        show (if _ then _ else _) = _
        rw [if_neg (show ¬ (wp_c c) from (fun y => z (jc16.mpr y)))]
      rw [e]
      rfl
    have c1 : wp_c c := jc16.mp (Classical.not_not.mp z)
    refine And.intro (fun z => ?_) (fun z => And.intro (Classical.not_not.mp z) ?_)
    · show vm_th 2 = po (pf_X5_danger [.inr (0, 0, 0), .inl (.int c), .inl (.int a)])
      have e : pf_X5_danger [.inr (0, 0, 0), .inl (.int c), .inl (.int a)] = (2, 0) := by
        show (if _ then _ else _) = _
        rw [if_pos c1, if_neg (show ¬ (wp_r a (-1) (999)) from z)]
      rw [e]
      rfl
    have c2 : wp_r a (-1) (999) := Classical.not_not.mp z
    have e : pf_X5_danger [.inr (0, 0, 0), .inl (.int c), .inl (.int a)] = (0, (-1)) := by
      show (if _ then _ else _) = _
      rw [if_pos c1, if_pos c2]
    rw [e]
    have hv : vp_in c 16 := jc16.mpr c1
    have h6 : σ (6, 0, 0) c.toNatClampNeg = -1 := h.2.2.2.2 _ (by rcases Nat.lt_or_ge c.toNatClampNeg 16 with y | y; exact y; exact absurd (Or.inr y) hv)
    refine And.intro hv ?_
    refine And.intro (fun _ => And.intro hv ?_) (fun _ => And.intro hv ?_)
    · exact congrArg (fun x => some (Sum.inl (Value.int x))) h6
    · exact congrArg (fun x => some (Sum.inl (Value.int x))) h6
  next => exact h.elim
theorem p_X5_danger : vm_MetX ww_tb ww_tbx ww_strs ww_nw ww_shp ww_nm ww_cl ww_tyl yX5_danger cX5_danger 4 (some .int) 7 pr_X5_danger (fun av _ r _ => r = po (pf_X5_danger av)) := vm_metX ww_closed (by decide +kernel) rfl ww_mv se_X5_danger wp_X5_danger gp_X5_danger
def ke_X5_key : List (Nat × vgF) := [(0, vi_iload 1 1), (1, vi_callSX sp_X5_checkOfficer tx_X5_checkOfficer 1 1 4), (4, vi_aload 0 5), (5, vi_get ww_shp 0 0 8), (8, vi_get ww_shp 1 2 11), (11, vi_iload 1 12), (12, vi_callS sp_X5_isIn 2 15), (15, vi_istore 3 16), (16, vi_aload 0 17), (17, vi_get ww_shp 0 0 20), (20, vi_iload 2 21), (21, vi_if (fun x => x = 0) 38 24), (24, vi_aload 0 25), (25, vi_get ww_shp 0 0 28), (28, vi_get ww_shp 1 2 31), (31, vi_icst (1) 32), (32, vi_iload 1 33), (33, vi_bin (fun x y => x <<< (y &&& 31)) 34), (34, vi_bin (fun x y => x ||| y) 35), (35, vi_goto 51), (38, vi_aload 0 39), (39, vi_get ww_shp 0 0 42), (42, vi_get ww_shp 1 2 45), (45, vi_icst (1) 46), (46, vi_iload 1 47), (47, vi_bin (fun x y => x <<< (y &&& 31)) 48), (48, vi_icst (-1) 49), (49, vi_bin (fun x y => x ^^^ y) 50), (50, vi_bin (fun x y => x &&& y) 51), (51, vi_put ww_shp 1 2 54), (54, vi_iload 3 55), (55, vi_retZ)]
set_option maxRecDepth 20000 in
theorem se_X5_key : ∀ q ∈ ke_X5_key, vm_Snd true ww_tb ww_tbx ww_strs ww_nw ww_shp ww_nm ww_cl ww_tyl cX5_key 4 RX5 (some .boolean) 7 q.1 q.2 := by
  refine vg_cons (vt_iload_n dX5_key_0 rfl rfl) ?_
  refine vg_cons (vt_callSX c_X5_checkOfficer t_X5_checkOfficer ww_mv dX5_key_1 ww_good u_98 u_64 u_100 u_99 (by decide +kernel) (by decide) rfl) ?_
  refine vg_cons (vt_aload_n dX5_key_4 rfl rfl) ?_
  refine vg_cons (vt_getfield (T := TX5) dX5_key_5 rfl (by decide) ww_inX5 u_58 rfl) ?_
  refine vg_cons (vt_getfield (T := TX1) dX5_key_8 rfl (by decide) ww_inX1 u_101 rfl) ?_
  refine vg_cons (vt_iload_n dX5_key_11 rfl rfl) ?_
  refine vg_cons (vt_callS c_X5_isIn dX5_key_12 ww_good u_102 u_64 u_104 u_103 (by decide +kernel) (by decide) rfl) ?_
  refine vg_cons (vt_istore_n dX5_key_15 rfl (by decide) rfl) ?_
  refine vg_cons (vt_aload_n dX5_key_16 rfl rfl) ?_
  refine vg_cons (vt_getfield (T := TX5) dX5_key_17 rfl (by decide) ww_inX5 u_58 rfl) ?_
  refine vg_cons (vt_iload_n dX5_key_20 rfl rfl) ?_
  refine vg_cons (vt_if_eq dX5_key_21 (by decide) rfl) ?_
  refine vg_cons (vt_aload_n dX5_key_24 rfl rfl) ?_
  refine vg_cons (vt_getfield (T := TX5) dX5_key_25 rfl (by decide) ww_inX5 u_58 rfl) ?_
  refine vg_cons (vt_getfield (T := TX1) dX5_key_28 rfl (by decide) ww_inX1 u_101 rfl) ?_
  refine vg_cons (vt_iconst dX5_key_31 rfl rfl) ?_
  refine vg_cons (vt_iload_n dX5_key_32 rfl rfl) ?_
  refine vg_cons (vt_ishl dX5_key_33 rfl) ?_
  refine vg_cons (vt_ior dX5_key_34 rfl) ?_
  refine vg_cons (vt_goto dX5_key_35 (by decide)) ?_
  refine vg_cons (vt_aload_n dX5_key_38 rfl rfl) ?_
  refine vg_cons (vt_getfield (T := TX5) dX5_key_39 rfl (by decide) ww_inX5 u_58 rfl) ?_
  refine vg_cons (vt_getfield (T := TX1) dX5_key_42 rfl (by decide) ww_inX1 u_101 rfl) ?_
  refine vg_cons (vt_iconst dX5_key_45 rfl rfl) ?_
  refine vg_cons (vt_iload_n dX5_key_46 rfl rfl) ?_
  refine vg_cons (vt_ishl dX5_key_47 rfl) ?_
  refine vg_cons (vt_iconst dX5_key_48 rfl rfl) ?_
  refine vg_cons (vt_ixor dX5_key_49 rfl) ?_
  refine vg_cons (vt_iand dX5_key_50 rfl) ?_
  refine vg_cons (vt_putfield (T := TX1) tyX1 dX5_key_51 rfl (by decide) ww_inX1 tyX1_ok nmX1 rfl rfl u_101 rfl) ?_
  refine vg_cons (vt_iload_n dX5_key_54 rfl rfl) ?_
  refine vg_cons (vt_zreturn dX5_key_55 rfl) ?_
  exact fun _ h => absurd h List.not_mem_nil
theorem me_X5_key : vg_Code ke_X5_key := fun q h => (se_X5_key q h).1

def pr_X5_key : vgT → vgS → Prop := fun av σ => match av with
  | [.inr (0, 0, 0), .inl (.int o), .inl (.int d)] => wx_fr σ
  | _ => False
def pf_X5_key : vgT → Nat × Int32 := fun av => match av with
  | [.inr (0, 0, 0), .inl (.int o), .inl (.int d)] => (if wp_o o then (0, (jIn 3 o)) else (1, 0))
  | _ => (0, 0)
theorem wp_X5_key : ∀ av σ, pr_X5_key av σ → vg_wd av ≤ 4 := by
  intro av σ h
  unfold pr_X5_key at h
  split at h
  · exact Nat.le_of_ble_eq_true rfl
  · exact h.elim
set_option maxRecDepth 20000 in
theorem gp_X5_key : ∀ av σ, pr_X5_key av σ → vg_Go ke_X5_key (fun r _ => r = po (pf_X5_key av)) 0 (vg_args 0 av) [] σ := by
  intro av σ h
  unfold pr_X5_key at h
  split at h
  next o d =>
    refine vg_run (cuts := []) me_X5_key 80 ?_
    refine And.intro (fun z => ?_) (fun z => And.intro (Classical.not_not.mp z) ?_)
    · show vm_th 1 = po (pf_X5_key [.inr (0, 0, 0), .inl (.int o), .inl (.int d)])
      have e : pf_X5_key [.inr (0, 0, 0), .inl (.int o), .inl (.int d)] = (1, 0) := by
        show (if _ then _ else _) = _
        rw [if_neg (show ¬ (wp_o o) from (fun y => z (jc4.mpr y)))]
      rw [e]
      rfl
    have c1 : wp_o o := jc4.mp (Classical.not_not.mp z)
    have e : pf_X5_key [.inr (0, 0, 0), .inl (.int o), .inl (.int d)] = (0, (jIn 3 o)) := by
      show (if _ then _ else _) = _
      rw [if_pos c1]
    rw [e]
    refine And.intro trivial ?_
    refine And.intro (fun _ => ?_) (fun _ => ?_)
    · refine And.intro (jIn_01 _ _) ?_
      exact congrArg (fun x => some (Sum.inl (Value.int (jIn x o)))) (show σ (1, 0, 0) 2 = 3 from h.2.2.2.1.2.2.1)
    · refine And.intro (jIn_01 _ _) ?_
      exact congrArg (fun x => some (Sum.inl (Value.int (jIn x o)))) (show σ (1, 0, 0) 2 = 3 from h.2.2.2.1.2.2.1)
  next => exact h.elim
theorem p_X5_key : vm_MetX ww_tb ww_tbx ww_strs ww_nw ww_shp ww_nm ww_cl ww_tyl yX5_key cX5_key 4 (some .boolean) 7 pr_X5_key (fun av _ r _ => r = po (pf_X5_key av)) := vm_metX ww_closed (by decide +kernel) rfl ww_mv se_X5_key wp_X5_key gp_X5_key
def ke_X5_roomIn : List (Nat × vgF) := [(0, vi_iload 1 1), (1, vi_if (fun x => x < 0) 15 4), (4, vi_iload 1 5), (5, vi_aload 0 6), (6, vi_get ww_shp 0 0 9), (9, vi_get ww_shp 1 5 12), (12, vi_cmp (fun x y => x < y) 25 15), (15, vi_throw 1), (25, vi_aload 0 26), (26, vi_get ww_shp 0 0 29), (29, vi_get ww_shp 1 8 32), (32, vi_iload 1 33), (33, vi_aald ww_shp 3 34), (34, vi_get ww_shp 3 1 37), (37, vi_ret)]
set_option maxRecDepth 20000 in
theorem se_X5_roomIn : ∀ q ∈ ke_X5_roomIn, vm_Snd true ww_tb ww_tbx ww_strs ww_nw ww_shp ww_nm ww_cl ww_tyl cX5_roomIn 2 RX5 (some .int) 6 q.1 q.2 := by
  refine vg_cons (vt_iload_n dX5_roomIn_0 rfl rfl) ?_
  refine vg_cons (vt_if_lt dX5_roomIn_1 (by decide) rfl) ?_
  refine vg_cons (vt_iload_n dX5_roomIn_4 rfl rfl) ?_
  refine vg_cons (vt_aload_n dX5_roomIn_5 rfl rfl) ?_
  refine vg_cons (vt_getfield (T := TX5) dX5_roomIn_6 rfl (by decide) ww_inX5 u_58 rfl) ?_
  refine vg_cons (vt_getfield (T := TX1) dX5_roomIn_9 rfl (by decide) ww_inX1 u_84 rfl) ?_
  refine vg_cons (vt_cmp_lt dX5_roomIn_12 (by decide) rfl) ?_
  refine vg_cons (vt_throw (vm_nk_of "no such shelter" 252 254 256 dX5_roomIn_15 dX5_roomIn_18 (Or.inl ⟨dX5_roomIn_19, dX5_roomIn_21, dX5_roomIn_24⟩) (by decide +kernel)) (by decide)) ?_
  refine vg_cons (vt_aload_n dX5_roomIn_25 rfl rfl) ?_
  refine vg_cons (vt_getfield (T := TX5) dX5_roomIn_26 rfl (by decide) ww_inX5 u_58 rfl) ?_
  refine vg_cons (vt_getfield (T := TX1) dX5_roomIn_29 rfl (by decide) ww_inX1 u_85 rfl) ?_
  refine vg_cons (vt_iload_n dX5_roomIn_32 rfl rfl) ?_
  refine vg_cons (vt_aaload dX5_roomIn_33 rfl rfl) ?_
  refine vg_cons (vt_getfield (T := TX3) dX5_roomIn_34 rfl (by decide) ww_inX3 u_87 rfl) ?_
  refine vg_cons (vt_ireturn dX5_roomIn_37 rfl) ?_
  exact fun _ h => absurd h List.not_mem_nil
theorem me_X5_roomIn : vg_Code ke_X5_roomIn := fun q h => (se_X5_roomIn q h).1

def pr_X5_roomIn : vgT → vgS → Prop := fun av σ => match av with
  | [.inr (0, 0, 0), .inl (.int c)] => wx_fr σ
  | _ => False
def pf_X5_roomIn : vgT → Nat × Int32 := fun av => match av with
  | [.inr (0, 0, 0), .inl (.int c)] => (1, 0)
  | _ => (0, 0)
theorem wp_X5_roomIn : ∀ av σ, pr_X5_roomIn av σ → vg_wd av ≤ 2 := by
  intro av σ h
  unfold pr_X5_roomIn at h
  split at h
  · exact Nat.le_of_ble_eq_true rfl
  · exact h.elim
set_option maxRecDepth 20000 in
theorem gp_X5_roomIn : ∀ av σ, pr_X5_roomIn av σ → vg_Go ke_X5_roomIn (fun r _ => r = po (pf_X5_roomIn av)) 0 (vg_args 0 av) [] σ := by
  intro av σ h
  unfold pr_X5_roomIn at h
  split at h
  next c =>
    refine vg_run (cuts := []) me_X5_roomIn 40 ?_
    refine And.intro (fun _ => rfl) (fun z => And.intro (fun z2 => absurd ?_ z) (fun _ => rfl))
    have z3 : c < σ (1, 0, 0) 5 := z2
    rw [wx_s h] at z3
    exact z3
  next => exact h.elim
theorem p_X5_roomIn : vm_MetX ww_tb ww_tbx ww_strs ww_nw ww_shp ww_nm ww_cl ww_tyl yX5_roomIn cX5_roomIn 2 (some .int) 6 pr_X5_roomIn (fun av _ r _ => r = po (pf_X5_roomIn av)) := vm_metX ww_closed (by decide +kernel) rfl ww_mv se_X5_roomIn wp_X5_roomIn gp_X5_roomIn
