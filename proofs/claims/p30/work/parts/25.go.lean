-- words of the tables, and what stands at each place of the methods' code (laid by program)
theorem q_105 : Cond.constant RJ6 265 (1431655765) ∈ ww_tb := by decide +kernel
theorem q_106 : Cond.constant RJ6 266 (858993459) ∈ ww_tb := by decide +kernel
theorem q_107 : Cond.constant RJ6 267 (252645135) ∈ ww_tb := by decide +kernel
theorem q_108 : Cond.code yJ6_bitCount_0f7a4 cJ6_bitCount_0f7a4 1 (some .int) ∈ ww_tb := by decide +kernel
theorem q_109 : Cond.initialized RJ6 ∈ ww_tb := by decide +kernel
theorem q_110 : Cond.static yJ6_bitCount_0f7a4 ∈ ww_tb := by decide +kernel
theorem q_111 : Cond.methodLink RX1 137 yJ6_bitCount_0f7a4 ∈ ww_tb := by decide +kernel
theorem q_112 : Cond.code yX0_waysNeeded cX0_waysNeeded 1 (some .int) ∈ ww_tb := by decide +kernel
theorem q_113 : Cond.methodLink RX1 245 yX0_waysNeeded ∈ ww_tb := by decide +kernel
theorem q_114 : Cond.instanceMethod yX0_waysNeeded ∈ ww_tb := by decide +kernel
theorem q_115 : Cond.selects RX0 yX0_waysNeeded yX0_waysNeeded ∈ ww_tb := by decide +kernel
theorem q_116 : Cond.code yX1_believeOne cX1_believeOne 5 (some .int) ∈ ww_tb := by decide +kernel
theorem q_117 : Cond.methodLink RX1 242 yX1_believeOne ∈ ww_tb := by decide +kernel
theorem q_118 : Cond.instanceMethod yX1_believeOne ∈ ww_tb := by decide +kernel
theorem q_119 : Cond.selects RX1 yX1_believeOne yX1_believeOne ∈ ww_tb := by decide +kernel
theorem q_120 : Cond.code yX1_nearestWithRoom cX1_nearestWithRoom 6 (some .int) ∈ ww_tb := by decide +kernel
theorem q_121 : Cond.methodLink RX1 254 yX1_nearestWithRoom ∈ ww_tb := by decide +kernel
theorem q_122 : Cond.instanceMethod yX1_nearestWithRoom ∈ ww_tb := by decide +kernel
theorem q_123 : Cond.selects RX1 yX1_nearestWithRoom yX1_nearestWithRoom ∈ ww_tb := by decide +kernel
theorem q_124 : Cond.fieldLink RX1 185 (TX0 6).1 (TX0 6).2.1 (TX0 6).2.2.1 ∈ ww_tb := by decide +kernel
theorem q_125 : Cond.code yX5_stepTowards cX5_stepTowards 2 (some .int) ∈ ww_tb := by decide +kernel
theorem q_126 : Cond.static yX5_stepTowards ∈ ww_tb := by decide +kernel
theorem q_127 : Cond.fieldLink RX1 248 (TX4 3).1 (TX4 3).2.1 (TX4 3).2.2.1 ∈ ww_tb := by decide +kernel
theorem q_128 : Cond.code yX1_goOne cX1_goOne 3 none ∈ ww_tb := by decide +kernel
theorem q_129 : Cond.methodLink RX1 251 yX1_goOne ∈ ww_tb := by decide +kernel
theorem q_130 : Cond.instanceMethod yX1_goOne ∈ ww_tb := by decide +kernel
theorem q_131 : Cond.selects RX1 yX1_goOne yX1_goOne ∈ ww_tb := by decide +kernel
theorem dJ6_bitCount_0f7a4_0 : decode cJ6_bitCount_0f7a4 0 = .ok (.iload_n 0, 1) := by decide +kernel
theorem dJ6_bitCount_0f7a4_1 : decode cJ6_bitCount_0f7a4 1 = .ok (.iload_n 0, 1) := by decide +kernel
theorem dJ6_bitCount_0f7a4_2 : decode cJ6_bitCount_0f7a4 2 = .ok (.iconst 1, 1) := by decide +kernel
theorem dJ6_bitCount_0f7a4_3 : decode cJ6_bitCount_0f7a4 3 = .ok (.iushr, 1) := by decide +kernel
theorem dJ6_bitCount_0f7a4_4 : decode cJ6_bitCount_0f7a4 4 = .ok (.ldc_w 265, 3) := by decide +kernel
theorem dJ6_bitCount_0f7a4_7 : decode cJ6_bitCount_0f7a4 7 = .ok (.iand, 1) := by decide +kernel
theorem dJ6_bitCount_0f7a4_8 : decode cJ6_bitCount_0f7a4 8 = .ok (.isub, 1) := by decide +kernel
theorem dJ6_bitCount_0f7a4_9 : decode cJ6_bitCount_0f7a4 9 = .ok (.istore_n 0, 1) := by decide +kernel
theorem dJ6_bitCount_0f7a4_10 : decode cJ6_bitCount_0f7a4 10 = .ok (.iload_n 0, 1) := by decide +kernel
theorem dJ6_bitCount_0f7a4_11 : decode cJ6_bitCount_0f7a4 11 = .ok (.ldc_w 266, 3) := by decide +kernel
theorem dJ6_bitCount_0f7a4_14 : decode cJ6_bitCount_0f7a4 14 = .ok (.iand, 1) := by decide +kernel
theorem dJ6_bitCount_0f7a4_15 : decode cJ6_bitCount_0f7a4 15 = .ok (.iload_n 0, 1) := by decide +kernel
theorem dJ6_bitCount_0f7a4_16 : decode cJ6_bitCount_0f7a4 16 = .ok (.iconst 2, 1) := by decide +kernel
theorem dJ6_bitCount_0f7a4_17 : decode cJ6_bitCount_0f7a4 17 = .ok (.iushr, 1) := by decide +kernel
theorem dJ6_bitCount_0f7a4_18 : decode cJ6_bitCount_0f7a4 18 = .ok (.ldc_w 266, 3) := by decide +kernel
theorem dJ6_bitCount_0f7a4_21 : decode cJ6_bitCount_0f7a4 21 = .ok (.iand, 1) := by decide +kernel
theorem dJ6_bitCount_0f7a4_22 : decode cJ6_bitCount_0f7a4 22 = .ok (.iadd, 1) := by decide +kernel
theorem dJ6_bitCount_0f7a4_23 : decode cJ6_bitCount_0f7a4 23 = .ok (.istore_n 0, 1) := by decide +kernel
theorem dJ6_bitCount_0f7a4_24 : decode cJ6_bitCount_0f7a4 24 = .ok (.iload_n 0, 1) := by decide +kernel
theorem dJ6_bitCount_0f7a4_25 : decode cJ6_bitCount_0f7a4 25 = .ok (.iload_n 0, 1) := by decide +kernel
theorem dJ6_bitCount_0f7a4_26 : decode cJ6_bitCount_0f7a4 26 = .ok (.iconst 4, 1) := by decide +kernel
theorem dJ6_bitCount_0f7a4_27 : decode cJ6_bitCount_0f7a4 27 = .ok (.iushr, 1) := by decide +kernel
theorem dJ6_bitCount_0f7a4_28 : decode cJ6_bitCount_0f7a4 28 = .ok (.iadd, 1) := by decide +kernel
theorem dJ6_bitCount_0f7a4_29 : decode cJ6_bitCount_0f7a4 29 = .ok (.ldc_w 267, 3) := by decide +kernel
theorem dJ6_bitCount_0f7a4_32 : decode cJ6_bitCount_0f7a4 32 = .ok (.iand, 1) := by decide +kernel
theorem dJ6_bitCount_0f7a4_33 : decode cJ6_bitCount_0f7a4 33 = .ok (.istore_n 0, 1) := by decide +kernel
theorem dJ6_bitCount_0f7a4_34 : decode cJ6_bitCount_0f7a4 34 = .ok (.iload_n 0, 1) := by decide +kernel
theorem dJ6_bitCount_0f7a4_35 : decode cJ6_bitCount_0f7a4 35 = .ok (.iload_n 0, 1) := by decide +kernel
theorem dJ6_bitCount_0f7a4_36 : decode cJ6_bitCount_0f7a4 36 = .ok (.bipush 8, 2) := by decide +kernel
theorem dJ6_bitCount_0f7a4_38 : decode cJ6_bitCount_0f7a4 38 = .ok (.iushr, 1) := by decide +kernel
theorem dJ6_bitCount_0f7a4_39 : decode cJ6_bitCount_0f7a4 39 = .ok (.iadd, 1) := by decide +kernel
theorem dJ6_bitCount_0f7a4_40 : decode cJ6_bitCount_0f7a4 40 = .ok (.istore_n 0, 1) := by decide +kernel
theorem dJ6_bitCount_0f7a4_41 : decode cJ6_bitCount_0f7a4 41 = .ok (.iload_n 0, 1) := by decide +kernel
theorem dJ6_bitCount_0f7a4_42 : decode cJ6_bitCount_0f7a4 42 = .ok (.iload_n 0, 1) := by decide +kernel
theorem dJ6_bitCount_0f7a4_43 : decode cJ6_bitCount_0f7a4 43 = .ok (.bipush 16, 2) := by decide +kernel
theorem dJ6_bitCount_0f7a4_45 : decode cJ6_bitCount_0f7a4 45 = .ok (.iushr, 1) := by decide +kernel
theorem dJ6_bitCount_0f7a4_46 : decode cJ6_bitCount_0f7a4 46 = .ok (.iadd, 1) := by decide +kernel
theorem dJ6_bitCount_0f7a4_47 : decode cJ6_bitCount_0f7a4 47 = .ok (.istore_n 0, 1) := by decide +kernel
theorem dJ6_bitCount_0f7a4_48 : decode cJ6_bitCount_0f7a4 48 = .ok (.iload_n 0, 1) := by decide +kernel
theorem dJ6_bitCount_0f7a4_49 : decode cJ6_bitCount_0f7a4 49 = .ok (.bipush 63, 2) := by decide +kernel
theorem dJ6_bitCount_0f7a4_51 : decode cJ6_bitCount_0f7a4 51 = .ok (.iand, 1) := by decide +kernel
theorem dJ6_bitCount_0f7a4_52 : decode cJ6_bitCount_0f7a4 52 = .ok (.ireturn, 1) := by decide +kernel
theorem dX1_believeOne_0 : decode cX1_believeOne 0 = .ok (.iconst 0, 1) := by decide +kernel
theorem dX1_believeOne_1 : decode cX1_believeOne 1 = .ok (.istore_n 2, 1) := by decide +kernel
theorem dX1_believeOne_2 : decode cX1_believeOne 2 = .ok (.iconst 0, 1) := by decide +kernel
theorem dX1_believeOne_3 : decode cX1_believeOne 3 = .ok (.istore_n 3, 1) := by decide +kernel
theorem dX1_believeOne_4 : decode cX1_believeOne 4 = .ok (.iload_n 3, 1) := by decide +kernel
theorem dX1_believeOne_5 : decode cX1_believeOne 5 = .ok (.aload_n 0, 1) := by decide +kernel
theorem dX1_believeOne_6 : decode cX1_believeOne 6 = .ok (.getfield 68, 3) := by decide +kernel
theorem dX1_believeOne_9 : decode cX1_believeOne 9 = .ok (.if_icmp .ge 72, 3) := by decide +kernel
theorem dX1_believeOne_12 : decode cX1_believeOne 12 = .ok (.aload_n 0, 1) := by decide +kernel
theorem dX1_believeOne_13 : decode cX1_believeOne 13 = .ok (.getfield 32, 3) := by decide +kernel
theorem dX1_believeOne_16 : decode cX1_believeOne 16 = .ok (.iload_n 3, 1) := by decide +kernel
theorem dX1_believeOne_17 : decode cX1_believeOne 17 = .ok (.aaload, 1) := by decide +kernel
theorem dX1_believeOne_18 : decode cX1_believeOne 18 = .ok (.getfield 112, 3) := by decide +kernel
theorem dX1_believeOne_21 : decode cX1_believeOne 21 = .ok (.ifCond .eq 17, 3) := by decide +kernel
theorem dX1_believeOne_24 : decode cX1_believeOne 24 = .ok (.aload_n 1, 1) := by decide +kernel
theorem dX1_believeOne_25 : decode cX1_believeOne 25 = .ok (.getfield 116, 3) := by decide +kernel
theorem dX1_believeOne_28 : decode cX1_believeOne 28 = .ok (.iload_n 3, 1) := by decide +kernel
theorem dX1_believeOne_29 : decode cX1_believeOne 29 = .ok (.iaload, 1) := by decide +kernel
theorem dX1_believeOne_30 : decode cX1_believeOne 30 = .ok (.iconst (-1), 1) := by decide +kernel
theorem dX1_believeOne_31 : decode cX1_believeOne 31 = .ok (.if_icmp .ne 7, 3) := by decide +kernel
theorem dX1_believeOne_34 : decode cX1_believeOne 34 = .ok (.iconst 1, 1) := by decide +kernel
theorem dX1_believeOne_35 : decode cX1_believeOne 35 = .ok (.goto 4, 3) := by decide +kernel
theorem dX1_believeOne_38 : decode cX1_believeOne 38 = .ok (.iconst 0, 1) := by decide +kernel
theorem dX1_believeOne_39 : decode cX1_believeOne 39 = .ok (.istore 4, 2) := by decide +kernel
theorem dX1_believeOne_41 : decode cX1_believeOne 41 = .ok (.iload 4, 2) := by decide +kernel
theorem dX1_believeOne_43 : decode cX1_believeOne 43 = .ok (.ifCond .eq 32, 3) := by decide +kernel
theorem dX1_believeOne_46 : decode cX1_believeOne 46 = .ok (.aload_n 1, 1) := by decide +kernel
theorem dX1_believeOne_47 : decode cX1_believeOne 47 = .ok (.getfield 212, 3) := by decide +kernel
theorem dX1_believeOne_50 : decode cX1_believeOne 50 = .ok (.iload_n 3, 1) := by decide +kernel
theorem dX1_believeOne_51 : decode cX1_believeOne 51 = .ok (.iaload, 1) := by decide +kernel
theorem dX1_believeOne_52 : decode cX1_believeOne 52 = .ok (.invokestatic 137, 3) := by decide +kernel
theorem dX1_believeOne_55 : decode cX1_believeOne 55 = .ok (.aload_n 1, 1) := by decide +kernel
theorem dX1_believeOne_56 : decode cX1_believeOne 56 = .ok (.invokevirtual 245, 3) := by decide +kernel
theorem dX1_believeOne_59 : decode cX1_believeOne 59 = .ok (.if_icmp .lt 16, 3) := by decide +kernel
theorem dX1_believeOne_62 : decode cX1_believeOne 62 = .ok (.aload_n 1, 1) := by decide +kernel
theorem dX1_believeOne_63 : decode cX1_believeOne 63 = .ok (.getfield 116, 3) := by decide +kernel
theorem dX1_believeOne_66 : decode cX1_believeOne 66 = .ok (.iload_n 3, 1) := by decide +kernel
theorem dX1_believeOne_67 : decode cX1_believeOne 67 = .ok (.aload_n 0, 1) := by decide +kernel
theorem dX1_believeOne_68 : decode cX1_believeOne 68 = .ok (.getfield 56, 3) := by decide +kernel
theorem dX1_believeOne_71 : decode cX1_believeOne 71 = .ok (.iastore, 1) := by decide +kernel
theorem dX1_believeOne_72 : decode cX1_believeOne 72 = .ok (.iinc 2 1, 3) := by decide +kernel
theorem dX1_believeOne_75 : decode cX1_believeOne 75 = .ok (.iinc 3 1, 3) := by decide +kernel
theorem dX1_believeOne_78 : decode cX1_believeOne 78 = .ok (.goto (-74), 3) := by decide +kernel
theorem dX1_believeOne_81 : decode cX1_believeOne 81 = .ok (.iload_n 2, 1) := by decide +kernel
theorem dX1_believeOne_82 : decode cX1_believeOne 82 = .ok (.ireturn, 1) := by decide +kernel
theorem dX1_believeAll_0 : decode cX1_believeAll 0 = .ok (.iconst 0, 1) := by decide +kernel
theorem dX1_believeAll_1 : decode cX1_believeAll 1 = .ok (.istore_n 1, 1) := by decide +kernel
theorem dX1_believeAll_2 : decode cX1_believeAll 2 = .ok (.iconst 0, 1) := by decide +kernel
theorem dX1_believeAll_3 : decode cX1_believeAll 3 = .ok (.istore_n 2, 1) := by decide +kernel
theorem dX1_believeAll_4 : decode cX1_believeAll 4 = .ok (.iload_n 2, 1) := by decide +kernel
theorem dX1_believeAll_5 : decode cX1_believeAll 5 = .ok (.aload_n 0, 1) := by decide +kernel
theorem dX1_believeAll_6 : decode cX1_believeAll 6 = .ok (.getfield 62, 3) := by decide +kernel
theorem dX1_believeAll_9 : decode cX1_believeAll 9 = .ok (.if_icmp .ge 34, 3) := by decide +kernel
theorem dX1_believeAll_12 : decode cX1_believeAll 12 = .ok (.aload_n 0, 1) := by decide +kernel
theorem dX1_believeAll_13 : decode cX1_believeAll 13 = .ok (.getfield 20, 3) := by decide +kernel
theorem dX1_believeAll_16 : decode cX1_believeAll 16 = .ok (.iload_n 2, 1) := by decide +kernel
theorem dX1_believeAll_17 : decode cX1_believeAll 17 = .ok (.aaload, 1) := by decide +kernel
theorem dX1_believeAll_18 : decode cX1_believeAll 18 = .ok (.invokevirtual 97, 3) := by decide +kernel
theorem dX1_believeAll_21 : decode cX1_believeAll 21 = .ok (.ifCond .ne 16, 3) := by decide +kernel
theorem dX1_believeAll_24 : decode cX1_believeAll 24 = .ok (.iload_n 1, 1) := by decide +kernel
theorem dX1_believeAll_25 : decode cX1_believeAll 25 = .ok (.aload_n 0, 1) := by decide +kernel
theorem dX1_believeAll_26 : decode cX1_believeAll 26 = .ok (.aload_n 0, 1) := by decide +kernel
theorem dX1_believeAll_27 : decode cX1_believeAll 27 = .ok (.getfield 20, 3) := by decide +kernel
theorem dX1_believeAll_30 : decode cX1_believeAll 30 = .ok (.iload_n 2, 1) := by decide +kernel
theorem dX1_believeAll_31 : decode cX1_believeAll 31 = .ok (.aaload, 1) := by decide +kernel
theorem dX1_believeAll_32 : decode cX1_believeAll 32 = .ok (.invokevirtual 242, 3) := by decide +kernel
theorem dX1_believeAll_35 : decode cX1_believeAll 35 = .ok (.iadd, 1) := by decide +kernel
theorem dX1_believeAll_36 : decode cX1_believeAll 36 = .ok (.istore_n 1, 1) := by decide +kernel
theorem dX1_believeAll_37 : decode cX1_believeAll 37 = .ok (.iinc 2 1, 3) := by decide +kernel
theorem dX1_believeAll_40 : decode cX1_believeAll 40 = .ok (.goto (-36), 3) := by decide +kernel
theorem dX1_believeAll_43 : decode cX1_believeAll 43 = .ok (.iload_n 1, 1) := by decide +kernel
theorem dX1_believeAll_44 : decode cX1_believeAll 44 = .ok (.ireturn, 1) := by decide +kernel
theorem dX1_goOne_0 : decode cX1_goOne 0 = .ok (.aload_n 0, 1) := by decide +kernel
theorem dX1_goOne_1 : decode cX1_goOne 1 = .ok (.aload_n 1, 1) := by decide +kernel
theorem dX1_goOne_2 : decode cX1_goOne 2 = .ok (.invokevirtual 254, 3) := by decide +kernel
theorem dX1_goOne_5 : decode cX1_goOne 5 = .ok (.istore_n 2, 1) := by decide +kernel
theorem dX1_goOne_6 : decode cX1_goOne 6 = .ok (.iload_n 2, 1) := by decide +kernel
theorem dX1_goOne_7 : decode cX1_goOne 7 = .ok (.ifCond .lt 11, 3) := by decide +kernel
theorem dX1_goOne_10 : decode cX1_goOne 10 = .ok (.iload_n 2, 1) := by decide +kernel
theorem dX1_goOne_11 : decode cX1_goOne 11 = .ok (.aload_n 0, 1) := by decide +kernel
theorem dX1_goOne_12 : decode cX1_goOne 12 = .ok (.getfield 65, 3) := by decide +kernel
theorem dX1_goOne_15 : decode cX1_goOne 15 = .ok (.if_icmp .lt 4, 3) := by decide +kernel
theorem dX1_goOne_18 : decode cX1_goOne 18 = .ok (.return_, 1) := by decide +kernel
theorem dX1_goOne_19 : decode cX1_goOne 19 = .ok (.aload_n 0, 1) := by decide +kernel
theorem dX1_goOne_20 : decode cX1_goOne 20 = .ok (.getfield 26, 3) := by decide +kernel
theorem dX1_goOne_23 : decode cX1_goOne 23 = .ok (.iload_n 2, 1) := by decide +kernel
theorem dX1_goOne_24 : decode cX1_goOne 24 = .ok (.aaload, 1) := by decide +kernel
theorem dX1_goOne_25 : decode cX1_goOne 25 = .ok (.getfield 75, 3) := by decide +kernel
theorem dX1_goOne_28 : decode cX1_goOne 28 = .ok (.aload_n 1, 1) := by decide +kernel
theorem dX1_goOne_29 : decode cX1_goOne 29 = .ok (.getfield 129, 3) := by decide +kernel
theorem dX1_goOne_32 : decode cX1_goOne 32 = .ok (.if_icmp .ne 29, 3) := by decide +kernel
theorem dX1_goOne_35 : decode cX1_goOne 35 = .ok (.aload_n 0, 1) := by decide +kernel
theorem dX1_goOne_36 : decode cX1_goOne 36 = .ok (.getfield 26, 3) := by decide +kernel
theorem dX1_goOne_39 : decode cX1_goOne 39 = .ok (.iload_n 2, 1) := by decide +kernel
theorem dX1_goOne_40 : decode cX1_goOne 40 = .ok (.aaload, 1) := by decide +kernel
theorem dX1_goOne_41 : decode cX1_goOne 41 = .ok (.dup, 1) := by decide +kernel
theorem dX1_goOne_42 : decode cX1_goOne 42 = .ok (.getfield 78, 3) := by decide +kernel
theorem dX1_goOne_45 : decode cX1_goOne 45 = .ok (.aload_n 1, 1) := by decide +kernel
theorem dX1_goOne_46 : decode cX1_goOne 46 = .ok (.getfield 123, 3) := by decide +kernel
theorem dX1_goOne_49 : decode cX1_goOne 49 = .ok (.isub, 1) := by decide +kernel
theorem dX1_goOne_50 : decode cX1_goOne 50 = .ok (.putfield 78, 3) := by decide +kernel
theorem dX1_goOne_53 : decode cX1_goOne 53 = .ok (.aload_n 1, 1) := by decide +kernel
theorem dX1_goOne_54 : decode cX1_goOne 54 = .ok (.iload_n 2, 1) := by decide +kernel
theorem dX1_goOne_55 : decode cX1_goOne 55 = .ok (.putfield 185, 3) := by decide +kernel
theorem dX1_goOne_58 : decode cX1_goOne 58 = .ok (.goto 23, 3) := by decide +kernel
theorem dX1_goOne_61 : decode cX1_goOne 61 = .ok (.aload_n 1, 1) := by decide +kernel
theorem dX1_goOne_62 : decode cX1_goOne 62 = .ok (.aload_n 1, 1) := by decide +kernel
theorem dX1_goOne_63 : decode cX1_goOne 63 = .ok (.getfield 129, 3) := by decide +kernel
theorem dX1_goOne_66 : decode cX1_goOne 66 = .ok (.aload_n 0, 1) := by decide +kernel
theorem dX1_goOne_67 : decode cX1_goOne 67 = .ok (.getfield 26, 3) := by decide +kernel
theorem dX1_goOne_70 : decode cX1_goOne 70 = .ok (.iload_n 2, 1) := by decide +kernel
theorem dX1_goOne_71 : decode cX1_goOne 71 = .ok (.aaload, 1) := by decide +kernel
theorem dX1_goOne_72 : decode cX1_goOne 72 = .ok (.getfield 75, 3) := by decide +kernel
theorem dX1_goOne_75 : decode cX1_goOne 75 = .ok (.invokestatic 257, 3) := by decide +kernel
theorem dX1_goOne_78 : decode cX1_goOne 78 = .ok (.putfield 129, 3) := by decide +kernel
theorem dX1_goOne_81 : decode cX1_goOne 81 = .ok (.return_, 1) := by decide +kernel
theorem dX1_goAll_0 : decode cX1_goAll 0 = .ok (.iconst 0, 1) := by decide +kernel
theorem dX1_goAll_1 : decode cX1_goAll 1 = .ok (.istore_n 1, 1) := by decide +kernel
theorem dX1_goAll_2 : decode cX1_goAll 2 = .ok (.iload_n 1, 1) := by decide +kernel
theorem dX1_goAll_3 : decode cX1_goAll 3 = .ok (.aload_n 0, 1) := by decide +kernel
theorem dX1_goAll_4 : decode cX1_goAll 4 = .ok (.getfield 62, 3) := by decide +kernel
theorem dX1_goAll_7 : decode cX1_goAll 7 = .ok (.if_icmp .ge 70, 3) := by decide +kernel
theorem dX1_goAll_10 : decode cX1_goAll 10 = .ok (.aload_n 0, 1) := by decide +kernel
theorem dX1_goAll_11 : decode cX1_goAll 11 = .ok (.getfield 20, 3) := by decide +kernel
theorem dX1_goAll_14 : decode cX1_goAll 14 = .ok (.iload_n 1, 1) := by decide +kernel
theorem dX1_goAll_15 : decode cX1_goAll 15 = .ok (.aaload, 1) := by decide +kernel
theorem dX1_goAll_16 : decode cX1_goAll 16 = .ok (.astore_n 2, 1) := by decide +kernel
theorem dX1_goAll_17 : decode cX1_goAll 17 = .ok (.aload_n 2, 1) := by decide +kernel
theorem dX1_goAll_18 : decode cX1_goAll 18 = .ok (.invokevirtual 97, 3) := by decide +kernel
theorem dX1_goAll_21 : decode cX1_goAll 21 = .ok (.ifCond .ne 10, 3) := by decide +kernel
theorem dX1_goAll_24 : decode cX1_goAll 24 = .ok (.aload_n 2, 1) := by decide +kernel
theorem dX1_goAll_25 : decode cX1_goAll 25 = .ok (.invokevirtual 126, 3) := by decide +kernel
theorem dX1_goAll_28 : decode cX1_goAll 28 = .ok (.ifCond .eq 7, 3) := by decide +kernel
theorem dX1_goAll_31 : decode cX1_goAll 31 = .ok (.iconst (-1), 1) := by decide +kernel
theorem dX1_goAll_32 : decode cX1_goAll 32 = .ok (.goto 8, 3) := by decide +kernel
theorem dX1_goAll_35 : decode cX1_goAll 35 = .ok (.aload_n 0, 1) := by decide +kernel
theorem dX1_goAll_36 : decode cX1_goAll 36 = .ok (.aload_n 2, 1) := by decide +kernel
theorem dX1_goAll_37 : decode cX1_goAll 37 = .ok (.invokevirtual 104, 3) := by decide +kernel
theorem dX1_goAll_40 : decode cX1_goAll 40 = .ok (.istore_n 3, 1) := by decide +kernel
theorem dX1_goAll_41 : decode cX1_goAll 41 = .ok (.iload_n 3, 1) := by decide +kernel
theorem dX1_goAll_42 : decode cX1_goAll 42 = .ok (.ifCond .lt 29, 3) := by decide +kernel
theorem dX1_goAll_45 : decode cX1_goAll 45 = .ok (.iload_n 3, 1) := by decide +kernel
theorem dX1_goAll_46 : decode cX1_goAll 46 = .ok (.aload_n 0, 1) := by decide +kernel
theorem dX1_goAll_47 : decode cX1_goAll 47 = .ok (.getfield 68, 3) := by decide +kernel
theorem dX1_goAll_50 : decode cX1_goAll 50 = .ok (.if_icmp .ge 21, 3) := by decide +kernel
theorem dX1_goAll_53 : decode cX1_goAll 53 = .ok (.aload_n 0, 1) := by decide +kernel
theorem dX1_goAll_54 : decode cX1_goAll 54 = .ok (.getfield 32, 3) := by decide +kernel
theorem dX1_goAll_57 : decode cX1_goAll 57 = .ok (.iload_n 3, 1) := by decide +kernel
theorem dX1_goAll_58 : decode cX1_goAll 58 = .ok (.aaload, 1) := by decide +kernel
theorem dX1_goAll_59 : decode cX1_goAll 59 = .ok (.getfield 248, 3) := by decide +kernel
theorem dX1_goAll_62 : decode cX1_goAll 62 = .ok (.iconst 1, 1) := by decide +kernel
theorem dX1_goAll_63 : decode cX1_goAll 63 = .ok (.if_icmp .ne 8, 3) := by decide +kernel
theorem dX1_goAll_66 : decode cX1_goAll 66 = .ok (.aload_n 0, 1) := by decide +kernel
theorem dX1_goAll_67 : decode cX1_goAll 67 = .ok (.aload_n 2, 1) := by decide +kernel
theorem dX1_goAll_68 : decode cX1_goAll 68 = .ok (.invokevirtual 251, 3) := by decide +kernel
theorem dX1_goAll_71 : decode cX1_goAll 71 = .ok (.iinc 1 1, 3) := by decide +kernel
theorem dX1_goAll_74 : decode cX1_goAll 74 = .ok (.goto (-72), 3) := by decide +kernel
theorem dX1_goAll_77 : decode cX1_goAll 77 = .ok (.return_, 1) := by decide +kernel
/-! believing, going, a minute -/
theorem vs_iushr {tb : List Cond} {nw : List (String × Nat × MethodName × String)} {shp : vgN → vgH} {nm : List vgN} {cl : List vw_C} {tyl : List FieldType} {cc : ByteArray} {nL : Nat} {own : String} {ret : Option FieldType} {d pc n : Nat} (hd : decode cc pc = .ok (.iushr, 1)) (hn : pc + 1 = n) : vg_Snd tb nw shp nm cl tyl cc nL own ret d pc (vi_bin (fun x y => (x.toUInt32 >>> (y.toUInt32 &&& Int32.toUInt32 31)).toInt32) n) := by
  subst hn
  refine ⟨vs_m1 fun K K' h lv st σ g => ?_, ?_⟩
  · split at g
    · exact h _ _ _ _ g
    · exact g
  intro p l e R s m args below meth c D tys ad A P C0 lv st σ h H locs ls hl ho hs hP hS
  unfold vi_bin at h
  split at h
  next y x t => exact lv_iushr C0.1 C0.2.1 hd rfl (h H locs ls hl ho (vg_okc trivial (vg_okt (vg_okt hs))) hP hS)
  next => exact h.elim
abbrev jSr (x y : Int32) : Int32 := (x.toUInt32 >>> (y.toUInt32 &&& Int32.toUInt32 31)).toInt32
def jB1 (x : Int32) : Int32 := x - (jSr x 1 &&& 1431655765)
def jB2 (x : Int32) : Int32 := (x &&& 858993459) + (jSr x 2 &&& 858993459)
def jB3 (x : Int32) : Int32 := (x + jSr x 4) &&& 252645135
def jB4 (x : Int32) : Int32 := x + jSr x 8
def jB5 (x : Int32) : Int32 := x + jSr x 16
/-- how many bits a number has -/
def jBits (x : Int32) : Int32 := jB5 (jB4 (jB3 (jB2 (jB1 x)))) &&& 63
def sp_J6_bitCount_0f7a4 : vgC := fun av σ => match av with
  | [.inl (.int x)] => (True, some (.inl (.int (jBits x))), σ)
  | _ => (False, none, σ)
def k_J6_bitCount_0f7a4 : List (Nat × vgF) := [(0, vi_iload 0 1), (1, vi_iload 0 2), (2, vi_icst (1) 3), (3, vi_bin (fun x y => (x.toUInt32 >>> (y.toUInt32 &&& Int32.toUInt32 31)).toInt32) 4), (4, vi_icst (1431655765) 7), (7, vi_bin (fun x y => x &&& y) 8), (8, vi_bin (fun x y => x - y) 9), (9, vi_istore 0 10), (10, vi_iload 0 11), (11, vi_icst (858993459) 14), (14, vi_bin (fun x y => x &&& y) 15), (15, vi_iload 0 16), (16, vi_icst (2) 17), (17, vi_bin (fun x y => (x.toUInt32 >>> (y.toUInt32 &&& Int32.toUInt32 31)).toInt32) 18), (18, vi_icst (858993459) 21), (21, vi_bin (fun x y => x &&& y) 22), (22, vi_bin (fun x y => x + y) 23), (23, vi_istore 0 24), (24, vi_iload 0 25), (25, vi_iload 0 26), (26, vi_icst (4) 27), (27, vi_bin (fun x y => (x.toUInt32 >>> (y.toUInt32 &&& Int32.toUInt32 31)).toInt32) 28), (28, vi_bin (fun x y => x + y) 29), (29, vi_icst (252645135) 32), (32, vi_bin (fun x y => x &&& y) 33), (33, vi_istore 0 34), (34, vi_iload 0 35), (35, vi_iload 0 36), (36, vi_icst (8) 38), (38, vi_bin (fun x y => (x.toUInt32 >>> (y.toUInt32 &&& Int32.toUInt32 31)).toInt32) 39), (39, vi_bin (fun x y => x + y) 40), (40, vi_istore 0 41), (41, vi_iload 0 42), (42, vi_iload 0 43), (43, vi_icst (16) 45), (45, vi_bin (fun x y => (x.toUInt32 >>> (y.toUInt32 &&& Int32.toUInt32 31)).toInt32) 46), (46, vi_bin (fun x y => x + y) 47), (47, vi_istore 0 48), (48, vi_iload 0 49), (49, vi_icst (63) 51), (51, vi_bin (fun x y => x &&& y) 52), (52, vi_ret)]
set_option maxRecDepth 20000 in
theorem s_J6_bitCount_0f7a4 : ∀ q ∈ k_J6_bitCount_0f7a4, vg_Snd ww_tb ww_nw ww_shp ww_nm ww_cl ww_tyl cJ6_bitCount_0f7a4 1 RJ6 (some .int) 0 q.1 q.2 := by
  refine vg_cons (vs_iload_n dJ6_bitCount_0f7a4_0 rfl rfl) ?_
  refine vg_cons (vs_iload_n dJ6_bitCount_0f7a4_1 rfl rfl) ?_
  refine vg_cons (vs_iconst dJ6_bitCount_0f7a4_2 rfl rfl) ?_
  refine vg_cons (vs_iushr dJ6_bitCount_0f7a4_3 rfl) ?_
  refine vg_cons (vs_ldcw dJ6_bitCount_0f7a4_4 q_105 rfl) ?_
  refine vg_cons (vs_iand dJ6_bitCount_0f7a4_7 rfl) ?_
  refine vg_cons (vs_isub dJ6_bitCount_0f7a4_8 rfl) ?_
  refine vg_cons (vs_istore_n dJ6_bitCount_0f7a4_9 rfl (by decide) rfl) ?_
  refine vg_cons (vs_iload_n dJ6_bitCount_0f7a4_10 rfl rfl) ?_
  refine vg_cons (vs_ldcw dJ6_bitCount_0f7a4_11 q_106 rfl) ?_
  refine vg_cons (vs_iand dJ6_bitCount_0f7a4_14 rfl) ?_
  refine vg_cons (vs_iload_n dJ6_bitCount_0f7a4_15 rfl rfl) ?_
  refine vg_cons (vs_iconst dJ6_bitCount_0f7a4_16 rfl rfl) ?_
  refine vg_cons (vs_iushr dJ6_bitCount_0f7a4_17 rfl) ?_
  refine vg_cons (vs_ldcw dJ6_bitCount_0f7a4_18 q_106 rfl) ?_
  refine vg_cons (vs_iand dJ6_bitCount_0f7a4_21 rfl) ?_
  refine vg_cons (vs_iadd dJ6_bitCount_0f7a4_22 rfl) ?_
  refine vg_cons (vs_istore_n dJ6_bitCount_0f7a4_23 rfl (by decide) rfl) ?_
  refine vg_cons (vs_iload_n dJ6_bitCount_0f7a4_24 rfl rfl) ?_
  refine vg_cons (vs_iload_n dJ6_bitCount_0f7a4_25 rfl rfl) ?_
  refine vg_cons (vs_iconst dJ6_bitCount_0f7a4_26 rfl rfl) ?_
  refine vg_cons (vs_iushr dJ6_bitCount_0f7a4_27 rfl) ?_
  refine vg_cons (vs_iadd dJ6_bitCount_0f7a4_28 rfl) ?_
  refine vg_cons (vs_ldcw dJ6_bitCount_0f7a4_29 q_107 rfl) ?_
  refine vg_cons (vs_iand dJ6_bitCount_0f7a4_32 rfl) ?_
  refine vg_cons (vs_istore_n dJ6_bitCount_0f7a4_33 rfl (by decide) rfl) ?_
  refine vg_cons (vs_iload_n dJ6_bitCount_0f7a4_34 rfl rfl) ?_
  refine vg_cons (vs_iload_n dJ6_bitCount_0f7a4_35 rfl rfl) ?_
  refine vg_cons (vs_bipush dJ6_bitCount_0f7a4_36 (by decide) rfl) ?_
  refine vg_cons (vs_iushr dJ6_bitCount_0f7a4_38 rfl) ?_
  refine vg_cons (vs_iadd dJ6_bitCount_0f7a4_39 rfl) ?_
  refine vg_cons (vs_istore_n dJ6_bitCount_0f7a4_40 rfl (by decide) rfl) ?_
  refine vg_cons (vs_iload_n dJ6_bitCount_0f7a4_41 rfl rfl) ?_
  refine vg_cons (vs_iload_n dJ6_bitCount_0f7a4_42 rfl rfl) ?_
  refine vg_cons (vs_bipush dJ6_bitCount_0f7a4_43 (by decide) rfl) ?_
  refine vg_cons (vs_iushr dJ6_bitCount_0f7a4_45 rfl) ?_
  refine vg_cons (vs_iadd dJ6_bitCount_0f7a4_46 rfl) ?_
  refine vg_cons (vs_istore_n dJ6_bitCount_0f7a4_47 rfl (by decide) rfl) ?_
  refine vg_cons (vs_iload_n dJ6_bitCount_0f7a4_48 rfl rfl) ?_
  refine vg_cons (vs_bipush dJ6_bitCount_0f7a4_49 (by decide) rfl) ?_
  refine vg_cons (vs_iand dJ6_bitCount_0f7a4_51 rfl) ?_
  refine vg_cons (vs_ireturn dJ6_bitCount_0f7a4_52 rfl) ?_
  exact fun _ h => absurd h List.not_mem_nil
theorem m_J6_bitCount_0f7a4 : vg_Code k_J6_bitCount_0f7a4 := fun q h => (s_J6_bitCount_0f7a4 q h).1

theorem w_J6_bitCount_0f7a4 : vg_Wd sp_J6_bitCount_0f7a4 1 := by
  intro av σ h
  unfold sp_J6_bitCount_0f7a4 at h
  split at h
  · exact Nat.le_of_ble_eq_true rfl
  · exact h.elim
theorem g_J6_bitCount_0f7a4 : vg_G k_J6_bitCount_0f7a4 sp_J6_bitCount_0f7a4 := by
  intro av σ h
  unfold sp_J6_bitCount_0f7a4 at h ⊢
  split at h
  next x =>
    refine vg_run (cuts := []) m_J6_bitCount_0f7a4 60 ?_
    exact And.intro rfl rfl
  next => exact h.elim
theorem c_J6_bitCount_0f7a4 : vg_MetF ww_tb ww_nw ww_shp ww_nm ww_cl ww_tyl yJ6_bitCount_0f7a4 cJ6_bitCount_0f7a4 1 (some .int) 0 sp_J6_bitCount_0f7a4 := vg_met ww_closed (by decide +kernel) rfl s_J6_bitCount_0f7a4 w_J6_bitCount_0f7a4 g_J6_bitCount_0f7a4
/-- one group comes to believe one warning -/
def jBel1 (g w : Nat) (q : jN × Int32) : jN × Int32 := if q.1 11 w 7 = 0 then q else if q.1 18 g w = -1 then (if jBits (q.1 14 g w) < jNeed (q.1 9 g 3) then q else (jUp q.1 18 g w (q.1 1 0 0), q.2 + 1)) else q
def jBelOne (g : Nat) (v : jN) : jN × Int32 := jIt (jBel1 g) (jWc v) (v, 0)
theorem jBel1_keep (g w : Nat) (q : jN × Int32) : jKeep q.1 (jBel1 g w q).1 := by
  unfold jBel1
  split
  · exact jKeep.rf
  · split
    · split
      · exact jKeep.rf
      · exact jKeep.rf.up (by omega)
    · exact jKeep.rf
theorem jBelOne_keep (g : Nat) (v : jN) : jKeep v (jBelOne g v).1 := jIt2_keep (jBel1_keep g) (v, 0) _
def sp_X1_believeOne : vgC := fun av σ => match av with
  | [.inr (1, b, 0), .inr (9, b', g)] => (jWf (jV σ b) ∧ b' = b, some (.inl (.int ((jBelOne g (jV σ b)).2))), jPut σ b (jBelOne g (jV σ b)).1)
  | _ => (False, none, σ)
def k_X1_believeOne : List (Nat × vgF) := [(0, vi_icst (0) 1), (1, vi_istore 2 2), (2, vi_icst (0) 3), (3, vi_istore 3 4), (4, vi_iload 3 5), (5, vi_aload 0 6), (6, vi_get ww_shp 1 6 9), (9, vi_cmp (fun x y => y ≤ x) 81 12), (12, vi_aload 0 13), (13, vi_get ww_shp 1 9 16), (16, vi_iload 3 17), (17, vi_aald ww_shp 4 18), (18, vi_get ww_shp 4 7 21), (21, vi_if (fun x => x = 0) 38 24), (24, vi_aload 1 25), (25, vi_get ww_shp 5 12 28), (28, vi_iload 3 29), (29, vi_ald ww_shp 0 30), (30, vi_icst (-1) 31), (31, vi_cmp (fun x y => x = y) 34 38), (34, vi_icst (1) 35), (35, vi_goto 39), (38, vi_icst (0) 39), (39, vi_istore 4 41), (41, vi_iload 4 43), (43, vi_if (fun x => x = 0) 75 46), (46, vi_aload 1 47), (47, vi_get ww_shp 5 8 50), (50, vi_iload 3 51), (51, vi_ald ww_shp 0 52), (52, vi_callS sp_J6_bitCount_0f7a4 1 55), (55, vi_aload 1 56), (56, vi_callV ww_shp 5 sp_X0_waysNeeded 0 59), (59, vi_cmp (fun x y => x < y) 75 62), (62, vi_aload 1 63), (63, vi_get ww_shp 5 12 66), (66, vi_iload 3 67), (67, vi_aload 0 68), (68, vi_get ww_shp 1 0 71), (71, vi_ast ww_shp 0 72), (72, vi_iinc 2 (1) 75), (75, vi_iinc 3 (1) 78), (78, vi_goto 4), (81, vi_iload 2 82), (82, vi_ret)]
set_option maxRecDepth 20000 in
theorem s_X1_believeOne : ∀ q ∈ k_X1_believeOne, vg_Snd ww_tb ww_nw ww_shp ww_nm ww_cl ww_tyl cX1_believeOne 5 RX1 (some .int) 2 q.1 q.2 := by
  refine vg_cons (vs_iconst dX1_believeOne_0 rfl rfl) ?_
  refine vg_cons (vs_istore_n dX1_believeOne_1 rfl (by decide) rfl) ?_
  refine vg_cons (vs_iconst dX1_believeOne_2 rfl rfl) ?_
  refine vg_cons (vs_istore_n dX1_believeOne_3 rfl (by decide) rfl) ?_
  refine vg_cons (vs_iload_n dX1_believeOne_4 rfl rfl) ?_
  refine vg_cons (vs_aload_n dX1_believeOne_5 rfl rfl) ?_
  refine vg_cons (vs_getfield (T := TX1) dX1_believeOne_6 rfl (by decide) ww_inX1 q_16 rfl) ?_
  refine vg_cons (vs_cmp_ge dX1_believeOne_9 (by decide) rfl) ?_
  refine vg_cons (vs_aload_n dX1_believeOne_12 rfl rfl) ?_
  refine vg_cons (vs_getfield (T := TX1) dX1_believeOne_13 rfl (by decide) ww_inX1 q_17 rfl) ?_
  refine vg_cons (vs_iload_n dX1_believeOne_16 rfl rfl) ?_
  refine vg_cons (vs_aaload dX1_believeOne_17 rfl rfl) ?_
  refine vg_cons (vs_getfield (T := TX4) dX1_believeOne_18 rfl (by decide) ww_inX4 q_18 rfl) ?_
  refine vg_cons (vs_if_eq dX1_believeOne_21 (by decide) rfl) ?_
  refine vg_cons (vs_aload_n dX1_believeOne_24 rfl rfl) ?_
  refine vg_cons (vs_getfield (T := TX0) dX1_believeOne_25 rfl (by decide) ww_inX0 q_19 rfl) ?_
  refine vg_cons (vs_iload_n dX1_believeOne_28 rfl rfl) ?_
  refine vg_cons (vs_iaload dX1_believeOne_29 rfl rfl) ?_
  refine vg_cons (vs_iconst dX1_believeOne_30 rfl rfl) ?_
  refine vg_cons (vs_cmp_ne dX1_believeOne_31 (by decide) rfl) ?_
  refine vg_cons (vs_iconst dX1_believeOne_34 rfl rfl) ?_
  refine vg_cons (vs_goto dX1_believeOne_35 (by decide)) ?_
  refine vg_cons (vs_iconst dX1_believeOne_38 rfl rfl) ?_
  refine vg_cons (vs_istore dX1_believeOne_39 (by decide) rfl) ?_
  refine vg_cons (vs_iload dX1_believeOne_41 rfl) ?_
  refine vg_cons (vs_if_eq dX1_believeOne_43 (by decide) rfl) ?_
  refine vg_cons (vs_aload_n dX1_believeOne_46 rfl rfl) ?_
  refine vg_cons (vs_getfield (T := TX0) dX1_believeOne_47 rfl (by decide) ww_inX0 q_56 rfl) ?_
  refine vg_cons (vs_iload_n dX1_believeOne_50 rfl rfl) ?_
  refine vg_cons (vs_iaload dX1_believeOne_51 rfl rfl) ?_
  refine vg_cons (vs_callS c_J6_bitCount_0f7a4 dX1_believeOne_52 ww_good q_108 q_109 q_111 q_110 (by decide +kernel) (by decide) rfl) ?_
  refine vg_cons (vs_aload_n dX1_believeOne_55 rfl rfl) ?_
  refine vg_cons (vs_callV (T := TX0) c_X0_waysNeeded dX1_believeOne_56 rfl ww_good q_112 q_21 q_113 q_114 q_115 (by decide +kernel) (by decide) rfl) ?_
  refine vg_cons (vs_cmp_lt dX1_believeOne_59 (by decide) rfl) ?_
  refine vg_cons (vs_aload_n dX1_believeOne_62 rfl rfl) ?_
  refine vg_cons (vs_getfield (T := TX0) dX1_believeOne_63 rfl (by decide) ww_inX0 q_19 rfl) ?_
  refine vg_cons (vs_iload_n dX1_believeOne_66 rfl rfl) ?_
  refine vg_cons (vs_aload_n dX1_believeOne_67 rfl rfl) ?_
  refine vg_cons (vs_getfield (T := TX1) dX1_believeOne_68 rfl (by decide) ww_inX1 q_10 rfl) ?_
  refine vg_cons (vs_iastore dX1_believeOne_71 rfl rfl) ?_
  refine vg_cons (vs_iinc dX1_believeOne_72 rfl rfl) ?_
  refine vg_cons (vs_iinc dX1_believeOne_75 rfl rfl) ?_
  refine vg_cons (vs_goto dX1_believeOne_78 (by decide)) ?_
  refine vg_cons (vs_iload_n dX1_believeOne_81 rfl rfl) ?_
  refine vg_cons (vs_ireturn dX1_believeOne_82 rfl) ?_
  exact fun _ h => absurd h List.not_mem_nil
theorem m_X1_believeOne : vg_Code k_X1_believeOne := fun q h => (s_X1_believeOne q h).1

theorem w_X1_believeOne : vg_Wd sp_X1_believeOne 5 := by
  intro av σ h
  unfold sp_X1_believeOne at h
  split at h
  · exact Nat.le_of_ble_eq_true rfl
  · exact h.elim
theorem g_X1_believeOne : vg_G k_X1_believeOne sp_X1_believeOne := by
  intro av σ h
  unfold sp_X1_believeOne at h ⊢
  split at h
  next b b' g =>
    obtain ⟨hw, rfl⟩ := h
    have h12 := hw.2.2.1.2
    refine vg_run (cuts := [(4, [0, 1, 2, 3])]) m_X1_believeOne 20 ?_
    refine vg_loop (fun i lv σ' => ∃ x q, q = jIt (jBel1 g) i (jV σ b', 0) ∧ σ' = jPut σ b' q.1 ∧ x = nI i ∧ lv = [(0, .inr (1, b', 0)), (1, .inr (9, b', g)), (2, .inl (.int q.2)), (3, .inl (.int x))]) (jWc (jV σ b')) ?_ ?_ 0 _ _ (Nat.zero_le _) ⟨0, _, rfl, jPut_jV.symm, rfl, rfl⟩
    · rintro i lv σ' hi ⟨x, q, hvi, rfl, hx, rfl⟩ ih
      have hK : jKeep (jV σ b') q.1 := by rw [hvi]; exact jIt2_keep (jBel1_keep g) (jV σ b', 0) i
      have hcnt : jPut σ b' q.1 (1, b', 0) 6 = nI (jWc (jV σ b')) := jPut_at.trans ((hK.1 0 6 (by omega)).trans hw.2.2.1.1)
      have hc0 : x.toNatClampNeg = i := jcl hx (by omega)
      have hv : vp_in x 12 := jin hx (by omega) (by decide)
      have nx : jBel1 g i q = q → vg_Go k_X1_believeOne _ 4 [(0, .inr (1, b', 0)), (1, .inr (9, b', g)), (2, .inl (.int q.2)), (3, .inl (.int (x + 1)))] [] (jPut σ b' q.1) := fun z => ih _ _ ⟨x + 1, q, by rw [jIt, ← hvi, z], rfl, jinc hx, rfl⟩
      refine vg_run (cuts := [(4, [0, 1, 2, 3])]) m_X1_believeOne 60 ?_
      refine And.intro (fun hc => absurd ((jle hcnt hx (by omega) (by omega)).mp hc) (by omega)) (fun _ => And.intro hv (And.intro (fun hd => ?_) (fun hd => And.intro hv (And.intro (fun he => ?_) (fun he => ?_)))))
      · rw [jPut_at, hc0] at hd
        exact And.intro (fun _ => nx (if_pos hd)) (fun z => absurd rfl z)
      · rw [jPut_at, hc0] at hd he
        refine And.intro (fun z => absurd z (by decide)) (fun _ => And.intro hv (And.intro trivial (And.intro trivial (And.intro (fun hf => ?_) (fun hf => And.intro hv ?_)))))
        · rw [jPut_at, jPut_at, hc0] at hf
          exact nx ((if_neg hd).trans ((if_pos he).trans (if_pos hf)))
        · rw [jPut_at, jPut_at, hc0] at hf
          refine ih _ _ ⟨x + 1, (jUp q.1 18 g i (q.1 1 0 0), q.2 + 1), ?_, ?_, jinc hx, rfl⟩
          · rw [jIt, ← hvi]
            exact ((if_neg hd).trans ((if_pos he).trans (if_neg hf))).symm
          · show vg_st (jPut σ b' q.1) (18, b', g) x.toNatClampNeg (jPut σ b' q.1 (1, b', 0) 0) = _
            rw [hc0, jst, jPut_at]
      · rw [jPut_at, hc0] at hd he
        exact And.intro (fun _ => nx ((if_neg hd).trans (if_neg he))) (fun z => absurd rfl z)
    · rintro lv σ' ⟨x, q, hvi, rfl, hx, rfl⟩
      have hK : jKeep (jV σ b') q.1 := by rw [hvi]; exact jIt2_keep (jBel1_keep g) (jV σ b', 0) _
      have hcnt : jPut σ b' q.1 (1, b', 0) 6 = nI (jWc (jV σ b')) := jPut_at.trans ((hK.1 0 6 (by omega)).trans hw.2.2.1.1)
      refine vg_run (cuts := [(4, [0, 1, 2, 3])]) m_X1_believeOne 20 ?_
      exact And.intro (fun _ => And.intro (by rw [hvi]; rfl) (by rw [hvi]; rfl)) (fun hc => absurd ((jle hcnt hx (by omega) (by omega)).mpr (Nat.le_refl _)) hc)
  next => exact h.elim
theorem c_X1_believeOne : vg_MetF ww_tb ww_nw ww_shp ww_nm ww_cl ww_tyl yX1_believeOne cX1_believeOne 5 (some .int) 2 sp_X1_believeOne := vg_met ww_closed (by decide +kernel) rfl s_X1_believeOne w_X1_believeOne g_X1_believeOne
def jBelG (g : Nat) (q : jN × Int32) : jN × Int32 := if jGone q.1 g then q else ((jBelOne g q.1).1, q.2 + (jBelOne g q.1).2)
def jBelAll (v : jN) : jN × Int32 := jIt jBelG (jGc v) (v, 0)
theorem jBelG_keep (g : Nat) (q : jN × Int32) : jKeep q.1 (jBelG g q).1 := by
  unfold jBelG
  split
  · exact jKeep.rf
  · exact jBelOne_keep _ _
theorem jBelAll_keep (v : jN) : jKeep v (jBelAll v).1 := jIt2_keep jBelG_keep (v, 0) _
def sp_X1_believeAll : vgC := fun av σ => match av with
  | [.inr (1, b, 0)] => (jWf (jV σ b), some (.inl (.int ((jBelAll (jV σ b)).2))), jPut σ b (jBelAll (jV σ b)).1)
  | _ => (False, none, σ)
def k_X1_believeAll : List (Nat × vgF) := [(0, vi_icst (0) 1), (1, vi_istore 1 2), (2, vi_icst (0) 3), (3, vi_istore 2 4), (4, vi_iload 2 5), (5, vi_aload 0 6), (6, vi_get ww_shp 1 4 9), (9, vi_cmp (fun x y => y ≤ x) 43 12), (12, vi_aload 0 13), (13, vi_get ww_shp 1 7 16), (16, vi_iload 2 17), (17, vi_aald ww_shp 2 18), (18, vi_callV ww_shp 5 sp_X0_isGone 0 21), (21, vi_if (fun x => x = 0) 24 37), (24, vi_iload 1 25), (25, vi_aload 0 26), (26, vi_aload 0 27), (27, vi_get ww_shp 1 7 30), (30, vi_iload 2 31), (31, vi_aald ww_shp 2 32), (32, vi_callV ww_shp 1 sp_X1_believeOne 1 35), (35, vi_bin (fun x y => x + y) 36), (36, vi_istore 1 37), (37, vi_iinc 2 (1) 40), (40, vi_goto 4), (43, vi_iload 1 44), (44, vi_ret)]
set_option maxRecDepth 20000 in
theorem s_X1_believeAll : ∀ q ∈ k_X1_believeAll, vg_Snd ww_tb ww_nw ww_shp ww_nm ww_cl ww_tyl cX1_believeAll 3 RX1 (some .int) 3 q.1 q.2 := by
  refine vg_cons (vs_iconst dX1_believeAll_0 rfl rfl) ?_
  refine vg_cons (vs_istore_n dX1_believeAll_1 rfl (by decide) rfl) ?_
  refine vg_cons (vs_iconst dX1_believeAll_2 rfl rfl) ?_
  refine vg_cons (vs_istore_n dX1_believeAll_3 rfl (by decide) rfl) ?_
  refine vg_cons (vs_iload_n dX1_believeAll_4 rfl rfl) ?_
  refine vg_cons (vs_aload_n dX1_believeAll_5 rfl rfl) ?_
  refine vg_cons (vs_getfield (T := TX1) dX1_believeAll_6 rfl (by decide) ww_inX1 q_38 rfl) ?_
  refine vg_cons (vs_cmp_ge dX1_believeAll_9 (by decide) rfl) ?_
  refine vg_cons (vs_aload_n dX1_believeAll_12 rfl rfl) ?_
  refine vg_cons (vs_getfield (T := TX1) dX1_believeAll_13 rfl (by decide) ww_inX1 q_39 rfl) ?_
  refine vg_cons (vs_iload_n dX1_believeAll_16 rfl rfl) ?_
  refine vg_cons (vs_aaload dX1_believeAll_17 rfl rfl) ?_
  refine vg_cons (vs_callV (T := TX0) c_X0_isGone dX1_believeAll_18 rfl ww_good q_20 q_21 q_22 q_23 q_24 (by decide +kernel) (by decide) rfl) ?_
  refine vg_cons (vs_if_ne dX1_believeAll_21 (by decide) rfl) ?_
  refine vg_cons (vs_iload_n dX1_believeAll_24 rfl rfl) ?_
  refine vg_cons (vs_aload_n dX1_believeAll_25 rfl rfl) ?_
  refine vg_cons (vs_aload_n dX1_believeAll_26 rfl rfl) ?_
  refine vg_cons (vs_getfield (T := TX1) dX1_believeAll_27 rfl (by decide) ww_inX1 q_39 rfl) ?_
  refine vg_cons (vs_iload_n dX1_believeAll_30 rfl rfl) ?_
  refine vg_cons (vs_aaload dX1_believeAll_31 rfl rfl) ?_
  refine vg_cons (vs_callV (T := TX1) c_X1_believeOne dX1_believeAll_32 rfl ww_good q_116 q_12 q_117 q_118 q_119 (by decide +kernel) (by decide) rfl) ?_
  refine vg_cons (vs_iadd dX1_believeAll_35 rfl) ?_
  refine vg_cons (vs_istore_n dX1_believeAll_36 rfl (by decide) rfl) ?_
  refine vg_cons (vs_iinc dX1_believeAll_37 rfl rfl) ?_
  refine vg_cons (vs_goto dX1_believeAll_40 (by decide)) ?_
  refine vg_cons (vs_iload_n dX1_believeAll_43 rfl rfl) ?_
  refine vg_cons (vs_ireturn dX1_believeAll_44 rfl) ?_
  exact fun _ h => absurd h List.not_mem_nil
theorem m_X1_believeAll : vg_Code k_X1_believeAll := fun q h => (s_X1_believeAll q h).1

theorem w_X1_believeAll : vg_Wd sp_X1_believeAll 3 := by
  intro av σ h
  unfold sp_X1_believeAll at h
  split at h
  · exact Nat.le_of_ble_eq_true rfl
  · exact h.elim
theorem g_X1_believeAll : vg_G k_X1_believeAll sp_X1_believeAll := by
  intro av σ h
  unfold sp_X1_believeAll at h ⊢
  split at h
  next b =>
    have h8 := h.1.2
    refine vg_run (cuts := [(4, [0, 1, 2])]) m_X1_believeAll 20 ?_
    refine vg_loop (fun i lv σ' => ∃ x q, q = jIt jBelG i (jV σ b, 0) ∧ σ' = jPut σ b q.1 ∧ x = nI i ∧ lv = [(0, .inr (1, b, 0)), (1, .inl (.int q.2)), (2, .inl (.int x))]) (jGc (jV σ b)) ?_ ?_ 0 _ _ (Nat.zero_le _) ⟨0, _, rfl, jPut_jV.symm, rfl, rfl⟩
    · rintro i lv σ' hi ⟨x, q, hvi, rfl, hx, rfl⟩ ih
      have hK : jKeep (jV σ b) q.1 := by rw [hvi]; exact jIt2_keep jBelG_keep (jV σ b, 0) i
      have hcnt : jPut σ b q.1 (1, b, 0) 4 = nI (jGc (jV σ b)) := jPut_at.trans ((hK.1 0 4 (by omega)).trans h.1.1)
      have hc0 : x.toNatClampNeg = i := jcl hx (by omega)
      have hv : vp_in x 8 := jin hx (by omega) (by decide)
      refine vg_run (cuts := [(4, [0, 1, 2])]) m_X1_believeAll 60 ?_
      refine And.intro (fun hc => absurd ((jle hcnt hx (by omega) (by omega)).mp hc) (by omega)) (fun _ => And.intro hv (And.intro trivial (And.intro (fun hd => And.intro hv (And.intro ⟨by rw [jV_put]; exact hK.wf h, rfl⟩ ?_)) (fun hd => ?_))))
      · rw [jV_put, hc0] at hd
        refine ih _ _ ⟨x + 1, ((jBelOne i q.1).1, q.2 + (jBelOne i q.1).2), ?_, ?_, jinc hx, ?_⟩
        · rw [jIt, ← hvi]
          exact (if_neg (jb_0.mp hd)).symm
        · show jPut (jPut σ b q.1) b (jBelOne x.toNatClampNeg (jV (jPut σ b q.1) b)).1 = _
          rw [jPut_put, jV_put, hc0]
        · show [_, (1, Sum.inl (Value.int (q.2 + (jBelOne x.toNatClampNeg (jV (jPut σ b q.1) b)).2))), _] = _
          rw [jV_put, hc0]
      · rw [jV_put, hc0] at hd
        have hg : jGone q.1 i := Classical.byContradiction (fun z => hd (jb_f z))
        exact ih _ _ ⟨x + 1, q, by rw [jIt, ← hvi]; exact (if_pos hg).symm, rfl, jinc hx, rfl⟩
    · rintro lv σ' ⟨x, q, hvi, rfl, hx, rfl⟩
      have hK : jKeep (jV σ b) q.1 := by rw [hvi]; exact jIt2_keep jBelG_keep (jV σ b, 0) _
      have hcnt : jPut σ b q.1 (1, b, 0) 4 = nI (jGc (jV σ b)) := jPut_at.trans ((hK.1 0 4 (by omega)).trans h.1.1)
      refine vg_run (cuts := [(4, [0, 1, 2])]) m_X1_believeAll 20 ?_
      exact And.intro (fun _ => And.intro (by rw [hvi]; rfl) (by rw [hvi]; rfl)) (fun hc => absurd ((jle hcnt hx (by omega) (by omega)).mpr (Nat.le_refl _)) hc)
  next => exact h.elim
theorem c_X1_believeAll : vg_MetF ww_tb ww_nw ww_shp ww_nm ww_cl ww_tyl yX1_believeAll cX1_believeAll 3 (some .int) 3 sp_X1_believeAll := vg_met ww_closed (by decide +kernel) rfl s_X1_believeAll w_X1_believeAll g_X1_believeAll
abbrev jGoal (v : jN) (g : Nat) : Int32 := (jNear v g (jSc v)).1
def jGoOne (g : Nat) (v : jN) : jN := if jGoal v g < 0 then v else if jGoal v g < v 1 0 5 then (if v 10 (jGoal v g).toNatClampNeg 0 = v 9 g 0 then jUp (jUp v 10 (jGoal v g).toNatClampNeg 1 (v 10 (jGoal v g).toNatClampNeg 1 - v 9 g 1)) 9 g 6 (jGoal v g) else jUp v 9 g 0 (jStep (v 9 g 0) (v 10 (jGoal v g).toNatClampNeg 0))) else v
theorem jGoOne_keep (g : Nat) (v : jN) : jKeep v (jGoOne g v) := by
  unfold jGoOne
  split
  · exact jKeep.rf
  · split
    · split
      · exact (jKeep.rf.up (by omega)).up (by omega)
      · exact jKeep.rf.up (by omega)
    · exact jKeep.rf
def sp_X1_goOne : vgC := fun av σ => match av with
  | [.inr (1, b, 0), .inr (9, b', g)] => (jWf (jV σ b) ∧ b' = b, none, jPut σ b (jGoOne g (jV σ b)))
  | _ => (False, none, σ)
def k_X1_goOne : List (Nat × vgF) := [(0, vi_aload 0 1), (1, vi_aload 1 2), (2, vi_callV ww_shp 1 sp_X1_nearestWithRoom 1 5), (5, vi_istore 2 6), (6, vi_iload 2 7), (7, vi_if (fun x => x < 0) 18 10), (10, vi_iload 2 11), (11, vi_aload 0 12), (12, vi_get ww_shp 1 5 15), (15, vi_cmp (fun x y => x < y) 19 18), (18, vi_retV), (19, vi_aload 0 20), (20, vi_get ww_shp 1 8 23), (23, vi_iload 2 24), (24, vi_aald ww_shp 3 25), (25, vi_get ww_shp 3 0 28), (28, vi_aload 1 29), (29, vi_get ww_shp 5 0 32), (32, vi_cmp (fun x y => x = y) 35 61), (35, vi_aload 0 36), (36, vi_get ww_shp 1 8 39), (39, vi_iload 2 40), (40, vi_aald ww_shp 3 41), (41, vi_dup 42), (42, vi_get ww_shp 3 1 45), (45, vi_aload 1 46), (46, vi_get ww_shp 5 1 49), (49, vi_bin (fun x y => x - y) 50), (50, vi_put ww_shp 3 1 53), (53, vi_aload 1 54), (54, vi_iload 2 55), (55, vi_put ww_shp 5 6 58), (58, vi_goto 81), (61, vi_aload 1 62), (62, vi_aload 1 63), (63, vi_get ww_shp 5 0 66), (66, vi_aload 0 67), (67, vi_get ww_shp 1 8 70), (70, vi_iload 2 71), (71, vi_aald ww_shp 3 72), (72, vi_get ww_shp 3 0 75), (75, vi_callS sp_X5_stepTowards 2 78), (78, vi_put ww_shp 5 0 81), (81, vi_retV)]
set_option maxRecDepth 20000 in
theorem s_X1_goOne : ∀ q ∈ k_X1_goOne, vg_Snd ww_tb ww_nw ww_shp ww_nm ww_cl ww_tyl cX1_goOne 3 RX1 none 3 q.1 q.2 := by
  refine vg_cons (vs_aload_n dX1_goOne_0 rfl rfl) ?_
  refine vg_cons (vs_aload_n dX1_goOne_1 rfl rfl) ?_
  refine vg_cons (vs_callV (T := TX1) c_X1_nearestWithRoom dX1_goOne_2 rfl ww_good q_120 q_12 q_121 q_122 q_123 (by decide +kernel) (by decide) rfl) ?_
  refine vg_cons (vs_istore_n dX1_goOne_5 rfl (by decide) rfl) ?_
  refine vg_cons (vs_iload_n dX1_goOne_6 rfl rfl) ?_
  refine vg_cons (vs_if_lt dX1_goOne_7 (by decide) rfl) ?_
  refine vg_cons (vs_iload_n dX1_goOne_10 rfl rfl) ?_
  refine vg_cons (vs_aload_n dX1_goOne_11 rfl rfl) ?_
  refine vg_cons (vs_getfield (T := TX1) dX1_goOne_12 rfl (by decide) ww_inX1 q_60 rfl) ?_
  refine vg_cons (vs_cmp_lt dX1_goOne_15 (by decide) rfl) ?_
  refine vg_cons (vs_return dX1_goOne_18 rfl) ?_
  refine vg_cons (vs_aload_n dX1_goOne_19 rfl rfl) ?_
  refine vg_cons (vs_getfield (T := TX1) dX1_goOne_20 rfl (by decide) ww_inX1 q_61 rfl) ?_
  refine vg_cons (vs_iload_n dX1_goOne_23 rfl rfl) ?_
  refine vg_cons (vs_aaload dX1_goOne_24 rfl rfl) ?_
  refine vg_cons (vs_getfield (T := TX3) dX1_goOne_25 rfl (by decide) ww_inX3 q_62 rfl) ?_
  refine vg_cons (vs_aload_n dX1_goOne_28 rfl rfl) ?_
  refine vg_cons (vs_getfield (T := TX0) dX1_goOne_29 rfl (by decide) ww_inX0 q_49 rfl) ?_
  refine vg_cons (vs_cmp_ne dX1_goOne_32 (by decide) rfl) ?_
  refine vg_cons (vs_aload_n dX1_goOne_35 rfl rfl) ?_
  refine vg_cons (vs_getfield (T := TX1) dX1_goOne_36 rfl (by decide) ww_inX1 q_61 rfl) ?_
  refine vg_cons (vs_iload_n dX1_goOne_39 rfl rfl) ?_
  refine vg_cons (vs_aaload dX1_goOne_40 rfl rfl) ?_
  refine vg_cons (vs_dup dX1_goOne_41 rfl) ?_
  refine vg_cons (vs_getfield (T := TX3) dX1_goOne_42 rfl (by decide) ww_inX3 q_63 rfl) ?_
  refine vg_cons (vs_aload_n dX1_goOne_45 rfl rfl) ?_
  refine vg_cons (vs_getfield (T := TX0) dX1_goOne_46 rfl (by decide) ww_inX0 q_44 rfl) ?_
  refine vg_cons (vs_isub dX1_goOne_49 rfl) ?_
  refine vg_cons (vs_putfield (T := TX3) tyX3 dX1_goOne_50 rfl (by decide) ww_inX3 tyX3_ok nmX3 rfl rfl q_63 rfl) ?_
  refine vg_cons (vs_aload_n dX1_goOne_53 rfl rfl) ?_
  refine vg_cons (vs_iload_n dX1_goOne_54 rfl rfl) ?_
  refine vg_cons (vs_putfield (T := TX0) tyX0 dX1_goOne_55 rfl (by decide) ww_inX0 tyX0_ok nmX0 rfl rfl q_124 rfl) ?_
  refine vg_cons (vs_goto dX1_goOne_58 (by decide)) ?_
  refine vg_cons (vs_aload_n dX1_goOne_61 rfl rfl) ?_
  refine vg_cons (vs_aload_n dX1_goOne_62 rfl rfl) ?_
  refine vg_cons (vs_getfield (T := TX0) dX1_goOne_63 rfl (by decide) ww_inX0 q_49 rfl) ?_
  refine vg_cons (vs_aload_n dX1_goOne_66 rfl rfl) ?_
  refine vg_cons (vs_getfield (T := TX1) dX1_goOne_67 rfl (by decide) ww_inX1 q_61 rfl) ?_
  refine vg_cons (vs_iload_n dX1_goOne_70 rfl rfl) ?_
  refine vg_cons (vs_aaload dX1_goOne_71 rfl rfl) ?_
  refine vg_cons (vs_getfield (T := TX3) dX1_goOne_72 rfl (by decide) ww_inX3 q_62 rfl) ?_
  refine vg_cons (vs_callSN (host := "WarnWave") c_X5_stepTowards dX1_goOne_75 ww_good q_125 q_51 (by decide +kernel) q_126 (by decide +kernel) (by decide) rfl) ?_
  refine vg_cons (vs_putfield (T := TX0) tyX0 dX1_goOne_78 rfl (by decide) ww_inX0 tyX0_ok nmX0 rfl rfl q_49 rfl) ?_
  refine vg_cons (vs_return dX1_goOne_81 rfl) ?_
  exact fun _ h => absurd h List.not_mem_nil
theorem m_X1_goOne : vg_Code k_X1_goOne := fun q h => (s_X1_goOne q h).1

theorem w_X1_goOne : vg_Wd sp_X1_goOne 3 := by
  intro av σ h
  unfold sp_X1_goOne at h
  split at h
  · exact Nat.le_of_ble_eq_true rfl
  · exact h.elim
theorem g_X1_goOne : vg_G k_X1_goOne sp_X1_goOne := by
  intro av σ h
  unfold sp_X1_goOne at h ⊢
  split at h
  next b b' g =>
    obtain ⟨hw, rfl⟩ := h
    have hsc := hw.2.1
    have same : jGoOne g (jV σ b') = jV σ b' → σ = jPut σ b' (jGoOne g (jV σ b')) := fun z => by rw [z, jPut_jV]
    refine vg_run (cuts := []) m_X1_goOne 80 ?_
    refine And.intro ⟨hw, rfl⟩ (And.intro (fun hc => And.intro rfl (same (if_pos hc))) (fun hc => And.intro (fun hd => ?_) (fun hd => And.intro rfl (same ((if_neg hc).trans (if_neg hd))))))
    have hv : vp_in (jGoal (jV σ b') g) 3 := by
      have h1 : jGoal (jV σ b') g < nI (jSc (jV σ b')) := by rw [← hsc.1]; exact hd
      have h0 : ¬ jGoal (jV σ b') g < 0 := hc
      obtain ⟨j, hj, e⟩ := nI_of h0
      have h2 : j < jSc (jV σ b') := by
        rw [e] at h1
        exact (nI_ltI hj (by have := hsc.2; omega)).mp h1
      rw [e]
      exact vp_in_nI (by have := hsc.2; omega) (by decide)
    refine And.intro hv (And.intro (fun he => And.intro hv (And.intro rfl (And.intro rfl ?_))) (fun he => And.intro hv (And.intro trivial (And.intro rfl ?_))))
    · have e : jGoOne g (jV σ b') = _ := (if_neg hc).trans ((if_pos hd).trans (if_pos he))
      rw [e]
      show vg_st (vg_st σ (10, b', (jGoal (jV σ b') g).toNatClampNeg) 1 (σ (10, b', (jGoal (jV σ b') g).toNatClampNeg) 1 - σ (9, b', g) 1)) (9, b', g) 6 (jGoal (jV σ b') g) = _
      rw [show vg_st σ (10, b', (jGoal (jV σ b') g).toNatClampNeg) 1 (σ (10, b', (jGoal (jV σ b') g).toNatClampNeg) 1 - σ (9, b', g) 1) = _ from jst0, jst]
      rfl
    · have e : jGoOne g (jV σ b') = _ := (if_neg hc).trans ((if_pos hd).trans (if_neg he))
      rw [e]
      exact jst0
  next => exact h.elim
theorem c_X1_goOne : vg_MetF ww_tb ww_nw ww_shp ww_nm ww_cl ww_tyl yX1_goOne cX1_goOne 3 none 3 sp_X1_goOne := vg_met ww_closed (by decide +kernel) rfl s_X1_goOne w_X1_goOne g_X1_goOne
def jLatG (v : jN) (g : Nat) : Int32 := if jGone v g then -1 else if jSafe v g then -1 else jLt v g
def jGoG (g : Nat) (v : jN) : jN := if jLatG v g < 0 then v else if v 1 0 6 ≤ jLatG v g then v else if v 11 (jLatG v g).toNatClampNeg 3 = 1 then jGoOne g v else v
def jGoAll (v : jN) : jN := jIt jGoG (jGc v) v
theorem jGoG_keep (g : Nat) (v : jN) : jKeep v (jGoG g v) := by
  unfold jGoG
  split
  · exact jKeep.rf
  · split
    · exact jKeep.rf
    · split
      · exact jGoOne_keep _ _
      · exact jKeep.rf
theorem jGoAll_keep (v : jN) : jKeep v (jGoAll v) := jIt_keep jGoG_keep _ _
def sp_X1_goAll : vgC := fun av σ => match av with
  | [.inr (1, b, 0)] => (jWf (jV σ b), none, jPut σ b (jGoAll (jV σ b)))
  | _ => (False, none, σ)
def k_X1_goAll : List (Nat × vgF) := [(0, vi_icst (0) 1), (1, vi_istore 1 2), (2, vi_iload 1 3), (3, vi_aload 0 4), (4, vi_get ww_shp 1 4 7), (7, vi_cmp (fun x y => y ≤ x) 77 10), (10, vi_aload 0 11), (11, vi_get ww_shp 1 7 14), (14, vi_iload 1 15), (15, vi_aald ww_shp 2 16), (16, vi_astore 2 17), (17, vi_aload 2 18), (18, vi_callV ww_shp 5 sp_X0_isGone 0 21), (21, vi_if (fun x => x = 0) 24 31), (24, vi_aload 2 25), (25, vi_callV ww_shp 5 sp_X0_isSafe 0 28), (28, vi_if (fun x => x = 0) 35 31), (31, vi_icst (-1) 32), (32, vi_goto 40), (35, vi_aload 0 36), (36, vi_aload 2 37), (37, vi_callV ww_shp 1 sp_X1_latestBelieved 1 40), (40, vi_istore 3 41), (41, vi_iload 3 42), (42, vi_if (fun x => x < 0) 71 45), (45, vi_iload 3 46), (46, vi_aload 0 47), (47, vi_get ww_shp 1 6 50), (50, vi_cmp (fun x y => y ≤ x) 71 53), (53, vi_aload 0 54), (54, vi_get ww_shp 1 9 57), (57, vi_iload 3 58), (58, vi_aald ww_shp 4 59), (59, vi_get ww_shp 4 3 62), (62, vi_icst (1) 63), (63, vi_cmp (fun x y => x = y) 66 71), (66, vi_aload 0 67), (67, vi_aload 2 68), (68, vi_callV ww_shp 1 sp_X1_goOne 1 71), (71, vi_iinc 1 (1) 74), (74, vi_goto 2), (77, vi_retV)]
set_option maxRecDepth 20000 in
theorem s_X1_goAll : ∀ q ∈ k_X1_goAll, vg_Snd ww_tb ww_nw ww_shp ww_nm ww_cl ww_tyl cX1_goAll 4 RX1 none 4 q.1 q.2 := by
  refine vg_cons (vs_iconst dX1_goAll_0 rfl rfl) ?_
  refine vg_cons (vs_istore_n dX1_goAll_1 rfl (by decide) rfl) ?_
  refine vg_cons (vs_iload_n dX1_goAll_2 rfl rfl) ?_
  refine vg_cons (vs_aload_n dX1_goAll_3 rfl rfl) ?_
  refine vg_cons (vs_getfield (T := TX1) dX1_goAll_4 rfl (by decide) ww_inX1 q_38 rfl) ?_
  refine vg_cons (vs_cmp_ge dX1_goAll_7 (by decide) rfl) ?_
  refine vg_cons (vs_aload_n dX1_goAll_10 rfl rfl) ?_
  refine vg_cons (vs_getfield (T := TX1) dX1_goAll_11 rfl (by decide) ww_inX1 q_39 rfl) ?_
  refine vg_cons (vs_iload_n dX1_goAll_14 rfl rfl) ?_
  refine vg_cons (vs_aaload dX1_goAll_15 rfl rfl) ?_
  refine vg_cons (vs_astore_n dX1_goAll_16 rfl (by decide) rfl) ?_
  refine vg_cons (vs_aload_n dX1_goAll_17 rfl rfl) ?_
  refine vg_cons (vs_callV (T := TX0) c_X0_isGone dX1_goAll_18 rfl ww_good q_20 q_21 q_22 q_23 q_24 (by decide +kernel) (by decide) rfl) ?_
  refine vg_cons (vs_if_ne dX1_goAll_21 (by decide) rfl) ?_
  refine vg_cons (vs_aload_n dX1_goAll_24 rfl rfl) ?_
  refine vg_cons (vs_callV (T := TX0) c_X0_isSafe dX1_goAll_25 rfl ww_good q_45 q_21 q_46 q_47 q_48 (by decide +kernel) (by decide) rfl) ?_
  refine vg_cons (vs_if_eq dX1_goAll_28 (by decide) rfl) ?_
  refine vg_cons (vs_iconst dX1_goAll_31 rfl rfl) ?_
  refine vg_cons (vs_goto dX1_goAll_32 (by decide)) ?_
  refine vg_cons (vs_aload_n dX1_goAll_35 rfl rfl) ?_
  refine vg_cons (vs_aload_n dX1_goAll_36 rfl rfl) ?_
  refine vg_cons (vs_callV (T := TX1) c_X1_latestBelieved dX1_goAll_37 rfl ww_good q_29 q_12 q_30 q_31 q_32 (by decide +kernel) (by decide) rfl) ?_
  refine vg_cons (vs_istore_n dX1_goAll_40 rfl (by decide) rfl) ?_
  refine vg_cons (vs_iload_n dX1_goAll_41 rfl rfl) ?_
  refine vg_cons (vs_if_lt dX1_goAll_42 (by decide) rfl) ?_
  refine vg_cons (vs_iload_n dX1_goAll_45 rfl rfl) ?_
  refine vg_cons (vs_aload_n dX1_goAll_46 rfl rfl) ?_
  refine vg_cons (vs_getfield (T := TX1) dX1_goAll_47 rfl (by decide) ww_inX1 q_16 rfl) ?_
  refine vg_cons (vs_cmp_ge dX1_goAll_50 (by decide) rfl) ?_
  refine vg_cons (vs_aload_n dX1_goAll_53 rfl rfl) ?_
  refine vg_cons (vs_getfield (T := TX1) dX1_goAll_54 rfl (by decide) ww_inX1 q_17 rfl) ?_
  refine vg_cons (vs_iload_n dX1_goAll_57 rfl rfl) ?_
  refine vg_cons (vs_aaload dX1_goAll_58 rfl rfl) ?_
  refine vg_cons (vs_getfield (T := TX4) dX1_goAll_59 rfl (by decide) ww_inX4 q_127 rfl) ?_
  refine vg_cons (vs_iconst dX1_goAll_62 rfl rfl) ?_
  refine vg_cons (vs_cmp_ne dX1_goAll_63 (by decide) rfl) ?_
  refine vg_cons (vs_aload_n dX1_goAll_66 rfl rfl) ?_
  refine vg_cons (vs_aload_n dX1_goAll_67 rfl rfl) ?_
  refine vg_cons (vs_callV (T := TX1) c_X1_goOne dX1_goAll_68 rfl ww_good q_128 q_12 q_129 q_130 q_131 (by decide +kernel) (by decide) rfl) ?_
  refine vg_cons (vs_iinc dX1_goAll_71 rfl rfl) ?_
  refine vg_cons (vs_goto dX1_goAll_74 (by decide)) ?_
  refine vg_cons (vs_return dX1_goAll_77 rfl) ?_
  exact fun _ h => absurd h List.not_mem_nil
theorem m_X1_goAll : vg_Code k_X1_goAll := fun q h => (s_X1_goAll q h).1

theorem w_X1_goAll : vg_Wd sp_X1_goAll 4 := by
  intro av σ h
  unfold sp_X1_goAll at h
  split at h
  · exact Nat.le_of_ble_eq_true rfl
  · exact h.elim
theorem g_X1_goAll : vg_G k_X1_goAll sp_X1_goAll := by
  intro av σ h
  unfold sp_X1_goAll at h ⊢
  split at h
  next b =>
    have h8 := h.1.2
    have h12 := h.2.2.1
    refine vg_run (cuts := [(2, [0, 1])]) m_X1_goAll 20 ?_
    refine vg_loop (fun i lv σ' => ∃ x v, v = jIt jGoG i (jV σ b) ∧ σ' = jPut σ b v ∧ x = nI i ∧ lv = [(0, .inr (1, b, 0)), (1, .inl (.int x))]) (jGc (jV σ b)) ?_ ?_ 0 _ _ (Nat.zero_le _) ⟨0, _, rfl, jPut_jV.symm, rfl, rfl⟩
    · rintro i lv σ' hi ⟨x, v, hvi, rfl, hx, rfl⟩ ih
      have hK : jKeep (jV σ b) v := by rw [hvi]; exact jIt_keep jGoG_keep _ i
      have hcnt : jPut σ b v (1, b, 0) 4 = nI (jGc (jV σ b)) := jPut_at.trans ((hK.1 0 4 (by omega)).trans h.1.1)
      have hwc : v 1 0 6 = nI (jWc (jV σ b)) := (hK.1 0 6 (by omega)).trans h12.1
      have hc0 : x.toNatClampNeg = i := jcl hx (by omega)
      have hv : vp_in x 8 := jin hx (by omega) (by decide)
      have nx : jGoG i v = v → vg_Go k_X1_goAll (fun r σ' => r = none ∧ σ' = jPut σ b (jGoAll (jV σ b))) 2 [(0, .inr (1, b, 0)), (1, .inl (.int (x + 1)))] [] (jPut σ b v) := fun z => ih _ _ ⟨x + 1, v, by rw [jIt, ← hvi, z], rfl, jinc hx, rfl⟩
      have tail : ∀ la : Int32, la = jLatG v i → vg_Go k_X1_goAll (fun r σ' => r = none ∧ σ' = jPut σ b (jGoAll (jV σ b))) 41 [(0, .inr (1, b, 0)), (1, .inl (.int x)), (2, .inr (9, b, i)), (3, .inl (.int la))] [] (jPut σ b v) := by
        intro la hla
        refine vg_run (cuts := [(2, [0, 1])]) m_X1_goAll 40 ?_
        refine And.intro (fun hc => nx (if_pos (by rw [← hla]; exact hc))) (fun hc => And.intro (fun hd => ?_) (fun hd => ?_))
        · rw [jPut_at] at hd
          exact nx ((if_neg (by rw [← hla]; exact hc)).trans (if_pos (by rw [← hla]; exact hd)))
        · rw [jPut_at] at hd
          have hvl : vp_in la 12 := by
            obtain ⟨j, hj, e⟩ := nI_of hc
            have h2 : ¬ nI (jWc (jV σ b)) ≤ nI j := by rw [← hwc, ← e]; exact hd
            have h3 : ¬ jWc (jV σ b) ≤ j := fun z => h2 ((nI_leI (by omega) hj).mpr z)
            rw [e]
            exact vp_in_nI (by omega) (by decide)
          refine And.intro hvl (And.intro (fun he => And.intro ⟨by rw [jV_put]; exact hK.wf h, rfl⟩ ?_) (fun he => ?_))
          · rw [jPut_at] at he
            refine ih _ _ ⟨x + 1, jGoOne i v, ?_, ?_, jinc hx, rfl⟩
            · rw [jIt, ← hvi]
              exact ((if_neg (by rw [← hla]; exact hc)).trans ((if_neg (by rw [← hla]; exact hd)).trans (if_pos (by rw [← hla]; exact he)))).symm
            · show jPut (jPut σ b v) b (jGoOne i (jV (jPut σ b v) b)) = _
              rw [jPut_put, jV_put]
          · rw [jPut_at] at he
            exact nx ((if_neg (by rw [← hla]; exact hc)).trans ((if_neg (by rw [← hla]; exact hd)).trans (if_neg (by rw [← hla]; exact he))))
      refine vg_run (cuts := [(2, [0, 1]), (41, [0, 1, 2, 3])]) m_X1_goAll 60 ?_
      refine And.intro (fun hc => absurd ((jle hcnt hx (by omega) (by omega)).mp hc) (by omega)) (fun _ => And.intro hv (And.intro trivial (And.intro (fun hd => And.intro trivial (And.intro (fun he => And.intro ⟨by rw [jV_put]; exact hK.wf h, rfl⟩ ?_) (fun he => ?_))) (fun hd => ?_))))
      · rw [jV_put, hc0] at hd he
        have := tail (jLt v i) ((if_neg (jb_0.mp hd)).trans (if_neg (jb_0.mp he))).symm
        rw [← hc0] at this
        rw [jV_put]
        exact this
      · rw [jV_put, hc0] at hd he
        have := tail (-1) ((if_neg (jb_0.mp hd)).trans (if_pos (Classical.byContradiction (fun z => he (jb_f z))))).symm
        rw [← hc0] at this
        exact this
      · rw [jV_put, hc0] at hd
        have := tail (-1) (if_pos (Classical.byContradiction (fun z => hd (jb_f z)))).symm
        rw [← hc0] at this
        exact this
    · rintro lv σ' ⟨x, v, hvi, rfl, hx, rfl⟩
      have hK : jKeep (jV σ b) v := by rw [hvi]; exact jIt_keep jGoG_keep _ _
      have hcnt : jPut σ b v (1, b, 0) 4 = nI (jGc (jV σ b)) := jPut_at.trans ((hK.1 0 4 (by omega)).trans h.1.1)
      refine vg_run (cuts := [(2, [0, 1])]) m_X1_goAll 20 ?_
      exact And.intro (fun _ => And.intro rfl (by rw [hvi]; rfl)) (fun hc => absurd ((jle hcnt hx (by omega) (by omega)).mpr (Nat.le_refl _)) hc)
  next => exact h.elim
theorem c_X1_goAll : vg_MetF ww_tb ww_nw ww_shp ww_nm ww_cl ww_tyl yX1_goAll cX1_goAll 4 none 4 sp_X1_goAll := vg_met ww_closed (by decide +kernel) rfl s_X1_goAll w_X1_goAll g_X1_goAll
