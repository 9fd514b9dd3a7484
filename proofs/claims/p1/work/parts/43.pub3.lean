-- words of the tables, and what stands at each place of the methods' code (laid by program)
theorem u_105 : Cond.fieldLink RX2 22 (TX2 3).1 (TX2 3).2.1 (TX2 3).2.2.1 ∈ ww_tb := by decide +kernel
theorem u_106 : Cond.fieldLink RX5 138 (TX1 9).1 (TX1 9).2.1 (TX1 9).2.2.1 ∈ ww_tb := by decide +kernel
theorem u_107 : Cond.fieldLink RX5 237 (TX4 0).1 (TX4 0).2.1 (TX4 0).2.2.1 ∈ ww_tb := by decide +kernel
theorem u_108 : Cond.fieldLink RX5 240 (TX4 1).1 (TX4 1).2.1 (TX4 1).2.2.1 ∈ ww_tb := by decide +kernel
theorem u_109 : Cond.fieldLink RX5 142 (TX4 2).1 (TX4 2).2.1 (TX4 2).2.2.1 ∈ ww_tb := by decide +kernel
theorem u_110 : Cond.fieldLink RX5 147 (TX4 3).1 (TX4 3).2.1 (TX4 3).2.2.1 ∈ ww_tb := by decide +kernel
theorem u_111 : Cond.fieldLink RX5 150 (TX4 4).1 (TX4 4).2.1 (TX4 4).2.2.1 ∈ ww_tb := by decide +kernel
theorem u_112 : Cond.code yX2_setPower cX2_setPower 5 (some .int) ∈ ww_tb := by decide +kernel
theorem u_113 : Cond.methodLink RX5 101 yX2_setPower ∈ ww_tb := by decide +kernel
theorem u_114 : Cond.instanceMethod yX2_setPower ∈ ww_tb := by decide +kernel
theorem u_115 : Cond.selects RX2 yX2_setPower yX2_setPower ∈ ww_tb := by decide +kernel
theorem u_116 : Cond.code yX5_checkWords cX5_checkWords 3 none ∈ ww_tb := by decide +kernel
theorem u_117 : Cond.static yX5_checkWords ∈ ww_tb := by decide +kernel
theorem u_118 : Cond.methodLink RX5 125 yX5_checkWords ∈ ww_tb := by decide +kernel
theorem u_119 : Cond.code yX5_draft cX5_draft 7 (some .int) ∈ ww_tb := by decide +kernel
theorem u_120 : Cond.methodLink RX5 128 yX5_draft ∈ ww_tb := by decide +kernel
theorem u_121 : Cond.instanceMethod yX5_draft ∈ ww_tb := by decide +kernel
theorem u_122 : Cond.selects RX5 yX5_draft yX5_draft ∈ ww_tb := by decide +kernel
theorem u_123 : Cond.code yX1_playMinutes cX1_playMinutes 4 (some .int) ∈ ww_tb := by decide +kernel
theorem u_124 : Cond.methodLink RX5 183 yX1_playMinutes ∈ ww_tb := by decide +kernel
theorem u_125 : Cond.instanceMethod yX1_playMinutes ∈ ww_tb := by decide +kernel
theorem u_126 : Cond.selects RX1 yX1_playMinutes yX1_playMinutes ∈ ww_tb := by decide +kernel
theorem u_127 : Cond.code yJ9_floorMod_7cf53 cJ9_floorMod_7cf53 3 (some .int) ∈ ww_tb := by decide +kernel
theorem u_128 : Cond.initialized RJ9 ∈ ww_tb := by decide +kernel
theorem u_129 : Cond.static yJ9_floorMod_7cf53 ∈ ww_tb := by decide +kernel
theorem u_130 : Cond.methodLink RX5 186 yJ9_floorMod_7cf53 ∈ ww_tb := by decide +kernel
theorem u_131 : Cond.code yX1_countInForce cX1_countInForce 3 (some .int) ∈ ww_tb := by decide +kernel
theorem u_132 : Cond.methodLink RX5 191 yX1_countInForce ∈ ww_tb := by decide +kernel
theorem u_133 : Cond.instanceMethod yX1_countInForce ∈ ww_tb := by decide +kernel
theorem u_134 : Cond.selects RX1 yX1_countInForce yX1_countInForce ∈ ww_tb := by decide +kernel
theorem u_135 : Cond.fieldLink RX5 243 (TX4 7).1 (TX4 7).2.1 (TX4 7).2.2.1 ∈ ww_tb := by decide +kernel
theorem dX2_setPower_0 : decode cX2_setPower 0 = .ok (.iconst 0, 1) := by decide +kernel
theorem dX2_setPower_1 : decode cX2_setPower 1 = .ok (.istore_n 3, 1) := by decide +kernel
theorem dX2_setPower_2 : decode cX2_setPower 2 = .ok (.iconst 0, 1) := by decide +kernel
theorem dX2_setPower_3 : decode cX2_setPower 3 = .ok (.istore 4, 2) := by decide +kernel
theorem dX2_setPower_5 : decode cX2_setPower 5 = .ok (.iload 4, 2) := by decide +kernel
theorem dX2_setPower_7 : decode cX2_setPower 7 = .ok (.aload_n 0, 1) := by decide +kernel
theorem dX2_setPower_8 : decode cX2_setPower 8 = .ok (.getfield 22, 3) := by decide +kernel
theorem dX2_setPower_11 : decode cX2_setPower 11 = .ok (.if_icmp .ge 42, 3) := by decide +kernel
theorem dX2_setPower_14 : decode cX2_setPower 14 = .ok (.aload_n 0, 1) := by decide +kernel
theorem dX2_setPower_15 : decode cX2_setPower 15 = .ok (.getfield 9, 3) := by decide +kernel
theorem dX2_setPower_18 : decode cX2_setPower 18 = .ok (.iload 4, 2) := by decide +kernel
theorem dX2_setPower_20 : decode cX2_setPower 20 = .ok (.iaload, 1) := by decide +kernel
theorem dX2_setPower_21 : decode cX2_setPower 21 = .ok (.iload_n 1, 1) := by decide +kernel
theorem dX2_setPower_22 : decode cX2_setPower 22 = .ok (.if_icmp .ne 25, 3) := by decide +kernel
theorem dX2_setPower_25 : decode cX2_setPower 25 = .ok (.aload_n 0, 1) := by decide +kernel
theorem dX2_setPower_26 : decode cX2_setPower 26 = .ok (.getfield 18, 3) := by decide +kernel
theorem dX2_setPower_29 : decode cX2_setPower 29 = .ok (.iload 4, 2) := by decide +kernel
theorem dX2_setPower_31 : decode cX2_setPower 31 = .ok (.baload, 1) := by decide +kernel
theorem dX2_setPower_32 : decode cX2_setPower 32 = .ok (.iload_n 2, 1) := by decide +kernel
theorem dX2_setPower_33 : decode cX2_setPower 33 = .ok (.if_icmp .eq 14, 3) := by decide +kernel
theorem dX2_setPower_36 : decode cX2_setPower 36 = .ok (.aload_n 0, 1) := by decide +kernel
theorem dX2_setPower_37 : decode cX2_setPower 37 = .ok (.getfield 18, 3) := by decide +kernel
theorem dX2_setPower_40 : decode cX2_setPower 40 = .ok (.iload 4, 2) := by decide +kernel
theorem dX2_setPower_42 : decode cX2_setPower 42 = .ok (.iload_n 2, 1) := by decide +kernel
theorem dX2_setPower_43 : decode cX2_setPower 43 = .ok (.bastore, 1) := by decide +kernel
theorem dX2_setPower_44 : decode cX2_setPower 44 = .ok (.iinc 3 1, 3) := by decide +kernel
theorem dX2_setPower_47 : decode cX2_setPower 47 = .ok (.iinc 4 1, 3) := by decide +kernel
theorem dX2_setPower_50 : decode cX2_setPower 50 = .ok (.goto (-45), 3) := by decide +kernel
theorem dX2_setPower_53 : decode cX2_setPower 53 = .ok (.iload_n 3, 1) := by decide +kernel
theorem dX2_setPower_54 : decode cX2_setPower 54 = .ok (.ireturn, 1) := by decide +kernel
theorem dX5_draft_0 : decode cX5_draft 0 = .ok (.aload_n 0, 1) := by decide +kernel
theorem dX5_draft_1 : decode cX5_draft 1 = .ok (.getfield 10, 3) := by decide +kernel
theorem dX5_draft_4 : decode cX5_draft 4 = .ok (.getfield 249, 3) := by decide +kernel
theorem dX5_draft_7 : decode cX5_draft 7 = .ok (.bipush 12, 2) := by decide +kernel
theorem dX5_draft_9 : decode cX5_draft 9 = .ok (.if_icmp .lt 14, 3) := by decide +kernel
theorem dX5_draft_12 : decode cX5_draft 12 = .ok (.new 31, 3) := by decide +kernel
theorem dX5_draft_15 : decode cX5_draft 15 = .ok (.dup, 1) := by decide +kernel
theorem dX5_draft_16 : decode cX5_draft 16 = .ok (.ldc_w 329, 3) := by decide +kernel
theorem dX5_draft_19 : decode cX5_draft 19 = .ok (.invokespecial 35, 3) := by decide +kernel
theorem dX5_draft_22 : decode cX5_draft 22 = .ok (.athrow, 1) := by decide +kernel
theorem dX5_draft_23 : decode cX5_draft 23 = .ok (.aload_n 0, 1) := by decide +kernel
theorem dX5_draft_24 : decode cX5_draft 24 = .ok (.getfield 10, 3) := by decide +kernel
theorem dX5_draft_27 : decode cX5_draft 27 = .ok (.getfield 138, 3) := by decide +kernel
theorem dX5_draft_30 : decode cX5_draft 30 = .ok (.aload_n 0, 1) := by decide +kernel
theorem dX5_draft_31 : decode cX5_draft 31 = .ok (.getfield 10, 3) := by decide +kernel
theorem dX5_draft_34 : decode cX5_draft 34 = .ok (.getfield 249, 3) := by decide +kernel
theorem dX5_draft_37 : decode cX5_draft 37 = .ok (.aaload, 1) := by decide +kernel
theorem dX5_draft_38 : decode cX5_draft 38 = .ok (.astore 6, 2) := by decide +kernel
theorem dX5_draft_40 : decode cX5_draft 40 = .ok (.aload 6, 2) := by decide +kernel
theorem dX5_draft_42 : decode cX5_draft 42 = .ok (.iload_n 1, 1) := by decide +kernel
theorem dX5_draft_43 : decode cX5_draft 43 = .ok (.putfield 237, 3) := by decide +kernel
theorem dX5_draft_46 : decode cX5_draft 46 = .ok (.aload 6, 2) := by decide +kernel
theorem dX5_draft_48 : decode cX5_draft 48 = .ok (.iload_n 2, 1) := by decide +kernel
theorem dX5_draft_49 : decode cX5_draft 49 = .ok (.putfield 240, 3) := by decide +kernel
theorem dX5_draft_52 : decode cX5_draft 52 = .ok (.aload 6, 2) := by decide +kernel
theorem dX5_draft_54 : decode cX5_draft 54 = .ok (.iload_n 3, 1) := by decide +kernel
theorem dX5_draft_55 : decode cX5_draft 55 = .ok (.putfield 142, 3) := by decide +kernel
theorem dX5_draft_58 : decode cX5_draft 58 = .ok (.aload 6, 2) := by decide +kernel
theorem dX5_draft_60 : decode cX5_draft 60 = .ok (.iload 4, 2) := by decide +kernel
theorem dX5_draft_62 : decode cX5_draft 62 = .ok (.putfield 147, 3) := by decide +kernel
theorem dX5_draft_65 : decode cX5_draft 65 = .ok (.aload 6, 2) := by decide +kernel
theorem dX5_draft_67 : decode cX5_draft 67 = .ok (.iload 5, 2) := by decide +kernel
theorem dX5_draft_69 : decode cX5_draft 69 = .ok (.putfield 150, 3) := by decide +kernel
theorem dX5_draft_72 : decode cX5_draft 72 = .ok (.aload_n 0, 1) := by decide +kernel
theorem dX5_draft_73 : decode cX5_draft 73 = .ok (.getfield 10, 3) := by decide +kernel
theorem dX5_draft_76 : decode cX5_draft 76 = .ok (.dup, 1) := by decide +kernel
theorem dX5_draft_77 : decode cX5_draft 77 = .ok (.getfield 249, 3) := by decide +kernel
theorem dX5_draft_80 : decode cX5_draft 80 = .ok (.dup_x1, 1) := by decide +kernel
theorem dX5_draft_81 : decode cX5_draft 81 = .ok (.iconst 1, 1) := by decide +kernel
theorem dX5_draft_82 : decode cX5_draft 82 = .ok (.iadd, 1) := by decide +kernel
theorem dX5_draft_83 : decode cX5_draft 83 = .ok (.putfield 249, 3) := by decide +kernel
theorem dX5_draft_86 : decode cX5_draft 86 = .ok (.ireturn, 1) := by decide +kernel
theorem dJ9_floorMod_7cf53_0 : decode cJ9_floorMod_7cf53 0 = .ok (.iload_n 0, 1) := by decide +kernel
theorem dJ9_floorMod_7cf53_1 : decode cJ9_floorMod_7cf53 1 = .ok (.iload_n 1, 1) := by decide +kernel
theorem dJ9_floorMod_7cf53_2 : decode cJ9_floorMod_7cf53 2 = .ok (.irem, 1) := by decide +kernel
theorem dJ9_floorMod_7cf53_3 : decode cJ9_floorMod_7cf53 3 = .ok (.istore_n 2, 1) := by decide +kernel
theorem dJ9_floorMod_7cf53_4 : decode cJ9_floorMod_7cf53 4 = .ok (.iload_n 0, 1) := by decide +kernel
theorem dJ9_floorMod_7cf53_5 : decode cJ9_floorMod_7cf53 5 = .ok (.iload_n 1, 1) := by decide +kernel
theorem dJ9_floorMod_7cf53_6 : decode cJ9_floorMod_7cf53 6 = .ok (.ixor, 1) := by decide +kernel
theorem dJ9_floorMod_7cf53_7 : decode cJ9_floorMod_7cf53 7 = .ok (.ifCond .ge 11, 3) := by decide +kernel
theorem dJ9_floorMod_7cf53_10 : decode cJ9_floorMod_7cf53 10 = .ok (.iload_n 2, 1) := by decide +kernel
theorem dJ9_floorMod_7cf53_11 : decode cJ9_floorMod_7cf53 11 = .ok (.ifCond .eq 7, 3) := by decide +kernel
theorem dJ9_floorMod_7cf53_14 : decode cJ9_floorMod_7cf53 14 = .ok (.iload_n 2, 1) := by decide +kernel
theorem dJ9_floorMod_7cf53_15 : decode cJ9_floorMod_7cf53 15 = .ok (.iload_n 1, 1) := by decide +kernel
theorem dJ9_floorMod_7cf53_16 : decode cJ9_floorMod_7cf53 16 = .ok (.iadd, 1) := by decide +kernel
theorem dJ9_floorMod_7cf53_17 : decode cJ9_floorMod_7cf53 17 = .ok (.ireturn, 1) := by decide +kernel
theorem dJ9_floorMod_7cf53_18 : decode cJ9_floorMod_7cf53 18 = .ok (.iload_n 2, 1) := by decide +kernel
theorem dJ9_floorMod_7cf53_19 : decode cJ9_floorMod_7cf53 19 = .ok (.ireturn, 1) := by decide +kernel
theorem dX5_power_0 : decode cX5_power 0 = .ok (.iload_n 1, 1) := by decide +kernel
theorem dX5_power_1 : decode cX5_power 1 = .ok (.invokestatic 19, 3) := by decide +kernel
theorem dX5_power_4 : decode cX5_power 4 = .ok (.aload_n 0, 1) := by decide +kernel
theorem dX5_power_5 : decode cX5_power 5 = .ok (.getfield 10, 3) := by decide +kernel
theorem dX5_power_8 : decode cX5_power 8 = .ok (.getfield 81, 3) := by decide +kernel
theorem dX5_power_11 : decode cX5_power 11 = .ok (.iload_n 1, 1) := by decide +kernel
theorem dX5_power_12 : decode cX5_power 12 = .ok (.iload_n 2, 1) := by decide +kernel
theorem dX5_power_13 : decode cX5_power 13 = .ok (.invokevirtual 101, 3) := by decide +kernel
theorem dX5_power_16 : decode cX5_power 16 = .ok (.aload_n 0, 1) := by decide +kernel
theorem dX5_power_17 : decode cX5_power 17 = .ok (.getfield 10, 3) := by decide +kernel
theorem dX5_power_20 : decode cX5_power 20 = .ok (.getfield 96, 3) := by decide +kernel
theorem dX5_power_23 : decode cX5_power 23 = .ok (.iload_n 1, 1) := by decide +kernel
theorem dX5_power_24 : decode cX5_power 24 = .ok (.iload_n 2, 1) := by decide +kernel
theorem dX5_power_25 : decode cX5_power 25 = .ok (.invokevirtual 101, 3) := by decide +kernel
theorem dX5_power_28 : decode cX5_power 28 = .ok (.iadd, 1) := by decide +kernel
theorem dX5_power_29 : decode cX5_power 29 = .ok (.ireturn, 1) := by decide +kernel
theorem dX5_alert_0 : decode cX5_alert 0 = .ok (.iload_n 1, 1) := by decide +kernel
theorem dX5_alert_1 : decode cX5_alert 1 = .ok (.iload_n 2, 1) := by decide +kernel
theorem dX5_alert_2 : decode cX5_alert 2 = .ok (.iload_n 3, 1) := by decide +kernel
theorem dX5_alert_3 : decode cX5_alert 3 = .ok (.invokestatic 125, 3) := by decide +kernel
theorem dX5_alert_6 : decode cX5_alert 6 = .ok (.aload_n 0, 1) := by decide +kernel
theorem dX5_alert_7 : decode cX5_alert 7 = .ok (.iconst 0, 1) := by decide +kernel
theorem dX5_alert_8 : decode cX5_alert 8 = .ok (.iconst (-1), 1) := by decide +kernel
theorem dX5_alert_9 : decode cX5_alert 9 = .ok (.iload_n 1, 1) := by decide +kernel
theorem dX5_alert_10 : decode cX5_alert 10 = .ok (.iload_n 2, 1) := by decide +kernel
theorem dX5_alert_11 : decode cX5_alert 11 = .ok (.iload_n 3, 1) := by decide +kernel
theorem dX5_alert_12 : decode cX5_alert 12 = .ok (.invokevirtual 128, 3) := by decide +kernel
theorem dX5_alert_15 : decode cX5_alert 15 = .ok (.ireturn, 1) := by decide +kernel
theorem dX5_pass_0 : decode cX5_pass 0 = .ok (.iload_n 1, 1) := by decide +kernel
theorem dX5_pass_1 : decode cX5_pass 1 = .ok (.iconst 1, 1) := by decide +kernel
theorem dX5_pass_2 : decode cX5_pass 2 = .ok (.bipush 60, 2) := by decide +kernel
theorem dX5_pass_4 : decode cX5_pass 4 = .ok (.invokestatic 23, 3) := by decide +kernel
theorem dX5_pass_7 : decode cX5_pass 7 = .ok (.aload_n 0, 1) := by decide +kernel
theorem dX5_pass_8 : decode cX5_pass 8 = .ok (.getfield 10, 3) := by decide +kernel
theorem dX5_pass_11 : decode cX5_pass 11 = .ok (.getfield 112, 3) := by decide +kernel
theorem dX5_pass_14 : decode cX5_pass 14 = .ok (.iload_n 1, 1) := by decide +kernel
theorem dX5_pass_15 : decode cX5_pass 15 = .ok (.iadd, 1) := by decide +kernel
theorem dX5_pass_16 : decode cX5_pass 16 = .ok (.sipush 9999, 3) := by decide +kernel
theorem dX5_pass_19 : decode cX5_pass 19 = .ok (.if_icmp .le 13, 3) := by decide +kernel
theorem dX5_pass_22 : decode cX5_pass 22 = .ok (.new 31, 3) := by decide +kernel
theorem dX5_pass_25 : decode cX5_pass 25 = .ok (.dup, 1) := by decide +kernel
theorem dX5_pass_26 : decode cX5_pass 26 = .ok (.ldc 181, 2) := by decide +kernel
theorem dX5_pass_28 : decode cX5_pass 28 = .ok (.invokespecial 35, 3) := by decide +kernel
theorem dX5_pass_31 : decode cX5_pass 31 = .ok (.athrow, 1) := by decide +kernel
theorem dX5_pass_32 : decode cX5_pass 32 = .ok (.aload_n 0, 1) := by decide +kernel
theorem dX5_pass_33 : decode cX5_pass 33 = .ok (.getfield 10, 3) := by decide +kernel
theorem dX5_pass_36 : decode cX5_pass 36 = .ok (.iload_n 1, 1) := by decide +kernel
theorem dX5_pass_37 : decode cX5_pass 37 = .ok (.invokevirtual 183, 3) := by decide +kernel
theorem dX5_pass_40 : decode cX5_pass 40 = .ok (.ireturn, 1) := by decide +kernel
theorem dX5_until_0 : decode cX5_until 0 = .ok (.iload_n 1, 1) := by decide +kernel
theorem dX5_until_1 : decode cX5_until 1 = .ok (.iconst 0, 1) := by decide +kernel
theorem dX5_until_2 : decode cX5_until 2 = .ok (.bipush 23, 2) := by decide +kernel
theorem dX5_until_4 : decode cX5_until 4 = .ok (.invokestatic 23, 3) := by decide +kernel
theorem dX5_until_7 : decode cX5_until 7 = .ok (.aload_n 0, 1) := by decide +kernel
theorem dX5_until_8 : decode cX5_until 8 = .ok (.getfield 10, 3) := by decide +kernel
theorem dX5_until_11 : decode cX5_until 11 = .ok (.getfield 112, 3) := by decide +kernel
theorem dX5_until_14 : decode cX5_until 14 = .ok (.bipush 60, 2) := by decide +kernel
theorem dX5_until_16 : decode cX5_until 16 = .ok (.idiv, 1) := by decide +kernel
theorem dX5_until_17 : decode cX5_until 17 = .ok (.iconst 1, 1) := by decide +kernel
theorem dX5_until_18 : decode cX5_until 18 = .ok (.iadd, 1) := by decide +kernel
theorem dX5_until_19 : decode cX5_until 19 = .ok (.istore_n 2, 1) := by decide +kernel
theorem dX5_until_20 : decode cX5_until 20 = .ok (.iload_n 2, 1) := by decide +kernel
theorem dX5_until_21 : decode cX5_until 21 = .ok (.iload_n 1, 1) := by decide +kernel
theorem dX5_until_22 : decode cX5_until 22 = .ok (.iload_n 2, 1) := by decide +kernel
theorem dX5_until_23 : decode cX5_until 23 = .ok (.isub, 1) := by decide +kernel
theorem dX5_until_24 : decode cX5_until 24 = .ok (.bipush 24, 2) := by decide +kernel
theorem dX5_until_26 : decode cX5_until 26 = .ok (.invokestatic 186, 3) := by decide +kernel
theorem dX5_until_29 : decode cX5_until 29 = .ok (.iadd, 1) := by decide +kernel
theorem dX5_until_30 : decode cX5_until 30 = .ok (.bipush 60, 2) := by decide +kernel
theorem dX5_until_32 : decode cX5_until 32 = .ok (.imul, 1) := by decide +kernel
theorem dX5_until_33 : decode cX5_until 33 = .ok (.istore_n 3, 1) := by decide +kernel
theorem dX5_until_34 : decode cX5_until 34 = .ok (.aload_n 0, 1) := by decide +kernel
theorem dX5_until_35 : decode cX5_until 35 = .ok (.getfield 10, 3) := by decide +kernel
theorem dX5_until_38 : decode cX5_until 38 = .ok (.invokevirtual 191, 3) := by decide +kernel
theorem dX5_until_41 : decode cX5_until 41 = .ok (.ifCond .gt 10, 3) := by decide +kernel
theorem dX5_until_44 : decode cX5_until 44 = .ok (.iload_n 3, 1) := by decide +kernel
theorem dX5_until_45 : decode cX5_until 45 = .ok (.sipush 9999, 3) := by decide +kernel
theorem dX5_until_48 : decode cX5_until 48 = .ok (.if_icmp .le 13, 3) := by decide +kernel
theorem dX5_until_51 : decode cX5_until 51 = .ok (.new 31, 3) := by decide +kernel
theorem dX5_until_54 : decode cX5_until 54 = .ok (.dup, 1) := by decide +kernel
theorem dX5_until_55 : decode cX5_until 55 = .ok (.ldc 195, 2) := by decide +kernel
theorem dX5_until_57 : decode cX5_until 57 = .ok (.invokespecial 35, 3) := by decide +kernel
theorem dX5_until_60 : decode cX5_until 60 = .ok (.athrow, 1) := by decide +kernel
theorem dX5_until_61 : decode cX5_until 61 = .ok (.aload_n 0, 1) := by decide +kernel
theorem dX5_until_62 : decode cX5_until 62 = .ok (.getfield 10, 3) := by decide +kernel
theorem dX5_until_65 : decode cX5_until 65 = .ok (.iload_n 3, 1) := by decide +kernel
theorem dX5_until_66 : decode cX5_until 66 = .ok (.putfield 112, 3) := by decide +kernel
theorem dX5_until_69 : decode cX5_until 69 = .ok (.iload_n 3, 1) := by decide +kernel
theorem dX5_until_70 : decode cX5_until 70 = .ok (.ireturn, 1) := by decide +kernel
/-! .. more of the class on a fresh object -/
def vm_simL (P P' : vgO) : List (Nat × vgF) → List (Nat × vgF) → Prop
  | [], [] => True
  | a :: t, b :: u => a.1 = b.1 ∧ (∀ K lv st σ, a.2 P K lv st σ → b.2 P' K lv st σ) ∧ vm_simL P P' t u
  | _, _ => False
theorem vm_look_sim {P P' : vgO} : ∀ {k k' : List (Nat × vgF)}, vm_simL P P' k k' → ∀ {pc : Nat} {F : vgF}, vg_look k pc = some F → ∃ F', vg_look k' pc = some F' ∧ ∀ K lv st σ, F P K lv st σ → F' P' K lv st σ
  | [], [], _, _, _, h => by cases h
  | [], _ :: _, hs, _, _, _ => hs.elim
  | _ :: _, [], hs, _, _, _ => hs.elim
  | a :: t, b :: u, hs, pc, F, h => by
    obtain ⟨h1, h2, h3⟩ := hs
    unfold vg_look at h ⊢
    rw [← h1]
    cases hb : Nat.beq a.1 pc with
    | true =>
      rw [hb] at h
      cases h
      exact ⟨b.2, rfl, h2⟩
    | false =>
      rw [hb] at h
      exact vm_look_sim h3 h
theorem vm_sim {P P' : vgO} {k k' : List (Nat × vgF)} (hs : vm_simL P P' k k') {pc : Nat} {lv : vgL} {st : vgT} {σ : vgS} (h : vg_Go k P pc lv st σ) : vg_Go k' P' pc lv st σ := by
  intro X hX hW
  refine h X (fun pc lv st σ g => hX pc lv st σ ?_) hW
  cases hF : vg_look k pc with
  | none => rw [hF] at g; exact g.elim
  | some F =>
    rw [hF] at g
    obtain ⟨F', h1, h2⟩ := vm_look_sim hs hF
    rw [h1]
    exact h2 X lv st σ g
theorem vm_sim_callS {P P' : vgO} {sp : vgC} {tx : vgT → vgS → Prop} {x k n : Nat} (ht : ∀ av σ, (sp av σ).1 → ¬ tx av σ) (K : vgK) (lv : vgL) (st : vgT) (σ : vgS) (h : vi_callS sp k n P K lv st σ) : vi_callSX sp tx x k n P' K lv st σ := by
  unfold vi_callS at h
  unfold vi_callSX
  split at h
  next q hq =>
    rw [hq]
    cases hb : Nat.ble (vg_wd q.2) 8 with
    | false => rw [hb] at h; exact h.elim
    | true =>
      rw [hb] at h
      show (bif Nat.ble (vg_wd q.2) 8 then _ else False)
      rw [hb]
      have h2 : (sp q.1 σ).1 ∧ vg_k K n lv q.2 (sp q.1 σ).2.1 (sp q.1 σ).2.2 := h
      exact ⟨fun z => absurd z (ht _ _ h2.1), fun _ => h2⟩
  next => exact h.elim
theorem vm_sim_ret {P P' : vgO} (hP : ∀ r σ, P r σ → P' r σ) (K : vgK) (lv : vgL) (st : vgT) (σ : vgS) (h : vi_ret P K lv st σ) : vi_ret P' K lv st σ := by
  unfold vi_ret at h ⊢
  split at h
  · exact hP _ _ h
  · exact h.elim
theorem nt_checkCell : ∀ av σ, (sp_X5_checkCell av σ).1 → ¬ tx_X5_checkCell av σ := by
  intro av σ h z
  unfold sp_X5_checkCell at h
  unfold tx_X5_checkCell at z
  split at h
  · exact z h
  · exact h.elim
theorem nt_checkRange : ∀ av σ, (sp_X5_checkRange av σ).1 → ¬ tx_X5_checkRange av σ := by
  intro av σ h z
  unfold sp_X5_checkRange at h
  unfold tx_X5_checkRange at z
  split at h
  · exact z h
  · exact h.elim
/-! minutes of a land without people -/
theorem wx_mt {v : jN} (h : jGc v = 0) : jMinT v = 0 := by
  have hk : jGc (jM3 v) = 0 := by
    have h1 := (jM3_keep v).gc
    rw [h1, h]
  unfold jMinT jBelAll
  rw [hk]
  rfl
theorem wx_play {v : jN} (hw : jWf v) (hp : jPl v) (h : jGc v = 0) : ∀ n, (jPlay v n).2 = 0
  | 0 => rfl
  | n + 1 => by
    have h1 := wx_play hw hp h n
    have h2 := (jPlay_inv hw hp n).1.gc
    show (jIt jPlay1 n (v, 0)).2 + jMinT (jIt jPlay1 n (v, 0)).1 = 0
    rw [wx_mt (by rw [h2, h])]
    unfold jPlay at h1
    rw [h1]
    rfl
theorem wx_lt {m : Int32} (h : wp_r m 1 60) : vp_in m 1000 := by
  refine jin0 (by decide) (fun z => h.1 ?_) ?_
  · have a := Int32.lt_iff_toInt_lt.mp z
    refine Int32.lt_iff_toInt_lt.mpr ?_
    rw [show (0 : Int32).toInt = 0 from by decide] at a
    rw [show (1 : Int32).toInt = 1 from by decide]
    omega
  · have a := Int32.le_iff_toInt_le.mp h.2
    refine Int32.lt_iff_toInt_lt.mpr ?_
    rw [show (60 : Int32).toInt = 60 from by decide] at a
    rw [show (nI 1000).toInt = 1000 from by decide]
    omega
theorem wx_le {m a : Int32} (ha : a = 0) (h : wp_r m 1 60) : a + m ≤ 9999 := by
  subst ha
  rw [Int32.zero_add]
  exact Int32.le_trans h.2 (by decide)
def sp_X2_setPower : vgC := fun av σ => match av with
  | [.inr (5, b, j), .inl (.int c), .inl (.int d)] => (σ (5, b, j) 3 = 0, some (.inl (.int 0)), σ)
  | _ => (False, none, σ)
def k_X2_setPower : List (Nat × vgF) := [(0, vi_icst (0) 1), (1, vi_istore 3 2), (2, vi_icst (0) 3), (3, vi_istore 4 5), (5, vi_iload 4 7), (7, vi_aload 0 8), (8, vi_get ww_shp 2 3 11), (11, vi_cmp (fun x y => y ≤ x) 53 14), (14, vi_aload 0 15), (15, vi_get ww_shp 2 0 18), (18, vi_iload 4 20), (20, vi_ald ww_shp 0 21), (21, vi_iload 1 22), (22, vi_cmp (fun x y => x = y) 25 47), (25, vi_aload 0 26), (26, vi_get ww_shp 2 2 29), (29, vi_iload 4 31), (31, vi_ald ww_shp 1 32), (32, vi_iload 2 33), (33, vi_cmp (fun x y => x = y) 47 36), (36, vi_aload 0 37), (37, vi_get ww_shp 2 2 40), (40, vi_iload 4 42), (42, vi_iload 2 43), (43, vi_astZ ww_shp 1 44), (44, vi_iinc 3 (1) 47), (47, vi_iinc 4 (1) 50), (50, vi_goto 5), (53, vi_iload 3 54), (54, vi_ret)]
set_option maxRecDepth 20000 in
theorem s_X2_setPower : ∀ q ∈ k_X2_setPower, vg_Snd ww_tb ww_nw ww_shp ww_nm ww_cl ww_tyl cX2_setPower 5 RX2 (some .int) 0 q.1 q.2 := by
  refine vg_cons (vs_iconst dX2_setPower_0 rfl rfl) ?_
  refine vg_cons (vs_istore_n dX2_setPower_1 rfl (by decide) rfl) ?_
  refine vg_cons (vs_iconst dX2_setPower_2 rfl rfl) ?_
  refine vg_cons (vs_istore dX2_setPower_3 (by decide) rfl) ?_
  refine vg_cons (vs_iload dX2_setPower_5 rfl) ?_
  refine vg_cons (vs_aload_n dX2_setPower_7 rfl rfl) ?_
  refine vg_cons (vs_getfield (T := TX2) dX2_setPower_8 rfl (by decide) ww_inX2 u_105 rfl) ?_
  refine vg_cons (vs_cmp_ge dX2_setPower_11 (by decide) rfl) ?_
  refine vg_cons (vs_aload_n dX2_setPower_14 rfl rfl) ?_
  refine vg_cons (vs_getfield (T := TX2) dX2_setPower_15 rfl (by decide) ww_inX2 u_8 rfl) ?_
  refine vg_cons (vs_iload dX2_setPower_18 rfl) ?_
  refine vg_cons (vs_iaload dX2_setPower_20 rfl rfl) ?_
  refine vg_cons (vs_iload_n dX2_setPower_21 rfl rfl) ?_
  refine vg_cons (vs_cmp_ne dX2_setPower_22 (by decide) rfl) ?_
  refine vg_cons (vs_aload_n dX2_setPower_25 rfl rfl) ?_
  refine vg_cons (vs_getfield (T := TX2) dX2_setPower_26 rfl (by decide) ww_inX2 u_11 rfl) ?_
  refine vg_cons (vs_iload dX2_setPower_29 rfl) ?_
  refine vg_cons (vs_zaload dX2_setPower_31 rfl rfl) ?_
  refine vg_cons (vs_iload_n dX2_setPower_32 rfl rfl) ?_
  refine vg_cons (vs_cmp_eq dX2_setPower_33 (by decide) rfl) ?_
  refine vg_cons (vs_aload_n dX2_setPower_36 rfl rfl) ?_
  refine vg_cons (vs_getfield (T := TX2) dX2_setPower_37 rfl (by decide) ww_inX2 u_11 rfl) ?_
  refine vg_cons (vs_iload dX2_setPower_40 rfl) ?_
  refine vg_cons (vs_iload_n dX2_setPower_42 rfl rfl) ?_
  refine vg_cons (vs_zastore dX2_setPower_43 rfl rfl) ?_
  refine vg_cons (vs_iinc dX2_setPower_44 rfl rfl) ?_
  refine vg_cons (vs_iinc dX2_setPower_47 rfl rfl) ?_
  refine vg_cons (vs_goto dX2_setPower_50 (by decide)) ?_
  refine vg_cons (vs_iload_n dX2_setPower_53 rfl rfl) ?_
  refine vg_cons (vs_ireturn dX2_setPower_54 rfl) ?_
  exact fun _ h => absurd h List.not_mem_nil
theorem m_X2_setPower : vg_Code k_X2_setPower := fun q h => (s_X2_setPower q h).1

theorem w_X2_setPower : vg_Wd sp_X2_setPower 5 := by
  intro av σ h
  unfold sp_X2_setPower at h
  split at h
  · exact Nat.le_of_ble_eq_true rfl
  · exact h.elim
theorem g_X2_setPower : vg_G k_X2_setPower sp_X2_setPower := by
  intro av σ h
  unfold sp_X2_setPower at h ⊢
  split at h
  next b j c d =>
    refine vg_run (cuts := []) m_X2_setPower 20 ?_
    exact And.intro (fun _ => ⟨rfl, rfl⟩) (fun z => absurd (show σ (5, b, j) 3 ≤ 0 by rw [show σ (5, b, j) 3 = 0 from h]; decide) z)
  next => exact h.elim
theorem c_X2_setPower : vg_MetF ww_tb ww_nw ww_shp ww_nm ww_cl ww_tyl yX2_setPower cX2_setPower 5 (some .int) 0 sp_X2_setPower := vg_met ww_closed (by decide +kernel) rfl s_X2_setPower w_X2_setPower g_X2_setPower
def sp_X5_draft : vgC := fun av σ => match av with
  | [.inr (0, 0, 0), .inl (.int k), .inl (.int o), .inl (.int a), .inl (.int d), .inl (.int t)] => (σ (1, 0, 0) 6 = 0, some (.inl (.int (σ (1, 0, 0) 6))), vg_st (vg_st (vg_st (vg_st (vg_st (vg_st σ (11, 0, (σ (1, 0, 0) 6).toNatClampNeg) 0 k) (11, 0, (σ (1, 0, 0) 6).toNatClampNeg) 1 o) (11, 0, (σ (1, 0, 0) 6).toNatClampNeg) 2 a) (11, 0, (σ (1, 0, 0) 6).toNatClampNeg) 3 d) (11, 0, (σ (1, 0, 0) 6).toNatClampNeg) 4 t) (1, 0, 0) 6 (σ (1, 0, 0) 6 + 1))
  | _ => (False, none, σ)
def k_X5_draft : List (Nat × vgF) := [(0, vi_aload 0 1), (1, vi_get ww_shp 0 0 4), (4, vi_get ww_shp 1 6 7), (7, vi_icst (12) 9), (9, vi_cmp (fun x y => x < y) 23 12), (12, vi_no), (23, vi_aload 0 24), (24, vi_get ww_shp 0 0 27), (27, vi_get ww_shp 1 9 30), (30, vi_aload 0 31), (31, vi_get ww_shp 0 0 34), (34, vi_get ww_shp 1 6 37), (37, vi_aald ww_shp 4 38), (38, vi_astore 6 40), (40, vi_aload 6 42), (42, vi_iload 1 43), (43, vi_put ww_shp 4 0 46), (46, vi_aload 6 48), (48, vi_iload 2 49), (49, vi_put ww_shp 4 1 52), (52, vi_aload 6 54), (54, vi_iload 3 55), (55, vi_put ww_shp 4 2 58), (58, vi_aload 6 60), (60, vi_iload 4 62), (62, vi_put ww_shp 4 3 65), (65, vi_aload 6 67), (67, vi_iload 5 69), (69, vi_put ww_shp 4 4 72), (72, vi_aload 0 73), (73, vi_get ww_shp 0 0 76), (76, vi_dup 77), (77, vi_get ww_shp 1 6 80), (80, vi_dupx1 81), (81, vi_icst (1) 82), (82, vi_bin (fun x y => x + y) 83), (83, vi_put ww_shp 1 6 86), (86, vi_ret)]
set_option maxRecDepth 20000 in
theorem s_X5_draft : ∀ q ∈ k_X5_draft, vg_Snd ww_tb ww_nw ww_shp ww_nm ww_cl ww_tyl cX5_draft 7 RX5 (some .int) 0 q.1 q.2 := by
  refine vg_cons (vs_aload_n dX5_draft_0 rfl rfl) ?_
  refine vg_cons (vs_getfield (T := TX5) dX5_draft_1 rfl (by decide) ww_inX5 u_58 rfl) ?_
  refine vg_cons (vs_getfield (T := TX1) dX5_draft_4 rfl (by decide) ww_inX1 u_61 rfl) ?_
  refine vg_cons (vs_bipush dX5_draft_7 (by decide) rfl) ?_
  refine vg_cons (vs_cmp_lt dX5_draft_9 (by decide) rfl) ?_
  refine vg_cons (vs_no) ?_
  refine vg_cons (vs_aload_n dX5_draft_23 rfl rfl) ?_
  refine vg_cons (vs_getfield (T := TX5) dX5_draft_24 rfl (by decide) ww_inX5 u_58 rfl) ?_
  refine vg_cons (vs_getfield (T := TX1) dX5_draft_27 rfl (by decide) ww_inX1 u_106 rfl) ?_
  refine vg_cons (vs_aload_n dX5_draft_30 rfl rfl) ?_
  refine vg_cons (vs_getfield (T := TX5) dX5_draft_31 rfl (by decide) ww_inX5 u_58 rfl) ?_
  refine vg_cons (vs_getfield (T := TX1) dX5_draft_34 rfl (by decide) ww_inX1 u_61 rfl) ?_
  refine vg_cons (vs_aaload dX5_draft_37 rfl rfl) ?_
  refine vg_cons (vs_astore dX5_draft_38 (by decide) rfl) ?_
  refine vg_cons (vs_aload dX5_draft_40 rfl) ?_
  refine vg_cons (vs_iload_n dX5_draft_42 rfl rfl) ?_
  refine vg_cons (vs_putfield (T := TX4) tyX4 dX5_draft_43 rfl (by decide) ww_inX4 tyX4_ok nmX4 rfl rfl u_107 rfl) ?_
  refine vg_cons (vs_aload dX5_draft_46 rfl) ?_
  refine vg_cons (vs_iload_n dX5_draft_48 rfl rfl) ?_
  refine vg_cons (vs_putfield (T := TX4) tyX4 dX5_draft_49 rfl (by decide) ww_inX4 tyX4_ok nmX4 rfl rfl u_108 rfl) ?_
  refine vg_cons (vs_aload dX5_draft_52 rfl) ?_
  refine vg_cons (vs_iload_n dX5_draft_54 rfl rfl) ?_
  refine vg_cons (vs_putfield (T := TX4) tyX4 dX5_draft_55 rfl (by decide) ww_inX4 tyX4_ok nmX4 rfl rfl u_109 rfl) ?_
  refine vg_cons (vs_aload dX5_draft_58 rfl) ?_
  refine vg_cons (vs_iload dX5_draft_60 rfl) ?_
  refine vg_cons (vs_putfield (T := TX4) tyX4 dX5_draft_62 rfl (by decide) ww_inX4 tyX4_ok nmX4 rfl rfl u_110 rfl) ?_
  refine vg_cons (vs_aload dX5_draft_65 rfl) ?_
  refine vg_cons (vs_iload dX5_draft_67 rfl) ?_
  refine vg_cons (vs_putfield (T := TX4) tyX4 dX5_draft_69 rfl (by decide) ww_inX4 tyX4_ok nmX4 rfl rfl u_111 rfl) ?_
  refine vg_cons (vs_aload_n dX5_draft_72 rfl rfl) ?_
  refine vg_cons (vs_getfield (T := TX5) dX5_draft_73 rfl (by decide) ww_inX5 u_58 rfl) ?_
  refine vg_cons (vs_dup dX5_draft_76 rfl) ?_
  refine vg_cons (vs_getfield (T := TX1) dX5_draft_77 rfl (by decide) ww_inX1 u_61 rfl) ?_
  refine vg_cons (vs_dup_x1 dX5_draft_80 rfl) ?_
  refine vg_cons (vs_iconst dX5_draft_81 rfl rfl) ?_
  refine vg_cons (vs_iadd dX5_draft_82 rfl) ?_
  refine vg_cons (vs_putfield (T := TX1) tyX1 dX5_draft_83 rfl (by decide) ww_inX1 tyX1_ok nmX1 rfl rfl u_61 rfl) ?_
  refine vg_cons (vs_ireturn dX5_draft_86 rfl) ?_
  exact fun _ h => absurd h List.not_mem_nil
theorem m_X5_draft : vg_Code k_X5_draft := fun q h => (s_X5_draft q h).1

theorem w_X5_draft : vg_Wd sp_X5_draft 7 := by
  intro av σ h
  unfold sp_X5_draft at h
  split at h
  · exact Nat.le_of_ble_eq_true rfl
  · exact h.elim
theorem g_X5_draft : vg_G k_X5_draft sp_X5_draft := by
  intro av σ h
  unfold sp_X5_draft at h ⊢
  split at h
  next k o a d t =>
    have h6 : σ (1, 0, 0) 6 = 0 := h
    refine vg_run (cuts := []) m_X5_draft 60 ?_
    refine And.intro (fun _ => ?_) (fun z => absurd (show σ (1, 0, 0) 6 < 12 by rw [h6]; decide) z)
    refine And.intro (jin (show σ (1, 0, 0) 6 = nI 0 from h6) (by decide) (by decide)) ?_
    refine And.intro rfl (And.intro ⟨rfl, rfl⟩ ?_)
    exact ⟨rfl, rfl⟩
  next => exact h.elim
theorem c_X5_draft : vg_MetF ww_tb ww_nw ww_shp ww_nm ww_cl ww_tyl yX5_draft cX5_draft 7 (some .int) 0 sp_X5_draft := vg_met ww_closed (by decide +kernel) rfl s_X5_draft w_X5_draft g_X5_draft
theorem vg_ofWF {l : Launch} {y : MethodName} {ws ws' : List Cond} {rm : Room} {Pc : Array Value → State → Prop} {Qc : Array Value → State → Outcome → State → Prop} {mc ms : Nat} {free : Addr → Prop} {cc : ByteArray} {maxL : Nat} {ret : Option FieldType}
    (hy : plainFor y = true) (hw : ws = Cond.code y cc maxL ret :: ws')
    (body : ∀ p e s m args below meth c s₁, BodyLoose p l y (headSpec ws rm) cc maxL ret e s m args below meth c s₁ → c.maxLocals = maxL → Pc args s →
      W p l e (headSpec ws rm).room s m args below meth c s.heap [] 0 0 (MQ below Qc args s mc ms free) (entryFrame m args maxL)) : Met l y ws rm Pc Qc mc ms free := by
  refine MetFree.of_bodySF (code := cc) (maxLocals := maxL) (ret := ret) hy ?_ ?_
  · intro args s m h hn
    obtain ⟨meth, c, h1, h2, h3, h4, h5, h6, -, -⟩ := Cond.code_spec hn (atoms_spec (ws := ws) h _ (by rw [hw]; exact List.mem_cons_self))
    exact ⟨meth, c, h1, h2, h3, h4, h5, h6⟩
  · intro p e s m args below meth c s₁ B hml hP _
    have hh0 : s₁.heap = s.heap := by rw [B.state]; rfl
    obtain ⟨t, a1, o, b1, b2, b3⟩ := body p e s m args below meth c s₁ B hml hP s₁ hh0 (Stand.of_body B)
    exact ⟨t, o, a1, b1, b2, ⟨b3.1, b3.2⟩⟩
theorem vg_metF {tb : List Cond} {nw : List (String × Nat × MethodName × String)} {shp : vgN → vgH} {nm : List vgN} {cl : List vw_C} {tyl : List FieldType} {y : MethodName} {cc : ByteArray} {nL : Nat} {own : String} {ret : Option FieldType} {d : Nat} {pre : vgT → vgS → Prop} {post : vgT → vgS → vgO} {code : List (Nat × vgF)}
    (hcl : vg_closed shp nm) (hy : plainFor y = true) (hown : y.cls = own) (hs : ∀ q ∈ code, vg_Snd tb nw shp nm cl tyl cc nL own ret d q.1 q.2)
    (hw : ∀ av σ, pre av σ → vg_wd av ≤ nL) (go : ∀ av σ, pre av σ → vg_Go code (post av σ) 0 (vg_args 0 av) [] σ) : vg_Met tb nw shp nm cl tyl y cc nL ret d pre post := by
  intro l D tys ad sz av σ hty hok hpre
  refine vg_ofWF (cc := cc) (maxL := nL) (ret := ret) hy rfl ?_
  intro p e s m args below meth c s₁ B hml hv
  obtain ⟨rfl, hsz, hP, hK, hD, hnw⟩ := hv
  have hx := B.exec
  have hb := B.bytes
  have hr := B.returns
  have hts : ∀ w ∈ tb, w.before (av.map (vg_cv ad)).toArray s = true := fun w h => atoms_spec (ws := .code y cc nL ret :: tb) B.pre w (List.mem_cons_of_mem _ h)
  have ho : s.vm.findClass own = some m.cls := by rw [← hown]; exact findClass_of_methodNamed B.named
  have hlocks := B.notSynchronized
  subst hsz
  have hDA : ∀ σ', va_D (vg_A nm ad s.heap.size) (vg_ws shp nm ad tys σ') := fun σ' => (vg_ws_D hD σ').weaken (fun k q hk _ => by
    unfold vg_ws at hk
    rw [List.getElem?_map] at hk
    cases hn : nm[k]? with
    | none => rw [hn] at hk; cases hk
    | some n => rw [hn] at hk; cases hk; exact Or.inl ⟨n, List.mem_of_getElem? hn, rfl⟩)
  have C0 : vg_C tb nw shp nm cl tyl cc nL own ret d p (vg_rm d) s m (av.map (vg_cv ad)).toArray meth c D tys ad (vg_A nm ad s.heap.size) := ⟨hx, hb, hml, ho, hts, hK, hty, hr, hlocks, rfl, fun q h => Or.inr h, hDA, hcl, hnw⟩
  have hl := lv_entry (av.map (vg_cv ad)) (n := nL) (by rw [vg_wd_eq]; exact hw av σ hpre)
  rw [vg_args_eq] at hl
  rw [lg_entry_eq]
  exact vg_sound hs C0 (go av σ hpre) s.heap [] _ hl (vg_args_ok av 0 hok) (fun v h => by cases h) hP va_S.rf

def jFm (x y : Int32) : Int32 := if x ^^^ y < 0 ∧ ¬ x - x / y * y = 0 then x - x / y * y + y else x - x / y * y
def sp_J9_floorMod_7cf53 : vgC := fun av σ => match av with
  | [.inl (.int x), .inl (.int y)] => (¬ y = 0, some (.inl (.int (jFm x y))), σ)
  | _ => (False, none, σ)
def k_J9_floorMod_7cf53 : List (Nat × vgF) := [(0, vi_iload 0 1), (1, vi_iload 1 2), (2, vi_div (fun x y => x - x / y * y) 3), (3, vi_istore 2 4), (4, vi_iload 0 5), (5, vi_iload 1 6), (6, vi_bin (fun x y => x ^^^ y) 7), (7, vi_if (fun x => 0 ≤ x) 18 10), (10, vi_iload 2 11), (11, vi_if (fun x => x = 0) 18 14), (14, vi_iload 2 15), (15, vi_iload 1 16), (16, vi_bin (fun x y => x + y) 17), (17, vi_ret), (18, vi_iload 2 19), (19, vi_ret)]
set_option maxRecDepth 20000 in
theorem s_J9_floorMod_7cf53 : ∀ q ∈ k_J9_floorMod_7cf53, vg_Snd ww_tb ww_nw ww_shp ww_nm ww_cl ww_tyl cJ9_floorMod_7cf53 3 RJ9 (some .int) 0 q.1 q.2 := by
  refine vg_cons (vs_iload_n dJ9_floorMod_7cf53_0 rfl rfl) ?_
  refine vg_cons (vs_iload_n dJ9_floorMod_7cf53_1 rfl rfl) ?_
  refine vg_cons (vs_irem dJ9_floorMod_7cf53_2 rfl) ?_
  refine vg_cons (vs_istore_n dJ9_floorMod_7cf53_3 rfl (by decide) rfl) ?_
  refine vg_cons (vs_iload_n dJ9_floorMod_7cf53_4 rfl rfl) ?_
  refine vg_cons (vs_iload_n dJ9_floorMod_7cf53_5 rfl rfl) ?_
  refine vg_cons (vs_ixor dJ9_floorMod_7cf53_6 rfl) ?_
  refine vg_cons (vs_if_ge dJ9_floorMod_7cf53_7 (by decide) rfl) ?_
  refine vg_cons (vs_iload_n dJ9_floorMod_7cf53_10 rfl rfl) ?_
  refine vg_cons (vs_if_eq dJ9_floorMod_7cf53_11 (by decide) rfl) ?_
  refine vg_cons (vs_iload_n dJ9_floorMod_7cf53_14 rfl rfl) ?_
  refine vg_cons (vs_iload_n dJ9_floorMod_7cf53_15 rfl rfl) ?_
  refine vg_cons (vs_iadd dJ9_floorMod_7cf53_16 rfl) ?_
  refine vg_cons (vs_ireturn dJ9_floorMod_7cf53_17 rfl) ?_
  refine vg_cons (vs_iload_n dJ9_floorMod_7cf53_18 rfl rfl) ?_
  refine vg_cons (vs_ireturn dJ9_floorMod_7cf53_19 rfl) ?_
  exact fun _ h => absurd h List.not_mem_nil
theorem m_J9_floorMod_7cf53 : vg_Code k_J9_floorMod_7cf53 := fun q h => (s_J9_floorMod_7cf53 q h).1

theorem w_J9_floorMod_7cf53 : vg_Wd sp_J9_floorMod_7cf53 3 := by
  intro av σ h
  unfold sp_J9_floorMod_7cf53 at h
  split at h
  · exact Nat.le_of_ble_eq_true rfl
  · exact h.elim
theorem g_J9_floorMod_7cf53 : vg_G k_J9_floorMod_7cf53 sp_J9_floorMod_7cf53 := by
  intro av σ h
  unfold sp_J9_floorMod_7cf53 at h ⊢
  split at h
  next x y =>
    refine vg_run (cuts := []) m_J9_floorMod_7cf53 30 ?_
    refine And.intro h (And.intro (fun z => ?_) (fun z => And.intro (fun z2 => ?_) (fun z2 => ?_)))
    · exact ⟨congrArg (fun x => some (Sum.inl (Value.int x))) (if_neg (c := x ^^^ y < 0 ∧ ¬ x - x / y * y = 0) (fun w => absurd w.1 (Int32.not_lt.mpr z))).symm, rfl⟩
    · exact ⟨congrArg (fun x => some (Sum.inl (Value.int x))) (if_neg (c := x ^^^ y < 0 ∧ ¬ x - x / y * y = 0) (fun w => w.2 z2)).symm, rfl⟩
    · exact ⟨congrArg (fun x => some (Sum.inl (Value.int x))) (if_pos (c := x ^^^ y < 0 ∧ ¬ x - x / y * y = 0) ⟨Int32.not_le.mp z, z2⟩).symm, rfl⟩
  next => exact h.elim
theorem c_J9_floorMod_7cf53 : vg_MetF ww_tb ww_nw ww_shp ww_nm ww_cl ww_tyl yJ9_floorMod_7cf53 cJ9_floorMod_7cf53 3 (some .int) 0 sp_J9_floorMod_7cf53 := vg_metF ww_closed (by decide +kernel) rfl s_J9_floorMod_7cf53 w_J9_floorMod_7cf53 g_J9_floorMod_7cf53
/-- the hour h's next minute after 0 -/
def wu (h : Int32) : Int32 := if h = 0 then 1440 else h * 60
theorem wu_c : ∀ k, k < 24 → (1 + jFm (nI k - 1) 24) * 60 = wu (nI k) ∧ wu (nI k) ≤ 9999 := by decide +kernel
theorem wp_24 {h : Int32} (c : wp_r h 0 23) : ∃ k, k < 24 ∧ h = nI k := by
  have h1 : vp_in h 24 := by
    refine jin0 (by decide) c.1 ?_
    have a := Int32.le_iff_toInt_le.mp c.2
    refine Int32.lt_iff_toInt_lt.mpr ?_
    rw [show (23 : Int32).toInt = 23 from by decide] at a
    rw [show (nI 24).toInt = 24 from by decide]
    omega
  obtain ⟨k, hk, e⟩ := vp_in_of h1 (by decide)
  exact ⟨k, hk, e⟩
def ke_X5_power : List (Nat × vgF) := [(0, vi_iload 1 1), (1, vi_callSX sp_X5_checkCell tx_X5_checkCell 1 1 4), (4, vi_aload 0 5), (5, vi_get ww_shp 0 0 8), (8, vi_get ww_shp 1 10 11), (11, vi_iload 1 12), (12, vi_iload 2 13), (13, vi_callV ww_shp 2 sp_X2_setPower 2 16), (16, vi_aload 0 17), (17, vi_get ww_shp 0 0 20), (20, vi_get ww_shp 1 11 23), (23, vi_iload 1 24), (24, vi_iload 2 25), (25, vi_callV ww_shp 2 sp_X2_setPower 2 28), (28, vi_bin (fun x y => x + y) 29), (29, vi_ret)]
set_option maxRecDepth 20000 in
theorem se_X5_power : ∀ q ∈ ke_X5_power, vm_Snd true ww_tb ww_tbx ww_strs ww_nw ww_shp ww_nm ww_cl ww_tyl cX5_power 3 RX5 (some .int) 7 q.1 q.2 := by
  refine vg_cons (vt_iload_n dX5_power_0 rfl rfl) ?_
  refine vg_cons (vt_callSX c_X5_checkCell t_X5_checkCell ww_mv dX5_power_1 ww_good u_75 u_64 u_77 u_76 (by decide +kernel) (by decide) rfl) ?_
  refine vg_cons (vt_aload_n dX5_power_4 rfl rfl) ?_
  refine vg_cons (vt_getfield (T := TX5) dX5_power_5 rfl (by decide) ww_inX5 u_58 rfl) ?_
  refine vg_cons (vt_getfield (T := TX1) dX5_power_8 rfl (by decide) ww_inX1 u_88 rfl) ?_
  refine vg_cons (vt_iload_n dX5_power_11 rfl rfl) ?_
  refine vg_cons (vt_iload_n dX5_power_12 rfl rfl) ?_
  refine vg_cons (vt_callV (T := TX2) c_X2_setPower dX5_power_13 rfl ww_good u_112 u_31 u_113 u_114 u_115 (by decide +kernel) (by decide) rfl) ?_
  refine vg_cons (vt_aload_n dX5_power_16 rfl rfl) ?_
  refine vg_cons (vt_getfield (T := TX5) dX5_power_17 rfl (by decide) ww_inX5 u_58 rfl) ?_
  refine vg_cons (vt_getfield (T := TX1) dX5_power_20 rfl (by decide) ww_inX1 u_94 rfl) ?_
  refine vg_cons (vt_iload_n dX5_power_23 rfl rfl) ?_
  refine vg_cons (vt_iload_n dX5_power_24 rfl rfl) ?_
  refine vg_cons (vt_callV (T := TX2) c_X2_setPower dX5_power_25 rfl ww_good u_112 u_31 u_113 u_114 u_115 (by decide +kernel) (by decide) rfl) ?_
  refine vg_cons (vt_iadd dX5_power_28 rfl) ?_
  refine vg_cons (vt_ireturn dX5_power_29 rfl) ?_
  exact fun _ h => absurd h List.not_mem_nil
theorem me_X5_power : vg_Code ke_X5_power := fun q h => (se_X5_power q h).1

def pr_X5_power : vgT → vgS → Prop := fun av σ => match av with
  | [.inr (0, 0, 0), .inl (.int c), .inl (.int d)] => wx_fr σ
  | _ => False
def pf_X5_power : vgT → Nat × Int32 := fun av => match av with
  | [.inr (0, 0, 0), .inl (.int c), .inl (.int d)] => (if wp_c c then (0, 0) else (1, 0))
  | _ => (0, 0)
theorem wp_X5_power : ∀ av σ, pr_X5_power av σ → vg_wd av ≤ 3 := by
  intro av σ h
  unfold pr_X5_power at h
  split at h
  · exact Nat.le_of_ble_eq_true rfl
  · exact h.elim
set_option maxRecDepth 20000 in
theorem gp_X5_power : ∀ av σ, pr_X5_power av σ → vg_Go ke_X5_power (fun r _ => r = po (pf_X5_power av)) 0 (vg_args 0 av) [] σ := by
  intro av σ h
  unfold pr_X5_power at h
  split at h
  next c d =>
    refine vg_run (cuts := []) me_X5_power 80 ?_
    refine And.intro (fun z => ?_) (fun z => And.intro (Classical.not_not.mp z) ?_)
    · show vm_th 1 = po (pf_X5_power [.inr (0, 0, 0), .inl (.int c), .inl (.int d)])
      have e : pf_X5_power [.inr (0, 0, 0), .inl (.int c), .inl (.int d)] = (1, 0) := by
        show (if _ then _ else _) = _
        rw [if_neg (show ¬ (wp_c c) from (fun y => z (jc16.mpr y)))]
      rw [e]
      rfl
    have c1 : wp_c c := jc16.mp (Classical.not_not.mp z)
    have e : pf_X5_power [.inr (0, 0, 0), .inl (.int c), .inl (.int d)] = (0, 0) := by
      show (if _ then _ else _) = _
      rw [if_pos c1]
    rw [e]
    exact And.intro (show σ (5, 0, 0) 3 = 0 from wx_n0 h) (And.intro (show σ (5, 0, 1) 3 = 0 from wx_n1 h) rfl)
  next => exact h.elim
theorem p_X5_power : vm_MetX ww_tb ww_tbx ww_strs ww_nw ww_shp ww_nm ww_cl ww_tyl yX5_power cX5_power 3 (some .int) 7 pr_X5_power (fun av _ r _ => r = po (pf_X5_power av)) := vm_metX ww_closed (by decide +kernel) rfl ww_mv se_X5_power wp_X5_power gp_X5_power
def ke_X5_alert : List (Nat × vgF) := [(0, vi_iload 1 1), (1, vi_iload 2 2), (2, vi_iload 3 3), (3, vi_callSX sp_X5_checkWords tx_X5_checkWords 2 3 6), (6, vi_aload 0 7), (7, vi_icst (0) 8), (8, vi_icst (-1) 9), (9, vi_iload 1 10), (10, vi_iload 2 11), (11, vi_iload 3 12), (12, vi_callV ww_shp 0 sp_X5_draft 5 15), (15, vi_ret)]
set_option maxRecDepth 20000 in
theorem se_X5_alert : ∀ q ∈ ke_X5_alert, vm_Snd true ww_tb ww_tbx ww_strs ww_nw ww_shp ww_nm ww_cl ww_tyl cX5_alert 4 RX5 (some .int) 8 q.1 q.2 := by
  refine vg_cons (vt_iload_n dX5_alert_0 rfl rfl) ?_
  refine vg_cons (vt_iload_n dX5_alert_1 rfl rfl) ?_
  refine vg_cons (vt_iload_n dX5_alert_2 rfl rfl) ?_
  refine vg_cons (vt_callSX c_X5_checkWords t_X5_checkWords ww_mv dX5_alert_3 ww_good u_116 u_64 u_118 u_117 (by decide +kernel) (by decide) rfl) ?_
  refine vg_cons (vt_aload_n dX5_alert_6 rfl rfl) ?_
  refine vg_cons (vt_iconst dX5_alert_7 rfl rfl) ?_
  refine vg_cons (vt_iconst dX5_alert_8 rfl rfl) ?_
  refine vg_cons (vt_iload_n dX5_alert_9 rfl rfl) ?_
  refine vg_cons (vt_iload_n dX5_alert_10 rfl rfl) ?_
  refine vg_cons (vt_iload_n dX5_alert_11 rfl rfl) ?_
  refine vg_cons (vt_callV (T := TX5) c_X5_draft dX5_alert_12 rfl ww_good u_119 u_64 u_120 u_121 u_122 (by decide +kernel) (by decide) rfl) ?_
  refine vg_cons (vt_ireturn dX5_alert_15 rfl) ?_
  exact fun _ h => absurd h List.not_mem_nil
theorem me_X5_alert : vg_Code ke_X5_alert := fun q h => (se_X5_alert q h).1

def pr_X5_alert : vgT → vgS → Prop := fun av σ => match av with
  | [.inr (0, 0, 0), .inl (.int a), .inl (.int d), .inl (.int t)] => wx_fr σ
  | _ => False
def pf_X5_alert : vgT → Nat × Int32 := fun av => match av with
  | [.inr (0, 0, 0), .inl (.int a), .inl (.int d), .inl (.int t)] => (if wp_w a d t then (0, 0) else (2, 0))
  | _ => (0, 0)
theorem wp_X5_alert : ∀ av σ, pr_X5_alert av σ → vg_wd av ≤ 4 := by
  intro av σ h
  unfold pr_X5_alert at h
  split at h
  · exact Nat.le_of_ble_eq_true rfl
  · exact h.elim
set_option maxRecDepth 20000 in
theorem gp_X5_alert : ∀ av σ, pr_X5_alert av σ → vg_Go ke_X5_alert (fun r _ => r = po (pf_X5_alert av)) 0 (vg_args 0 av) [] σ := by
  intro av σ h
  unfold pr_X5_alert at h
  split at h
  next a d t =>
    refine vg_run (cuts := []) me_X5_alert 80 ?_
    refine And.intro (fun z => ?_) (fun z => And.intro (Classical.not_not.mp z) ?_)
    · show vm_th 2 = po (pf_X5_alert [.inr (0, 0, 0), .inl (.int a), .inl (.int d), .inl (.int t)])
      have e : pf_X5_alert [.inr (0, 0, 0), .inl (.int a), .inl (.int d), .inl (.int t)] = (2, 0) := by
        show (if _ then _ else _) = _
        rw [if_neg (show ¬ (wp_w a d t) from z)]
      rw [e]
      rfl
    have c1 : wp_w a d t := Classical.not_not.mp z
    have e : pf_X5_alert [.inr (0, 0, 0), .inl (.int a), .inl (.int d), .inl (.int t)] = (0, 0) := by
      show (if _ then _ else _) = _
      rw [if_pos c1]
    rw [e]
    refine And.intro (show σ (1, 0, 0) 6 = 0 from wx_w h) ?_
    exact congrArg (fun x => some (Sum.inl (Value.int x))) (show σ (1, 0, 0) 6 = 0 from wx_w h)
  next => exact h.elim
theorem p_X5_alert : vm_MetX ww_tb ww_tbx ww_strs ww_nw ww_shp ww_nm ww_cl ww_tyl yX5_alert cX5_alert 4 (some .int) 8 pr_X5_alert (fun av _ r _ => r = po (pf_X5_alert av)) := vm_metX ww_closed (by decide +kernel) rfl ww_mv se_X5_alert wp_X5_alert gp_X5_alert
def ke_X5_pass : List (Nat × vgF) := [(0, vi_iload 1 1), (1, vi_icst (1) 2), (2, vi_icst (60) 4), (4, vi_callSX sp_X5_checkRange tx_X5_checkRange 2 3 7), (7, vi_aload 0 8), (8, vi_get ww_shp 0 0 11), (11, vi_get ww_shp 1 0 14), (14, vi_iload 1 15), (15, vi_bin (fun x y => x + y) 16), (16, vi_icst (9999) 19), (19, vi_cmp (fun x y => x ≤ y) 32 22), (22, vi_no), (32, vi_aload 0 33), (33, vi_get ww_shp 0 0 36), (36, vi_iload 1 37), (37, vi_callV ww_shp 1 sp_X1_playMinutes 1 40), (40, vi_ret)]
set_option maxRecDepth 20000 in
theorem se_X5_pass : ∀ q ∈ ke_X5_pass, vm_Snd true ww_tb ww_tbx ww_strs ww_nw ww_shp ww_nm ww_cl ww_tyl cX5_pass 2 RX5 (some .int) 7 q.1 q.2 := by
  refine vg_cons (vt_iload_n dX5_pass_0 rfl rfl) ?_
  refine vg_cons (vt_iconst dX5_pass_1 rfl rfl) ?_
  refine vg_cons (vt_bipush dX5_pass_2 (by decide) rfl) ?_
  refine vg_cons (vt_callSX c_X5_checkRange t_X5_checkRange ww_mv dX5_pass_4 ww_good u_63 u_64 u_66 u_65 (by decide +kernel) (by decide) rfl) ?_
  refine vg_cons (vt_aload_n dX5_pass_7 rfl rfl) ?_
  refine vg_cons (vt_getfield (T := TX5) dX5_pass_8 rfl (by decide) ww_inX5 u_58 rfl) ?_
  refine vg_cons (vt_getfield (T := TX1) dX5_pass_11 rfl (by decide) ww_inX1 u_97 rfl) ?_
  refine vg_cons (vt_iload_n dX5_pass_14 rfl rfl) ?_
  refine vg_cons (vt_iadd dX5_pass_15 rfl) ?_
  refine vg_cons (vt_sipush dX5_pass_16 (by decide) rfl) ?_
  refine vg_cons (vt_cmp_le dX5_pass_19 (by decide) rfl) ?_
  refine vg_cons (vt_no) ?_
  refine vg_cons (vt_aload_n dX5_pass_32 rfl rfl) ?_
  refine vg_cons (vt_getfield (T := TX5) dX5_pass_33 rfl (by decide) ww_inX5 u_58 rfl) ?_
  refine vg_cons (vt_iload_n dX5_pass_36 rfl rfl) ?_
  refine vg_cons (vt_callV (T := TX1) c_X1_playMinutes dX5_pass_37 rfl ww_good u_123 u_55 u_124 u_125 u_126 (by decide +kernel) (by decide) rfl) ?_
  refine vg_cons (vt_ireturn dX5_pass_40 rfl) ?_
  exact fun _ h => absurd h List.not_mem_nil
theorem me_X5_pass : vg_Code ke_X5_pass := fun q h => (se_X5_pass q h).1

def pr_X5_pass : vgT → vgS → Prop := fun av σ => match av with
  | [.inr (0, 0, 0), .inl (.int m)] => wx_fr σ
  | _ => False
def pf_X5_pass : vgT → Nat × Int32 := fun av => match av with
  | [.inr (0, 0, 0), .inl (.int m)] => (if wp_r m (1) (60) then (0, 0) else (2, 0))
  | _ => (0, 0)
theorem wp_X5_pass : ∀ av σ, pr_X5_pass av σ → vg_wd av ≤ 2 := by
  intro av σ h
  unfold pr_X5_pass at h
  split at h
  · exact Nat.le_of_ble_eq_true rfl
  · exact h.elim
set_option maxRecDepth 20000 in
theorem gp_X5_pass : ∀ av σ, pr_X5_pass av σ → vg_Go ke_X5_pass (fun r _ => r = po (pf_X5_pass av)) 0 (vg_args 0 av) [] σ := by
  intro av σ h
  unfold pr_X5_pass at h
  split at h
  next m =>
    refine vg_run (cuts := []) me_X5_pass 80 ?_
    refine And.intro (fun z => ?_) (fun z => And.intro (Classical.not_not.mp z) ?_)
    · show vm_th 2 = po (pf_X5_pass [.inr (0, 0, 0), .inl (.int m)])
      have e : pf_X5_pass [.inr (0, 0, 0), .inl (.int m)] = (2, 0) := by
        show (if _ then _ else _) = _
        rw [if_neg (show ¬ (wp_r m (1) (60)) from z)]
      rw [e]
      rfl
    have c1 : wp_r m (1) (60) := Classical.not_not.mp z
    have e : pf_X5_pass [.inr (0, 0, 0), .inl (.int m)] = (0, 0) := by
      show (if _ then _ else _) = _
      rw [if_pos c1]
    rw [e]
    refine And.intro (fun _ => ?_) (fun z => absurd (show σ (1, 0, 0) 0 + m ≤ 9999 from wx_le h.2.2.2.1.1 c1) z)
    refine And.intro ⟨h.1, h.2.2.1.2.1, wx_lt c1⟩ ?_
    exact congrArg (fun x => some (Sum.inl (Value.int x))) (wx_play h.1 h.2.2.1.2.1 h.2.1.1 _)
  next => exact h.elim
theorem p_X5_pass : vm_MetX ww_tb ww_tbx ww_strs ww_nw ww_shp ww_nm ww_cl ww_tyl yX5_pass cX5_pass 2 (some .int) 7 pr_X5_pass (fun av _ r _ => r = po (pf_X5_pass av)) := vm_metX ww_closed (by decide +kernel) rfl ww_mv se_X5_pass wp_X5_pass gp_X5_pass
def ke_X5_until : List (Nat × vgF) := [(0, vi_iload 1 1), (1, vi_icst (0) 2), (2, vi_icst (23) 4), (4, vi_callSX sp_X5_checkRange tx_X5_checkRange 2 3 7), (7, vi_aload 0 8), (8, vi_get ww_shp 0 0 11), (11, vi_get ww_shp 1 0 14), (14, vi_icst (60) 16), (16, vi_div (fun x y => x / y) 17), (17, vi_icst (1) 18), (18, vi_bin (fun x y => x + y) 19), (19, vi_istore 2 20), (20, vi_iload 2 21), (21, vi_iload 1 22), (22, vi_iload 2 23), (23, vi_bin (fun x y => x - y) 24), (24, vi_icst (24) 26), (26, vi_callS sp_J9_floorMod_7cf53 2 29), (29, vi_bin (fun x y => x + y) 30), (30, vi_icst (60) 32), (32, vi_bin (fun x y => x * y) 33), (33, vi_istore 3 34), (34, vi_aload 0 35), (35, vi_get ww_shp 0 0 38), (38, vi_callV ww_shp 1 sp_X1_countInForce 0 41), (41, vi_if (fun x => 0 < x) 51 44), (44, vi_iload 3 45), (45, vi_icst (9999) 48), (48, vi_cmp (fun x y => x ≤ y) 61 51), (51, vi_no), (61, vi_aload 0 62), (62, vi_get ww_shp 0 0 65), (65, vi_iload 3 66), (66, vi_put ww_shp 1 0 69), (69, vi_iload 3 70), (70, vi_ret)]
set_option maxRecDepth 20000 in
theorem se_X5_until : ∀ q ∈ ke_X5_until, vm_Snd true ww_tb ww_tbx ww_strs ww_nw ww_shp ww_nm ww_cl ww_tyl cX5_until 4 RX5 (some .int) 7 q.1 q.2 := by
  refine vg_cons (vt_iload_n dX5_until_0 rfl rfl) ?_
  refine vg_cons (vt_iconst dX5_until_1 rfl rfl) ?_
  refine vg_cons (vt_bipush dX5_until_2 (by decide) rfl) ?_
  refine vg_cons (vt_callSX c_X5_checkRange t_X5_checkRange ww_mv dX5_until_4 ww_good u_63 u_64 u_66 u_65 (by decide +kernel) (by decide) rfl) ?_
  refine vg_cons (vt_aload_n dX5_until_7 rfl rfl) ?_
  refine vg_cons (vt_getfield (T := TX5) dX5_until_8 rfl (by decide) ww_inX5 u_58 rfl) ?_
  refine vg_cons (vt_getfield (T := TX1) dX5_until_11 rfl (by decide) ww_inX1 u_97 rfl) ?_
  refine vg_cons (vt_bipush dX5_until_14 (by decide) rfl) ?_
  refine vg_cons (vt_idiv dX5_until_16 rfl) ?_
  refine vg_cons (vt_iconst dX5_until_17 rfl rfl) ?_
  refine vg_cons (vt_iadd dX5_until_18 rfl) ?_
  refine vg_cons (vt_istore_n dX5_until_19 rfl (by decide) rfl) ?_
  refine vg_cons (vt_iload_n dX5_until_20 rfl rfl) ?_
  refine vg_cons (vt_iload_n dX5_until_21 rfl rfl) ?_
  refine vg_cons (vt_iload_n dX5_until_22 rfl rfl) ?_
  refine vg_cons (vt_isub dX5_until_23 rfl) ?_
  refine vg_cons (vt_bipush dX5_until_24 (by decide) rfl) ?_
  refine vg_cons (vt_callS c_J9_floorMod_7cf53 dX5_until_26 ww_good u_127 u_128 u_130 u_129 (by decide +kernel) (by decide) rfl) ?_
  refine vg_cons (vt_iadd dX5_until_29 rfl) ?_
  refine vg_cons (vt_bipush dX5_until_30 (by decide) rfl) ?_
  refine vg_cons (vt_imul dX5_until_32 rfl) ?_
  refine vg_cons (vt_istore_n dX5_until_33 rfl (by decide) rfl) ?_
  refine vg_cons (vt_aload_n dX5_until_34 rfl rfl) ?_
  refine vg_cons (vt_getfield (T := TX5) dX5_until_35 rfl (by decide) ww_inX5 u_58 rfl) ?_
  refine vg_cons (vt_callV (T := TX1) c_X1_countInForce dX5_until_38 rfl ww_good u_131 u_55 u_132 u_133 u_134 (by decide +kernel) (by decide) rfl) ?_
  refine vg_cons (vt_if_gt dX5_until_41 (by decide) rfl) ?_
  refine vg_cons (vt_iload_n dX5_until_44 rfl rfl) ?_
  refine vg_cons (vt_sipush dX5_until_45 (by decide) rfl) ?_
  refine vg_cons (vt_cmp_le dX5_until_48 (by decide) rfl) ?_
  refine vg_cons (vt_no) ?_
  refine vg_cons (vt_aload_n dX5_until_61 rfl rfl) ?_
  refine vg_cons (vt_getfield (T := TX5) dX5_until_62 rfl (by decide) ww_inX5 u_58 rfl) ?_
  refine vg_cons (vt_iload_n dX5_until_65 rfl rfl) ?_
  refine vg_cons (vt_putfield (T := TX1) tyX1 dX5_until_66 rfl (by decide) ww_inX1 tyX1_ok nmX1 rfl rfl u_97 rfl) ?_
  refine vg_cons (vt_iload_n dX5_until_69 rfl rfl) ?_
  refine vg_cons (vt_ireturn dX5_until_70 rfl) ?_
  exact fun _ h => absurd h List.not_mem_nil
theorem me_X5_until : vg_Code ke_X5_until := fun q h => (se_X5_until q h).1

def pr_X5_until : vgT → vgS → Prop := fun av σ => match av with
  | [.inr (0, 0, 0), .inl (.int q)] => wx_fr σ
  | _ => False
def pf_X5_until : vgT → Nat × Int32 := fun av => match av with
  | [.inr (0, 0, 0), .inl (.int q)] => (if wp_r q (0) (23) then (0, (wu q)) else (2, 0))
  | _ => (0, 0)
theorem wp_X5_until : ∀ av σ, pr_X5_until av σ → vg_wd av ≤ 4 := by
  intro av σ h
  unfold pr_X5_until at h
  split at h
  · exact Nat.le_of_ble_eq_true rfl
  · exact h.elim
set_option maxRecDepth 20000 in
theorem gp_X5_until : ∀ av σ, pr_X5_until av σ → vg_Go ke_X5_until (fun r _ => r = po (pf_X5_until av)) 0 (vg_args 0 av) [] σ := by
  intro av σ h
  unfold pr_X5_until at h
  split at h
  next q =>
    refine vg_run (cuts := []) me_X5_until 80 ?_
    refine And.intro (fun z => ?_) (fun z => And.intro (Classical.not_not.mp z) ?_)
    · show vm_th 2 = po (pf_X5_until [.inr (0, 0, 0), .inl (.int q)])
      have e : pf_X5_until [.inr (0, 0, 0), .inl (.int q)] = (2, 0) := by
        show (if _ then _ else _) = _
        rw [if_neg (show ¬ (wp_r q (0) (23)) from z)]
      rw [e]
      rfl
    have c1 : wp_r q (0) (23) := Classical.not_not.mp z
    have e : pf_X5_until [.inr (0, 0, 0), .inl (.int q)] = (0, (wu q)) := by
      show (if _ then _ else _) = _
      rw [if_pos c1]
    rw [e]
    have h0 : σ (1, 0, 0) 0 = 0 := h.2.2.2.1.1
    obtain ⟨k, hk, hq⟩ := wp_24 c1
    have hu := wu_c k hk
    rw [← hq] at hu
    have e1 : (σ (1, 0, 0) 0 / 60 + 1 + jFm (q - (σ (1, 0, 0) 0 / 60 + 1)) 24) * 60 = wu q := by
      rw [h0, show ((0 : Int32) / 60 + 1) = 1 from by decide]
      exact hu.1
    refine And.intro (by decide) (And.intro (by decide) (And.intro h.1 ?_))
    refine And.intro (fun z => ?_) (fun _ => ?_)
    · exfalso
      have z2 : 0 < jSum (fun w => jb (¬ jV σ 0 11 w 7 = 0)) (jWc (jV σ 0)) := z
      rw [h.2.1.2.2.1] at z2
      exact absurd (show (0 : Int32) < 0 from z2) (by decide)
    · refine And.intro (fun _ => ?_) (fun z => ?_)
      · exact congrArg (fun x => some (Sum.inl (Value.int x))) e1
      · exfalso
        have z2 : ¬ (σ (1, 0, 0) 0 / 60 + 1 + jFm (q - (σ (1, 0, 0) 0 / 60 + 1)) 24) * 60 ≤ 9999 := z
        rw [e1] at z2
        exact z2 hu.2
  next => exact h.elim
theorem p_X5_until : vm_MetX ww_tb ww_tbx ww_strs ww_nw ww_shp ww_nm ww_cl ww_tyl yX5_until cX5_until 4 (some .int) 7 pr_X5_until (fun av _ r _ => r = po (pf_X5_until av)) := vm_metX ww_closed (by decide +kernel) rfl ww_mv se_X5_until wp_X5_until gp_X5_until
def ke_X5_inForce : List (Nat × vgF) := [(0, vi_iload 1 1), (1, vi_callSX sp_X5_checkCell tx_X5_checkCell 1 1 4), (4, vi_aload 0 5), (5, vi_get ww_shp 0 0 8), (8, vi_get ww_shp 1 6 11), (11, vi_icst (1) 12), (12, vi_bin (fun x y => x - y) 13), (13, vi_istore 2 14), (14, vi_iload 2 15), (15, vi_if (fun x => x < 0) 60 18), (18, vi_aload 0 19), (19, vi_get ww_shp 0 0 22), (22, vi_get ww_shp 1 9 25), (25, vi_iload 2 26), (26, vi_aald ww_shp 4 27), (27, vi_get ww_shp 4 7 30), (30, vi_if (fun x => x = 0) 54 33), (33, vi_aload 0 34), (34, vi_get ww_shp 0 0 37), (37, vi_get ww_shp 1 9 40), (40, vi_iload 2 41), (41, vi_aald ww_shp 4 42), (42, vi_get ww_shp 4 2 45), (45, vi_iload 1 46), (46, vi_callS sp_X5_isIn 2 49), (49, vi_if (fun x => x = 0) 54 52), (52, vi_iload 2 53), (53, vi_ret), (54, vi_iinc 2 (-1) 57), (57, vi_goto 14), (60, vi_icst (-1) 61), (61, vi_ret)]
set_option maxRecDepth 20000 in
theorem se_X5_inForce : ∀ q ∈ ke_X5_inForce, vm_Snd true ww_tb ww_tbx ww_strs ww_nw ww_shp ww_nm ww_cl ww_tyl cX5_inForce 3 RX5 (some .int) 7 q.1 q.2 := by
  refine vg_cons (vt_iload_n dX5_inForce_0 rfl rfl) ?_
  refine vg_cons (vt_callSX c_X5_checkCell t_X5_checkCell ww_mv dX5_inForce_1 ww_good u_75 u_64 u_77 u_76 (by decide +kernel) (by decide) rfl) ?_
  refine vg_cons (vt_aload_n dX5_inForce_4 rfl rfl) ?_
  refine vg_cons (vt_getfield (T := TX5) dX5_inForce_5 rfl (by decide) ww_inX5 u_58 rfl) ?_
  refine vg_cons (vt_getfield (T := TX1) dX5_inForce_8 rfl (by decide) ww_inX1 u_61 rfl) ?_
  refine vg_cons (vt_iconst dX5_inForce_11 rfl rfl) ?_
  refine vg_cons (vt_isub dX5_inForce_12 rfl) ?_
  refine vg_cons (vt_istore_n dX5_inForce_13 rfl (by decide) rfl) ?_
  refine vg_cons (vt_iload_n dX5_inForce_14 rfl rfl) ?_
  refine vg_cons (vt_if_lt dX5_inForce_15 (by decide) rfl) ?_
  refine vg_cons (vt_aload_n dX5_inForce_18 rfl rfl) ?_
  refine vg_cons (vt_getfield (T := TX5) dX5_inForce_19 rfl (by decide) ww_inX5 u_58 rfl) ?_
  refine vg_cons (vt_getfield (T := TX1) dX5_inForce_22 rfl (by decide) ww_inX1 u_106 rfl) ?_
  refine vg_cons (vt_iload_n dX5_inForce_25 rfl rfl) ?_
  refine vg_cons (vt_aaload dX5_inForce_26 rfl rfl) ?_
  refine vg_cons (vt_getfield (T := TX4) dX5_inForce_27 rfl (by decide) ww_inX4 u_135 rfl) ?_
  refine vg_cons (vt_if_eq dX5_inForce_30 (by decide) rfl) ?_
  refine vg_cons (vt_aload_n dX5_inForce_33 rfl rfl) ?_
  refine vg_cons (vt_getfield (T := TX5) dX5_inForce_34 rfl (by decide) ww_inX5 u_58 rfl) ?_
  refine vg_cons (vt_getfield (T := TX1) dX5_inForce_37 rfl (by decide) ww_inX1 u_106 rfl) ?_
  refine vg_cons (vt_iload_n dX5_inForce_40 rfl rfl) ?_
  refine vg_cons (vt_aaload dX5_inForce_41 rfl rfl) ?_
  refine vg_cons (vt_getfield (T := TX4) dX5_inForce_42 rfl (by decide) ww_inX4 u_109 rfl) ?_
  refine vg_cons (vt_iload_n dX5_inForce_45 rfl rfl) ?_
  refine vg_cons (vt_callS c_X5_isIn dX5_inForce_46 ww_good u_102 u_64 u_104 u_103 (by decide +kernel) (by decide) rfl) ?_
  refine vg_cons (vt_if_eq dX5_inForce_49 (by decide) rfl) ?_
  refine vg_cons (vt_iload_n dX5_inForce_52 rfl rfl) ?_
  refine vg_cons (vt_ireturn dX5_inForce_53 rfl) ?_
  refine vg_cons (vt_iinc dX5_inForce_54 rfl rfl) ?_
  refine vg_cons (vt_goto dX5_inForce_57 (by decide)) ?_
  refine vg_cons (vt_iconst dX5_inForce_60 rfl rfl) ?_
  refine vg_cons (vt_ireturn dX5_inForce_61 rfl) ?_
  exact fun _ h => absurd h List.not_mem_nil
theorem me_X5_inForce : vg_Code ke_X5_inForce := fun q h => (se_X5_inForce q h).1

def pr_X5_inForce : vgT → vgS → Prop := fun av σ => match av with
  | [.inr (0, 0, 0), .inl (.int c)] => wx_fr σ
  | _ => False
def pf_X5_inForce : vgT → Nat × Int32 := fun av => match av with
  | [.inr (0, 0, 0), .inl (.int c)] => (if wp_c c then (0, (-1)) else (1, 0))
  | _ => (0, 0)
theorem wp_X5_inForce : ∀ av σ, pr_X5_inForce av σ → vg_wd av ≤ 3 := by
  intro av σ h
  unfold pr_X5_inForce at h
  split at h
  · exact Nat.le_of_ble_eq_true rfl
  · exact h.elim
set_option maxRecDepth 20000 in
theorem gp_X5_inForce : ∀ av σ, pr_X5_inForce av σ → vg_Go ke_X5_inForce (fun r _ => r = po (pf_X5_inForce av)) 0 (vg_args 0 av) [] σ := by
  intro av σ h
  unfold pr_X5_inForce at h
  split at h
  next c =>
    refine vg_run (cuts := []) me_X5_inForce 80 ?_
    refine And.intro (fun z => ?_) (fun z => And.intro (Classical.not_not.mp z) ?_)
    · show vm_th 1 = po (pf_X5_inForce [.inr (0, 0, 0), .inl (.int c)])
      have e : pf_X5_inForce [.inr (0, 0, 0), .inl (.int c)] = (1, 0) := by
        show (if _ then _ else _) = _
        rw [if_neg (show ¬ (wp_c c) from (fun y => z (jc16.mpr y)))]
      rw [e]
      rfl
    have c1 : wp_c c := jc16.mp (Classical.not_not.mp z)
    have e : pf_X5_inForce [.inr (0, 0, 0), .inl (.int c)] = (0, (-1)) := by
      show (if _ then _ else _) = _
      rw [if_pos c1]
    rw [e]
    exact And.intro (fun _ => rfl) (fun z => absurd (show σ (1, 0, 0) 6 - 1 < 0 by rw [wx_w h]; decide) z)
  next => exact h.elim
theorem p_X5_inForce : vm_MetX ww_tb ww_tbx ww_strs ww_nw ww_shp ww_nm ww_cl ww_tyl yX5_inForce cX5_inForce 3 (some .int) 7 pr_X5_inForce (fun av _ r _ => r = po (pf_X5_inForce av)) := vm_metX ww_closed (by decide +kernel) rfl ww_mv se_X5_inForce wp_X5_inForce gp_X5_inForce
