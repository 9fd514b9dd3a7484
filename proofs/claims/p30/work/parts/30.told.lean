-- words of the tables, and what stands at each place of the methods' code (laid by program)
theorem q_236 : Cond.code yX5_checkCell cX5_checkCell 1 none ∈ ww_tb := by decide +kernel
theorem q_237 : Cond.static yX5_checkCell ∈ ww_tb := by decide +kernel
theorem q_238 : Cond.methodLink RX5 19 yX5_checkCell ∈ ww_tb := by decide +kernel
theorem q_239 : Cond.fieldLink RX5 138 (TX1 9).1 (TX1 9).2.1 (TX1 9).2.2.1 ∈ ww_tb := by decide +kernel
theorem q_240 : Cond.fieldLink RX5 243 (TX4 7).1 (TX4 7).2.1 (TX4 7).2.2.1 ∈ ww_tb := by decide +kernel
theorem q_241 : Cond.fieldLink RX5 142 (TX4 2).1 (TX4 2).2.1 (TX4 2).2.2.1 ∈ ww_tb := by decide +kernel
theorem q_242 : Cond.methodLink RX5 121 yX5_isIn ∈ ww_tb := by decide +kernel
theorem q_243 : Cond.code yX5_checkWarning cX5_checkWarning 2 none ∈ ww_tb := by decide +kernel
theorem q_244 : Cond.methodLink RX5 132 yX5_checkWarning ∈ ww_tb := by decide +kernel
theorem q_245 : Cond.instanceMethod yX5_checkWarning ∈ ww_tb := by decide +kernel
theorem q_246 : Cond.selects RX5 yX5_checkWarning yX5_checkWarning ∈ ww_tb := by decide +kernel
theorem q_247 : Cond.fieldLink RX5 237 (TX4 0).1 (TX4 0).2.1 (TX4 0).2.2.1 ∈ ww_tb := by decide +kernel
theorem q_248 : Cond.fieldLink RX5 240 (TX4 1).1 (TX4 1).2.1 (TX4 1).2.2.1 ∈ ww_tb := by decide +kernel
theorem q_249 : Cond.fieldLink RX5 147 (TX4 3).1 (TX4 3).2.1 (TX4 3).2.2.1 ∈ ww_tb := by decide +kernel
theorem q_250 : Cond.fieldLink RX5 150 (TX4 4).1 (TX4 4).2.1 (TX4 4).2.2.1 ∈ ww_tb := by decide +kernel
theorem q_251 : Cond.fieldLink RX5 158 (TX4 5).1 (TX4 5).2.1 (TX4 5).2.2.1 ∈ ww_tb := by decide +kernel
theorem q_252 : Cond.fieldLink RX5 153 (TX4 6).1 (TX4 6).2.1 (TX4 6).2.2.1 ∈ ww_tb := by decide +kernel
theorem q_253 : Cond.code yX1_countBelievers cX1_countBelievers 4 (some .int) ∈ ww_tb := by decide +kernel
theorem q_254 : Cond.methodLink RX5 246 yX1_countBelievers ∈ ww_tb := by decide +kernel
theorem q_255 : Cond.instanceMethod yX1_countBelievers ∈ ww_tb := by decide +kernel
theorem q_256 : Cond.selects RX1 yX1_countBelievers yX1_countBelievers ∈ ww_tb := by decide +kernel
theorem q_257 : Cond.code yX5_checkGroup cX5_checkGroup 2 none ∈ ww_tb := by decide +kernel
theorem q_258 : Cond.methodLink RX5 60 yX5_checkGroup ∈ ww_tb := by decide +kernel
theorem q_259 : Cond.instanceMethod yX5_checkGroup ∈ ww_tb := by decide +kernel
theorem q_260 : Cond.selects RX5 yX5_checkGroup yX5_checkGroup ∈ ww_tb := by decide +kernel
theorem q_261 : Cond.fieldLink RX5 38 (TX1 7).1 (TX1 7).2.1 (TX1 7).2.2.1 ∈ ww_tb := by decide +kernel
theorem q_262 : Cond.fieldLink RX5 42 (TX0 0).1 (TX0 0).2.1 (TX0 0).2.2.1 ∈ ww_tb := by decide +kernel
theorem q_263 : Cond.fieldLink RX5 47 (TX0 1).1 (TX0 1).2.1 (TX0 1).2.2.1 ∈ ww_tb := by decide +kernel
theorem q_264 : Cond.fieldLink RX5 50 (TX0 2).1 (TX0 2).2.1 (TX0 2).2.2.1 ∈ ww_tb := by decide +kernel
theorem q_265 : Cond.fieldLink RX5 63 (TX0 3).1 (TX0 3).2.1 (TX0 3).2.2.1 ∈ ww_tb := by decide +kernel
theorem q_266 : Cond.methodLink RX5 197 yX1_isAsleep ∈ ww_tb := by decide +kernel
theorem q_267 : Cond.fieldLink RX5 201 (TX0 6).1 (TX0 6).2.1 (TX0 6).2.2.1 ∈ ww_tb := by decide +kernel
theorem q_268 : Cond.fieldLink RX5 204 (TX0 7).1 (TX0 7).2.1 (TX0 7).2.2.1 ∈ ww_tb := by decide +kernel
theorem q_269 : Cond.methodLink RX5 207 yX0_isGone ∈ ww_tb := by decide +kernel
theorem q_270 : Cond.methodLink RX5 211 yX1_latestBelieved ∈ ww_tb := by decide +kernel
theorem q_271 : Cond.fieldLink RX5 220 (TX0 9).1 (TX0 9).2.1 (TX0 9).2.2.1 ∈ ww_tb := by decide +kernel
theorem q_272 : Cond.fieldLink RX5 223 (TX0 10).1 (TX0 10).2.1 (TX0 10).2.2.1 ∈ ww_tb := by decide +kernel
theorem q_273 : Cond.fieldLink RX5 226 (TX0 11).1 (TX0 11).2.1 (TX0 11).2.2.1 ∈ ww_tb := by decide +kernel
theorem q_274 : Cond.fieldLink RX5 229 (TX0 8).1 (TX0 8).2.1 (TX0 8).2.2.1 ∈ ww_tb := by decide +kernel
theorem q_275 : Cond.fieldLink RX5 232 (TX0 12).1 (TX0 12).2.1 (TX0 12).2.2.1 ∈ ww_tb := by decide +kernel
theorem dX5_inForce_0 : decode cX5_inForce 0 = .ok (.iload_n 1, 1) := by decide +kernel
theorem dX5_inForce_1 : decode cX5_inForce 1 = .ok (.invokestatic 19, 3) := by decide +kernel
theorem dX5_inForce_4 : decode cX5_inForce 4 = .ok (.aload_n 0, 1) := by decide +kernel
theorem dX5_inForce_5 : decode cX5_inForce 5 = .ok (.getfield 10, 3) := by decide +kernel
theorem dX5_inForce_8 : decode cX5_inForce 8 = .ok (.getfield 249, 3) := by decide +kernel
theorem dX5_inForce_11 : decode cX5_inForce 11 = .ok (.iconst 1, 1) := by decide +kernel
theorem dX5_inForce_12 : decode cX5_inForce 12 = .ok (.isub, 1) := by decide +kernel
theorem dX5_inForce_13 : decode cX5_inForce 13 = .ok (.istore_n 2, 1) := by decide +kernel
theorem dX5_inForce_14 : decode cX5_inForce 14 = .ok (.iload_n 2, 1) := by decide +kernel
theorem dX5_inForce_15 : decode cX5_inForce 15 = .ok (.ifCond .lt 45, 3) := by decide +kernel
theorem dX5_inForce_18 : decode cX5_inForce 18 = .ok (.aload_n 0, 1) := by decide +kernel
theorem dX5_inForce_19 : decode cX5_inForce 19 = .ok (.getfield 10, 3) := by decide +kernel
theorem dX5_inForce_22 : decode cX5_inForce 22 = .ok (.getfield 138, 3) := by decide +kernel
theorem dX5_inForce_25 : decode cX5_inForce 25 = .ok (.iload_n 2, 1) := by decide +kernel
theorem dX5_inForce_26 : decode cX5_inForce 26 = .ok (.aaload, 1) := by decide +kernel
theorem dX5_inForce_27 : decode cX5_inForce 27 = .ok (.getfield 243, 3) := by decide +kernel
theorem dX5_inForce_30 : decode cX5_inForce 30 = .ok (.ifCond .eq 24, 3) := by decide +kernel
theorem dX5_inForce_33 : decode cX5_inForce 33 = .ok (.aload_n 0, 1) := by decide +kernel
theorem dX5_inForce_34 : decode cX5_inForce 34 = .ok (.getfield 10, 3) := by decide +kernel
theorem dX5_inForce_37 : decode cX5_inForce 37 = .ok (.getfield 138, 3) := by decide +kernel
theorem dX5_inForce_40 : decode cX5_inForce 40 = .ok (.iload_n 2, 1) := by decide +kernel
theorem dX5_inForce_41 : decode cX5_inForce 41 = .ok (.aaload, 1) := by decide +kernel
theorem dX5_inForce_42 : decode cX5_inForce 42 = .ok (.getfield 142, 3) := by decide +kernel
theorem dX5_inForce_45 : decode cX5_inForce 45 = .ok (.iload_n 1, 1) := by decide +kernel
theorem dX5_inForce_46 : decode cX5_inForce 46 = .ok (.invokestatic 121, 3) := by decide +kernel
theorem dX5_inForce_49 : decode cX5_inForce 49 = .ok (.ifCond .eq 5, 3) := by decide +kernel
theorem dX5_inForce_52 : decode cX5_inForce 52 = .ok (.iload_n 2, 1) := by decide +kernel
theorem dX5_inForce_53 : decode cX5_inForce 53 = .ok (.ireturn, 1) := by decide +kernel
theorem dX5_inForce_54 : decode cX5_inForce 54 = .ok (.iinc 2 (-1), 3) := by decide +kernel
theorem dX5_inForce_57 : decode cX5_inForce 57 = .ok (.goto (-43), 3) := by decide +kernel
theorem dX5_inForce_60 : decode cX5_inForce 60 = .ok (.iconst (-1), 1) := by decide +kernel
theorem dX5_inForce_61 : decode cX5_inForce 61 = .ok (.ireturn, 1) := by decide +kernel
theorem dX5_ofWarning_0 : decode cX5_ofWarning 0 = .ok (.aload_n 0, 1) := by decide +kernel
theorem dX5_ofWarning_1 : decode cX5_ofWarning 1 = .ok (.iload_n 1, 1) := by decide +kernel
theorem dX5_ofWarning_2 : decode cX5_ofWarning 2 = .ok (.invokevirtual 132, 3) := by decide +kernel
theorem dX5_ofWarning_5 : decode cX5_ofWarning 5 = .ok (.aload_n 0, 1) := by decide +kernel
theorem dX5_ofWarning_6 : decode cX5_ofWarning 6 = .ok (.getfield 10, 3) := by decide +kernel
theorem dX5_ofWarning_9 : decode cX5_ofWarning 9 = .ok (.getfield 138, 3) := by decide +kernel
theorem dX5_ofWarning_12 : decode cX5_ofWarning 12 = .ok (.iload_n 1, 1) := by decide +kernel
theorem dX5_ofWarning_13 : decode cX5_ofWarning 13 = .ok (.aaload, 1) := by decide +kernel
theorem dX5_ofWarning_14 : decode cX5_ofWarning 14 = .ok (.astore_n 3, 1) := by decide +kernel
theorem dX5_ofWarning_15 : decode cX5_ofWarning 15 = .ok (.iload_n 2, 1) := by decide +kernel
theorem dX5_ofWarning_16 : decode cX5_ofWarning 16 = .ok (.tableswitch 109 0 8 #[52, 57, 62, 67, 72, 77, 82, 87, 100], 52) := by decide +kernel
theorem dX5_ofWarning_68 : decode cX5_ofWarning 68 = .ok (.aload_n 3, 1) := by decide +kernel
theorem dX5_ofWarning_69 : decode cX5_ofWarning 69 = .ok (.getfield 237, 3) := by decide +kernel
theorem dX5_ofWarning_72 : decode cX5_ofWarning 72 = .ok (.ireturn, 1) := by decide +kernel
theorem dX5_ofWarning_73 : decode cX5_ofWarning 73 = .ok (.aload_n 3, 1) := by decide +kernel
theorem dX5_ofWarning_74 : decode cX5_ofWarning 74 = .ok (.getfield 240, 3) := by decide +kernel
theorem dX5_ofWarning_77 : decode cX5_ofWarning 77 = .ok (.ireturn, 1) := by decide +kernel
theorem dX5_ofWarning_78 : decode cX5_ofWarning 78 = .ok (.aload_n 3, 1) := by decide +kernel
theorem dX5_ofWarning_79 : decode cX5_ofWarning 79 = .ok (.getfield 142, 3) := by decide +kernel
theorem dX5_ofWarning_82 : decode cX5_ofWarning 82 = .ok (.ireturn, 1) := by decide +kernel
theorem dX5_ofWarning_83 : decode cX5_ofWarning 83 = .ok (.aload_n 3, 1) := by decide +kernel
theorem dX5_ofWarning_84 : decode cX5_ofWarning 84 = .ok (.getfield 147, 3) := by decide +kernel
theorem dX5_ofWarning_87 : decode cX5_ofWarning 87 = .ok (.ireturn, 1) := by decide +kernel
theorem dX5_ofWarning_88 : decode cX5_ofWarning 88 = .ok (.aload_n 3, 1) := by decide +kernel
theorem dX5_ofWarning_89 : decode cX5_ofWarning 89 = .ok (.getfield 150, 3) := by decide +kernel
theorem dX5_ofWarning_92 : decode cX5_ofWarning 92 = .ok (.ireturn, 1) := by decide +kernel
theorem dX5_ofWarning_93 : decode cX5_ofWarning 93 = .ok (.aload_n 3, 1) := by decide +kernel
theorem dX5_ofWarning_94 : decode cX5_ofWarning 94 = .ok (.getfield 158, 3) := by decide +kernel
theorem dX5_ofWarning_97 : decode cX5_ofWarning 97 = .ok (.ireturn, 1) := by decide +kernel
theorem dX5_ofWarning_98 : decode cX5_ofWarning 98 = .ok (.aload_n 3, 1) := by decide +kernel
theorem dX5_ofWarning_99 : decode cX5_ofWarning 99 = .ok (.getfield 153, 3) := by decide +kernel
theorem dX5_ofWarning_102 : decode cX5_ofWarning 102 = .ok (.ireturn, 1) := by decide +kernel
theorem dX5_ofWarning_103 : decode cX5_ofWarning 103 = .ok (.aload_n 3, 1) := by decide +kernel
theorem dX5_ofWarning_104 : decode cX5_ofWarning 104 = .ok (.getfield 243, 3) := by decide +kernel
theorem dX5_ofWarning_107 : decode cX5_ofWarning 107 = .ok (.ifCond .eq 7, 3) := by decide +kernel
theorem dX5_ofWarning_110 : decode cX5_ofWarning 110 = .ok (.iconst 1, 1) := by decide +kernel
theorem dX5_ofWarning_111 : decode cX5_ofWarning 111 = .ok (.goto 4, 3) := by decide +kernel
theorem dX5_ofWarning_114 : decode cX5_ofWarning 114 = .ok (.iconst 0, 1) := by decide +kernel
theorem dX5_ofWarning_115 : decode cX5_ofWarning 115 = .ok (.ireturn, 1) := by decide +kernel
theorem dX5_ofWarning_116 : decode cX5_ofWarning 116 = .ok (.aload_n 0, 1) := by decide +kernel
theorem dX5_ofWarning_117 : decode cX5_ofWarning 117 = .ok (.getfield 10, 3) := by decide +kernel
theorem dX5_ofWarning_120 : decode cX5_ofWarning 120 = .ok (.iload_n 1, 1) := by decide +kernel
theorem dX5_ofWarning_121 : decode cX5_ofWarning 121 = .ok (.invokevirtual 246, 3) := by decide +kernel
theorem dX5_ofWarning_124 : decode cX5_ofWarning 124 = .ok (.ireturn, 1) := by decide +kernel
theorem dX5_ofWarning_125 : decode cX5_ofWarning 125 = .ok (.new 215, 3) := by decide +kernel
theorem dX5_ofWarning_128 : decode cX5_ofWarning 128 = .ok (.dup, 1) := by decide +kernel
theorem dX5_ofWarning_129 : decode cX5_ofWarning 129 = .ok (.ldc 217, 2) := by decide +kernel
theorem dX5_ofWarning_131 : decode cX5_ofWarning 131 = .ok (.invokespecial 219, 3) := by decide +kernel
theorem dX5_ofWarning_134 : decode cX5_ofWarning 134 = .ok (.athrow, 1) := by decide +kernel
theorem dX5_ofGroup_0 : decode cX5_ofGroup 0 = .ok (.aload_n 0, 1) := by decide +kernel
theorem dX5_ofGroup_1 : decode cX5_ofGroup 1 = .ok (.iload_n 1, 1) := by decide +kernel
theorem dX5_ofGroup_2 : decode cX5_ofGroup 2 = .ok (.invokevirtual 60, 3) := by decide +kernel
theorem dX5_ofGroup_5 : decode cX5_ofGroup 5 = .ok (.aload_n 0, 1) := by decide +kernel
theorem dX5_ofGroup_6 : decode cX5_ofGroup 6 = .ok (.getfield 10, 3) := by decide +kernel
theorem dX5_ofGroup_9 : decode cX5_ofGroup 9 = .ok (.getfield 38, 3) := by decide +kernel
theorem dX5_ofGroup_12 : decode cX5_ofGroup 12 = .ok (.iload_n 1, 1) := by decide +kernel
theorem dX5_ofGroup_13 : decode cX5_ofGroup 13 = .ok (.aaload, 1) := by decide +kernel
theorem dX5_ofGroup_14 : decode cX5_ofGroup 14 = .ok (.astore_n 3, 1) := by decide +kernel
theorem dX5_ofGroup_15 : decode cX5_ofGroup 15 = .ok (.iload_n 2, 1) := by decide +kernel
theorem dX5_ofGroup_16 : decode cX5_ofGroup 16 = .ok (.tableswitch 121 0 8 #[52, 57, 62, 67, 72, 89, 94, 99, 112], 52) := by decide +kernel
theorem dX5_ofGroup_68 : decode cX5_ofGroup 68 = .ok (.aload_n 3, 1) := by decide +kernel
theorem dX5_ofGroup_69 : decode cX5_ofGroup 69 = .ok (.getfield 42, 3) := by decide +kernel
theorem dX5_ofGroup_72 : decode cX5_ofGroup 72 = .ok (.ireturn, 1) := by decide +kernel
theorem dX5_ofGroup_73 : decode cX5_ofGroup 73 = .ok (.aload_n 3, 1) := by decide +kernel
theorem dX5_ofGroup_74 : decode cX5_ofGroup 74 = .ok (.getfield 47, 3) := by decide +kernel
theorem dX5_ofGroup_77 : decode cX5_ofGroup 77 = .ok (.ireturn, 1) := by decide +kernel
theorem dX5_ofGroup_78 : decode cX5_ofGroup 78 = .ok (.aload_n 3, 1) := by decide +kernel
theorem dX5_ofGroup_79 : decode cX5_ofGroup 79 = .ok (.getfield 50, 3) := by decide +kernel
theorem dX5_ofGroup_82 : decode cX5_ofGroup 82 = .ok (.ireturn, 1) := by decide +kernel
theorem dX5_ofGroup_83 : decode cX5_ofGroup 83 = .ok (.aload_n 3, 1) := by decide +kernel
theorem dX5_ofGroup_84 : decode cX5_ofGroup 84 = .ok (.getfield 63, 3) := by decide +kernel
theorem dX5_ofGroup_87 : decode cX5_ofGroup 87 = .ok (.ireturn, 1) := by decide +kernel
theorem dX5_ofGroup_88 : decode cX5_ofGroup 88 = .ok (.aload_n 0, 1) := by decide +kernel
theorem dX5_ofGroup_89 : decode cX5_ofGroup 89 = .ok (.getfield 10, 3) := by decide +kernel
theorem dX5_ofGroup_92 : decode cX5_ofGroup 92 = .ok (.aload_n 3, 1) := by decide +kernel
theorem dX5_ofGroup_93 : decode cX5_ofGroup 93 = .ok (.invokevirtual 197, 3) := by decide +kernel
theorem dX5_ofGroup_96 : decode cX5_ofGroup 96 = .ok (.ifCond .eq 7, 3) := by decide +kernel
theorem dX5_ofGroup_99 : decode cX5_ofGroup 99 = .ok (.iconst 1, 1) := by decide +kernel
theorem dX5_ofGroup_100 : decode cX5_ofGroup 100 = .ok (.goto 4, 3) := by decide +kernel
theorem dX5_ofGroup_103 : decode cX5_ofGroup 103 = .ok (.iconst 0, 1) := by decide +kernel
theorem dX5_ofGroup_104 : decode cX5_ofGroup 104 = .ok (.ireturn, 1) := by decide +kernel
theorem dX5_ofGroup_105 : decode cX5_ofGroup 105 = .ok (.aload_n 3, 1) := by decide +kernel
theorem dX5_ofGroup_106 : decode cX5_ofGroup 106 = .ok (.getfield 201, 3) := by decide +kernel
theorem dX5_ofGroup_109 : decode cX5_ofGroup 109 = .ok (.ireturn, 1) := by decide +kernel
theorem dX5_ofGroup_110 : decode cX5_ofGroup 110 = .ok (.aload_n 3, 1) := by decide +kernel
theorem dX5_ofGroup_111 : decode cX5_ofGroup 111 = .ok (.getfield 204, 3) := by decide +kernel
theorem dX5_ofGroup_114 : decode cX5_ofGroup 114 = .ok (.ireturn, 1) := by decide +kernel
theorem dX5_ofGroup_115 : decode cX5_ofGroup 115 = .ok (.aload_n 3, 1) := by decide +kernel
theorem dX5_ofGroup_116 : decode cX5_ofGroup 116 = .ok (.invokevirtual 207, 3) := by decide +kernel
theorem dX5_ofGroup_119 : decode cX5_ofGroup 119 = .ok (.ifCond .eq 7, 3) := by decide +kernel
theorem dX5_ofGroup_122 : decode cX5_ofGroup 122 = .ok (.iconst 1, 1) := by decide +kernel
theorem dX5_ofGroup_123 : decode cX5_ofGroup 123 = .ok (.goto 4, 3) := by decide +kernel
theorem dX5_ofGroup_126 : decode cX5_ofGroup 126 = .ok (.iconst 0, 1) := by decide +kernel
theorem dX5_ofGroup_127 : decode cX5_ofGroup 127 = .ok (.ireturn, 1) := by decide +kernel
theorem dX5_ofGroup_128 : decode cX5_ofGroup 128 = .ok (.aload_n 0, 1) := by decide +kernel
theorem dX5_ofGroup_129 : decode cX5_ofGroup 129 = .ok (.getfield 10, 3) := by decide +kernel
theorem dX5_ofGroup_132 : decode cX5_ofGroup 132 = .ok (.aload_n 3, 1) := by decide +kernel
theorem dX5_ofGroup_133 : decode cX5_ofGroup 133 = .ok (.invokevirtual 211, 3) := by decide +kernel
theorem dX5_ofGroup_136 : decode cX5_ofGroup 136 = .ok (.ireturn, 1) := by decide +kernel
theorem dX5_ofGroup_137 : decode cX5_ofGroup 137 = .ok (.new 215, 3) := by decide +kernel
theorem dX5_ofGroup_140 : decode cX5_ofGroup 140 = .ok (.dup, 1) := by decide +kernel
theorem dX5_ofGroup_141 : decode cX5_ofGroup 141 = .ok (.ldc 217, 2) := by decide +kernel
theorem dX5_ofGroup_143 : decode cX5_ofGroup 143 = .ok (.invokespecial 219, 3) := by decide +kernel
theorem dX5_ofGroup_146 : decode cX5_ofGroup 146 = .ok (.athrow, 1) := by decide +kernel
theorem dX5_heard_0 : decode cX5_heard 0 = .ok (.aload_n 0, 1) := by decide +kernel
theorem dX5_heard_1 : decode cX5_heard 1 = .ok (.iload_n 1, 1) := by decide +kernel
theorem dX5_heard_2 : decode cX5_heard 2 = .ok (.invokevirtual 60, 3) := by decide +kernel
theorem dX5_heard_5 : decode cX5_heard 5 = .ok (.aload_n 0, 1) := by decide +kernel
theorem dX5_heard_6 : decode cX5_heard 6 = .ok (.iload_n 2, 1) := by decide +kernel
theorem dX5_heard_7 : decode cX5_heard 7 = .ok (.invokevirtual 132, 3) := by decide +kernel
theorem dX5_heard_10 : decode cX5_heard 10 = .ok (.aload_n 0, 1) := by decide +kernel
theorem dX5_heard_11 : decode cX5_heard 11 = .ok (.getfield 10, 3) := by decide +kernel
theorem dX5_heard_14 : decode cX5_heard 14 = .ok (.getfield 38, 3) := by decide +kernel
theorem dX5_heard_17 : decode cX5_heard 17 = .ok (.iload_n 1, 1) := by decide +kernel
theorem dX5_heard_18 : decode cX5_heard 18 = .ok (.aaload, 1) := by decide +kernel
theorem dX5_heard_19 : decode cX5_heard 19 = .ok (.astore 4, 2) := by decide +kernel
theorem dX5_heard_21 : decode cX5_heard 21 = .ok (.iload_n 3, 1) := by decide +kernel
theorem dX5_heard_22 : decode cX5_heard 22 = .ok (.tableswitch 74 0 4 #[34, 42, 50, 58, 66], 34) := by decide +kernel
theorem dX5_heard_56 : decode cX5_heard 56 = .ok (.aload 4, 2) := by decide +kernel
theorem dX5_heard_58 : decode cX5_heard 58 = .ok (.getfield 220, 3) := by decide +kernel
theorem dX5_heard_61 : decode cX5_heard 61 = .ok (.iload_n 2, 1) := by decide +kernel
theorem dX5_heard_62 : decode cX5_heard 62 = .ok (.iaload, 1) := by decide +kernel
theorem dX5_heard_63 : decode cX5_heard 63 = .ok (.ireturn, 1) := by decide +kernel
theorem dX5_heard_64 : decode cX5_heard 64 = .ok (.aload 4, 2) := by decide +kernel
theorem dX5_heard_66 : decode cX5_heard 66 = .ok (.getfield 223, 3) := by decide +kernel
theorem dX5_heard_69 : decode cX5_heard 69 = .ok (.iload_n 2, 1) := by decide +kernel
theorem dX5_heard_70 : decode cX5_heard 70 = .ok (.iaload, 1) := by decide +kernel
theorem dX5_heard_71 : decode cX5_heard 71 = .ok (.ireturn, 1) := by decide +kernel
theorem dX5_heard_72 : decode cX5_heard 72 = .ok (.aload 4, 2) := by decide +kernel
theorem dX5_heard_74 : decode cX5_heard 74 = .ok (.getfield 226, 3) := by decide +kernel
theorem dX5_heard_77 : decode cX5_heard 77 = .ok (.iload_n 2, 1) := by decide +kernel
theorem dX5_heard_78 : decode cX5_heard 78 = .ok (.iaload, 1) := by decide +kernel
theorem dX5_heard_79 : decode cX5_heard 79 = .ok (.ireturn, 1) := by decide +kernel
theorem dX5_heard_80 : decode cX5_heard 80 = .ok (.aload 4, 2) := by decide +kernel
theorem dX5_heard_82 : decode cX5_heard 82 = .ok (.getfield 229, 3) := by decide +kernel
theorem dX5_heard_85 : decode cX5_heard 85 = .ok (.iload_n 2, 1) := by decide +kernel
theorem dX5_heard_86 : decode cX5_heard 86 = .ok (.iaload, 1) := by decide +kernel
theorem dX5_heard_87 : decode cX5_heard 87 = .ok (.ireturn, 1) := by decide +kernel
theorem dX5_heard_88 : decode cX5_heard 88 = .ok (.aload 4, 2) := by decide +kernel
theorem dX5_heard_90 : decode cX5_heard 90 = .ok (.getfield 232, 3) := by decide +kernel
theorem dX5_heard_93 : decode cX5_heard 93 = .ok (.iload_n 2, 1) := by decide +kernel
theorem dX5_heard_94 : decode cX5_heard 94 = .ok (.iaload, 1) := by decide +kernel
theorem dX5_heard_95 : decode cX5_heard 95 = .ok (.ireturn, 1) := by decide +kernel
theorem dX5_heard_96 : decode cX5_heard 96 = .ok (.new 215, 3) := by decide +kernel
theorem dX5_heard_99 : decode cX5_heard 99 = .ok (.dup, 1) := by decide +kernel
theorem dX5_heard_100 : decode cX5_heard 100 = .ok (.ldc 235, 2) := by decide +kernel
theorem dX5_heard_102 : decode cX5_heard 102 = .ok (.invokespecial 219, 3) := by decide +kernel
theorem dX5_heard_105 : decode cX5_heard 105 = .ok (.athrow, 1) := by decide +kernel
/-! the questions of groups and warnings -/
/-- the latest warning below k in force whose area has the cell -/
def jInf (v : jN) (c : Int32) : Nat → Int32
  | 0 => -1
  | k + 1 => if v 11 k 7 = 0 then jInf v c k else if jIn (v 11 k 2) c = 0 then jInf v c k else nI k
theorem jwide {x : Int32} {n N : Nat} (h : vp_in x n) (hn : n ≤ N) (hN : N < 1000) : vp_in x N := by
  obtain ⟨j, hj, rfl⟩ := vp_in_of h (by omega)
  exact vp_in_nI (by omega) (by omega)
def sp_X5_inForce : vgC := fun av σ => match av with
  | [.inr (0, 0, 0), .inl (.int c)] => (vp_in c 16 ∧ jWf (jV σ 0), some (.inl (.int (jInf (jV σ 0) c (jWc (jV σ 0))))), σ)
  | _ => (False, none, σ)
def k_X5_inForce : List (Nat × vgF) := [(0, vi_iload 1 1), (1, vi_callS sp_X5_checkCell 1 4), (4, vi_aload 0 5), (5, vi_get ww_shp 0 0 8), (8, vi_get ww_shp 1 6 11), (11, vi_icst (1) 12), (12, vi_bin (fun x y => x - y) 13), (13, vi_istore 2 14), (14, vi_iload 2 15), (15, vi_if (fun x => x < 0) 60 18), (18, vi_aload 0 19), (19, vi_get ww_shp 0 0 22), (22, vi_get ww_shp 1 9 25), (25, vi_iload 2 26), (26, vi_aald ww_shp 4 27), (27, vi_get ww_shp 4 7 30), (30, vi_if (fun x => x = 0) 54 33), (33, vi_aload 0 34), (34, vi_get ww_shp 0 0 37), (37, vi_get ww_shp 1 9 40), (40, vi_iload 2 41), (41, vi_aald ww_shp 4 42), (42, vi_get ww_shp 4 2 45), (45, vi_iload 1 46), (46, vi_callS sp_X5_isIn 2 49), (49, vi_if (fun x => x = 0) 54 52), (52, vi_iload 2 53), (53, vi_ret), (54, vi_iinc 2 (-1) 57), (57, vi_goto 14), (60, vi_icst (-1) 61), (61, vi_ret)]
set_option maxRecDepth 20000 in
theorem s_X5_inForce : ∀ q ∈ k_X5_inForce, vg_Snd ww_tb ww_nw ww_shp ww_nm ww_cl ww_tyl cX5_inForce 3 RX5 (some .int) 1 q.1 q.2 := by
  refine vg_cons (vs_iload_n dX5_inForce_0 rfl rfl) ?_
  refine vg_cons (vs_callS c_X5_checkCell dX5_inForce_1 ww_good q_236 q_51 q_238 q_237 (by decide +kernel) (by decide) rfl) ?_
  refine vg_cons (vs_aload_n dX5_inForce_4 rfl rfl) ?_
  refine vg_cons (vs_getfield (T := TX5) dX5_inForce_5 rfl (by decide) ww_inX5 q_197 rfl) ?_
  refine vg_cons (vs_getfield (T := TX1) dX5_inForce_8 rfl (by decide) ww_inX1 q_199 rfl) ?_
  refine vg_cons (vs_iconst dX5_inForce_11 rfl rfl) ?_
  refine vg_cons (vs_isub dX5_inForce_12 rfl) ?_
  refine vg_cons (vs_istore_n dX5_inForce_13 rfl (by decide) rfl) ?_
  refine vg_cons (vs_iload_n dX5_inForce_14 rfl rfl) ?_
  refine vg_cons (vs_if_lt dX5_inForce_15 (by decide) rfl) ?_
  refine vg_cons (vs_aload_n dX5_inForce_18 rfl rfl) ?_
  refine vg_cons (vs_getfield (T := TX5) dX5_inForce_19 rfl (by decide) ww_inX5 q_197 rfl) ?_
  refine vg_cons (vs_getfield (T := TX1) dX5_inForce_22 rfl (by decide) ww_inX1 q_239 rfl) ?_
  refine vg_cons (vs_iload_n dX5_inForce_25 rfl rfl) ?_
  refine vg_cons (vs_aaload dX5_inForce_26 rfl rfl) ?_
  refine vg_cons (vs_getfield (T := TX4) dX5_inForce_27 rfl (by decide) ww_inX4 q_240 rfl) ?_
  refine vg_cons (vs_if_eq dX5_inForce_30 (by decide) rfl) ?_
  refine vg_cons (vs_aload_n dX5_inForce_33 rfl rfl) ?_
  refine vg_cons (vs_getfield (T := TX5) dX5_inForce_34 rfl (by decide) ww_inX5 q_197 rfl) ?_
  refine vg_cons (vs_getfield (T := TX1) dX5_inForce_37 rfl (by decide) ww_inX1 q_239 rfl) ?_
  refine vg_cons (vs_iload_n dX5_inForce_40 rfl rfl) ?_
  refine vg_cons (vs_aaload dX5_inForce_41 rfl rfl) ?_
  refine vg_cons (vs_getfield (T := TX4) dX5_inForce_42 rfl (by decide) ww_inX4 q_241 rfl) ?_
  refine vg_cons (vs_iload_n dX5_inForce_45 rfl rfl) ?_
  refine vg_cons (vs_callS c_X5_isIn dX5_inForce_46 ww_good q_50 q_51 q_242 q_52 (by decide +kernel) (by decide) rfl) ?_
  refine vg_cons (vs_if_eq dX5_inForce_49 (by decide) rfl) ?_
  refine vg_cons (vs_iload_n dX5_inForce_52 rfl rfl) ?_
  refine vg_cons (vs_ireturn dX5_inForce_53 rfl) ?_
  refine vg_cons (vs_iinc dX5_inForce_54 rfl rfl) ?_
  refine vg_cons (vs_goto dX5_inForce_57 (by decide)) ?_
  refine vg_cons (vs_iconst dX5_inForce_60 rfl rfl) ?_
  refine vg_cons (vs_ireturn dX5_inForce_61 rfl) ?_
  exact fun _ h => absurd h List.not_mem_nil
theorem m_X5_inForce : vg_Code k_X5_inForce := fun q h => (s_X5_inForce q h).1

theorem w_X5_inForce : vg_Wd sp_X5_inForce 3 := by
  intro av σ h
  unfold sp_X5_inForce at h
  split at h
  · exact Nat.le_of_ble_eq_true rfl
  · exact h.elim
theorem g_X5_inForce : vg_G k_X5_inForce sp_X5_inForce := by
  intro av σ h
  unfold sp_X5_inForce at h ⊢
  split at h
  next c =>
    obtain ⟨hcl, hw⟩ := h
    refine vg_run (cuts := [(14, [0, 1, 2])]) m_X5_inForce 30 ?_
    refine And.intro hcl ?_
    have hwc := hw.2.2.1
    refine vg_loopD (fun k lv σ' => k ≤ 12 ∧ σ' = σ ∧ jInf (jV σ 0) c (jWc (jV σ 0)) = jInf (jV σ 0) c k ∧ ∃ x, x = nI k - 1 ∧ lv = [(0, .inr (0, 0, 0)), (1, .inl (.int c)), (2, .inl (.int x))]) ?_ ?_ (jWc (jV σ 0)) _ _ ⟨hwc.2, rfl, rfl, _, congrArg (· - 1) hwc.1, rfl⟩
    · rintro k lv σ' ⟨hk, e, he, x, hx, rfl⟩ ih
      subst e
      rw [nI_pred] at hx
      have hi : x.toNatClampNeg = k := jcl hx (by omega)
      have hv : vp_in x 12 := jin hx (by omega) (by decide)
      have ih' : ∀ lv', (∃ x', x' = nI k - 1 ∧ lv' = [(0, .inr (0, 0, 0)), (1, .inl (.int c)), (2, .inl (.int x'))]) → jInf (jV σ' 0) c (k + 1) = jInf (jV σ' 0) c k → vg_Go _ _ 14 lv' [] σ' := fun lv' q z => ih lv' σ' ⟨by omega, rfl, he.trans z, q⟩
      refine vg_run (cuts := [(14, [0, 1, 2])]) m_X5_inForce 40 ?_
      refine And.intro (fun hc => absurd hc (by rw [hx]; exact nI_pos (by omega))) (fun hc => And.intro hv ?_)
      refine And.intro (fun hd => ?_) (fun hd => And.intro hv (And.intro trivial ?_))
      · refine ih' _ ⟨x + (-1), by rw [hx, Int32.sub_eq_add_neg], rfl⟩ ?_
        rw [hi] at hd
        exact if_pos hd
      · refine And.intro (fun hf => ?_) (fun hf => ?_)
        · refine ih' _ ⟨x + (-1), by rw [hx, Int32.sub_eq_add_neg], rfl⟩ ?_
          rw [hi] at hd hf
          exact (if_neg hd).trans (if_pos hf)
        · refine And.intro ?_ rfl
          rw [hi] at hd hf
          show some (Sum.inl (Value.int x)) = some (Sum.inl (Value.int (jInf (jV σ' 0) c (jWc (jV σ' 0)))))
          rw [he, hx]
          exact congrArg (fun z => some (Sum.inl (Value.int z))) ((if_neg hd).trans (if_neg hf)).symm
    · rintro lv σ' ⟨hk, e, he, x, hx, rfl⟩
      subst e
      refine vg_run (cuts := [(14, [0, 1, 2])]) m_X5_inForce 20 ?_
      refine And.intro (fun hc => ?_) (fun hc => absurd (by rw [hx]; decide) hc)
      refine And.intro ?_ rfl
      show some (Sum.inl (Value.int (-1))) = some (Sum.inl (Value.int (jInf (jV σ' 0) c (jWc (jV σ' 0)))))
      rw [he]
      rfl
  next => exact h.elim
theorem c_X5_inForce : vg_MetF ww_tb ww_nw ww_shp ww_nm ww_cl ww_tyl yX5_inForce cX5_inForce 3 (some .int) 1 sp_X5_inForce := vg_met ww_closed (by decide +kernel) rfl s_X5_inForce w_X5_inForce g_X5_inForce
theorem jno9 {x : Int32} (h : vp_in x 9) (n0 : ¬ x = 0) (n1 : ¬ x = 1) (n2 : ¬ x = 2) (n3 : ¬ x = 3) (n4 : ¬ x = 4) (n5 : ¬ x = 5) (n6 : ¬ x = 6) (n7 : ¬ x = 7) (n8 : ¬ x = 8) : False := by
  obtain ⟨k, hk, rfl⟩ := vp_in_of h (by decide)
  match k, hk with
  | 0, _ => exact n0 rfl
  | 1, _ => exact n1 rfl
  | 2, _ => exact n2 rfl
  | 3, _ => exact n3 rfl
  | 4, _ => exact n4 rfl
  | 5, _ => exact n5 rfl
  | 6, _ => exact n6 rfl
  | 7, _ => exact n7 rfl
  | 8, _ => exact n8 rfl
theorem jno5 {x : Int32} (h : vp_in x 5) (n0 : ¬ x = 0) (n1 : ¬ x = 1) (n2 : ¬ x = 2) (n3 : ¬ x = 3) (n4 : ¬ x = 4) : False := by
  obtain ⟨k, hk, rfl⟩ := vp_in_of h (by decide)
  match k, hk with
  | 0, _ => exact n0 rfl
  | 1, _ => exact n1 rfl
  | 2, _ => exact n2 rfl
  | 3, _ => exact n3 rfl
  | 4, _ => exact n4 rfl
def jOfW (v : jN) (w : Nat) (x : Int32) : Int32 :=
  if x = 0 then v 11 w 0 else
  if x = 1 then v 11 w 1 else
  if x = 2 then v 11 w 2 else
  if x = 3 then v 11 w 3 else
  if x = 4 then v 11 w 4 else
  if x = 5 then v 11 w 5 else
  if x = 6 then v 11 w 6 else
  if x = 7 then jb (¬ v 11 w 7 = 0) else
  if x = 8 then jSum (fun g => jb (¬ v 18 g w = -1)) (jGc v) else 0
def sp_X5_ofWarning : vgC := fun av σ => match av with
  | [.inr (0, 0, 0), .inl (.int c), .inl (.int x)] => (jWf (jV σ 0) ∧ vp_in c (jWc (jV σ 0)) ∧ vp_in x 9, some (.inl (.int (jOfW (jV σ 0) c.toNatClampNeg x))), σ)
  | _ => (False, none, σ)
def k_X5_ofWarning : List (Nat × vgF) := [(0, vi_aload 0 1), (1, vi_iload 1 2), (2, vi_callV ww_shp 0 sp_X5_checkWarning 1 5), (5, vi_aload 0 6), (6, vi_get ww_shp 0 0 9), (9, vi_get ww_shp 1 9 12), (12, vi_iload 1 13), (13, vi_aald ww_shp 4 14), (14, vi_astore 3 15), (15, vi_iload 2 16), (16, vi_sw [(0, 68), (1, 73), (2, 78), (3, 83), (4, 88), (5, 93), (6, 98), (7, 103), (8, 116)] 125), (68, vi_aload 3 69), (69, vi_get ww_shp 4 0 72), (72, vi_ret), (73, vi_aload 3 74), (74, vi_get ww_shp 4 1 77), (77, vi_ret), (78, vi_aload 3 79), (79, vi_get ww_shp 4 2 82), (82, vi_ret), (83, vi_aload 3 84), (84, vi_get ww_shp 4 3 87), (87, vi_ret), (88, vi_aload 3 89), (89, vi_get ww_shp 4 4 92), (92, vi_ret), (93, vi_aload 3 94), (94, vi_get ww_shp 4 5 97), (97, vi_ret), (98, vi_aload 3 99), (99, vi_get ww_shp 4 6 102), (102, vi_ret), (103, vi_aload 3 104), (104, vi_get ww_shp 4 7 107), (107, vi_if (fun x => x = 0) 114 110), (110, vi_icst (1) 111), (111, vi_goto 115), (114, vi_icst (0) 115), (115, vi_ret), (116, vi_aload 0 117), (117, vi_get ww_shp 0 0 120), (120, vi_iload 1 121), (121, vi_callV ww_shp 1 sp_X1_countBelievers 1 124), (124, vi_ret), (125, vi_no)]
set_option maxRecDepth 20000 in
theorem s_X5_ofWarning : ∀ q ∈ k_X5_ofWarning, vg_Snd ww_tb ww_nw ww_shp ww_nm ww_cl ww_tyl cX5_ofWarning 4 RX5 (some .int) 1 q.1 q.2 := by
  refine vg_cons (vs_aload_n dX5_ofWarning_0 rfl rfl) ?_
  refine vg_cons (vs_iload_n dX5_ofWarning_1 rfl rfl) ?_
  refine vg_cons (vs_callV (T := TX5) c_X5_checkWarning dX5_ofWarning_2 rfl ww_good q_243 q_51 q_244 q_245 q_246 (by decide +kernel) (by decide) rfl) ?_
  refine vg_cons (vs_aload_n dX5_ofWarning_5 rfl rfl) ?_
  refine vg_cons (vs_getfield (T := TX5) dX5_ofWarning_6 rfl (by decide) ww_inX5 q_197 rfl) ?_
  refine vg_cons (vs_getfield (T := TX1) dX5_ofWarning_9 rfl (by decide) ww_inX1 q_239 rfl) ?_
  refine vg_cons (vs_iload_n dX5_ofWarning_12 rfl rfl) ?_
  refine vg_cons (vs_aaload dX5_ofWarning_13 rfl rfl) ?_
  refine vg_cons (vs_astore_n dX5_ofWarning_14 rfl (by decide) rfl) ?_
  refine vg_cons (vs_iload_n dX5_ofWarning_15 rfl rfl) ?_
  refine vg_cons (vs_tsw dX5_ofWarning_16 (by decide) (by decide) (by intro i hi; match i, hi with | 0, _ => exact ⟨(0, 68), 52, rfl, rfl, by decide, by decide⟩ | 1, _ => exact ⟨(1, 73), 57, rfl, rfl, by decide, by decide⟩ | 2, _ => exact ⟨(2, 78), 62, rfl, rfl, by decide, by decide⟩ | 3, _ => exact ⟨(3, 83), 67, rfl, rfl, by decide, by decide⟩ | 4, _ => exact ⟨(4, 88), 72, rfl, rfl, by decide, by decide⟩ | 5, _ => exact ⟨(5, 93), 77, rfl, rfl, by decide, by decide⟩ | 6, _ => exact ⟨(6, 98), 82, rfl, rfl, by decide, by decide⟩ | 7, _ => exact ⟨(7, 103), 87, rfl, rfl, by decide, by decide⟩ | 8, _ => exact ⟨(8, 116), 100, rfl, rfl, by decide, by decide⟩)) ?_
  refine vg_cons (vs_aload_n dX5_ofWarning_68 rfl rfl) ?_
  refine vg_cons (vs_getfield (T := TX4) dX5_ofWarning_69 rfl (by decide) ww_inX4 q_247 rfl) ?_
  refine vg_cons (vs_ireturn dX5_ofWarning_72 rfl) ?_
  refine vg_cons (vs_aload_n dX5_ofWarning_73 rfl rfl) ?_
  refine vg_cons (vs_getfield (T := TX4) dX5_ofWarning_74 rfl (by decide) ww_inX4 q_248 rfl) ?_
  refine vg_cons (vs_ireturn dX5_ofWarning_77 rfl) ?_
  refine vg_cons (vs_aload_n dX5_ofWarning_78 rfl rfl) ?_
  refine vg_cons (vs_getfield (T := TX4) dX5_ofWarning_79 rfl (by decide) ww_inX4 q_241 rfl) ?_
  refine vg_cons (vs_ireturn dX5_ofWarning_82 rfl) ?_
  refine vg_cons (vs_aload_n dX5_ofWarning_83 rfl rfl) ?_
  refine vg_cons (vs_getfield (T := TX4) dX5_ofWarning_84 rfl (by decide) ww_inX4 q_249 rfl) ?_
  refine vg_cons (vs_ireturn dX5_ofWarning_87 rfl) ?_
  refine vg_cons (vs_aload_n dX5_ofWarning_88 rfl rfl) ?_
  refine vg_cons (vs_getfield (T := TX4) dX5_ofWarning_89 rfl (by decide) ww_inX4 q_250 rfl) ?_
  refine vg_cons (vs_ireturn dX5_ofWarning_92 rfl) ?_
  refine vg_cons (vs_aload_n dX5_ofWarning_93 rfl rfl) ?_
  refine vg_cons (vs_getfield (T := TX4) dX5_ofWarning_94 rfl (by decide) ww_inX4 q_251 rfl) ?_
  refine vg_cons (vs_ireturn dX5_ofWarning_97 rfl) ?_
  refine vg_cons (vs_aload_n dX5_ofWarning_98 rfl rfl) ?_
  refine vg_cons (vs_getfield (T := TX4) dX5_ofWarning_99 rfl (by decide) ww_inX4 q_252 rfl) ?_
  refine vg_cons (vs_ireturn dX5_ofWarning_102 rfl) ?_
  refine vg_cons (vs_aload_n dX5_ofWarning_103 rfl rfl) ?_
  refine vg_cons (vs_getfield (T := TX4) dX5_ofWarning_104 rfl (by decide) ww_inX4 q_240 rfl) ?_
  refine vg_cons (vs_if_eq dX5_ofWarning_107 (by decide) rfl) ?_
  refine vg_cons (vs_iconst dX5_ofWarning_110 rfl rfl) ?_
  refine vg_cons (vs_goto dX5_ofWarning_111 (by decide)) ?_
  refine vg_cons (vs_iconst dX5_ofWarning_114 rfl rfl) ?_
  refine vg_cons (vs_ireturn dX5_ofWarning_115 rfl) ?_
  refine vg_cons (vs_aload_n dX5_ofWarning_116 rfl rfl) ?_
  refine vg_cons (vs_getfield (T := TX5) dX5_ofWarning_117 rfl (by decide) ww_inX5 q_197 rfl) ?_
  refine vg_cons (vs_iload_n dX5_ofWarning_120 rfl rfl) ?_
  refine vg_cons (vs_callV (T := TX1) c_X1_countBelievers dX5_ofWarning_121 rfl ww_good q_253 q_12 q_254 q_255 q_256 (by decide +kernel) (by decide) rfl) ?_
  refine vg_cons (vs_ireturn dX5_ofWarning_124 rfl) ?_
  refine vg_cons (vs_no) ?_
  exact fun _ h => absurd h List.not_mem_nil
theorem m_X5_ofWarning : vg_Code k_X5_ofWarning := fun q h => (s_X5_ofWarning q h).1

theorem w_X5_ofWarning : vg_Wd sp_X5_ofWarning 4 := by
  intro av σ h
  unfold sp_X5_ofWarning at h
  split at h
  · exact Nat.le_of_ble_eq_true rfl
  · exact h.elim
theorem g_X5_ofWarning : vg_G k_X5_ofWarning sp_X5_ofWarning := by
  intro av σ h
  unfold sp_X5_ofWarning at h ⊢
  split at h
  next c x =>
    obtain ⟨hw, hc, hx⟩ := h
    have hb := hw.2.2.1.2
    have h12 : vp_in c 12 := jwide hc hb (by decide)
    refine vg_run (cuts := []) m_X5_ofWarning 40 ?_
    refine And.intro ⟨hw, hc⟩ (And.intro h12 ?_)
    exact And.intro (fun (h : x = 0) => And.intro (show (some (Sum.inl (Value.int ((jV σ 0) 11 c.toNatClampNeg 0))) : Option vgV) = some (Sum.inl (Value.int (jOfW (jV σ 0) c.toNatClampNeg x))) from by rw [h]; rfl) rfl) (fun (n0 : ¬ x = 0) => And.intro (fun (h : x = 1) => And.intro (show (some (Sum.inl (Value.int ((jV σ 0) 11 c.toNatClampNeg 1))) : Option vgV) = some (Sum.inl (Value.int (jOfW (jV σ 0) c.toNatClampNeg x))) from by rw [h]; rfl) rfl) (fun (n1 : ¬ x = 1) => And.intro (fun (h : x = 2) => And.intro (show (some (Sum.inl (Value.int ((jV σ 0) 11 c.toNatClampNeg 2))) : Option vgV) = some (Sum.inl (Value.int (jOfW (jV σ 0) c.toNatClampNeg x))) from by rw [h]; rfl) rfl) (fun (n2 : ¬ x = 2) => And.intro (fun (h : x = 3) => And.intro (show (some (Sum.inl (Value.int ((jV σ 0) 11 c.toNatClampNeg 3))) : Option vgV) = some (Sum.inl (Value.int (jOfW (jV σ 0) c.toNatClampNeg x))) from by rw [h]; rfl) rfl) (fun (n3 : ¬ x = 3) => And.intro (fun (h : x = 4) => And.intro (show (some (Sum.inl (Value.int ((jV σ 0) 11 c.toNatClampNeg 4))) : Option vgV) = some (Sum.inl (Value.int (jOfW (jV σ 0) c.toNatClampNeg x))) from by rw [h]; rfl) rfl) (fun (n4 : ¬ x = 4) => And.intro (fun (h : x = 5) => And.intro (show (some (Sum.inl (Value.int ((jV σ 0) 11 c.toNatClampNeg 5))) : Option vgV) = some (Sum.inl (Value.int (jOfW (jV σ 0) c.toNatClampNeg x))) from by rw [h]; rfl) rfl) (fun (n5 : ¬ x = 5) => And.intro (fun (h : x = 6) => And.intro (show (some (Sum.inl (Value.int ((jV σ 0) 11 c.toNatClampNeg 6))) : Option vgV) = some (Sum.inl (Value.int (jOfW (jV σ 0) c.toNatClampNeg x))) from by rw [h]; rfl) rfl) (fun (n6 : ¬ x = 6) => And.intro (fun (h : x = 7) => And.intro (fun (hz : (jV σ 0) 11 c.toNatClampNeg 7 = 0) => And.intro (show (some (Sum.inl (Value.int (0))) : Option vgV) = some (Sum.inl (Value.int (jOfW (jV σ 0) c.toNatClampNeg x))) from by rw [h, show jOfW (jV σ 0) c.toNatClampNeg 7 = jb (¬ (jV σ 0) 11 c.toNatClampNeg 7 = 0) from rfl, jb_f (fun z => z hz)]) rfl) (fun (hz : ¬ (jV σ 0) 11 c.toNatClampNeg 7 = 0) => And.intro (show (some (Sum.inl (Value.int (1))) : Option vgV) = some (Sum.inl (Value.int (jOfW (jV σ 0) c.toNatClampNeg x))) from by rw [h, show jOfW (jV σ 0) c.toNatClampNeg 7 = jb (¬ (jV σ 0) 11 c.toNatClampNeg 7 = 0) from rfl, jb_t hz]) rfl)) (fun (n7 : ¬ x = 7) => And.intro (fun (h : x = 8) => And.intro ⟨hw, h12⟩ (And.intro (show (some (Sum.inl (Value.int (jSum (fun g => jb (¬ (jV σ 0) 18 g c.toNatClampNeg = -1)) (jGc (jV σ 0))))) : Option vgV) = some (Sum.inl (Value.int (jOfW (jV σ 0) c.toNatClampNeg x))) from by rw [h]; rfl) rfl)) (fun (n8 : ¬ x = 8) => (jno9 hx n0 n1 n2 n3 n4 n5 n6 n7 n8).elim)))))))))
  next => exact h.elim
theorem c_X5_ofWarning : vg_MetF ww_tb ww_nw ww_shp ww_nm ww_cl ww_tyl yX5_ofWarning cX5_ofWarning 4 (some .int) 1 sp_X5_ofWarning := vg_met ww_closed (by decide +kernel) rfl s_X5_ofWarning w_X5_ofWarning g_X5_ofWarning
def jOfG (v : jN) (g : Nat) (x : Int32) : Int32 :=
  if x = 0 then v 9 g 0 else
  if x = 1 then v 9 g 1 else
  if x = 2 then v 9 g 2 else
  if x = 3 then v 9 g 3 else
  if x = 4 then jb (jSleep v g) else
  if x = 5 then v 9 g 6 else
  if x = 6 then v 9 g 7 else
  if x = 7 then jb (jGone v g) else
  if x = 8 then jLt v g else 0
def sp_X5_ofGroup : vgC := fun av σ => match av with
  | [.inr (0, 0, 0), .inl (.int c), .inl (.int x)] => (jWf (jV σ 0) ∧ vp_in c (jGc (jV σ 0)) ∧ vp_in x 9, some (.inl (.int (jOfG (jV σ 0) c.toNatClampNeg x))), σ)
  | _ => (False, none, σ)
def k_X5_ofGroup : List (Nat × vgF) := [(0, vi_aload 0 1), (1, vi_iload 1 2), (2, vi_callV ww_shp 0 sp_X5_checkGroup 1 5), (5, vi_aload 0 6), (6, vi_get ww_shp 0 0 9), (9, vi_get ww_shp 1 7 12), (12, vi_iload 1 13), (13, vi_aald ww_shp 2 14), (14, vi_astore 3 15), (15, vi_iload 2 16), (16, vi_sw [(0, 68), (1, 73), (2, 78), (3, 83), (4, 88), (5, 105), (6, 110), (7, 115), (8, 128)] 137), (68, vi_aload 3 69), (69, vi_get ww_shp 5 0 72), (72, vi_ret), (73, vi_aload 3 74), (74, vi_get ww_shp 5 1 77), (77, vi_ret), (78, vi_aload 3 79), (79, vi_get ww_shp 5 2 82), (82, vi_ret), (83, vi_aload 3 84), (84, vi_get ww_shp 5 3 87), (87, vi_ret), (88, vi_aload 0 89), (89, vi_get ww_shp 0 0 92), (92, vi_aload 3 93), (93, vi_callV ww_shp 1 sp_X1_isAsleep 1 96), (96, vi_if (fun x => x = 0) 103 99), (99, vi_icst (1) 100), (100, vi_goto 104), (103, vi_icst (0) 104), (104, vi_ret), (105, vi_aload 3 106), (106, vi_get ww_shp 5 6 109), (109, vi_ret), (110, vi_aload 3 111), (111, vi_get ww_shp 5 7 114), (114, vi_ret), (115, vi_aload 3 116), (116, vi_callV ww_shp 5 sp_X0_isGone 0 119), (119, vi_if (fun x => x = 0) 126 122), (122, vi_icst (1) 123), (123, vi_goto 127), (126, vi_icst (0) 127), (127, vi_ret), (128, vi_aload 0 129), (129, vi_get ww_shp 0 0 132), (132, vi_aload 3 133), (133, vi_callV ww_shp 1 sp_X1_latestBelieved 1 136), (136, vi_ret), (137, vi_no)]
set_option maxRecDepth 20000 in
theorem s_X5_ofGroup : ∀ q ∈ k_X5_ofGroup, vg_Snd ww_tb ww_nw ww_shp ww_nm ww_cl ww_tyl cX5_ofGroup 4 RX5 (some .int) 3 q.1 q.2 := by
  refine vg_cons (vs_aload_n dX5_ofGroup_0 rfl rfl) ?_
  refine vg_cons (vs_iload_n dX5_ofGroup_1 rfl rfl) ?_
  refine vg_cons (vs_callV (T := TX5) c_X5_checkGroup dX5_ofGroup_2 rfl ww_good q_257 q_51 q_258 q_259 q_260 (by decide +kernel) (by decide) rfl) ?_
  refine vg_cons (vs_aload_n dX5_ofGroup_5 rfl rfl) ?_
  refine vg_cons (vs_getfield (T := TX5) dX5_ofGroup_6 rfl (by decide) ww_inX5 q_197 rfl) ?_
  refine vg_cons (vs_getfield (T := TX1) dX5_ofGroup_9 rfl (by decide) ww_inX1 q_261 rfl) ?_
  refine vg_cons (vs_iload_n dX5_ofGroup_12 rfl rfl) ?_
  refine vg_cons (vs_aaload dX5_ofGroup_13 rfl rfl) ?_
  refine vg_cons (vs_astore_n dX5_ofGroup_14 rfl (by decide) rfl) ?_
  refine vg_cons (vs_iload_n dX5_ofGroup_15 rfl rfl) ?_
  refine vg_cons (vs_tsw dX5_ofGroup_16 (by decide) (by decide) (by intro i hi; match i, hi with | 0, _ => exact ⟨(0, 68), 52, rfl, rfl, by decide, by decide⟩ | 1, _ => exact ⟨(1, 73), 57, rfl, rfl, by decide, by decide⟩ | 2, _ => exact ⟨(2, 78), 62, rfl, rfl, by decide, by decide⟩ | 3, _ => exact ⟨(3, 83), 67, rfl, rfl, by decide, by decide⟩ | 4, _ => exact ⟨(4, 88), 72, rfl, rfl, by decide, by decide⟩ | 5, _ => exact ⟨(5, 105), 89, rfl, rfl, by decide, by decide⟩ | 6, _ => exact ⟨(6, 110), 94, rfl, rfl, by decide, by decide⟩ | 7, _ => exact ⟨(7, 115), 99, rfl, rfl, by decide, by decide⟩ | 8, _ => exact ⟨(8, 128), 112, rfl, rfl, by decide, by decide⟩)) ?_
  refine vg_cons (vs_aload_n dX5_ofGroup_68 rfl rfl) ?_
  refine vg_cons (vs_getfield (T := TX0) dX5_ofGroup_69 rfl (by decide) ww_inX0 q_262 rfl) ?_
  refine vg_cons (vs_ireturn dX5_ofGroup_72 rfl) ?_
  refine vg_cons (vs_aload_n dX5_ofGroup_73 rfl rfl) ?_
  refine vg_cons (vs_getfield (T := TX0) dX5_ofGroup_74 rfl (by decide) ww_inX0 q_263 rfl) ?_
  refine vg_cons (vs_ireturn dX5_ofGroup_77 rfl) ?_
  refine vg_cons (vs_aload_n dX5_ofGroup_78 rfl rfl) ?_
  refine vg_cons (vs_getfield (T := TX0) dX5_ofGroup_79 rfl (by decide) ww_inX0 q_264 rfl) ?_
  refine vg_cons (vs_ireturn dX5_ofGroup_82 rfl) ?_
  refine vg_cons (vs_aload_n dX5_ofGroup_83 rfl rfl) ?_
  refine vg_cons (vs_getfield (T := TX0) dX5_ofGroup_84 rfl (by decide) ww_inX0 q_265 rfl) ?_
  refine vg_cons (vs_ireturn dX5_ofGroup_87 rfl) ?_
  refine vg_cons (vs_aload_n dX5_ofGroup_88 rfl rfl) ?_
  refine vg_cons (vs_getfield (T := TX5) dX5_ofGroup_89 rfl (by decide) ww_inX5 q_197 rfl) ?_
  refine vg_cons (vs_aload_n dX5_ofGroup_92 rfl rfl) ?_
  refine vg_cons (vs_callV (T := TX1) c_X1_isAsleep dX5_ofGroup_93 rfl ww_good q_40 q_12 q_266 q_42 q_43 (by decide +kernel) (by decide) rfl) ?_
  refine vg_cons (vs_if_eq dX5_ofGroup_96 (by decide) rfl) ?_
  refine vg_cons (vs_iconst dX5_ofGroup_99 rfl rfl) ?_
  refine vg_cons (vs_goto dX5_ofGroup_100 (by decide)) ?_
  refine vg_cons (vs_iconst dX5_ofGroup_103 rfl rfl) ?_
  refine vg_cons (vs_ireturn dX5_ofGroup_104 rfl) ?_
  refine vg_cons (vs_aload_n dX5_ofGroup_105 rfl rfl) ?_
  refine vg_cons (vs_getfield (T := TX0) dX5_ofGroup_106 rfl (by decide) ww_inX0 q_267 rfl) ?_
  refine vg_cons (vs_ireturn dX5_ofGroup_109 rfl) ?_
  refine vg_cons (vs_aload_n dX5_ofGroup_110 rfl rfl) ?_
  refine vg_cons (vs_getfield (T := TX0) dX5_ofGroup_111 rfl (by decide) ww_inX0 q_268 rfl) ?_
  refine vg_cons (vs_ireturn dX5_ofGroup_114 rfl) ?_
  refine vg_cons (vs_aload_n dX5_ofGroup_115 rfl rfl) ?_
  refine vg_cons (vs_callV (T := TX0) c_X0_isGone dX5_ofGroup_116 rfl ww_good q_20 q_21 q_269 q_23 q_24 (by decide +kernel) (by decide) rfl) ?_
  refine vg_cons (vs_if_eq dX5_ofGroup_119 (by decide) rfl) ?_
  refine vg_cons (vs_iconst dX5_ofGroup_122 rfl rfl) ?_
  refine vg_cons (vs_goto dX5_ofGroup_123 (by decide)) ?_
  refine vg_cons (vs_iconst dX5_ofGroup_126 rfl rfl) ?_
  refine vg_cons (vs_ireturn dX5_ofGroup_127 rfl) ?_
  refine vg_cons (vs_aload_n dX5_ofGroup_128 rfl rfl) ?_
  refine vg_cons (vs_getfield (T := TX5) dX5_ofGroup_129 rfl (by decide) ww_inX5 q_197 rfl) ?_
  refine vg_cons (vs_aload_n dX5_ofGroup_132 rfl rfl) ?_
  refine vg_cons (vs_callV (T := TX1) c_X1_latestBelieved dX5_ofGroup_133 rfl ww_good q_29 q_12 q_270 q_31 q_32 (by decide +kernel) (by decide) rfl) ?_
  refine vg_cons (vs_ireturn dX5_ofGroup_136 rfl) ?_
  refine vg_cons (vs_no) ?_
  exact fun _ h => absurd h List.not_mem_nil
theorem m_X5_ofGroup : vg_Code k_X5_ofGroup := fun q h => (s_X5_ofGroup q h).1

theorem w_X5_ofGroup : vg_Wd sp_X5_ofGroup 4 := by
  intro av σ h
  unfold sp_X5_ofGroup at h
  split at h
  · exact Nat.le_of_ble_eq_true rfl
  · exact h.elim
theorem g_X5_ofGroup : vg_G k_X5_ofGroup sp_X5_ofGroup := by
  intro av σ h
  unfold sp_X5_ofGroup at h ⊢
  split at h
  next c x =>
    obtain ⟨hw, hc, hx⟩ := h
    have hb := hw.1.2
    have h8 : vp_in c 8 := jwide hc hb (by decide)
    refine vg_run (cuts := []) m_X5_ofGroup 40 ?_
    refine And.intro ⟨hw, hc⟩ (And.intro h8 ?_)
    exact And.intro (fun (h : x = 0) => And.intro (show (some (Sum.inl (Value.int ((jV σ 0) 9 c.toNatClampNeg 0))) : Option vgV) = some (Sum.inl (Value.int (jOfG (jV σ 0) c.toNatClampNeg x))) from by rw [h]; rfl) rfl) (fun (n0 : ¬ x = 0) => And.intro (fun (h : x = 1) => And.intro (show (some (Sum.inl (Value.int ((jV σ 0) 9 c.toNatClampNeg 1))) : Option vgV) = some (Sum.inl (Value.int (jOfG (jV σ 0) c.toNatClampNeg x))) from by rw [h]; rfl) rfl) (fun (n1 : ¬ x = 1) => And.intro (fun (h : x = 2) => And.intro (show (some (Sum.inl (Value.int ((jV σ 0) 9 c.toNatClampNeg 2))) : Option vgV) = some (Sum.inl (Value.int (jOfG (jV σ 0) c.toNatClampNeg x))) from by rw [h]; rfl) rfl) (fun (n2 : ¬ x = 2) => And.intro (fun (h : x = 3) => And.intro (show (some (Sum.inl (Value.int ((jV σ 0) 9 c.toNatClampNeg 3))) : Option vgV) = some (Sum.inl (Value.int (jOfG (jV σ 0) c.toNatClampNeg x))) from by rw [h]; rfl) rfl) (fun (n3 : ¬ x = 3) => And.intro (fun (h : x = 4) => And.intro ⟨hw, rfl⟩ (And.intro (fun (hz : jb (jSleep (jV σ 0) c.toNatClampNeg) = 0) => And.intro (show (some (Sum.inl (Value.int (0))) : Option vgV) = some (Sum.inl (Value.int (jOfG (jV σ 0) c.toNatClampNeg x))) from by rw [h]; exact congrArg (fun z => some (Sum.inl (Value.int z))) hz.symm) rfl) (fun (hz : ¬ jb (jSleep (jV σ 0) c.toNatClampNeg) = 0) => And.intro (show (some (Sum.inl (Value.int (1))) : Option vgV) = some (Sum.inl (Value.int (jOfG (jV σ 0) c.toNatClampNeg x))) from by rw [h]; exact congrArg (fun z => some (Sum.inl (Value.int z))) ((jb_01 _).resolve_left hz).symm) rfl))) (fun (n4 : ¬ x = 4) => And.intro (fun (h : x = 5) => And.intro (show (some (Sum.inl (Value.int ((jV σ 0) 9 c.toNatClampNeg 6))) : Option vgV) = some (Sum.inl (Value.int (jOfG (jV σ 0) c.toNatClampNeg x))) from by rw [h]; rfl) rfl) (fun (n5 : ¬ x = 5) => And.intro (fun (h : x = 6) => And.intro (show (some (Sum.inl (Value.int ((jV σ 0) 9 c.toNatClampNeg 7))) : Option vgV) = some (Sum.inl (Value.int (jOfG (jV σ 0) c.toNatClampNeg x))) from by rw [h]; rfl) rfl) (fun (n6 : ¬ x = 6) => And.intro (fun (h : x = 7) => And.intro trivial (And.intro (fun (hz : jb (jGone (jV σ 0) c.toNatClampNeg) = 0) => And.intro (show (some (Sum.inl (Value.int (0))) : Option vgV) = some (Sum.inl (Value.int (jOfG (jV σ 0) c.toNatClampNeg x))) from by rw [h]; exact congrArg (fun z => some (Sum.inl (Value.int z))) hz.symm) rfl) (fun (hz : ¬ jb (jGone (jV σ 0) c.toNatClampNeg) = 0) => And.intro (show (some (Sum.inl (Value.int (1))) : Option vgV) = some (Sum.inl (Value.int (jOfG (jV σ 0) c.toNatClampNeg x))) from by rw [h]; exact congrArg (fun z => some (Sum.inl (Value.int z))) ((jb_01 _).resolve_left hz).symm) rfl))) (fun (n7 : ¬ x = 7) => And.intro (fun (h : x = 8) => And.intro ⟨hw, rfl⟩ (And.intro (show (some (Sum.inl (Value.int (jLt (jV σ 0) c.toNatClampNeg))) : Option vgV) = some (Sum.inl (Value.int (jOfG (jV σ 0) c.toNatClampNeg x))) from by rw [h]; rfl) rfl)) (fun (n8 : ¬ x = 8) => (jno9 hx n0 n1 n2 n3 n4 n5 n6 n7 n8).elim)))))))))
  next => exact h.elim
theorem c_X5_ofGroup : vg_MetF ww_tb ww_nw ww_shp ww_nm ww_cl ww_tyl yX5_ofGroup cX5_ofGroup 4 (some .int) 3 sp_X5_ofGroup := vg_met ww_closed (by decide +kernel) rfl s_X5_ofGroup w_X5_ofGroup g_X5_ofGroup
def jHeard (v : jN) (g w : Nat) (x : Int32) : Int32 :=
  if x = 0 then v 15 g w else
  if x = 1 then v 16 g w else
  if x = 2 then v 17 g w else
  if x = 3 then v 14 g w else
  if x = 4 then v 18 g w else 0
def sp_X5_heard : vgC := fun av σ => match av with
  | [.inr (0, 0, 0), .inl (.int c), .inl (.int d), .inl (.int x)] => (jWf (jV σ 0) ∧ vp_in c (jGc (jV σ 0)) ∧ vp_in d (jWc (jV σ 0)) ∧ vp_in x 5, some (.inl (.int (jHeard (jV σ 0) c.toNatClampNeg d.toNatClampNeg x))), σ)
  | _ => (False, none, σ)
def k_X5_heard : List (Nat × vgF) := [(0, vi_aload 0 1), (1, vi_iload 1 2), (2, vi_callV ww_shp 0 sp_X5_checkGroup 1 5), (5, vi_aload 0 6), (6, vi_iload 2 7), (7, vi_callV ww_shp 0 sp_X5_checkWarning 1 10), (10, vi_aload 0 11), (11, vi_get ww_shp 0 0 14), (14, vi_get ww_shp 1 7 17), (17, vi_iload 1 18), (18, vi_aald ww_shp 2 19), (19, vi_astore 4 21), (21, vi_iload 3 22), (22, vi_sw [(0, 56), (1, 64), (2, 72), (3, 80), (4, 88)] 96), (56, vi_aload 4 58), (58, vi_get ww_shp 5 9 61), (61, vi_iload 2 62), (62, vi_ald ww_shp 0 63), (63, vi_ret), (64, vi_aload 4 66), (66, vi_get ww_shp 5 10 69), (69, vi_iload 2 70), (70, vi_ald ww_shp 0 71), (71, vi_ret), (72, vi_aload 4 74), (74, vi_get ww_shp 5 11 77), (77, vi_iload 2 78), (78, vi_ald ww_shp 0 79), (79, vi_ret), (80, vi_aload 4 82), (82, vi_get ww_shp 5 8 85), (85, vi_iload 2 86), (86, vi_ald ww_shp 0 87), (87, vi_ret), (88, vi_aload 4 90), (90, vi_get ww_shp 5 12 93), (93, vi_iload 2 94), (94, vi_ald ww_shp 0 95), (95, vi_ret), (96, vi_no)]
set_option maxRecDepth 20000 in
theorem s_X5_heard : ∀ q ∈ k_X5_heard, vg_Snd ww_tb ww_nw ww_shp ww_nm ww_cl ww_tyl cX5_heard 5 RX5 (some .int) 1 q.1 q.2 := by
  refine vg_cons (vs_aload_n dX5_heard_0 rfl rfl) ?_
  refine vg_cons (vs_iload_n dX5_heard_1 rfl rfl) ?_
  refine vg_cons (vs_callV (T := TX5) c_X5_checkGroup dX5_heard_2 rfl ww_good q_257 q_51 q_258 q_259 q_260 (by decide +kernel) (by decide) rfl) ?_
  refine vg_cons (vs_aload_n dX5_heard_5 rfl rfl) ?_
  refine vg_cons (vs_iload_n dX5_heard_6 rfl rfl) ?_
  refine vg_cons (vs_callV (T := TX5) c_X5_checkWarning dX5_heard_7 rfl ww_good q_243 q_51 q_244 q_245 q_246 (by decide +kernel) (by decide) rfl) ?_
  refine vg_cons (vs_aload_n dX5_heard_10 rfl rfl) ?_
  refine vg_cons (vs_getfield (T := TX5) dX5_heard_11 rfl (by decide) ww_inX5 q_197 rfl) ?_
  refine vg_cons (vs_getfield (T := TX1) dX5_heard_14 rfl (by decide) ww_inX1 q_261 rfl) ?_
  refine vg_cons (vs_iload_n dX5_heard_17 rfl rfl) ?_
  refine vg_cons (vs_aaload dX5_heard_18 rfl rfl) ?_
  refine vg_cons (vs_astore dX5_heard_19 (by decide) rfl) ?_
  refine vg_cons (vs_iload_n dX5_heard_21 rfl rfl) ?_
  refine vg_cons (vs_tsw dX5_heard_22 (by decide) (by decide) (by intro i hi; match i, hi with | 0, _ => exact ⟨(0, 56), 34, rfl, rfl, by decide, by decide⟩ | 1, _ => exact ⟨(1, 64), 42, rfl, rfl, by decide, by decide⟩ | 2, _ => exact ⟨(2, 72), 50, rfl, rfl, by decide, by decide⟩ | 3, _ => exact ⟨(3, 80), 58, rfl, rfl, by decide, by decide⟩ | 4, _ => exact ⟨(4, 88), 66, rfl, rfl, by decide, by decide⟩)) ?_
  refine vg_cons (vs_aload dX5_heard_56 rfl) ?_
  refine vg_cons (vs_getfield (T := TX0) dX5_heard_58 rfl (by decide) ww_inX0 q_271 rfl) ?_
  refine vg_cons (vs_iload_n dX5_heard_61 rfl rfl) ?_
  refine vg_cons (vs_iaload dX5_heard_62 rfl rfl) ?_
  refine vg_cons (vs_ireturn dX5_heard_63 rfl) ?_
  refine vg_cons (vs_aload dX5_heard_64 rfl) ?_
  refine vg_cons (vs_getfield (T := TX0) dX5_heard_66 rfl (by decide) ww_inX0 q_272 rfl) ?_
  refine vg_cons (vs_iload_n dX5_heard_69 rfl rfl) ?_
  refine vg_cons (vs_iaload dX5_heard_70 rfl rfl) ?_
  refine vg_cons (vs_ireturn dX5_heard_71 rfl) ?_
  refine vg_cons (vs_aload dX5_heard_72 rfl) ?_
  refine vg_cons (vs_getfield (T := TX0) dX5_heard_74 rfl (by decide) ww_inX0 q_273 rfl) ?_
  refine vg_cons (vs_iload_n dX5_heard_77 rfl rfl) ?_
  refine vg_cons (vs_iaload dX5_heard_78 rfl rfl) ?_
  refine vg_cons (vs_ireturn dX5_heard_79 rfl) ?_
  refine vg_cons (vs_aload dX5_heard_80 rfl) ?_
  refine vg_cons (vs_getfield (T := TX0) dX5_heard_82 rfl (by decide) ww_inX0 q_274 rfl) ?_
  refine vg_cons (vs_iload_n dX5_heard_85 rfl rfl) ?_
  refine vg_cons (vs_iaload dX5_heard_86 rfl rfl) ?_
  refine vg_cons (vs_ireturn dX5_heard_87 rfl) ?_
  refine vg_cons (vs_aload dX5_heard_88 rfl) ?_
  refine vg_cons (vs_getfield (T := TX0) dX5_heard_90 rfl (by decide) ww_inX0 q_275 rfl) ?_
  refine vg_cons (vs_iload_n dX5_heard_93 rfl rfl) ?_
  refine vg_cons (vs_iaload dX5_heard_94 rfl rfl) ?_
  refine vg_cons (vs_ireturn dX5_heard_95 rfl) ?_
  refine vg_cons (vs_no) ?_
  exact fun _ h => absurd h List.not_mem_nil
theorem m_X5_heard : vg_Code k_X5_heard := fun q h => (s_X5_heard q h).1

theorem w_X5_heard : vg_Wd sp_X5_heard 5 := by
  intro av σ h
  unfold sp_X5_heard at h
  split at h
  · exact Nat.le_of_ble_eq_true rfl
  · exact h.elim
theorem g_X5_heard : vg_G k_X5_heard sp_X5_heard := by
  intro av σ h
  unfold sp_X5_heard at h ⊢
  split at h
  next c d x =>
    obtain ⟨hw, hc, hd, hx⟩ := h
    have hb := hw.1.2
    have hb2 := hw.2.2.1.2
    have h8 : vp_in c 8 := jwide hc hb (by decide)
    have h12 : vp_in d 12 := jwide hd hb2 (by decide)
    refine vg_run (cuts := []) m_X5_heard 40 ?_
    refine And.intro ⟨hw, hc⟩ (And.intro ⟨hw, hd⟩ (And.intro h8 ?_))
    exact And.intro (fun (h : x = 0) => And.intro h12 (And.intro (show (some (Sum.inl (Value.int ((jV σ 0) 15 c.toNatClampNeg d.toNatClampNeg))) : Option vgV) = some (Sum.inl (Value.int (jHeard (jV σ 0) c.toNatClampNeg d.toNatClampNeg x))) from by rw [h]; rfl) rfl)) (fun (n0 : ¬ x = 0) => And.intro (fun (h : x = 1) => And.intro h12 (And.intro (show (some (Sum.inl (Value.int ((jV σ 0) 16 c.toNatClampNeg d.toNatClampNeg))) : Option vgV) = some (Sum.inl (Value.int (jHeard (jV σ 0) c.toNatClampNeg d.toNatClampNeg x))) from by rw [h]; rfl) rfl)) (fun (n1 : ¬ x = 1) => And.intro (fun (h : x = 2) => And.intro h12 (And.intro (show (some (Sum.inl (Value.int ((jV σ 0) 17 c.toNatClampNeg d.toNatClampNeg))) : Option vgV) = some (Sum.inl (Value.int (jHeard (jV σ 0) c.toNatClampNeg d.toNatClampNeg x))) from by rw [h]; rfl) rfl)) (fun (n2 : ¬ x = 2) => And.intro (fun (h : x = 3) => And.intro h12 (And.intro (show (some (Sum.inl (Value.int ((jV σ 0) 14 c.toNatClampNeg d.toNatClampNeg))) : Option vgV) = some (Sum.inl (Value.int (jHeard (jV σ 0) c.toNatClampNeg d.toNatClampNeg x))) from by rw [h]; rfl) rfl)) (fun (n3 : ¬ x = 3) => And.intro (fun (h : x = 4) => And.intro h12 (And.intro (show (some (Sum.inl (Value.int ((jV σ 0) 18 c.toNatClampNeg d.toNatClampNeg))) : Option vgV) = some (Sum.inl (Value.int (jHeard (jV σ 0) c.toNatClampNeg d.toNatClampNeg x))) from by rw [h]; rfl) rfl)) (fun (n4 : ¬ x = 4) => (jno5 hx n0 n1 n2 n3 n4).elim)))))
  next => exact h.elim
theorem c_X5_heard : vg_MetF ww_tb ww_nw ww_shp ww_nm ww_cl ww_tyl yX5_heard cX5_heard 5 (some .int) 1 sp_X5_heard := vg_met ww_closed (by decide +kernel) rfl s_X5_heard w_X5_heard g_X5_heard
