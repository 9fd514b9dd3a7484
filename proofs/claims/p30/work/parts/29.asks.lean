-- words of the tables, and what stands at each place of the methods' code (laid by program)
theorem q_197 : Cond.fieldLink RX5 10 (TX5 0).1 (TX5 0).2.1 (TX5 0).2.2.1 ∈ ww_tb := by decide +kernel
theorem q_198 : Cond.fieldLink RX5 27 (TX1 4).1 (TX1 4).2.1 (TX1 4).2.2.1 ∈ ww_tb := by decide +kernel
theorem q_199 : Cond.fieldLink RX5 249 (TX1 6).1 (TX1 6).2.1 (TX1 6).2.2.1 ∈ ww_tb := by decide +kernel
theorem q_200 : Cond.constant RX5 341 (65535) ∈ ww_tb := by decide +kernel
theorem q_201 : Cond.code yX5_checkRange cX5_checkRange 3 none ∈ ww_tb := by decide +kernel
theorem q_202 : Cond.static yX5_checkRange ∈ ww_tb := by decide +kernel
theorem q_203 : Cond.methodLink RX5 23 yX5_checkRange ∈ ww_tb := by decide +kernel
theorem q_204 : Cond.constantLong RX5 327 (31) ∈ ww_tb := by decide +kernel
theorem q_205 : Cond.fieldLink RX5 112 (TX1 0).1 (TX1 0).2.1 (TX1 0).2.2.1 ∈ ww_tb := by decide +kernel
theorem q_206 : Cond.methodLink RX5 257 yX1_hourNow ∈ ww_tb := by decide +kernel
theorem q_207 : Cond.code yX1_peopleOfAll cX1_peopleOfAll 3 (some .int) ∈ ww_tb := by decide +kernel
theorem q_208 : Cond.methodLink RX5 260 yX1_peopleOfAll ∈ ww_tb := by decide +kernel
theorem q_209 : Cond.instanceMethod yX1_peopleOfAll ∈ ww_tb := by decide +kernel
theorem q_210 : Cond.selects RX1 yX1_peopleOfAll yX1_peopleOfAll ∈ ww_tb := by decide +kernel
theorem q_211 : Cond.code yX1_peopleSafe cX1_peopleSafe 3 (some .int) ∈ ww_tb := by decide +kernel
theorem q_212 : Cond.methodLink RX5 263 yX1_peopleSafe ∈ ww_tb := by decide +kernel
theorem q_213 : Cond.instanceMethod yX1_peopleSafe ∈ ww_tb := by decide +kernel
theorem q_214 : Cond.selects RX1 yX1_peopleSafe yX1_peopleSafe ∈ ww_tb := by decide +kernel
theorem q_215 : Cond.code yX1_peopleGone cX1_peopleGone 3 (some .int) ∈ ww_tb := by decide +kernel
theorem q_216 : Cond.methodLink RX5 266 yX1_peopleGone ∈ ww_tb := by decide +kernel
theorem q_217 : Cond.instanceMethod yX1_peopleGone ∈ ww_tb := by decide +kernel
theorem q_218 : Cond.selects RX1 yX1_peopleGone yX1_peopleGone ∈ ww_tb := by decide +kernel
theorem q_219 : Cond.code yX1_countInForce cX1_countInForce 3 (some .int) ∈ ww_tb := by decide +kernel
theorem q_220 : Cond.methodLink RX5 191 yX1_countInForce ∈ ww_tb := by decide +kernel
theorem q_221 : Cond.instanceMethod yX1_countInForce ∈ ww_tb := by decide +kernel
theorem q_222 : Cond.selects RX1 yX1_countInForce yX1_countInForce ∈ ww_tb := by decide +kernel
theorem q_223 : Cond.code yX1_cellsInDanger cX1_cellsInDanger 3 (some .int) ∈ ww_tb := by decide +kernel
theorem q_224 : Cond.methodLink RX5 269 yX1_cellsInDanger ∈ ww_tb := by decide +kernel
theorem q_225 : Cond.instanceMethod yX1_cellsInDanger ∈ ww_tb := by decide +kernel
theorem q_226 : Cond.selects RX1 yX1_cellsInDanger yX1_cellsInDanger ∈ ww_tb := by decide +kernel
theorem q_227 : Cond.code yX1_countAsleep cX1_countAsleep 3 (some .int) ∈ ww_tb := by decide +kernel
theorem q_228 : Cond.methodLink RX5 272 yX1_countAsleep ∈ ww_tb := by decide +kernel
theorem q_229 : Cond.instanceMethod yX1_countAsleep ∈ ww_tb := by decide +kernel
theorem q_230 : Cond.selects RX1 yX1_countAsleep yX1_countAsleep ∈ ww_tb := by decide +kernel
theorem q_231 : Cond.fieldLink RX5 275 (TX1 3).1 (TX1 3).2.1 (TX1 3).2.2.1 ∈ ww_tb := by decide +kernel
theorem q_232 : Cond.fieldLink RX5 118 (TX1 2).1 (TX1 2).2.1 (TX1 2).2.2.1 ∈ ww_tb := by decide +kernel
theorem q_233 : Cond.fieldLink RX5 66 (TX1 5).1 (TX1 5).2.1 (TX1 5).2.2.1 ∈ ww_tb := by decide +kernel
theorem q_234 : Cond.fieldLink RX5 71 (TX1 8).1 (TX1 8).2.1 (TX1 8).2.2.1 ∈ ww_tb := by decide +kernel
theorem q_235 : Cond.fieldLink RX5 78 (TX3 1).1 (TX3 1).2.1 (TX3 1).2.2.1 ∈ ww_tb := by decide +kernel
theorem dX5_checkCell_0 : decode cX5_checkCell 0 = .ok (.iload_n 0, 1) := by decide +kernel
theorem dX5_checkCell_1 : decode cX5_checkCell 1 = .ok (.ifCond .lt 9, 3) := by decide +kernel
theorem dX5_checkCell_4 : decode cX5_checkCell 4 = .ok (.iload_n 0, 1) := by decide +kernel
theorem dX5_checkCell_5 : decode cX5_checkCell 5 = .ok (.bipush 16, 2) := by decide +kernel
theorem dX5_checkCell_7 : decode cX5_checkCell 7 = .ok (.if_icmp .lt 14, 3) := by decide +kernel
theorem dX5_checkCell_10 : decode cX5_checkCell 10 = .ok (.new 252, 3) := by decide +kernel
theorem dX5_checkCell_13 : decode cX5_checkCell 13 = .ok (.dup, 1) := by decide +kernel
theorem dX5_checkCell_14 : decode cX5_checkCell 14 = .ok (.ldc_w 331, 3) := by decide +kernel
theorem dX5_checkCell_17 : decode cX5_checkCell 17 = .ok (.invokespecial 256, 3) := by decide +kernel
theorem dX5_checkCell_20 : decode cX5_checkCell 20 = .ok (.athrow, 1) := by decide +kernel
theorem dX5_checkCell_21 : decode cX5_checkCell 21 = .ok (.return_, 1) := by decide +kernel
theorem dX5_checkOfficer_0 : decode cX5_checkOfficer 0 = .ok (.iload_n 0, 1) := by decide +kernel
theorem dX5_checkOfficer_1 : decode cX5_checkOfficer 1 = .ok (.ifCond .lt 8, 3) := by decide +kernel
theorem dX5_checkOfficer_4 : decode cX5_checkOfficer 4 = .ok (.iload_n 0, 1) := by decide +kernel
theorem dX5_checkOfficer_5 : decode cX5_checkOfficer 5 = .ok (.iconst 4, 1) := by decide +kernel
theorem dX5_checkOfficer_6 : decode cX5_checkOfficer 6 = .ok (.if_icmp .lt 14, 3) := by decide +kernel
theorem dX5_checkOfficer_9 : decode cX5_checkOfficer 9 = .ok (.new 252, 3) := by decide +kernel
theorem dX5_checkOfficer_12 : decode cX5_checkOfficer 12 = .ok (.dup, 1) := by decide +kernel
theorem dX5_checkOfficer_13 : decode cX5_checkOfficer 13 = .ok (.ldc_w 333, 3) := by decide +kernel
theorem dX5_checkOfficer_16 : decode cX5_checkOfficer 16 = .ok (.invokespecial 256, 3) := by decide +kernel
theorem dX5_checkOfficer_19 : decode cX5_checkOfficer 19 = .ok (.athrow, 1) := by decide +kernel
theorem dX5_checkOfficer_20 : decode cX5_checkOfficer 20 = .ok (.return_, 1) := by decide +kernel
theorem dX5_checkRange_0 : decode cX5_checkRange 0 = .ok (.iload_n 0, 1) := by decide +kernel
theorem dX5_checkRange_1 : decode cX5_checkRange 1 = .ok (.iload_n 1, 1) := by decide +kernel
theorem dX5_checkRange_2 : decode cX5_checkRange 2 = .ok (.if_icmp .lt 8, 3) := by decide +kernel
theorem dX5_checkRange_5 : decode cX5_checkRange 5 = .ok (.iload_n 0, 1) := by decide +kernel
theorem dX5_checkRange_6 : decode cX5_checkRange 6 = .ok (.iload_n 2, 1) := by decide +kernel
theorem dX5_checkRange_7 : decode cX5_checkRange 7 = .ok (.if_icmp .le 14, 3) := by decide +kernel
theorem dX5_checkRange_10 : decode cX5_checkRange 10 = .ok (.new 215, 3) := by decide +kernel
theorem dX5_checkRange_13 : decode cX5_checkRange 13 = .ok (.dup, 1) := by decide +kernel
theorem dX5_checkRange_14 : decode cX5_checkRange 14 = .ok (.ldc_w 342, 3) := by decide +kernel
theorem dX5_checkRange_17 : decode cX5_checkRange 17 = .ok (.invokespecial 219, 3) := by decide +kernel
theorem dX5_checkRange_20 : decode cX5_checkRange 20 = .ok (.athrow, 1) := by decide +kernel
theorem dX5_checkRange_21 : decode cX5_checkRange 21 = .ok (.return_, 1) := by decide +kernel
theorem dX5_checkGroup_0 : decode cX5_checkGroup 0 = .ok (.iload_n 1, 1) := by decide +kernel
theorem dX5_checkGroup_1 : decode cX5_checkGroup 1 = .ok (.ifCond .lt 14, 3) := by decide +kernel
theorem dX5_checkGroup_4 : decode cX5_checkGroup 4 = .ok (.iload_n 1, 1) := by decide +kernel
theorem dX5_checkGroup_5 : decode cX5_checkGroup 5 = .ok (.aload_n 0, 1) := by decide +kernel
theorem dX5_checkGroup_6 : decode cX5_checkGroup 6 = .ok (.getfield 10, 3) := by decide +kernel
theorem dX5_checkGroup_9 : decode cX5_checkGroup 9 = .ok (.getfield 27, 3) := by decide +kernel
theorem dX5_checkGroup_12 : decode cX5_checkGroup 12 = .ok (.if_icmp .lt 14, 3) := by decide +kernel
theorem dX5_checkGroup_15 : decode cX5_checkGroup 15 = .ok (.new 252, 3) := by decide +kernel
theorem dX5_checkGroup_18 : decode cX5_checkGroup 18 = .ok (.dup, 1) := by decide +kernel
theorem dX5_checkGroup_19 : decode cX5_checkGroup 19 = .ok (.ldc_w 335, 3) := by decide +kernel
theorem dX5_checkGroup_22 : decode cX5_checkGroup 22 = .ok (.invokespecial 256, 3) := by decide +kernel
theorem dX5_checkGroup_25 : decode cX5_checkGroup 25 = .ok (.athrow, 1) := by decide +kernel
theorem dX5_checkGroup_26 : decode cX5_checkGroup 26 = .ok (.return_, 1) := by decide +kernel
theorem dX5_checkWarning_0 : decode cX5_checkWarning 0 = .ok (.iload_n 1, 1) := by decide +kernel
theorem dX5_checkWarning_1 : decode cX5_checkWarning 1 = .ok (.ifCond .lt 14, 3) := by decide +kernel
theorem dX5_checkWarning_4 : decode cX5_checkWarning 4 = .ok (.iload_n 1, 1) := by decide +kernel
theorem dX5_checkWarning_5 : decode cX5_checkWarning 5 = .ok (.aload_n 0, 1) := by decide +kernel
theorem dX5_checkWarning_6 : decode cX5_checkWarning 6 = .ok (.getfield 10, 3) := by decide +kernel
theorem dX5_checkWarning_9 : decode cX5_checkWarning 9 = .ok (.getfield 249, 3) := by decide +kernel
theorem dX5_checkWarning_12 : decode cX5_checkWarning 12 = .ok (.if_icmp .lt 14, 3) := by decide +kernel
theorem dX5_checkWarning_15 : decode cX5_checkWarning 15 = .ok (.new 252, 3) := by decide +kernel
theorem dX5_checkWarning_18 : decode cX5_checkWarning 18 = .ok (.dup, 1) := by decide +kernel
theorem dX5_checkWarning_19 : decode cX5_checkWarning 19 = .ok (.ldc_w 337, 3) := by decide +kernel
theorem dX5_checkWarning_22 : decode cX5_checkWarning 22 = .ok (.invokespecial 256, 3) := by decide +kernel
theorem dX5_checkWarning_25 : decode cX5_checkWarning 25 = .ok (.athrow, 1) := by decide +kernel
theorem dX5_checkWarning_26 : decode cX5_checkWarning 26 = .ok (.return_, 1) := by decide +kernel
theorem dX5_checkWords_0 : decode cX5_checkWords 0 = .ok (.iload_n 0, 1) := by decide +kernel
theorem dX5_checkWords_1 : decode cX5_checkWords 1 = .ok (.iconst 1, 1) := by decide +kernel
theorem dX5_checkWords_2 : decode cX5_checkWords 2 = .ok (.ldc_w 341, 3) := by decide +kernel
theorem dX5_checkWords_5 : decode cX5_checkWords 5 = .ok (.invokestatic 23, 3) := by decide +kernel
theorem dX5_checkWords_8 : decode cX5_checkWords 8 = .ok (.iload_n 1, 1) := by decide +kernel
theorem dX5_checkWords_9 : decode cX5_checkWords 9 = .ok (.iconst 0, 1) := by decide +kernel
theorem dX5_checkWords_10 : decode cX5_checkWords 10 = .ok (.iconst 1, 1) := by decide +kernel
theorem dX5_checkWords_11 : decode cX5_checkWords 11 = .ok (.invokestatic 23, 3) := by decide +kernel
theorem dX5_checkWords_14 : decode cX5_checkWords 14 = .ok (.iload_n 2, 1) := by decide +kernel
theorem dX5_checkWords_15 : decode cX5_checkWords 15 = .ok (.iconst 1, 1) := by decide +kernel
theorem dX5_checkWords_16 : decode cX5_checkWords 16 = .ok (.bipush 7, 2) := by decide +kernel
theorem dX5_checkWords_18 : decode cX5_checkWords 18 = .ok (.invokestatic 23, 3) := by decide +kernel
theorem dX5_checkWords_21 : decode cX5_checkWords 21 = .ok (.return_, 1) := by decide +kernel
theorem dX5_mix_0 : decode cX5_mix 0 = .ok (.lload_n 0, 1) := by decide +kernel
theorem dX5_mix_1 : decode cX5_mix 1 = .ok (.ldc2_w 327, 3) := by decide +kernel
theorem dX5_mix_4 : decode cX5_mix 4 = .ok (.lmul, 1) := by decide +kernel
theorem dX5_mix_5 : decode cX5_mix 5 = .ok (.iload_n 2, 1) := by decide +kernel
theorem dX5_mix_6 : decode cX5_mix 6 = .ok (.i2l, 1) := by decide +kernel
theorem dX5_mix_7 : decode cX5_mix 7 = .ok (.ladd, 1) := by decide +kernel
theorem dX5_mix_8 : decode cX5_mix 8 = .ok (.lreturn, 1) := by decide +kernel
theorem dX5_many_0 : decode cX5_many 0 = .ok (.iload_n 1, 1) := by decide +kernel
theorem dX5_many_1 : decode cX5_many 1 = .ok (.tableswitch 159 0 11 #[63, 71, 79, 87, 95, 103, 111, 119, 127, 135, 143, 151], 63) := by decide +kernel
theorem dX5_many_64 : decode cX5_many 64 = .ok (.aload_n 0, 1) := by decide +kernel
theorem dX5_many_65 : decode cX5_many 65 = .ok (.getfield 10, 3) := by decide +kernel
theorem dX5_many_68 : decode cX5_many 68 = .ok (.getfield 112, 3) := by decide +kernel
theorem dX5_many_71 : decode cX5_many 71 = .ok (.ireturn, 1) := by decide +kernel
theorem dX5_many_72 : decode cX5_many 72 = .ok (.aload_n 0, 1) := by decide +kernel
theorem dX5_many_73 : decode cX5_many 73 = .ok (.getfield 10, 3) := by decide +kernel
theorem dX5_many_76 : decode cX5_many 76 = .ok (.invokevirtual 257, 3) := by decide +kernel
theorem dX5_many_79 : decode cX5_many 79 = .ok (.ireturn, 1) := by decide +kernel
theorem dX5_many_80 : decode cX5_many 80 = .ok (.aload_n 0, 1) := by decide +kernel
theorem dX5_many_81 : decode cX5_many 81 = .ok (.getfield 10, 3) := by decide +kernel
theorem dX5_many_84 : decode cX5_many 84 = .ok (.getfield 27, 3) := by decide +kernel
theorem dX5_many_87 : decode cX5_many 87 = .ok (.ireturn, 1) := by decide +kernel
theorem dX5_many_88 : decode cX5_many 88 = .ok (.aload_n 0, 1) := by decide +kernel
theorem dX5_many_89 : decode cX5_many 89 = .ok (.getfield 10, 3) := by decide +kernel
theorem dX5_many_92 : decode cX5_many 92 = .ok (.invokevirtual 260, 3) := by decide +kernel
theorem dX5_many_95 : decode cX5_many 95 = .ok (.ireturn, 1) := by decide +kernel
theorem dX5_many_96 : decode cX5_many 96 = .ok (.aload_n 0, 1) := by decide +kernel
theorem dX5_many_97 : decode cX5_many 97 = .ok (.getfield 10, 3) := by decide +kernel
theorem dX5_many_100 : decode cX5_many 100 = .ok (.invokevirtual 263, 3) := by decide +kernel
theorem dX5_many_103 : decode cX5_many 103 = .ok (.ireturn, 1) := by decide +kernel
theorem dX5_many_104 : decode cX5_many 104 = .ok (.aload_n 0, 1) := by decide +kernel
theorem dX5_many_105 : decode cX5_many 105 = .ok (.getfield 10, 3) := by decide +kernel
theorem dX5_many_108 : decode cX5_many 108 = .ok (.invokevirtual 266, 3) := by decide +kernel
theorem dX5_many_111 : decode cX5_many 111 = .ok (.ireturn, 1) := by decide +kernel
theorem dX5_many_112 : decode cX5_many 112 = .ok (.aload_n 0, 1) := by decide +kernel
theorem dX5_many_113 : decode cX5_many 113 = .ok (.getfield 10, 3) := by decide +kernel
theorem dX5_many_116 : decode cX5_many 116 = .ok (.getfield 249, 3) := by decide +kernel
theorem dX5_many_119 : decode cX5_many 119 = .ok (.ireturn, 1) := by decide +kernel
theorem dX5_many_120 : decode cX5_many 120 = .ok (.aload_n 0, 1) := by decide +kernel
theorem dX5_many_121 : decode cX5_many 121 = .ok (.getfield 10, 3) := by decide +kernel
theorem dX5_many_124 : decode cX5_many 124 = .ok (.invokevirtual 191, 3) := by decide +kernel
theorem dX5_many_127 : decode cX5_many 127 = .ok (.ireturn, 1) := by decide +kernel
theorem dX5_many_128 : decode cX5_many 128 = .ok (.aload_n 0, 1) := by decide +kernel
theorem dX5_many_129 : decode cX5_many 129 = .ok (.getfield 10, 3) := by decide +kernel
theorem dX5_many_132 : decode cX5_many 132 = .ok (.invokevirtual 269, 3) := by decide +kernel
theorem dX5_many_135 : decode cX5_many 135 = .ok (.ireturn, 1) := by decide +kernel
theorem dX5_many_136 : decode cX5_many 136 = .ok (.aload_n 0, 1) := by decide +kernel
theorem dX5_many_137 : decode cX5_many 137 = .ok (.getfield 10, 3) := by decide +kernel
theorem dX5_many_140 : decode cX5_many 140 = .ok (.invokevirtual 272, 3) := by decide +kernel
theorem dX5_many_143 : decode cX5_many 143 = .ok (.ireturn, 1) := by decide +kernel
theorem dX5_many_144 : decode cX5_many 144 = .ok (.aload_n 0, 1) := by decide +kernel
theorem dX5_many_145 : decode cX5_many 145 = .ok (.getfield 10, 3) := by decide +kernel
theorem dX5_many_148 : decode cX5_many 148 = .ok (.getfield 275, 3) := by decide +kernel
theorem dX5_many_151 : decode cX5_many 151 = .ok (.ireturn, 1) := by decide +kernel
theorem dX5_many_152 : decode cX5_many 152 = .ok (.aload_n 0, 1) := by decide +kernel
theorem dX5_many_153 : decode cX5_many 153 = .ok (.getfield 10, 3) := by decide +kernel
theorem dX5_many_156 : decode cX5_many 156 = .ok (.getfield 118, 3) := by decide +kernel
theorem dX5_many_159 : decode cX5_many 159 = .ok (.ireturn, 1) := by decide +kernel
theorem dX5_many_160 : decode cX5_many 160 = .ok (.new 215, 3) := by decide +kernel
theorem dX5_many_163 : decode cX5_many 163 = .ok (.dup, 1) := by decide +kernel
theorem dX5_many_164 : decode cX5_many 164 = .ok (.ldc_w 278, 3) := by decide +kernel
theorem dX5_many_167 : decode cX5_many 167 = .ok (.invokespecial 219, 3) := by decide +kernel
theorem dX5_many_170 : decode cX5_many 170 = .ok (.athrow, 1) := by decide +kernel
theorem dX5_roomIn_0 : decode cX5_roomIn 0 = .ok (.iload_n 1, 1) := by decide +kernel
theorem dX5_roomIn_1 : decode cX5_roomIn 1 = .ok (.ifCond .lt 14, 3) := by decide +kernel
theorem dX5_roomIn_4 : decode cX5_roomIn 4 = .ok (.iload_n 1, 1) := by decide +kernel
theorem dX5_roomIn_5 : decode cX5_roomIn 5 = .ok (.aload_n 0, 1) := by decide +kernel
theorem dX5_roomIn_6 : decode cX5_roomIn 6 = .ok (.getfield 10, 3) := by decide +kernel
theorem dX5_roomIn_9 : decode cX5_roomIn 9 = .ok (.getfield 66, 3) := by decide +kernel
theorem dX5_roomIn_12 : decode cX5_roomIn 12 = .ok (.if_icmp .lt 13, 3) := by decide +kernel
theorem dX5_roomIn_15 : decode cX5_roomIn 15 = .ok (.new 252, 3) := by decide +kernel
theorem dX5_roomIn_18 : decode cX5_roomIn 18 = .ok (.dup, 1) := by decide +kernel
theorem dX5_roomIn_19 : decode cX5_roomIn 19 = .ok (.ldc 254, 2) := by decide +kernel
theorem dX5_roomIn_21 : decode cX5_roomIn 21 = .ok (.invokespecial 256, 3) := by decide +kernel
theorem dX5_roomIn_24 : decode cX5_roomIn 24 = .ok (.athrow, 1) := by decide +kernel
theorem dX5_roomIn_25 : decode cX5_roomIn 25 = .ok (.aload_n 0, 1) := by decide +kernel
theorem dX5_roomIn_26 : decode cX5_roomIn 26 = .ok (.getfield 10, 3) := by decide +kernel
theorem dX5_roomIn_29 : decode cX5_roomIn 29 = .ok (.getfield 71, 3) := by decide +kernel
theorem dX5_roomIn_32 : decode cX5_roomIn 32 = .ok (.iload_n 1, 1) := by decide +kernel
theorem dX5_roomIn_33 : decode cX5_roomIn 33 = .ok (.aaload, 1) := by decide +kernel
theorem dX5_roomIn_34 : decode cX5_roomIn 34 = .ok (.getfield 78, 3) := by decide +kernel
theorem dX5_roomIn_37 : decode cX5_roomIn 37 = .ok (.ireturn, 1) := by decide +kernel
/-! the class itself: checks and questions -/
theorem jlt {x : Int32} {N : Nat} (h : vp_in x N) (hN : N < 1000) : ¬ x < 0 ∧ x < nI N := by
  refine ⟨fun z => h (Or.inl z), ?_⟩
  obtain ⟨j, hj, rfl⟩ := vp_in_of h (by omega)
  exact Int32.not_le.mp (fun z => absurd ((jle (c := nI N) (n := N) rfl rfl hN (by omega)).mp z) (by omega))
def sp_X5_checkCell : vgC := fun av σ => match av with
  | [.inl (.int c)] => (vp_in c 16, none, σ)
  | _ => (False, none, σ)
def k_X5_checkCell : List (Nat × vgF) := [(0, vi_iload 0 1), (1, vi_if (fun x => x < 0) 10 4), (4, vi_iload 0 5), (5, vi_icst (16) 7), (7, vi_cmp (fun x y => x < y) 21 10), (10, vi_no), (21, vi_retV)]
set_option maxRecDepth 20000 in
theorem s_X5_checkCell : ∀ q ∈ k_X5_checkCell, vg_Snd ww_tb ww_nw ww_shp ww_nm ww_cl ww_tyl cX5_checkCell 1 RX5 none 0 q.1 q.2 := by
  refine vg_cons (vs_iload_n dX5_checkCell_0 rfl rfl) ?_
  refine vg_cons (vs_if_lt dX5_checkCell_1 (by decide) rfl) ?_
  refine vg_cons (vs_iload_n dX5_checkCell_4 rfl rfl) ?_
  refine vg_cons (vs_bipush dX5_checkCell_5 (by decide) rfl) ?_
  refine vg_cons (vs_cmp_lt dX5_checkCell_7 (by decide) rfl) ?_
  refine vg_cons (vs_no) ?_
  refine vg_cons (vs_return dX5_checkCell_21 rfl) ?_
  exact fun _ h => absurd h List.not_mem_nil
theorem m_X5_checkCell : vg_Code k_X5_checkCell := fun q h => (s_X5_checkCell q h).1

theorem w_X5_checkCell : vg_Wd sp_X5_checkCell 1 := by
  intro av σ h
  unfold sp_X5_checkCell at h
  split at h
  · exact Nat.le_of_ble_eq_true rfl
  · exact h.elim
theorem g_X5_checkCell : vg_G k_X5_checkCell sp_X5_checkCell := by
  intro av σ h
  unfold sp_X5_checkCell at h ⊢
  split at h
  next c =>
    have hl := jlt h (by decide)
    refine vg_run (cuts := []) m_X5_checkCell 20 ?_
    exact And.intro (fun z => absurd z hl.1) (fun _ => And.intro (fun _ => And.intro rfl rfl) (fun z => absurd hl.2 z))
  next => exact h.elim
theorem c_X5_checkCell : vg_MetF ww_tb ww_nw ww_shp ww_nm ww_cl ww_tyl yX5_checkCell cX5_checkCell 1 none 0 sp_X5_checkCell := vg_met ww_closed (by decide +kernel) rfl s_X5_checkCell w_X5_checkCell g_X5_checkCell
def sp_X5_checkOfficer : vgC := fun av σ => match av with
  | [.inl (.int c)] => (vp_in c 4, none, σ)
  | _ => (False, none, σ)
def k_X5_checkOfficer : List (Nat × vgF) := [(0, vi_iload 0 1), (1, vi_if (fun x => x < 0) 9 4), (4, vi_iload 0 5), (5, vi_icst (4) 6), (6, vi_cmp (fun x y => x < y) 20 9), (9, vi_no), (20, vi_retV)]
set_option maxRecDepth 20000 in
theorem s_X5_checkOfficer : ∀ q ∈ k_X5_checkOfficer, vg_Snd ww_tb ww_nw ww_shp ww_nm ww_cl ww_tyl cX5_checkOfficer 1 RX5 none 0 q.1 q.2 := by
  refine vg_cons (vs_iload_n dX5_checkOfficer_0 rfl rfl) ?_
  refine vg_cons (vs_if_lt dX5_checkOfficer_1 (by decide) rfl) ?_
  refine vg_cons (vs_iload_n dX5_checkOfficer_4 rfl rfl) ?_
  refine vg_cons (vs_iconst dX5_checkOfficer_5 rfl rfl) ?_
  refine vg_cons (vs_cmp_lt dX5_checkOfficer_6 (by decide) rfl) ?_
  refine vg_cons (vs_no) ?_
  refine vg_cons (vs_return dX5_checkOfficer_20 rfl) ?_
  exact fun _ h => absurd h List.not_mem_nil
theorem m_X5_checkOfficer : vg_Code k_X5_checkOfficer := fun q h => (s_X5_checkOfficer q h).1

theorem w_X5_checkOfficer : vg_Wd sp_X5_checkOfficer 1 := by
  intro av σ h
  unfold sp_X5_checkOfficer at h
  split at h
  · exact Nat.le_of_ble_eq_true rfl
  · exact h.elim
theorem g_X5_checkOfficer : vg_G k_X5_checkOfficer sp_X5_checkOfficer := by
  intro av σ h
  unfold sp_X5_checkOfficer at h ⊢
  split at h
  next c =>
    have hl := jlt h (by decide)
    refine vg_run (cuts := []) m_X5_checkOfficer 20 ?_
    exact And.intro (fun z => absurd z hl.1) (fun _ => And.intro (fun _ => And.intro rfl rfl) (fun z => absurd hl.2 z))
  next => exact h.elim
theorem c_X5_checkOfficer : vg_MetF ww_tb ww_nw ww_shp ww_nm ww_cl ww_tyl yX5_checkOfficer cX5_checkOfficer 1 none 0 sp_X5_checkOfficer := vg_met ww_closed (by decide +kernel) rfl s_X5_checkOfficer w_X5_checkOfficer g_X5_checkOfficer
def sp_X5_checkRange : vgC := fun av σ => match av with
  | [.inl (.int c), .inl (.int x), .inl (.int y)] => (¬ c < x ∧ c ≤ y, none, σ)
  | _ => (False, none, σ)
def k_X5_checkRange : List (Nat × vgF) := [(0, vi_iload 0 1), (1, vi_iload 1 2), (2, vi_cmp (fun x y => x < y) 10 5), (5, vi_iload 0 6), (6, vi_iload 2 7), (7, vi_cmp (fun x y => x ≤ y) 21 10), (10, vi_no), (21, vi_retV)]
set_option maxRecDepth 20000 in
theorem s_X5_checkRange : ∀ q ∈ k_X5_checkRange, vg_Snd ww_tb ww_nw ww_shp ww_nm ww_cl ww_tyl cX5_checkRange 3 RX5 none 0 q.1 q.2 := by
  refine vg_cons (vs_iload_n dX5_checkRange_0 rfl rfl) ?_
  refine vg_cons (vs_iload_n dX5_checkRange_1 rfl rfl) ?_
  refine vg_cons (vs_cmp_lt dX5_checkRange_2 (by decide) rfl) ?_
  refine vg_cons (vs_iload_n dX5_checkRange_5 rfl rfl) ?_
  refine vg_cons (vs_iload_n dX5_checkRange_6 rfl rfl) ?_
  refine vg_cons (vs_cmp_le dX5_checkRange_7 (by decide) rfl) ?_
  refine vg_cons (vs_no) ?_
  refine vg_cons (vs_return dX5_checkRange_21 rfl) ?_
  exact fun _ h => absurd h List.not_mem_nil
theorem m_X5_checkRange : vg_Code k_X5_checkRange := fun q h => (s_X5_checkRange q h).1

theorem w_X5_checkRange : vg_Wd sp_X5_checkRange 3 := by
  intro av σ h
  unfold sp_X5_checkRange at h
  split at h
  · exact Nat.le_of_ble_eq_true rfl
  · exact h.elim
theorem g_X5_checkRange : vg_G k_X5_checkRange sp_X5_checkRange := by
  intro av σ h
  unfold sp_X5_checkRange at h ⊢
  split at h
  next c x y =>
    refine vg_run (cuts := []) m_X5_checkRange 20 ?_
    exact And.intro (fun z => absurd z h.1) (fun _ => And.intro (fun _ => And.intro rfl rfl) (fun z => absurd h.2 z))
  next => exact h.elim
theorem c_X5_checkRange : vg_MetF ww_tb ww_nw ww_shp ww_nm ww_cl ww_tyl yX5_checkRange cX5_checkRange 3 none 0 sp_X5_checkRange := vg_met ww_closed (by decide +kernel) rfl s_X5_checkRange w_X5_checkRange g_X5_checkRange
def sp_X5_checkGroup : vgC := fun av σ => match av with
  | [.inr (0, 0, 0), .inl (.int c)] => (jWf (jV σ 0) ∧ vp_in c (jGc (jV σ 0)), none, σ)
  | _ => (False, none, σ)
def k_X5_checkGroup : List (Nat × vgF) := [(0, vi_iload 1 1), (1, vi_if (fun x => x < 0) 15 4), (4, vi_iload 1 5), (5, vi_aload 0 6), (6, vi_get ww_shp 0 0 9), (9, vi_get ww_shp 1 4 12), (12, vi_cmp (fun x y => x < y) 26 15), (15, vi_no), (26, vi_retV)]
set_option maxRecDepth 20000 in
theorem s_X5_checkGroup : ∀ q ∈ k_X5_checkGroup, vg_Snd ww_tb ww_nw ww_shp ww_nm ww_cl ww_tyl cX5_checkGroup 2 RX5 none 0 q.1 q.2 := by
  refine vg_cons (vs_iload_n dX5_checkGroup_0 rfl rfl) ?_
  refine vg_cons (vs_if_lt dX5_checkGroup_1 (by decide) rfl) ?_
  refine vg_cons (vs_iload_n dX5_checkGroup_4 rfl rfl) ?_
  refine vg_cons (vs_aload_n dX5_checkGroup_5 rfl rfl) ?_
  refine vg_cons (vs_getfield (T := TX5) dX5_checkGroup_6 rfl (by decide) ww_inX5 q_197 rfl) ?_
  refine vg_cons (vs_getfield (T := TX1) dX5_checkGroup_9 rfl (by decide) ww_inX1 q_198 rfl) ?_
  refine vg_cons (vs_cmp_lt dX5_checkGroup_12 (by decide) rfl) ?_
  refine vg_cons (vs_no) ?_
  refine vg_cons (vs_return dX5_checkGroup_26 rfl) ?_
  exact fun _ h => absurd h List.not_mem_nil
theorem m_X5_checkGroup : vg_Code k_X5_checkGroup := fun q h => (s_X5_checkGroup q h).1

theorem w_X5_checkGroup : vg_Wd sp_X5_checkGroup 2 := by
  intro av σ h
  unfold sp_X5_checkGroup at h
  split at h
  · exact Nat.le_of_ble_eq_true rfl
  · exact h.elim
theorem g_X5_checkGroup : vg_G k_X5_checkGroup sp_X5_checkGroup := by
  intro av σ h
  unfold sp_X5_checkGroup at h ⊢
  split at h
  next c =>
    obtain ⟨hw, h⟩ := h
    have hb := hw.1.2
    have hl := jlt h (by omega)
    have hl2 : c < σ (1, 0, 0) 4 := by
      have z := hl.2
      rw [← hw.1.1] at z
      exact z
    refine vg_run (cuts := []) m_X5_checkGroup 20 ?_
    exact And.intro (fun z => absurd z hl.1) (fun _ => And.intro (fun _ => And.intro rfl rfl) (fun z => absurd hl2 z))
  next => exact h.elim
theorem c_X5_checkGroup : vg_MetF ww_tb ww_nw ww_shp ww_nm ww_cl ww_tyl yX5_checkGroup cX5_checkGroup 2 none 0 sp_X5_checkGroup := vg_met ww_closed (by decide +kernel) rfl s_X5_checkGroup w_X5_checkGroup g_X5_checkGroup
def sp_X5_checkWarning : vgC := fun av σ => match av with
  | [.inr (0, 0, 0), .inl (.int c)] => (jWf (jV σ 0) ∧ vp_in c (jWc (jV σ 0)), none, σ)
  | _ => (False, none, σ)
def k_X5_checkWarning : List (Nat × vgF) := [(0, vi_iload 1 1), (1, vi_if (fun x => x < 0) 15 4), (4, vi_iload 1 5), (5, vi_aload 0 6), (6, vi_get ww_shp 0 0 9), (9, vi_get ww_shp 1 6 12), (12, vi_cmp (fun x y => x < y) 26 15), (15, vi_no), (26, vi_retV)]
set_option maxRecDepth 20000 in
theorem s_X5_checkWarning : ∀ q ∈ k_X5_checkWarning, vg_Snd ww_tb ww_nw ww_shp ww_nm ww_cl ww_tyl cX5_checkWarning 2 RX5 none 0 q.1 q.2 := by
  refine vg_cons (vs_iload_n dX5_checkWarning_0 rfl rfl) ?_
  refine vg_cons (vs_if_lt dX5_checkWarning_1 (by decide) rfl) ?_
  refine vg_cons (vs_iload_n dX5_checkWarning_4 rfl rfl) ?_
  refine vg_cons (vs_aload_n dX5_checkWarning_5 rfl rfl) ?_
  refine vg_cons (vs_getfield (T := TX5) dX5_checkWarning_6 rfl (by decide) ww_inX5 q_197 rfl) ?_
  refine vg_cons (vs_getfield (T := TX1) dX5_checkWarning_9 rfl (by decide) ww_inX1 q_199 rfl) ?_
  refine vg_cons (vs_cmp_lt dX5_checkWarning_12 (by decide) rfl) ?_
  refine vg_cons (vs_no) ?_
  refine vg_cons (vs_return dX5_checkWarning_26 rfl) ?_
  exact fun _ h => absurd h List.not_mem_nil
theorem m_X5_checkWarning : vg_Code k_X5_checkWarning := fun q h => (s_X5_checkWarning q h).1

theorem w_X5_checkWarning : vg_Wd sp_X5_checkWarning 2 := by
  intro av σ h
  unfold sp_X5_checkWarning at h
  split at h
  · exact Nat.le_of_ble_eq_true rfl
  · exact h.elim
theorem g_X5_checkWarning : vg_G k_X5_checkWarning sp_X5_checkWarning := by
  intro av σ h
  unfold sp_X5_checkWarning at h ⊢
  split at h
  next c =>
    obtain ⟨hw, h⟩ := h
    have hb := hw.2.2.1.2
    have hl := jlt h (by omega)
    have hl2 : c < σ (1, 0, 0) 6 := by
      have z := hl.2
      rw [← hw.2.2.1.1] at z
      exact z
    refine vg_run (cuts := []) m_X5_checkWarning 20 ?_
    exact And.intro (fun z => absurd z hl.1) (fun _ => And.intro (fun _ => And.intro rfl rfl) (fun z => absurd hl2 z))
  next => exact h.elim
theorem c_X5_checkWarning : vg_MetF ww_tb ww_nw ww_shp ww_nm ww_cl ww_tyl yX5_checkWarning cX5_checkWarning 2 none 0 sp_X5_checkWarning := vg_met ww_closed (by decide +kernel) rfl s_X5_checkWarning w_X5_checkWarning g_X5_checkWarning
def sp_X5_checkWords : vgC := fun av σ => match av with
  | [.inl (.int a), .inl (.int d), .inl (.int t)] => ((¬ a < 1 ∧ a ≤ 65535) ∧ (¬ d < 0 ∧ d ≤ 1) ∧ ¬ t < 1 ∧ t ≤ 7, none, σ)
  | _ => (False, none, σ)
def k_X5_checkWords : List (Nat × vgF) := [(0, vi_iload 0 1), (1, vi_icst (1) 2), (2, vi_icst (65535) 5), (5, vi_callS sp_X5_checkRange 3 8), (8, vi_iload 1 9), (9, vi_icst (0) 10), (10, vi_icst (1) 11), (11, vi_callS sp_X5_checkRange 3 14), (14, vi_iload 2 15), (15, vi_icst (1) 16), (16, vi_icst (7) 18), (18, vi_callS sp_X5_checkRange 3 21), (21, vi_retV)]
set_option maxRecDepth 20000 in
theorem s_X5_checkWords : ∀ q ∈ k_X5_checkWords, vg_Snd ww_tb ww_nw ww_shp ww_nm ww_cl ww_tyl cX5_checkWords 3 RX5 none 1 q.1 q.2 := by
  refine vg_cons (vs_iload_n dX5_checkWords_0 rfl rfl) ?_
  refine vg_cons (vs_iconst dX5_checkWords_1 rfl rfl) ?_
  refine vg_cons (vs_ldcw dX5_checkWords_2 q_200 rfl) ?_
  refine vg_cons (vs_callS c_X5_checkRange dX5_checkWords_5 ww_good q_201 q_51 q_203 q_202 (by decide +kernel) (by decide) rfl) ?_
  refine vg_cons (vs_iload_n dX5_checkWords_8 rfl rfl) ?_
  refine vg_cons (vs_iconst dX5_checkWords_9 rfl rfl) ?_
  refine vg_cons (vs_iconst dX5_checkWords_10 rfl rfl) ?_
  refine vg_cons (vs_callS c_X5_checkRange dX5_checkWords_11 ww_good q_201 q_51 q_203 q_202 (by decide +kernel) (by decide) rfl) ?_
  refine vg_cons (vs_iload_n dX5_checkWords_14 rfl rfl) ?_
  refine vg_cons (vs_iconst dX5_checkWords_15 rfl rfl) ?_
  refine vg_cons (vs_bipush dX5_checkWords_16 (by decide) rfl) ?_
  refine vg_cons (vs_callS c_X5_checkRange dX5_checkWords_18 ww_good q_201 q_51 q_203 q_202 (by decide +kernel) (by decide) rfl) ?_
  refine vg_cons (vs_return dX5_checkWords_21 rfl) ?_
  exact fun _ h => absurd h List.not_mem_nil
theorem m_X5_checkWords : vg_Code k_X5_checkWords := fun q h => (s_X5_checkWords q h).1

theorem w_X5_checkWords : vg_Wd sp_X5_checkWords 3 := by
  intro av σ h
  unfold sp_X5_checkWords at h
  split at h
  · exact Nat.le_of_ble_eq_true rfl
  · exact h.elim
theorem g_X5_checkWords : vg_G k_X5_checkWords sp_X5_checkWords := by
  intro av σ h
  unfold sp_X5_checkWords at h ⊢
  split at h
  next a d t =>
    refine vg_run (cuts := []) m_X5_checkWords 30 ?_
    exact And.intro h.1 (And.intro h.2.1 (And.intro h.2.2 (And.intro rfl rfl)))
  next => exact h.elim
theorem c_X5_checkWords : vg_MetF ww_tb ww_nw ww_shp ww_nm ww_cl ww_tyl yX5_checkWords cX5_checkWords 3 none 1 sp_X5_checkWords := vg_met ww_closed (by decide +kernel) rfl s_X5_checkWords w_X5_checkWords g_X5_checkWords
def sp_X5_mix : vgC := fun av σ => match av with
  | [.inl (.long s), .inl (.int x)] => (True, some (.inl (.long (s * 31 + x.toInt64))), σ)
  | _ => (False, none, σ)
def k_X5_mix : List (Nat × vgF) := [(0, vi_lload 0 1), (1, vi_lcst (31) 4), (4, vi_lbin (fun x y => x * y) 5), (5, vi_iload 2 6), (6, vi_i2l 7), (7, vi_lbin (fun x y => x + y) 8), (8, vi_retL)]
set_option maxRecDepth 20000 in
theorem s_X5_mix : ∀ q ∈ k_X5_mix, vg_Snd ww_tb ww_nw ww_shp ww_nm ww_cl ww_tyl cX5_mix 3 RX5 (some .long) 0 q.1 q.2 := by
  refine vg_cons (vs_lload_n dX5_mix_0 rfl rfl) ?_
  refine vg_cons (vs_ldc2 dX5_mix_1 q_204 rfl) ?_
  refine vg_cons (vs_lmul dX5_mix_4 rfl) ?_
  refine vg_cons (vs_iload_n dX5_mix_5 rfl rfl) ?_
  refine vg_cons (vs_i2l dX5_mix_6 rfl) ?_
  refine vg_cons (vs_ladd dX5_mix_7 rfl) ?_
  refine vg_cons (vs_lreturn dX5_mix_8 rfl) ?_
  exact fun _ h => absurd h List.not_mem_nil
theorem m_X5_mix : vg_Code k_X5_mix := fun q h => (s_X5_mix q h).1

theorem w_X5_mix : vg_Wd sp_X5_mix 3 := by
  intro av σ h
  unfold sp_X5_mix at h
  split at h
  · exact Nat.le_of_ble_eq_true rfl
  · exact h.elim
theorem g_X5_mix : vg_G k_X5_mix sp_X5_mix := by
  intro av σ h
  unfold sp_X5_mix at h ⊢
  split at h
  next s x =>
    refine vg_run (cuts := []) m_X5_mix 20 ?_
    exact And.intro rfl rfl
  next => exact h.elim
theorem c_X5_mix : vg_MetF ww_tb ww_nw ww_shp ww_nm ww_cl ww_tyl yX5_mix cX5_mix 3 (some .long) 0 sp_X5_mix := vg_met ww_closed (by decide +kernel) rfl s_X5_mix w_X5_mix g_X5_mix
/-- the numbers of a land that one may ask for -/
def jMany (v : jN) (x : Int32) : Int32 :=
  if x = 0 then v 1 0 0 else
  if x = 1 then jHour (v 1 0 0) else
  if x = 2 then v 1 0 4 else
  if x = 3 then jSum (fun g => v 9 g 1) (jGc v) else
  if x = 4 then jSum (fun g => if jSafe v g then v 9 g 1 else 0) (jGc v) else
  if x = 5 then jSum (fun g => if jGone v g then v 9 g 1 else 0) (jGc v) else
  if x = 6 then v 1 0 6 else
  if x = 7 then jSum (fun w => jb (¬ v 11 w 7 = 0)) (jWc v) else
  if x = 8 then jSet (jDng v) 16 else
  if x = 9 then jSum (fun g => jb (jSleep v g)) (jGc v) else
  if x = 10 then v 1 0 3 else
  if x = 11 then v 1 0 2 else 0
theorem jm12 {x : Int32} (h : vp_in x 12) (n0 : ¬ x = 0) (n1 : ¬ x = 1) (n2 : ¬ x = 2) (n3 : ¬ x = 3) (n4 : ¬ x = 4) (n5 : ¬ x = 5) (n6 : ¬ x = 6) (n7 : ¬ x = 7) (n8 : ¬ x = 8) (n9 : ¬ x = 9) (n10 : ¬ x = 10) (n11 : ¬ x = 11) : False := by
  obtain ⟨k, hk, rfl⟩ := vp_in_of h (by decide)
  match k, hk with
  | 0, _ => exact n0 rfl
  | 1, _ => exact n1 rfl
  | 2, _ => exact n2 rfl
  | 3, _ => exact n3 rfl
  | 4, _ => exact n4 rfl
  | 5, _ => exact n5 rfl
  | 6, _ => exact n6 rfl
  | 7, _ => exact n7 rfl
  | 8, _ => exact n8 rfl
  | 9, _ => exact n9 rfl
  | 10, _ => exact n10 rfl
  | 11, _ => exact n11 rfl
def sp_X5_many : vgC := fun av σ => match av with
  | [.inr (0, 0, 0), .inl (.int x)] => (jWf (jV σ 0) ∧ vp_in x 12, some (.inl (.int (jMany (jV σ 0) x))), σ)
  | _ => (False, none, σ)
def k_X5_many : List (Nat × vgF) := [(0, vi_iload 1 1), (1, vi_sw [(0, 64), (1, 72), (2, 80), (3, 88), (4, 96), (5, 104), (6, 112), (7, 120), (8, 128), (9, 136), (10, 144), (11, 152)] 160), (64, vi_aload 0 65), (65, vi_get ww_shp 0 0 68), (68, vi_get ww_shp 1 0 71), (71, vi_ret), (72, vi_aload 0 73), (73, vi_get ww_shp 0 0 76), (76, vi_callV ww_shp 1 sp_X1_hourNow 0 79), (79, vi_ret), (80, vi_aload 0 81), (81, vi_get ww_shp 0 0 84), (84, vi_get ww_shp 1 4 87), (87, vi_ret), (88, vi_aload 0 89), (89, vi_get ww_shp 0 0 92), (92, vi_callV ww_shp 1 sp_X1_peopleOfAll 0 95), (95, vi_ret), (96, vi_aload 0 97), (97, vi_get ww_shp 0 0 100), (100, vi_callV ww_shp 1 sp_X1_peopleSafe 0 103), (103, vi_ret), (104, vi_aload 0 105), (105, vi_get ww_shp 0 0 108), (108, vi_callV ww_shp 1 sp_X1_peopleGone 0 111), (111, vi_ret), (112, vi_aload 0 113), (113, vi_get ww_shp 0 0 116), (116, vi_get ww_shp 1 6 119), (119, vi_ret), (120, vi_aload 0 121), (121, vi_get ww_shp 0 0 124), (124, vi_callV ww_shp 1 sp_X1_countInForce 0 127), (127, vi_ret), (128, vi_aload 0 129), (129, vi_get ww_shp 0 0 132), (132, vi_callV ww_shp 1 sp_X1_cellsInDanger 0 135), (135, vi_ret), (136, vi_aload 0 137), (137, vi_get ww_shp 0 0 140), (140, vi_callV ww_shp 1 sp_X1_countAsleep 0 143), (143, vi_ret), (144, vi_aload 0 145), (145, vi_get ww_shp 0 0 148), (148, vi_get ww_shp 1 3 151), (151, vi_ret), (152, vi_aload 0 153), (153, vi_get ww_shp 0 0 156), (156, vi_get ww_shp 1 2 159), (159, vi_ret), (160, vi_no)]
set_option maxRecDepth 20000 in
theorem s_X5_many : ∀ q ∈ k_X5_many, vg_Snd ww_tb ww_nw ww_shp ww_nm ww_cl ww_tyl cX5_many 2 RX5 (some .int) 4 q.1 q.2 := by
  refine vg_cons (vs_iload_n dX5_many_0 rfl rfl) ?_
  refine vg_cons (vs_tsw dX5_many_1 (by decide) (by decide) (by intro i hi; match i, hi with | 0, _ => exact ⟨(0, 64), 63, rfl, rfl, by decide, by decide⟩ | 1, _ => exact ⟨(1, 72), 71, rfl, rfl, by decide, by decide⟩ | 2, _ => exact ⟨(2, 80), 79, rfl, rfl, by decide, by decide⟩ | 3, _ => exact ⟨(3, 88), 87, rfl, rfl, by decide, by decide⟩ | 4, _ => exact ⟨(4, 96), 95, rfl, rfl, by decide, by decide⟩ | 5, _ => exact ⟨(5, 104), 103, rfl, rfl, by decide, by decide⟩ | 6, _ => exact ⟨(6, 112), 111, rfl, rfl, by decide, by decide⟩ | 7, _ => exact ⟨(7, 120), 119, rfl, rfl, by decide, by decide⟩ | 8, _ => exact ⟨(8, 128), 127, rfl, rfl, by decide, by decide⟩ | 9, _ => exact ⟨(9, 136), 135, rfl, rfl, by decide, by decide⟩ | 10, _ => exact ⟨(10, 144), 143, rfl, rfl, by decide, by decide⟩ | 11, _ => exact ⟨(11, 152), 151, rfl, rfl, by decide, by decide⟩)) ?_
  refine vg_cons (vs_aload_n dX5_many_64 rfl rfl) ?_
  refine vg_cons (vs_getfield (T := TX5) dX5_many_65 rfl (by decide) ww_inX5 q_197 rfl) ?_
  refine vg_cons (vs_getfield (T := TX1) dX5_many_68 rfl (by decide) ww_inX1 q_205 rfl) ?_
  refine vg_cons (vs_ireturn dX5_many_71 rfl) ?_
  refine vg_cons (vs_aload_n dX5_many_72 rfl rfl) ?_
  refine vg_cons (vs_getfield (T := TX5) dX5_many_73 rfl (by decide) ww_inX5 q_197 rfl) ?_
  refine vg_cons (vs_callV (T := TX1) c_X1_hourNow dX5_many_76 rfl ww_good q_11 q_12 q_206 q_14 q_15 (by decide +kernel) (by decide) rfl) ?_
  refine vg_cons (vs_ireturn dX5_many_79 rfl) ?_
  refine vg_cons (vs_aload_n dX5_many_80 rfl rfl) ?_
  refine vg_cons (vs_getfield (T := TX5) dX5_many_81 rfl (by decide) ww_inX5 q_197 rfl) ?_
  refine vg_cons (vs_getfield (T := TX1) dX5_many_84 rfl (by decide) ww_inX1 q_198 rfl) ?_
  refine vg_cons (vs_ireturn dX5_many_87 rfl) ?_
  refine vg_cons (vs_aload_n dX5_many_88 rfl rfl) ?_
  refine vg_cons (vs_getfield (T := TX5) dX5_many_89 rfl (by decide) ww_inX5 q_197 rfl) ?_
  refine vg_cons (vs_callV (T := TX1) c_X1_peopleOfAll dX5_many_92 rfl ww_good q_207 q_12 q_208 q_209 q_210 (by decide +kernel) (by decide) rfl) ?_
  refine vg_cons (vs_ireturn dX5_many_95 rfl) ?_
  refine vg_cons (vs_aload_n dX5_many_96 rfl rfl) ?_
  refine vg_cons (vs_getfield (T := TX5) dX5_many_97 rfl (by decide) ww_inX5 q_197 rfl) ?_
  refine vg_cons (vs_callV (T := TX1) c_X1_peopleSafe dX5_many_100 rfl ww_good q_211 q_12 q_212 q_213 q_214 (by decide +kernel) (by decide) rfl) ?_
  refine vg_cons (vs_ireturn dX5_many_103 rfl) ?_
  refine vg_cons (vs_aload_n dX5_many_104 rfl rfl) ?_
  refine vg_cons (vs_getfield (T := TX5) dX5_many_105 rfl (by decide) ww_inX5 q_197 rfl) ?_
  refine vg_cons (vs_callV (T := TX1) c_X1_peopleGone dX5_many_108 rfl ww_good q_215 q_12 q_216 q_217 q_218 (by decide +kernel) (by decide) rfl) ?_
  refine vg_cons (vs_ireturn dX5_many_111 rfl) ?_
  refine vg_cons (vs_aload_n dX5_many_112 rfl rfl) ?_
  refine vg_cons (vs_getfield (T := TX5) dX5_many_113 rfl (by decide) ww_inX5 q_197 rfl) ?_
  refine vg_cons (vs_getfield (T := TX1) dX5_many_116 rfl (by decide) ww_inX1 q_199 rfl) ?_
  refine vg_cons (vs_ireturn dX5_many_119 rfl) ?_
  refine vg_cons (vs_aload_n dX5_many_120 rfl rfl) ?_
  refine vg_cons (vs_getfield (T := TX5) dX5_many_121 rfl (by decide) ww_inX5 q_197 rfl) ?_
  refine vg_cons (vs_callV (T := TX1) c_X1_countInForce dX5_many_124 rfl ww_good q_219 q_12 q_220 q_221 q_222 (by decide +kernel) (by decide) rfl) ?_
  refine vg_cons (vs_ireturn dX5_many_127 rfl) ?_
  refine vg_cons (vs_aload_n dX5_many_128 rfl rfl) ?_
  refine vg_cons (vs_getfield (T := TX5) dX5_many_129 rfl (by decide) ww_inX5 q_197 rfl) ?_
  refine vg_cons (vs_callV (T := TX1) c_X1_cellsInDanger dX5_many_132 rfl ww_good q_223 q_12 q_224 q_225 q_226 (by decide +kernel) (by decide) rfl) ?_
  refine vg_cons (vs_ireturn dX5_many_135 rfl) ?_
  refine vg_cons (vs_aload_n dX5_many_136 rfl rfl) ?_
  refine vg_cons (vs_getfield (T := TX5) dX5_many_137 rfl (by decide) ww_inX5 q_197 rfl) ?_
  refine vg_cons (vs_callV (T := TX1) c_X1_countAsleep dX5_many_140 rfl ww_good q_227 q_12 q_228 q_229 q_230 (by decide +kernel) (by decide) rfl) ?_
  refine vg_cons (vs_ireturn dX5_many_143 rfl) ?_
  refine vg_cons (vs_aload_n dX5_many_144 rfl rfl) ?_
  refine vg_cons (vs_getfield (T := TX5) dX5_many_145 rfl (by decide) ww_inX5 q_197 rfl) ?_
  refine vg_cons (vs_getfield (T := TX1) dX5_many_148 rfl (by decide) ww_inX1 q_231 rfl) ?_
  refine vg_cons (vs_ireturn dX5_many_151 rfl) ?_
  refine vg_cons (vs_aload_n dX5_many_152 rfl rfl) ?_
  refine vg_cons (vs_getfield (T := TX5) dX5_many_153 rfl (by decide) ww_inX5 q_197 rfl) ?_
  refine vg_cons (vs_getfield (T := TX1) dX5_many_156 rfl (by decide) ww_inX1 q_232 rfl) ?_
  refine vg_cons (vs_ireturn dX5_many_159 rfl) ?_
  refine vg_cons (vs_no) ?_
  exact fun _ h => absurd h List.not_mem_nil
theorem m_X5_many : vg_Code k_X5_many := fun q h => (s_X5_many q h).1

theorem w_X5_many : vg_Wd sp_X5_many 2 := by
  intro av σ h
  unfold sp_X5_many at h
  split at h
  · exact Nat.le_of_ble_eq_true rfl
  · exact h.elim
theorem g_X5_many : vg_G k_X5_many sp_X5_many := by
  intro av σ h
  unfold sp_X5_many at h ⊢
  split at h
  next x =>
    obtain ⟨hw, hx⟩ := h
    refine vg_run (cuts := []) m_X5_many 20 ?_
    exact And.intro (fun (h : x = 0) => And.intro (show (some (Sum.inl (Value.int ((jV σ 0) 1 0 0))) : Option vgV) = some (Sum.inl (Value.int (jMany (jV σ 0) x))) from by rw [h]; rfl) rfl) (fun (n0 : ¬ x = 0) => And.intro (fun (h : x = 1) => And.intro trivial (And.intro (show (some (Sum.inl (Value.int (jHour ((jV σ 0) 1 0 0)))) : Option vgV) = some (Sum.inl (Value.int (jMany (jV σ 0) x))) from by rw [h]; rfl) rfl)) (fun (n1 : ¬ x = 1) => And.intro (fun (h : x = 2) => And.intro (show (some (Sum.inl (Value.int ((jV σ 0) 1 0 4))) : Option vgV) = some (Sum.inl (Value.int (jMany (jV σ 0) x))) from by rw [h]; rfl) rfl) (fun (n2 : ¬ x = 2) => And.intro (fun (h : x = 3) => And.intro hw (And.intro (show (some (Sum.inl (Value.int (jSum (fun g => (jV σ 0) 9 g 1) (jGc (jV σ 0))))) : Option vgV) = some (Sum.inl (Value.int (jMany (jV σ 0) x))) from by rw [h]; rfl) rfl)) (fun (n3 : ¬ x = 3) => And.intro (fun (h : x = 4) => And.intro hw (And.intro (show (some (Sum.inl (Value.int (jSum (fun g => if jSafe (jV σ 0) g then (jV σ 0) 9 g 1 else 0) (jGc (jV σ 0))))) : Option vgV) = some (Sum.inl (Value.int (jMany (jV σ 0) x))) from by rw [h]; rfl) rfl)) (fun (n4 : ¬ x = 4) => And.intro (fun (h : x = 5) => And.intro hw (And.intro (show (some (Sum.inl (Value.int (jSum (fun g => if jGone (jV σ 0) g then (jV σ 0) 9 g 1 else 0) (jGc (jV σ 0))))) : Option vgV) = some (Sum.inl (Value.int (jMany (jV σ 0) x))) from by rw [h]; rfl) rfl)) (fun (n5 : ¬ x = 5) => And.intro (fun (h : x = 6) => And.intro (show (some (Sum.inl (Value.int ((jV σ 0) 1 0 6))) : Option vgV) = some (Sum.inl (Value.int (jMany (jV σ 0) x))) from by rw [h]; rfl) rfl) (fun (n6 : ¬ x = 6) => And.intro (fun (h : x = 7) => And.intro hw (And.intro (show (some (Sum.inl (Value.int (jSum (fun w => jb (¬ (jV σ 0) 11 w 7 = 0)) (jWc (jV σ 0))))) : Option vgV) = some (Sum.inl (Value.int (jMany (jV σ 0) x))) from by rw [h]; rfl) rfl)) (fun (n7 : ¬ x = 7) => And.intro (fun (h : x = 8) => And.intro trivial (And.intro (show (some (Sum.inl (Value.int (jSet (jDng (jV σ 0)) 16))) : Option vgV) = some (Sum.inl (Value.int (jMany (jV σ 0) x))) from by rw [h]; rfl) rfl)) (fun (n8 : ¬ x = 8) => And.intro (fun (h : x = 9) => And.intro hw (And.intro (show (some (Sum.inl (Value.int (jSum (fun g => jb (jSleep (jV σ 0) g)) (jGc (jV σ 0))))) : Option vgV) = some (Sum.inl (Value.int (jMany (jV σ 0) x))) from by rw [h]; rfl) rfl)) (fun (n9 : ¬ x = 9) => And.intro (fun (h : x = 10) => And.intro (show (some (Sum.inl (Value.int ((jV σ 0) 1 0 3))) : Option vgV) = some (Sum.inl (Value.int (jMany (jV σ 0) x))) from by rw [h]; rfl) rfl) (fun (n10 : ¬ x = 10) => And.intro (fun (h : x = 11) => And.intro (show (some (Sum.inl (Value.int ((jV σ 0) 1 0 2))) : Option vgV) = some (Sum.inl (Value.int (jMany (jV σ 0) x))) from by rw [h]; rfl) rfl) (fun (n11 : ¬ x = 11) => (jm12 hx n0 n1 n2 n3 n4 n5 n6 n7 n8 n9 n10 n11).elim))))))))))))
  next => exact h.elim
theorem c_X5_many : vg_MetF ww_tb ww_nw ww_shp ww_nm ww_cl ww_tyl yX5_many cX5_many 2 (some .int) 4 sp_X5_many := vg_met ww_closed (by decide +kernel) rfl s_X5_many w_X5_many g_X5_many
def sp_X5_roomIn : vgC := fun av σ => match av with
  | [.inr (0, 0, 0), .inl (.int x)] => (jWf (jV σ 0) ∧ vp_in x (jSc (jV σ 0)), some (.inl (.int (jV σ 0 10 x.toNatClampNeg 1))), σ)
  | _ => (False, none, σ)
def k_X5_roomIn : List (Nat × vgF) := [(0, vi_iload 1 1), (1, vi_if (fun x => x < 0) 15 4), (4, vi_iload 1 5), (5, vi_aload 0 6), (6, vi_get ww_shp 0 0 9), (9, vi_get ww_shp 1 5 12), (12, vi_cmp (fun x y => x < y) 25 15), (15, vi_no), (25, vi_aload 0 26), (26, vi_get ww_shp 0 0 29), (29, vi_get ww_shp 1 8 32), (32, vi_iload 1 33), (33, vi_aald ww_shp 3 34), (34, vi_get ww_shp 3 1 37), (37, vi_ret)]
set_option maxRecDepth 20000 in
theorem s_X5_roomIn : ∀ q ∈ k_X5_roomIn, vg_Snd ww_tb ww_nw ww_shp ww_nm ww_cl ww_tyl cX5_roomIn 2 RX5 (some .int) 0 q.1 q.2 := by
  refine vg_cons (vs_iload_n dX5_roomIn_0 rfl rfl) ?_
  refine vg_cons (vs_if_lt dX5_roomIn_1 (by decide) rfl) ?_
  refine vg_cons (vs_iload_n dX5_roomIn_4 rfl rfl) ?_
  refine vg_cons (vs_aload_n dX5_roomIn_5 rfl rfl) ?_
  refine vg_cons (vs_getfield (T := TX5) dX5_roomIn_6 rfl (by decide) ww_inX5 q_197 rfl) ?_
  refine vg_cons (vs_getfield (T := TX1) dX5_roomIn_9 rfl (by decide) ww_inX1 q_233 rfl) ?_
  refine vg_cons (vs_cmp_lt dX5_roomIn_12 (by decide) rfl) ?_
  refine vg_cons (vs_no) ?_
  refine vg_cons (vs_aload_n dX5_roomIn_25 rfl rfl) ?_
  refine vg_cons (vs_getfield (T := TX5) dX5_roomIn_26 rfl (by decide) ww_inX5 q_197 rfl) ?_
  refine vg_cons (vs_getfield (T := TX1) dX5_roomIn_29 rfl (by decide) ww_inX1 q_234 rfl) ?_
  refine vg_cons (vs_iload_n dX5_roomIn_32 rfl rfl) ?_
  refine vg_cons (vs_aaload dX5_roomIn_33 rfl rfl) ?_
  refine vg_cons (vs_getfield (T := TX3) dX5_roomIn_34 rfl (by decide) ww_inX3 q_235 rfl) ?_
  refine vg_cons (vs_ireturn dX5_roomIn_37 rfl) ?_
  exact fun _ h => absurd h List.not_mem_nil
theorem m_X5_roomIn : vg_Code k_X5_roomIn := fun q h => (s_X5_roomIn q h).1

theorem w_X5_roomIn : vg_Wd sp_X5_roomIn 2 := by
  intro av σ h
  unfold sp_X5_roomIn at h
  split at h
  · exact Nat.le_of_ble_eq_true rfl
  · exact h.elim
theorem g_X5_roomIn : vg_G k_X5_roomIn sp_X5_roomIn := by
  intro av σ h
  unfold sp_X5_roomIn at h ⊢
  split at h
  next x =>
    obtain ⟨hw, h⟩ := h
    have hb := hw.2.1.2
    have hl := jlt h (by omega)
    have hl2 : x < σ (1, 0, 0) 5 := by
      have z := hl.2
      rw [← hw.2.1.1] at z
      exact z
    have h3 : vp_in x 3 := by
      obtain ⟨j, hj, rfl⟩ := vp_in_of h (by omega)
      exact vp_in_nI (by omega) (by decide)
    refine vg_run (cuts := []) m_X5_roomIn 20 ?_
    exact And.intro (fun z => absurd z hl.1) (fun _ => And.intro (fun _ => And.intro h3 (And.intro rfl rfl)) (fun z => absurd hl2 z))
  next => exact h.elim
theorem c_X5_roomIn : vg_MetF ww_tb ww_nw ww_shp ww_nm ww_cl ww_tyl yX5_roomIn cX5_roomIn 2 (some .int) 0 sp_X5_roomIn := vg_met ww_closed (by decide +kernel) rfl s_X5_roomIn w_X5_roomIn g_X5_roomIn
