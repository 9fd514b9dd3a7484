-- words of the tables, and what stands at each place of the methods' code (laid by program)
theorem q_339 : Cond.constantLong RX5 290 (4814) ∈ ww_tb := by decide +kernel
theorem q_340 : Cond.code yX5_many cX5_many 2 (some .int) ∈ ww_tb := by decide +kernel
theorem q_341 : Cond.methodLink RX5 292 yX5_many ∈ ww_tb := by decide +kernel
theorem q_342 : Cond.instanceMethod yX5_many ∈ ww_tb := by decide +kernel
theorem q_343 : Cond.selects RX5 yX5_many yX5_many ∈ ww_tb := by decide +kernel
theorem q_344 : Cond.code yX5_ofGroup cX5_ofGroup 4 (some .int) ∈ ww_tb := by decide +kernel
theorem q_345 : Cond.methodLink RX5 299 yX5_ofGroup ∈ ww_tb := by decide +kernel
theorem q_346 : Cond.instanceMethod yX5_ofGroup ∈ ww_tb := by decide +kernel
theorem q_347 : Cond.selects RX5 yX5_ofGroup yX5_ofGroup ∈ ww_tb := by decide +kernel
theorem q_348 : Cond.code yX5_safeIn cX5_safeIn 4 (some .int) ∈ ww_tb := by decide +kernel
theorem q_349 : Cond.methodLink RX5 302 yX5_safeIn ∈ ww_tb := by decide +kernel
theorem q_350 : Cond.instanceMethod yX5_safeIn ∈ ww_tb := by decide +kernel
theorem q_351 : Cond.selects RX5 yX5_safeIn yX5_safeIn ∈ ww_tb := by decide +kernel
theorem q_352 : Cond.code yX5_mixHeard cX5_mixHeard 8 (some .long) ∈ ww_tb := by decide +kernel
theorem q_353 : Cond.methodLink RX5 305 yX5_mixHeard ∈ ww_tb := by decide +kernel
theorem q_354 : Cond.instanceMethod yX5_mixHeard ∈ ww_tb := by decide +kernel
theorem q_355 : Cond.selects RX5 yX5_mixHeard yX5_mixHeard ∈ ww_tb := by decide +kernel
theorem q_356 : Cond.code yX5_ofWarning cX5_ofWarning 4 (some .int) ∈ ww_tb := by decide +kernel
theorem q_357 : Cond.methodLink RX5 308 yX5_ofWarning ∈ ww_tb := by decide +kernel
theorem q_358 : Cond.instanceMethod yX5_ofWarning ∈ ww_tb := by decide +kernel
theorem q_359 : Cond.selects RX5 yX5_ofWarning yX5_ofWarning ∈ ww_tb := by decide +kernel
theorem q_360 : Cond.code yX5_inForce cX5_inForce 3 (some .int) ∈ ww_tb := by decide +kernel
theorem q_361 : Cond.methodLink RX5 311 yX5_inForce ∈ ww_tb := by decide +kernel
theorem q_362 : Cond.instanceMethod yX5_inForce ∈ ww_tb := by decide +kernel
theorem q_363 : Cond.selects RX5 yX5_inForce yX5_inForce ∈ ww_tb := by decide +kernel
theorem q_364 : Cond.code yX5_roomIn cX5_roomIn 2 (some .int) ∈ ww_tb := by decide +kernel
theorem q_365 : Cond.methodLink RX5 314 yX5_roomIn ∈ ww_tb := by decide +kernel
theorem q_366 : Cond.instanceMethod yX5_roomIn ∈ ww_tb := by decide +kernel
theorem q_367 : Cond.selects RX5 yX5_roomIn yX5_roomIn ∈ ww_tb := by decide +kernel
theorem q_368 : Cond.code yX5_sirenWould cX5_sirenWould 5 (some .int) ∈ ww_tb := by decide +kernel
theorem q_369 : Cond.methodLink RX5 317 yX5_sirenWould ∈ ww_tb := by decide +kernel
theorem q_370 : Cond.instanceMethod yX5_sirenWould ∈ ww_tb := by decide +kernel
theorem q_371 : Cond.selects RX5 yX5_sirenWould yX5_sirenWould ∈ ww_tb := by decide +kernel
theorem dX5_digest_0 : decode cX5_digest 0 = .ok (.ldc2_w 290, 3) := by decide +kernel
theorem dX5_digest_3 : decode cX5_digest 3 = .ok (.lstore_n 1, 1) := by decide +kernel
theorem dX5_digest_4 : decode cX5_digest 4 = .ok (.iconst 0, 1) := by decide +kernel
theorem dX5_digest_5 : decode cX5_digest 5 = .ok (.istore_n 3, 1) := by decide +kernel
theorem dX5_digest_6 : decode cX5_digest 6 = .ok (.iload_n 3, 1) := by decide +kernel
theorem dX5_digest_7 : decode cX5_digest 7 = .ok (.bipush 11, 2) := by decide +kernel
theorem dX5_digest_9 : decode cX5_digest 9 = .ok (.if_icmp .gt 19, 3) := by decide +kernel
theorem dX5_digest_12 : decode cX5_digest 12 = .ok (.lload_n 1, 1) := by decide +kernel
theorem dX5_digest_13 : decode cX5_digest 13 = .ok (.aload_n 0, 1) := by decide +kernel
theorem dX5_digest_14 : decode cX5_digest 14 = .ok (.iload_n 3, 1) := by decide +kernel
theorem dX5_digest_15 : decode cX5_digest 15 = .ok (.invokevirtual 292, 3) := by decide +kernel
theorem dX5_digest_18 : decode cX5_digest 18 = .ok (.invokestatic 295, 3) := by decide +kernel
theorem dX5_digest_21 : decode cX5_digest 21 = .ok (.lstore_n 1, 1) := by decide +kernel
theorem dX5_digest_22 : decode cX5_digest 22 = .ok (.iinc 3 1, 3) := by decide +kernel
theorem dX5_digest_25 : decode cX5_digest 25 = .ok (.goto (-19), 3) := by decide +kernel
theorem dX5_digest_28 : decode cX5_digest 28 = .ok (.iconst 0, 1) := by decide +kernel
theorem dX5_digest_29 : decode cX5_digest 29 = .ok (.istore_n 3, 1) := by decide +kernel
theorem dX5_digest_30 : decode cX5_digest 30 = .ok (.iload_n 3, 1) := by decide +kernel
theorem dX5_digest_31 : decode cX5_digest 31 = .ok (.aload_n 0, 1) := by decide +kernel
theorem dX5_digest_32 : decode cX5_digest 32 = .ok (.getfield 10, 3) := by decide +kernel
theorem dX5_digest_35 : decode cX5_digest 35 = .ok (.getfield 27, 3) := by decide +kernel
theorem dX5_digest_38 : decode cX5_digest 38 = .ok (.if_icmp .ge 56, 3) := by decide +kernel
theorem dX5_digest_41 : decode cX5_digest 41 = .ok (.iconst 0, 1) := by decide +kernel
theorem dX5_digest_42 : decode cX5_digest 42 = .ok (.istore 4, 2) := by decide +kernel
theorem dX5_digest_44 : decode cX5_digest 44 = .ok (.iload 4, 2) := by decide +kernel
theorem dX5_digest_46 : decode cX5_digest 46 = .ok (.bipush 8, 2) := by decide +kernel
theorem dX5_digest_48 : decode cX5_digest 48 = .ok (.if_icmp .gt 21, 3) := by decide +kernel
theorem dX5_digest_51 : decode cX5_digest 51 = .ok (.lload_n 1, 1) := by decide +kernel
theorem dX5_digest_52 : decode cX5_digest 52 = .ok (.aload_n 0, 1) := by decide +kernel
theorem dX5_digest_53 : decode cX5_digest 53 = .ok (.iload_n 3, 1) := by decide +kernel
theorem dX5_digest_54 : decode cX5_digest 54 = .ok (.iload 4, 2) := by decide +kernel
theorem dX5_digest_56 : decode cX5_digest 56 = .ok (.invokevirtual 299, 3) := by decide +kernel
theorem dX5_digest_59 : decode cX5_digest 59 = .ok (.invokestatic 295, 3) := by decide +kernel
theorem dX5_digest_62 : decode cX5_digest 62 = .ok (.lstore_n 1, 1) := by decide +kernel
theorem dX5_digest_63 : decode cX5_digest 63 = .ok (.iinc 4 1, 3) := by decide +kernel
theorem dX5_digest_66 : decode cX5_digest 66 = .ok (.goto (-22), 3) := by decide +kernel
theorem dX5_digest_69 : decode cX5_digest 69 = .ok (.lload_n 1, 1) := by decide +kernel
theorem dX5_digest_70 : decode cX5_digest 70 = .ok (.aload_n 0, 1) := by decide +kernel
theorem dX5_digest_71 : decode cX5_digest 71 = .ok (.iload_n 3, 1) := by decide +kernel
theorem dX5_digest_72 : decode cX5_digest 72 = .ok (.bipush 9, 2) := by decide +kernel
theorem dX5_digest_74 : decode cX5_digest 74 = .ok (.invokevirtual 302, 3) := by decide +kernel
theorem dX5_digest_77 : decode cX5_digest 77 = .ok (.invokestatic 295, 3) := by decide +kernel
theorem dX5_digest_80 : decode cX5_digest 80 = .ok (.lstore_n 1, 1) := by decide +kernel
theorem dX5_digest_81 : decode cX5_digest 81 = .ok (.aload_n 0, 1) := by decide +kernel
theorem dX5_digest_82 : decode cX5_digest 82 = .ok (.lload_n 1, 1) := by decide +kernel
theorem dX5_digest_83 : decode cX5_digest 83 = .ok (.iload_n 3, 1) := by decide +kernel
theorem dX5_digest_84 : decode cX5_digest 84 = .ok (.invokevirtual 305, 3) := by decide +kernel
theorem dX5_digest_87 : decode cX5_digest 87 = .ok (.lstore_n 1, 1) := by decide +kernel
theorem dX5_digest_88 : decode cX5_digest 88 = .ok (.iinc 3 1, 3) := by decide +kernel
theorem dX5_digest_91 : decode cX5_digest 91 = .ok (.goto (-61), 3) := by decide +kernel
theorem dX5_digest_94 : decode cX5_digest 94 = .ok (.iconst 0, 1) := by decide +kernel
theorem dX5_digest_95 : decode cX5_digest 95 = .ok (.istore_n 3, 1) := by decide +kernel
theorem dX5_digest_96 : decode cX5_digest 96 = .ok (.iload_n 3, 1) := by decide +kernel
theorem dX5_digest_97 : decode cX5_digest 97 = .ok (.aload_n 0, 1) := by decide +kernel
theorem dX5_digest_98 : decode cX5_digest 98 = .ok (.getfield 10, 3) := by decide +kernel
theorem dX5_digest_101 : decode cX5_digest 101 = .ok (.getfield 249, 3) := by decide +kernel
theorem dX5_digest_104 : decode cX5_digest 104 = .ok (.if_icmp .ge 37, 3) := by decide +kernel
theorem dX5_digest_107 : decode cX5_digest 107 = .ok (.iconst 0, 1) := by decide +kernel
theorem dX5_digest_108 : decode cX5_digest 108 = .ok (.istore 4, 2) := by decide +kernel
theorem dX5_digest_110 : decode cX5_digest 110 = .ok (.iload 4, 2) := by decide +kernel
theorem dX5_digest_112 : decode cX5_digest 112 = .ok (.bipush 8, 2) := by decide +kernel
theorem dX5_digest_114 : decode cX5_digest 114 = .ok (.if_icmp .gt 21, 3) := by decide +kernel
theorem dX5_digest_117 : decode cX5_digest 117 = .ok (.lload_n 1, 1) := by decide +kernel
theorem dX5_digest_118 : decode cX5_digest 118 = .ok (.aload_n 0, 1) := by decide +kernel
theorem dX5_digest_119 : decode cX5_digest 119 = .ok (.iload_n 3, 1) := by decide +kernel
theorem dX5_digest_120 : decode cX5_digest 120 = .ok (.iload 4, 2) := by decide +kernel
theorem dX5_digest_122 : decode cX5_digest 122 = .ok (.invokevirtual 308, 3) := by decide +kernel
theorem dX5_digest_125 : decode cX5_digest 125 = .ok (.invokestatic 295, 3) := by decide +kernel
theorem dX5_digest_128 : decode cX5_digest 128 = .ok (.lstore_n 1, 1) := by decide +kernel
theorem dX5_digest_129 : decode cX5_digest 129 = .ok (.iinc 4 1, 3) := by decide +kernel
theorem dX5_digest_132 : decode cX5_digest 132 = .ok (.goto (-22), 3) := by decide +kernel
theorem dX5_digest_135 : decode cX5_digest 135 = .ok (.iinc 3 1, 3) := by decide +kernel
theorem dX5_digest_138 : decode cX5_digest 138 = .ok (.goto (-42), 3) := by decide +kernel
theorem dX5_digest_141 : decode cX5_digest 141 = .ok (.iconst 0, 1) := by decide +kernel
theorem dX5_digest_142 : decode cX5_digest 142 = .ok (.istore_n 3, 1) := by decide +kernel
theorem dX5_digest_143 : decode cX5_digest 143 = .ok (.iload_n 3, 1) := by decide +kernel
theorem dX5_digest_144 : decode cX5_digest 144 = .ok (.bipush 16, 2) := by decide +kernel
theorem dX5_digest_146 : decode cX5_digest 146 = .ok (.if_icmp .ge 19, 3) := by decide +kernel
theorem dX5_digest_149 : decode cX5_digest 149 = .ok (.lload_n 1, 1) := by decide +kernel
theorem dX5_digest_150 : decode cX5_digest 150 = .ok (.aload_n 0, 1) := by decide +kernel
theorem dX5_digest_151 : decode cX5_digest 151 = .ok (.iload_n 3, 1) := by decide +kernel
theorem dX5_digest_152 : decode cX5_digest 152 = .ok (.invokevirtual 311, 3) := by decide +kernel
theorem dX5_digest_155 : decode cX5_digest 155 = .ok (.invokestatic 295, 3) := by decide +kernel
theorem dX5_digest_158 : decode cX5_digest 158 = .ok (.lstore_n 1, 1) := by decide +kernel
theorem dX5_digest_159 : decode cX5_digest 159 = .ok (.iinc 3 1, 3) := by decide +kernel
theorem dX5_digest_162 : decode cX5_digest 162 = .ok (.goto (-19), 3) := by decide +kernel
theorem dX5_digest_165 : decode cX5_digest 165 = .ok (.iconst 0, 1) := by decide +kernel
theorem dX5_digest_166 : decode cX5_digest 166 = .ok (.istore_n 3, 1) := by decide +kernel
theorem dX5_digest_167 : decode cX5_digest 167 = .ok (.iload_n 3, 1) := by decide +kernel
theorem dX5_digest_168 : decode cX5_digest 168 = .ok (.aload_n 0, 1) := by decide +kernel
theorem dX5_digest_169 : decode cX5_digest 169 = .ok (.getfield 10, 3) := by decide +kernel
theorem dX5_digest_172 : decode cX5_digest 172 = .ok (.getfield 66, 3) := by decide +kernel
theorem dX5_digest_175 : decode cX5_digest 175 = .ok (.if_icmp .ge 19, 3) := by decide +kernel
theorem dX5_digest_178 : decode cX5_digest 178 = .ok (.lload_n 1, 1) := by decide +kernel
theorem dX5_digest_179 : decode cX5_digest 179 = .ok (.aload_n 0, 1) := by decide +kernel
theorem dX5_digest_180 : decode cX5_digest 180 = .ok (.iload_n 3, 1) := by decide +kernel
theorem dX5_digest_181 : decode cX5_digest 181 = .ok (.invokevirtual 314, 3) := by decide +kernel
theorem dX5_digest_184 : decode cX5_digest 184 = .ok (.invokestatic 295, 3) := by decide +kernel
theorem dX5_digest_187 : decode cX5_digest 187 = .ok (.lstore_n 1, 1) := by decide +kernel
theorem dX5_digest_188 : decode cX5_digest 188 = .ok (.iinc 3 1, 3) := by decide +kernel
theorem dX5_digest_191 : decode cX5_digest 191 = .ok (.goto (-24), 3) := by decide +kernel
theorem dX5_digest_194 : decode cX5_digest 194 = .ok (.lload_n 1, 1) := by decide +kernel
theorem dX5_digest_195 : decode cX5_digest 195 = .ok (.aload_n 0, 1) := by decide +kernel
theorem dX5_digest_196 : decode cX5_digest 196 = .ok (.iconst 5, 1) := by decide +kernel
theorem dX5_digest_197 : decode cX5_digest 197 = .ok (.iconst 1, 1) := by decide +kernel
theorem dX5_digest_198 : decode cX5_digest 198 = .ok (.bipush 6, 2) := by decide +kernel
theorem dX5_digest_200 : decode cX5_digest 200 = .ok (.invokevirtual 317, 3) := by decide +kernel
theorem dX5_digest_203 : decode cX5_digest 203 = .ok (.invokestatic 295, 3) := by decide +kernel
theorem dX5_digest_206 : decode cX5_digest 206 = .ok (.lreturn, 1) := by decide +kernel
/-! what a land's state comes to as one number -/
def jD1 (w : jN) : Int64 := jMxN (fun x => jMany w (nI x)) 12 4814
def jDg1 (w : jN) (g : Nat) (s : Int64) : Int64 := jMxH w g (jWc w) (jMx (jMxN (fun x => jOfG w g (nI x)) 9 s) (jSafeN w g 9))
def jD2 (w : jN) : Nat → Int64
  | 0 => jD1 w
  | n + 1 => jDg1 w n (jD2 w n)
def jD3 (w : jN) : Nat → Int64
  | 0 => jD2 w (jGc w)
  | n + 1 => jMxN (fun x => jOfW w n (nI x)) 9 (jD3 w n)
def jD4 (w : jN) : Int64 := jMxN (fun x => jInf w (nI x) (jWc w)) 16 (jD3 w (jWc w))
def jD5 (w : jN) : Int64 := jMxN (fun x => w 10 x 1) (jSc w) (jD4 w)
def jDig (w : jN) : Int64 := jMx (jD5 w) (jWouldN w 5 1 6)
def k_X5_digest : List (Nat × vgF) := [(0, vi_lcst (4814) 3), (3, vi_lstore 1 4), (4, vi_icst (0) 5), (5, vi_istore 3 6), (6, vi_iload 3 7), (7, vi_icst (11) 9), (9, vi_cmp (fun x y => y < x) 28 12), (12, vi_lload 1 13), (13, vi_aload 0 14), (14, vi_iload 3 15), (15, vi_callV ww_shp 0 sp_X5_many 1 18), (18, vi_callS sp_X5_mix 2 21), (21, vi_lstore 1 22), (22, vi_iinc 3 (1) 25), (25, vi_goto 6), (28, vi_icst (0) 29), (29, vi_istore 3 30), (30, vi_iload 3 31), (31, vi_aload 0 32), (32, vi_get ww_shp 0 0 35), (35, vi_get ww_shp 1 4 38), (38, vi_cmp (fun x y => y ≤ x) 94 41), (41, vi_icst (0) 42), (42, vi_istore 4 44), (44, vi_iload 4 46), (46, vi_icst (8) 48), (48, vi_cmp (fun x y => y < x) 69 51), (51, vi_lload 1 52), (52, vi_aload 0 53), (53, vi_iload 3 54), (54, vi_iload 4 56), (56, vi_callV ww_shp 0 sp_X5_ofGroup 2 59), (59, vi_callS sp_X5_mix 2 62), (62, vi_lstore 1 63), (63, vi_iinc 4 (1) 66), (66, vi_goto 44), (69, vi_lload 1 70), (70, vi_aload 0 71), (71, vi_iload 3 72), (72, vi_icst (9) 74), (74, vi_callV ww_shp 0 sp_X5_safeIn 2 77), (77, vi_callS sp_X5_mix 2 80), (80, vi_lstore 1 81), (81, vi_aload 0 82), (82, vi_lload 1 83), (83, vi_iload 3 84), (84, vi_callV ww_shp 0 sp_X5_mixHeard 2 87), (87, vi_lstore 1 88), (88, vi_iinc 3 (1) 91), (91, vi_goto 30), (94, vi_icst (0) 95), (95, vi_istore 3 96), (96, vi_iload 3 97), (97, vi_aload 0 98), (98, vi_get ww_shp 0 0 101), (101, vi_get ww_shp 1 6 104), (104, vi_cmp (fun x y => y ≤ x) 141 107), (107, vi_icst (0) 108), (108, vi_istore 4 110), (110, vi_iload 4 112), (112, vi_icst (8) 114), (114, vi_cmp (fun x y => y < x) 135 117), (117, vi_lload 1 118), (118, vi_aload 0 119), (119, vi_iload 3 120), (120, vi_iload 4 122), (122, vi_callV ww_shp 0 sp_X5_ofWarning 2 125), (125, vi_callS sp_X5_mix 2 128), (128, vi_lstore 1 129), (129, vi_iinc 4 (1) 132), (132, vi_goto 110), (135, vi_iinc 3 (1) 138), (138, vi_goto 96), (141, vi_icst (0) 142), (142, vi_istore 3 143), (143, vi_iload 3 144), (144, vi_icst (16) 146), (146, vi_cmp (fun x y => y ≤ x) 165 149), (149, vi_lload 1 150), (150, vi_aload 0 151), (151, vi_iload 3 152), (152, vi_callV ww_shp 0 sp_X5_inForce 1 155), (155, vi_callS sp_X5_mix 2 158), (158, vi_lstore 1 159), (159, vi_iinc 3 (1) 162), (162, vi_goto 143), (165, vi_icst (0) 166), (166, vi_istore 3 167), (167, vi_iload 3 168), (168, vi_aload 0 169), (169, vi_get ww_shp 0 0 172), (172, vi_get ww_shp 1 5 175), (175, vi_cmp (fun x y => y ≤ x) 194 178), (178, vi_lload 1 179), (179, vi_aload 0 180), (180, vi_iload 3 181), (181, vi_callV ww_shp 0 sp_X5_roomIn 1 184), (184, vi_callS sp_X5_mix 2 187), (187, vi_lstore 1 188), (188, vi_iinc 3 (1) 191), (191, vi_goto 167), (194, vi_lload 1 195), (195, vi_aload 0 196), (196, vi_icst (5) 197), (197, vi_icst (1) 198), (198, vi_icst (6) 200), (200, vi_callV ww_shp 0 sp_X5_sirenWould 3 203), (203, vi_callS sp_X5_mix 2 206), (206, vi_retL)]
set_option maxRecDepth 20000 in
theorem s_X5_digest : ∀ q ∈ k_X5_digest, vg_Snd ww_tb ww_nw ww_shp ww_nm ww_cl ww_tyl cX5_digest 5 RX5 (some .long) 7 q.1 q.2 := by
  refine vg_cons (vs_ldc2 dX5_digest_0 q_339 rfl) ?_
  refine vg_cons (vs_lstore_n dX5_digest_3 rfl (by decide) rfl) ?_
  refine vg_cons (vs_iconst dX5_digest_4 rfl rfl) ?_
  refine vg_cons (vs_istore_n dX5_digest_5 rfl (by decide) rfl) ?_
  refine vg_cons (vs_iload_n dX5_digest_6 rfl rfl) ?_
  refine vg_cons (vs_bipush dX5_digest_7 (by decide) rfl) ?_
  refine vg_cons (vs_cmp_gt dX5_digest_9 (by decide) rfl) ?_
  refine vg_cons (vs_lload_n dX5_digest_12 rfl rfl) ?_
  refine vg_cons (vs_aload_n dX5_digest_13 rfl rfl) ?_
  refine vg_cons (vs_iload_n dX5_digest_14 rfl rfl) ?_
  refine vg_cons (vs_callV (T := TX5) c_X5_many dX5_digest_15 rfl ww_good q_340 q_51 q_341 q_342 q_343 (by decide +kernel) (by decide) rfl) ?_
  refine vg_cons (vs_callS c_X5_mix dX5_digest_18 ww_good q_332 q_51 q_334 q_333 (by decide +kernel) (by decide) rfl) ?_
  refine vg_cons (vs_lstore_n dX5_digest_21 rfl (by decide) rfl) ?_
  refine vg_cons (vs_iinc dX5_digest_22 rfl rfl) ?_
  refine vg_cons (vs_goto dX5_digest_25 (by decide)) ?_
  refine vg_cons (vs_iconst dX5_digest_28 rfl rfl) ?_
  refine vg_cons (vs_istore_n dX5_digest_29 rfl (by decide) rfl) ?_
  refine vg_cons (vs_iload_n dX5_digest_30 rfl rfl) ?_
  refine vg_cons (vs_aload_n dX5_digest_31 rfl rfl) ?_
  refine vg_cons (vs_getfield (T := TX5) dX5_digest_32 rfl (by decide) ww_inX5 q_197 rfl) ?_
  refine vg_cons (vs_getfield (T := TX1) dX5_digest_35 rfl (by decide) ww_inX1 q_198 rfl) ?_
  refine vg_cons (vs_cmp_ge dX5_digest_38 (by decide) rfl) ?_
  refine vg_cons (vs_iconst dX5_digest_41 rfl rfl) ?_
  refine vg_cons (vs_istore dX5_digest_42 (by decide) rfl) ?_
  refine vg_cons (vs_iload dX5_digest_44 rfl) ?_
  refine vg_cons (vs_bipush dX5_digest_46 (by decide) rfl) ?_
  refine vg_cons (vs_cmp_gt dX5_digest_48 (by decide) rfl) ?_
  refine vg_cons (vs_lload_n dX5_digest_51 rfl rfl) ?_
  refine vg_cons (vs_aload_n dX5_digest_52 rfl rfl) ?_
  refine vg_cons (vs_iload_n dX5_digest_53 rfl rfl) ?_
  refine vg_cons (vs_iload dX5_digest_54 rfl) ?_
  refine vg_cons (vs_callV (T := TX5) c_X5_ofGroup dX5_digest_56 rfl ww_good q_344 q_51 q_345 q_346 q_347 (by decide +kernel) (by decide) rfl) ?_
  refine vg_cons (vs_callS c_X5_mix dX5_digest_59 ww_good q_332 q_51 q_334 q_333 (by decide +kernel) (by decide) rfl) ?_
  refine vg_cons (vs_lstore_n dX5_digest_62 rfl (by decide) rfl) ?_
  refine vg_cons (vs_iinc dX5_digest_63 rfl rfl) ?_
  refine vg_cons (vs_goto dX5_digest_66 (by decide)) ?_
  refine vg_cons (vs_lload_n dX5_digest_69 rfl rfl) ?_
  refine vg_cons (vs_aload_n dX5_digest_70 rfl rfl) ?_
  refine vg_cons (vs_iload_n dX5_digest_71 rfl rfl) ?_
  refine vg_cons (vs_bipush dX5_digest_72 (by decide) rfl) ?_
  refine vg_cons (vs_callV (T := TX5) c_X5_safeIn dX5_digest_74 rfl ww_good q_348 q_51 q_349 q_350 q_351 (by decide +kernel) (by decide) rfl) ?_
  refine vg_cons (vs_callS c_X5_mix dX5_digest_77 ww_good q_332 q_51 q_334 q_333 (by decide +kernel) (by decide) rfl) ?_
  refine vg_cons (vs_lstore_n dX5_digest_80 rfl (by decide) rfl) ?_
  refine vg_cons (vs_aload_n dX5_digest_81 rfl rfl) ?_
  refine vg_cons (vs_lload_n dX5_digest_82 rfl rfl) ?_
  refine vg_cons (vs_iload_n dX5_digest_83 rfl rfl) ?_
  refine vg_cons (vs_callV (T := TX5) c_X5_mixHeard dX5_digest_84 rfl ww_good q_352 q_51 q_353 q_354 q_355 (by decide +kernel) (by decide) rfl) ?_
  refine vg_cons (vs_lstore_n dX5_digest_87 rfl (by decide) rfl) ?_
  refine vg_cons (vs_iinc dX5_digest_88 rfl rfl) ?_
  refine vg_cons (vs_goto dX5_digest_91 (by decide)) ?_
  refine vg_cons (vs_iconst dX5_digest_94 rfl rfl) ?_
  refine vg_cons (vs_istore_n dX5_digest_95 rfl (by decide) rfl) ?_
  refine vg_cons (vs_iload_n dX5_digest_96 rfl rfl) ?_
  refine vg_cons (vs_aload_n dX5_digest_97 rfl rfl) ?_
  refine vg_cons (vs_getfield (T := TX5) dX5_digest_98 rfl (by decide) ww_inX5 q_197 rfl) ?_
  refine vg_cons (vs_getfield (T := TX1) dX5_digest_101 rfl (by decide) ww_inX1 q_199 rfl) ?_
  refine vg_cons (vs_cmp_ge dX5_digest_104 (by decide) rfl) ?_
  refine vg_cons (vs_iconst dX5_digest_107 rfl rfl) ?_
  refine vg_cons (vs_istore dX5_digest_108 (by decide) rfl) ?_
  refine vg_cons (vs_iload dX5_digest_110 rfl) ?_
  refine vg_cons (vs_bipush dX5_digest_112 (by decide) rfl) ?_
  refine vg_cons (vs_cmp_gt dX5_digest_114 (by decide) rfl) ?_
  refine vg_cons (vs_lload_n dX5_digest_117 rfl rfl) ?_
  refine vg_cons (vs_aload_n dX5_digest_118 rfl rfl) ?_
  refine vg_cons (vs_iload_n dX5_digest_119 rfl rfl) ?_
  refine vg_cons (vs_iload dX5_digest_120 rfl) ?_
  refine vg_cons (vs_callV (T := TX5) c_X5_ofWarning dX5_digest_122 rfl ww_good q_356 q_51 q_357 q_358 q_359 (by decide +kernel) (by decide) rfl) ?_
  refine vg_cons (vs_callS c_X5_mix dX5_digest_125 ww_good q_332 q_51 q_334 q_333 (by decide +kernel) (by decide) rfl) ?_
  refine vg_cons (vs_lstore_n dX5_digest_128 rfl (by decide) rfl) ?_
  refine vg_cons (vs_iinc dX5_digest_129 rfl rfl) ?_
  refine vg_cons (vs_goto dX5_digest_132 (by decide)) ?_
  refine vg_cons (vs_iinc dX5_digest_135 rfl rfl) ?_
  refine vg_cons (vs_goto dX5_digest_138 (by decide)) ?_
  refine vg_cons (vs_iconst dX5_digest_141 rfl rfl) ?_
  refine vg_cons (vs_istore_n dX5_digest_142 rfl (by decide) rfl) ?_
  refine vg_cons (vs_iload_n dX5_digest_143 rfl rfl) ?_
  refine vg_cons (vs_bipush dX5_digest_144 (by decide) rfl) ?_
  refine vg_cons (vs_cmp_ge dX5_digest_146 (by decide) rfl) ?_
  refine vg_cons (vs_lload_n dX5_digest_149 rfl rfl) ?_
  refine vg_cons (vs_aload_n dX5_digest_150 rfl rfl) ?_
  refine vg_cons (vs_iload_n dX5_digest_151 rfl rfl) ?_
  refine vg_cons (vs_callV (T := TX5) c_X5_inForce dX5_digest_152 rfl ww_good q_360 q_51 q_361 q_362 q_363 (by decide +kernel) (by decide) rfl) ?_
  refine vg_cons (vs_callS c_X5_mix dX5_digest_155 ww_good q_332 q_51 q_334 q_333 (by decide +kernel) (by decide) rfl) ?_
  refine vg_cons (vs_lstore_n dX5_digest_158 rfl (by decide) rfl) ?_
  refine vg_cons (vs_iinc dX5_digest_159 rfl rfl) ?_
  refine vg_cons (vs_goto dX5_digest_162 (by decide)) ?_
  refine vg_cons (vs_iconst dX5_digest_165 rfl rfl) ?_
  refine vg_cons (vs_istore_n dX5_digest_166 rfl (by decide) rfl) ?_
  refine vg_cons (vs_iload_n dX5_digest_167 rfl rfl) ?_
  refine vg_cons (vs_aload_n dX5_digest_168 rfl rfl) ?_
  refine vg_cons (vs_getfield (T := TX5) dX5_digest_169 rfl (by decide) ww_inX5 q_197 rfl) ?_
  refine vg_cons (vs_getfield (T := TX1) dX5_digest_172 rfl (by decide) ww_inX1 q_233 rfl) ?_
  refine vg_cons (vs_cmp_ge dX5_digest_175 (by decide) rfl) ?_
  refine vg_cons (vs_lload_n dX5_digest_178 rfl rfl) ?_
  refine vg_cons (vs_aload_n dX5_digest_179 rfl rfl) ?_
  refine vg_cons (vs_iload_n dX5_digest_180 rfl rfl) ?_
  refine vg_cons (vs_callV (T := TX5) c_X5_roomIn dX5_digest_181 rfl ww_good q_364 q_51 q_365 q_366 q_367 (by decide +kernel) (by decide) rfl) ?_
  refine vg_cons (vs_callS c_X5_mix dX5_digest_184 ww_good q_332 q_51 q_334 q_333 (by decide +kernel) (by decide) rfl) ?_
  refine vg_cons (vs_lstore_n dX5_digest_187 rfl (by decide) rfl) ?_
  refine vg_cons (vs_iinc dX5_digest_188 rfl rfl) ?_
  refine vg_cons (vs_goto dX5_digest_191 (by decide)) ?_
  refine vg_cons (vs_lload_n dX5_digest_194 rfl rfl) ?_
  refine vg_cons (vs_aload_n dX5_digest_195 rfl rfl) ?_
  refine vg_cons (vs_iconst dX5_digest_196 rfl rfl) ?_
  refine vg_cons (vs_iconst dX5_digest_197 rfl rfl) ?_
  refine vg_cons (vs_bipush dX5_digest_198 (by decide) rfl) ?_
  refine vg_cons (vs_callV (T := TX5) c_X5_sirenWould dX5_digest_200 rfl ww_good q_368 q_51 q_369 q_370 q_371 (by decide +kernel) (by decide) rfl) ?_
  refine vg_cons (vs_callS c_X5_mix dX5_digest_203 ww_good q_332 q_51 q_334 q_333 (by decide +kernel) (by decide) rfl) ?_
  refine vg_cons (vs_lreturn dX5_digest_206 rfl) ?_
  exact fun _ h => absurd h List.not_mem_nil
theorem m_X5_digest : vg_Code k_X5_digest := fun q h => (s_X5_digest q h).1

def pr_X5_digest : vgT → vgS → Prop := fun av σ => match av with
  | [.inr (0, 0, 0)] => jWf (jV σ 0) ∧ jBo (jV σ 0) ∧ jPl (jV σ 0) ∧ jPl (jV σ 1) ∧ jNc (jV σ 0) 0 ≤ 4
  | _ => False
abbrev po_X5_digest : vgT → vgS → vgO := fun _ σ r σ' => r = some (.inl (.long (jDig (jV σ 0)))) ∧ ∃ t, jPl t ∧ σ' = jPut σ 1 t
theorem wdg_X5_digest : ∀ av σ, pr_X5_digest av σ → vg_wd av ≤ 5 := by
  intro av σ h
  unfold pr_X5_digest at h
  split at h
  · exact Nat.le_of_ble_eq_true rfl
  · exact h.elim
section DG
variable {σ : vgS}
theorem jh01 : ¬ 0 = 1 := by decide
theorem jdc {t : jN} {s : Nat} : jPut σ 1 t (1, 0, 0) s = σ (1, 0, 0) s := jPut_ne (by decide)
theorem dg_167 (hw : jWf (jV σ 0)) (hb : jBo (jV σ 0)) (hp : jPl (jV σ 0)) (h4 : jNc (jV σ 0) 0 ≤ 4) (t : jN) (ht : jPl t) : vg_Go k_X5_digest (fun r σ' => r = some (.inl (.long (jDig (jV σ 0)))) ∧ ∃ t, jPl t ∧ σ' = jPut σ 1 t) 167 [(0, .inr (0, 0, 0)), (1, .inl (.long (jD4 (jV σ 0)))), (3, .inl (.int 0))] [] (jPut σ 1 t) := by
  have h3 := hw.2.1.2
  refine vg_loop (fun i lv σ' => ∃ x, σ' = jPut σ 1 t ∧ x = nI i ∧ lv = [(0, .inr (0, 0, 0)), (1, .inl (.long (jMxN (fun x => jV σ 0 10 x 1) i (jD4 (jV σ 0))))), (3, .inl (.int x))]) (jSc (jV σ 0)) ?_ ?_ 0 _ _ (Nat.zero_le _) ⟨0, rfl, rfl, rfl⟩
  · rintro i lv σ' hi ⟨x, rfl, hx, rfl⟩ ih
    have cond : ¬ jPut σ 1 t (1, 0, 0) 5 ≤ x := fun z => absurd ((jle (jdc.trans hw.2.1.1) hx (by omega) (by omega)).mp z) (by omega)
    have hv : vp_in x (jSc (jV σ 0)) := jin hx hi (by omega)
    refine vg_run (cuts := [(6, [0, 1, 3]), (30, [0, 1, 3]), (44, [0, 1, 3, 4]), (69, [0, 1, 3]), (96, [0, 1, 3]), (110, [0, 1, 3, 4]), (143, [0, 1, 3]), (167, [0, 1, 3])]) m_X5_digest 60 ?_
    refine And.intro (fun z => absurd z cond) (fun _ => ?_)
    refine And.intro (by rw [jV_put_ne jh01]; exact ⟨hw, hv⟩) (And.intro trivial ?_)
    refine ih _ _ ⟨x + 1, rfl, jinc hx, ?_⟩
    rw [jV_put_ne jh01, jcl hx (by omega)]
    rfl
  · rintro lv σ' ⟨x, rfl, hx, rfl⟩
    have cond : jPut σ 1 t (1, 0, 0) 5 ≤ x := (jle (jdc.trans hw.2.1.1) hx (by omega) (by omega)).mpr (Nat.le_refl _)
    refine vg_run (cuts := [(6, [0, 1, 3]), (30, [0, 1, 3]), (44, [0, 1, 3, 4]), (69, [0, 1, 3]), (96, [0, 1, 3]), (110, [0, 1, 3, 4]), (143, [0, 1, 3]), (167, [0, 1, 3])]) m_X5_digest 60 ?_
    refine And.intro (fun _ => ?_) (fun z => absurd cond z)
    refine And.intro ?_ (And.intro trivial ?_)
    · rw [jV_put_ne jh01, jV_put]
      exact ⟨jin (i := 5) rfl (by decide) (by decide), by decide, by decide, (show vp_in (nI 6) 1000 from vp_in_nI (by decide) (by decide)), hw, hb, hp, ht, h4⟩
    · refine And.intro ?_ ⟨jW2 (jV σ 0) t 5 1 6, jW2_pl hw hp ht h4 5 1 6, ?_⟩
      · have e6 : (6 : Int32).toNatClampNeg = 6 := by decide
        rw [jV_put_ne jh01, jV_put, e6, jWould_n hw hp ht h4]
        rfl
      · have e6 : (6 : Int32).toNatClampNeg = 6 := by decide
        rw [jV_put_ne jh01, jV_put, e6, jPut_put]
theorem dg_143 (hw : jWf (jV σ 0)) (hb : jBo (jV σ 0)) (hp : jPl (jV σ 0)) (h4 : jNc (jV σ 0) 0 ≤ 4) (t : jN) (ht : jPl t) : vg_Go k_X5_digest (fun r σ' => r = some (.inl (.long (jDig (jV σ 0)))) ∧ ∃ t, jPl t ∧ σ' = jPut σ 1 t) 143 [(0, .inr (0, 0, 0)), (1, .inl (.long (jD3 (jV σ 0) (jWc (jV σ 0))))), (3, .inl (.int 0))] [] (jPut σ 1 t) := by
  refine vg_loop (fun i lv σ' => ∃ x, σ' = jPut σ 1 t ∧ x = nI i ∧ lv = [(0, .inr (0, 0, 0)), (1, .inl (.long (jMxN (fun x => jInf (jV σ 0) (nI x) (jWc (jV σ 0))) i (jD3 (jV σ 0) (jWc (jV σ 0)))))), (3, .inl (.int x))]) 16 ?_ ?_ 0 _ _ (Nat.zero_le _) ⟨0, rfl, rfl, rfl⟩
  · rintro i lv σ' hi ⟨x, rfl, hx, rfl⟩ ih
    have cond : ¬ (16 : Int32) ≤ x := fun z => absurd ((jle (n := 16) rfl hx (by omega) (by omega)).mp z) (by omega)
    have hv : vp_in x 16 := jin hx hi (by omega)
    refine vg_run (cuts := [(6, [0, 1, 3]), (30, [0, 1, 3]), (44, [0, 1, 3, 4]), (69, [0, 1, 3]), (96, [0, 1, 3]), (110, [0, 1, 3, 4]), (143, [0, 1, 3]), (167, [0, 1, 3])]) m_X5_digest 60 ?_
    refine And.intro (fun z => absurd z cond) (fun _ => ?_)
    refine And.intro (by rw [jV_put_ne jh01]; exact ⟨hv, hw⟩) (And.intro trivial ?_)
    refine ih _ _ ⟨x + 1, rfl, jinc hx, ?_⟩
    rw [jV_put_ne jh01, hx]
    rfl
  · rintro lv σ' ⟨x, rfl, hx, rfl⟩
    have cond : (16 : Int32) ≤ x := by rw [hx]; decide
    refine vg_run (cuts := [(6, [0, 1, 3]), (30, [0, 1, 3]), (44, [0, 1, 3, 4]), (69, [0, 1, 3]), (96, [0, 1, 3]), (110, [0, 1, 3, 4]), (143, [0, 1, 3]), (167, [0, 1, 3])]) m_X5_digest 60 ?_
    exact And.intro (fun _ => dg_167 hw hb hp h4 t ht) (fun z => absurd cond z)
theorem dg_96 (hw : jWf (jV σ 0)) (hb : jBo (jV σ 0)) (hp : jPl (jV σ 0)) (h4 : jNc (jV σ 0) 0 ≤ 4) (t : jN) (ht : jPl t) : vg_Go k_X5_digest (fun r σ' => r = some (.inl (.long (jDig (jV σ 0)))) ∧ ∃ t, jPl t ∧ σ' = jPut σ 1 t) 96 [(0, .inr (0, 0, 0)), (1, .inl (.long (jD2 (jV σ 0) (jGc (jV σ 0))))), (3, .inl (.int 0))] [] (jPut σ 1 t) := by
  have h12 := hw.2.2.1.2
  refine vg_loop (fun i lv σ' => ∃ x, σ' = jPut σ 1 t ∧ x = nI i ∧ lv = [(0, .inr (0, 0, 0)), (1, .inl (.long (jD3 (jV σ 0) i))), (3, .inl (.int x))]) (jWc (jV σ 0)) ?_ ?_ 0 _ _ (Nat.zero_le _) ⟨0, rfl, rfl, rfl⟩
  · rintro i lv σ' hi ⟨x, rfl, hx, rfl⟩ ih
    have cond : ¬ jPut σ 1 t (1, 0, 0) 6 ≤ x := fun z => absurd ((jle (jdc.trans hw.2.2.1.1) hx (by omega) (by omega)).mp z) (by omega)
    have hv : vp_in x (jWc (jV σ 0)) := jin hx hi (by omega)
    refine vg_run (cuts := [(6, [0, 1, 3]), (30, [0, 1, 3]), (44, [0, 1, 3, 4]), (69, [0, 1, 3]), (96, [0, 1, 3]), (110, [0, 1, 3, 4]), (143, [0, 1, 3]), (167, [0, 1, 3])]) m_X5_digest 60 ?_
    refine And.intro (fun z => absurd z cond) (fun _ => ?_)
    refine vg_loop (fun j lv σ'' => ∃ y, σ'' = jPut σ 1 t ∧ y = nI j ∧ lv = [(0, .inr (0, 0, 0)), (1, .inl (.long (jMxN (fun z => jOfW (jV σ 0) i (nI z)) j (jD3 (jV σ 0) i)))), (3, .inl (.int x)), (4, .inl (.int y))]) 9 ?_ ?_ 0 _ _ (Nat.zero_le _) ⟨0, rfl, rfl, rfl⟩
    · rintro j lv σ'' hj ⟨y, rfl, hy, rfl⟩ ih2
      have cond2 : ¬ (8 : Int32) < y := fun z => absurd ((jle (c := y) (x := 8) (i := 8) hy rfl (by omega) (by omega)).mpr (by omega)) (Int32.not_le.mpr z)
      have hv2 : vp_in y 9 := jin hy hj (by decide)
      refine vg_run (cuts := [(6, [0, 1, 3]), (30, [0, 1, 3]), (44, [0, 1, 3, 4]), (69, [0, 1, 3]), (96, [0, 1, 3]), (110, [0, 1, 3, 4]), (143, [0, 1, 3]), (167, [0, 1, 3])]) m_X5_digest 60 ?_
      refine And.intro (fun z => absurd z cond2) (fun _ => ?_)
      refine And.intro (by rw [jV_put_ne jh01]; exact ⟨hw, hv, hv2⟩) (And.intro trivial ?_)
      refine ih2 _ _ ⟨y + 1, rfl, jinc hy, ?_⟩
      rw [jV_put_ne jh01, jcl hx (by omega), hy]
      rfl
    · rintro lv σ'' ⟨y, rfl, hy, rfl⟩
      have cond2 : (8 : Int32) < y := by rw [hy]; decide
      refine vg_run (cuts := [(6, [0, 1, 3]), (30, [0, 1, 3]), (44, [0, 1, 3, 4]), (69, [0, 1, 3]), (96, [0, 1, 3]), (110, [0, 1, 3, 4]), (143, [0, 1, 3]), (167, [0, 1, 3])]) m_X5_digest 60 ?_
      refine And.intro (fun _ => ?_) (fun z => absurd cond2 z)
      exact ih _ _ ⟨x + 1, rfl, jinc hx, rfl⟩
  · rintro lv σ' ⟨x, rfl, hx, rfl⟩
    have cond : jPut σ 1 t (1, 0, 0) 6 ≤ x := (jle (jdc.trans hw.2.2.1.1) hx (by omega) (by omega)).mpr (Nat.le_refl _)
    refine vg_run (cuts := [(6, [0, 1, 3]), (30, [0, 1, 3]), (44, [0, 1, 3, 4]), (69, [0, 1, 3]), (96, [0, 1, 3]), (110, [0, 1, 3, 4]), (143, [0, 1, 3]), (167, [0, 1, 3])]) m_X5_digest 60 ?_
    exact And.intro (fun _ => dg_143 hw hb hp h4 t ht) (fun z => absurd cond z)
theorem dg_30 (hw : jWf (jV σ 0)) (hb : jBo (jV σ 0)) (hp : jPl (jV σ 0)) (h4 : jNc (jV σ 0) 0 ≤ 4) (t : jN) (ht : jPl t) : vg_Go k_X5_digest (fun r σ' => r = some (.inl (.long (jDig (jV σ 0)))) ∧ ∃ t, jPl t ∧ σ' = jPut σ 1 t) 30 [(0, .inr (0, 0, 0)), (1, .inl (.long (jD1 (jV σ 0)))), (3, .inl (.int 0))] [] (jPut σ 1 t) := by
  have h8 := hw.1.2
  refine vg_loop (fun i lv σ' => ∃ x u, jPl u ∧ σ' = jPut σ 1 u ∧ x = nI i ∧ lv = [(0, .inr (0, 0, 0)), (1, .inl (.long (jD2 (jV σ 0) i))), (3, .inl (.int x))]) (jGc (jV σ 0)) ?_ ?_ 0 _ _ (Nat.zero_le _) ⟨0, t, ht, rfl, rfl, rfl⟩
  · rintro i lv σ' hi ⟨x, u, hu, rfl, hx, rfl⟩ ih
    have cond : ¬ jPut σ 1 u (1, 0, 0) 4 ≤ x := fun z => absurd ((jle (jdc.trans hw.1.1) hx (by omega) (by omega)).mp z) (by omega)
    have hv : vp_in x (jGc (jV σ 0)) := jin hx hi (by omega)
    refine vg_run (cuts := [(6, [0, 1, 3]), (30, [0, 1, 3]), (44, [0, 1, 3, 4]), (69, [0, 1, 3]), (96, [0, 1, 3]), (110, [0, 1, 3, 4]), (143, [0, 1, 3]), (167, [0, 1, 3])]) m_X5_digest 60 ?_
    refine And.intro (fun z => absurd z cond) (fun _ => ?_)
    refine vg_loop (fun j lv σ'' => ∃ y, σ'' = jPut σ 1 u ∧ y = nI j ∧ lv = [(0, .inr (0, 0, 0)), (1, .inl (.long (jMxN (fun z => jOfG (jV σ 0) i (nI z)) j (jD2 (jV σ 0) i)))), (3, .inl (.int x)), (4, .inl (.int y))]) 9 ?_ ?_ 0 _ _ (Nat.zero_le _) ⟨0, rfl, rfl, rfl⟩
    · rintro j lv σ'' hj ⟨y, rfl, hy, rfl⟩ ih2
      have cond2 : ¬ (8 : Int32) < y := fun z => absurd ((jle (c := y) (x := 8) (i := 8) hy rfl (by omega) (by omega)).mpr (by omega)) (Int32.not_le.mpr z)
      have hv2 : vp_in y 9 := jin hy hj (by decide)
      refine vg_run (cuts := [(6, [0, 1, 3]), (30, [0, 1, 3]), (44, [0, 1, 3, 4]), (69, [0, 1, 3]), (96, [0, 1, 3]), (110, [0, 1, 3, 4]), (143, [0, 1, 3]), (167, [0, 1, 3])]) m_X5_digest 60 ?_
      refine And.intro (fun z => absurd z cond2) (fun _ => ?_)
      refine And.intro (by rw [jV_put_ne jh01]; exact ⟨hw, hv, hv2⟩) (And.intro trivial ?_)
      refine ih2 _ _ ⟨y + 1, rfl, jinc hy, ?_⟩
      rw [jV_put_ne jh01, jcl hx (by omega), hy]
      rfl
    · rintro lv σ'' ⟨y, rfl, hy, rfl⟩
      have cond2 : (8 : Int32) < y := by rw [hy]; decide
      refine vg_run (cuts := [(6, [0, 1, 3]), (30, [0, 1, 3]), (44, [0, 1, 3, 4]), (69, [0, 1, 3]), (96, [0, 1, 3]), (110, [0, 1, 3, 4]), (143, [0, 1, 3]), (167, [0, 1, 3])]) m_X5_digest 60 ?_
      refine And.intro (fun _ => ?_) (fun z => absurd cond2 z)
      refine vg_run (cuts := [(6, [0, 1, 3]), (30, [0, 1, 3]), (44, [0, 1, 3, 4]), (69, [0, 1, 3]), (96, [0, 1, 3]), (110, [0, 1, 3, 4]), (143, [0, 1, 3]), (167, [0, 1, 3])]) m_X5_digest 60 ?_
      refine And.intro (by rw [jV_put_ne jh01, jV_put]; exact ⟨hv, by decide, jin (i := 9) rfl (by decide) (by decide), hw, hb, hp, hu⟩) (And.intro trivial ?_)
      have e9 : (9 : Int32).toNatClampNeg = 9 := by decide
      dsimp only
      rw [jV_put_ne jh01, jV_put, e9, jcl hx (by omega), jPut_put, jSafeIn_n hw hp hu hi]
      refine And.intro (by rw [jV_put_ne jh01]; exact ⟨hv, hw⟩) ?_
      refine ih _ _ ⟨x + 1, (jSafeIn (jV σ 0) u i 9).2, jSafeIn_pl hw hp hu i 9, rfl, jinc hx, ?_⟩
      rw [jV_put_ne jh01, jcl hx (by omega)]
      rfl
  · rintro lv σ' ⟨x, u, hu, rfl, hx, rfl⟩
    have cond : jPut σ 1 u (1, 0, 0) 4 ≤ x := (jle (jdc.trans hw.1.1) hx (by omega) (by omega)).mpr (Nat.le_refl _)
    refine vg_run (cuts := [(6, [0, 1, 3]), (30, [0, 1, 3]), (44, [0, 1, 3, 4]), (69, [0, 1, 3]), (96, [0, 1, 3]), (110, [0, 1, 3, 4]), (143, [0, 1, 3]), (167, [0, 1, 3])]) m_X5_digest 60 ?_
    exact And.intro (fun _ => dg_96 hw hb hp h4 u hu) (fun z => absurd cond z)
theorem dg_6 (hw : jWf (jV σ 0)) (hb : jBo (jV σ 0)) (hp : jPl (jV σ 0)) (h4 : jNc (jV σ 0) 0 ≤ 4) (t : jN) (ht : jPl t) : vg_Go k_X5_digest (fun r σ' => r = some (.inl (.long (jDig (jV σ 0)))) ∧ ∃ t, jPl t ∧ σ' = jPut σ 1 t) 6 [(0, .inr (0, 0, 0)), (1, .inl (.long (4814))), (3, .inl (.int 0))] [] (jPut σ 1 t) := by
  refine vg_loop (fun i lv σ' => ∃ x, σ' = jPut σ 1 t ∧ x = nI i ∧ lv = [(0, .inr (0, 0, 0)), (1, .inl (.long (jMxN (fun x => jMany (jV σ 0) (nI x)) i 4814))), (3, .inl (.int x))]) 12 ?_ ?_ 0 _ _ (Nat.zero_le _) ⟨0, rfl, rfl, rfl⟩
  · rintro i lv σ' hi ⟨x, rfl, hx, rfl⟩ ih
    have cond : ¬ (11 : Int32) < x := fun z => absurd ((jle (c := x) (x := 11) (i := 11) hx rfl (by omega) (by omega)).mpr (by omega)) (Int32.not_le.mpr z)
    have hv : vp_in x 12 := jin hx hi (by omega)
    refine vg_run (cuts := [(6, [0, 1, 3]), (30, [0, 1, 3]), (44, [0, 1, 3, 4]), (69, [0, 1, 3]), (96, [0, 1, 3]), (110, [0, 1, 3, 4]), (143, [0, 1, 3]), (167, [0, 1, 3])]) m_X5_digest 60 ?_
    refine And.intro (fun z => absurd z cond) (fun _ => ?_)
    refine And.intro (by rw [jV_put_ne jh01]; exact ⟨hw, hv⟩) (And.intro trivial ?_)
    refine ih _ _ ⟨x + 1, rfl, jinc hx, ?_⟩
    rw [jV_put_ne jh01, hx]
    rfl
  · rintro lv σ' ⟨x, rfl, hx, rfl⟩
    have cond : (11 : Int32) < x := by rw [hx]; decide
    refine vg_run (cuts := [(6, [0, 1, 3]), (30, [0, 1, 3]), (44, [0, 1, 3, 4]), (69, [0, 1, 3]), (96, [0, 1, 3]), (110, [0, 1, 3, 4]), (143, [0, 1, 3]), (167, [0, 1, 3])]) m_X5_digest 60 ?_
    exact And.intro (fun _ => dg_30 hw hb hp h4 t ht) (fun z => absurd cond z)
end DG
theorem dg_X5_digest : ∀ av σ, pr_X5_digest av σ → vg_Go k_X5_digest (po_X5_digest av σ) 0 (vg_args 0 av) [] σ := by
  intro av σ h
  unfold pr_X5_digest at h
  split at h
  next =>
    obtain ⟨hw, hb, hp, hp1, h4⟩ := h
    have g := dg_6 hw hb hp h4 (jV σ 1) hp1
    rw [jPut_jV] at g
    exact vg_run (cuts := [(6, [0, 1, 3]), (30, [0, 1, 3]), (44, [0, 1, 3, 4]), (69, [0, 1, 3]), (96, [0, 1, 3]), (110, [0, 1, 3, 4]), (143, [0, 1, 3]), (167, [0, 1, 3])]) m_X5_digest 40 g
  next => exact h.elim
theorem d_X5_digest : vg_Met ww_tb ww_nw ww_shp ww_nm ww_cl ww_tyl yX5_digest cX5_digest 5 (some .long) 7 pr_X5_digest po_X5_digest := vg_met ww_closed (by decide +kernel) rfl s_X5_digest wdg_X5_digest dg_X5_digest
