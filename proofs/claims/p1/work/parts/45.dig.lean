-- words of the tables, and what stands at each place of the methods' code (laid by program)
theorem u_169 : Cond.constantLong RX5 290 (4814) ∈ ww_tb := by decide +kernel
theorem u_170 : Cond.code yX5_many cX5_many 2 (some .int) ∈ ww_tb := by decide +kernel
theorem u_171 : Cond.methodLink RX5 292 yX5_many ∈ ww_tb := by decide +kernel
theorem u_172 : Cond.instanceMethod yX5_many ∈ ww_tb := by decide +kernel
theorem u_173 : Cond.selects RX5 yX5_many yX5_many ∈ ww_tb := by decide +kernel
theorem u_174 : Cond.code yX5_mix cX5_mix 3 (some .long) ∈ ww_tb := by decide +kernel
theorem u_175 : Cond.static yX5_mix ∈ ww_tb := by decide +kernel
theorem u_176 : Cond.methodLink RX5 295 yX5_mix ∈ ww_tb := by decide +kernel
theorem u_177 : Cond.code yX5_ofGroup cX5_ofGroup 4 (some .int) ∈ ww_tb := by decide +kernel
theorem u_178 : Cond.methodLink RX5 299 yX5_ofGroup ∈ ww_tb := by decide +kernel
theorem u_179 : Cond.instanceMethod yX5_ofGroup ∈ ww_tb := by decide +kernel
theorem u_180 : Cond.selects RX5 yX5_ofGroup yX5_ofGroup ∈ ww_tb := by decide +kernel
theorem u_181 : Cond.code yX5_ofWarning cX5_ofWarning 4 (some .int) ∈ ww_tb := by decide +kernel
theorem u_182 : Cond.methodLink RX5 308 yX5_ofWarning ∈ ww_tb := by decide +kernel
theorem u_183 : Cond.instanceMethod yX5_ofWarning ∈ ww_tb := by decide +kernel
theorem u_184 : Cond.selects RX5 yX5_ofWarning yX5_ofWarning ∈ ww_tb := by decide +kernel
theorem u_185 : Cond.code yX5_inForce cX5_inForce 3 (some .int) ∈ ww_tb := by decide +kernel
theorem u_186 : Cond.methodLink RX5 311 yX5_inForce ∈ ww_tb := by decide +kernel
theorem u_187 : Cond.instanceMethod yX5_inForce ∈ ww_tb := by decide +kernel
theorem u_188 : Cond.selects RX5 yX5_inForce yX5_inForce ∈ ww_tb := by decide +kernel
theorem u_189 : Cond.code yX5_roomIn cX5_roomIn 2 (some .int) ∈ ww_tb := by decide +kernel
theorem u_190 : Cond.methodLink RX5 314 yX5_roomIn ∈ ww_tb := by decide +kernel
theorem u_191 : Cond.instanceMethod yX5_roomIn ∈ ww_tb := by decide +kernel
theorem u_192 : Cond.selects RX5 yX5_roomIn yX5_roomIn ∈ ww_tb := by decide +kernel
theorem u_193 : Cond.code yX5_sirenWould cX5_sirenWould 5 (some .int) ∈ ww_tb := by decide +kernel
theorem u_194 : Cond.methodLink RX5 317 yX5_sirenWould ∈ ww_tb := by decide +kernel
theorem u_195 : Cond.instanceMethod yX5_sirenWould ∈ ww_tb := by decide +kernel
theorem u_196 : Cond.selects RX5 yX5_sirenWould yX5_sirenWould ∈ ww_tb := by decide +kernel
theorem dX5_digest_0 : decode cX5_digest 0 = .ok (.ldc2_w 290, 3) := by decide +kernel
theorem dX5_digest_3 : decode cX5_digest 3 = .ok (.lstore_n 1, 1) := by decide +kernel
theorem dX5_digest_4 : decode cX5_digest 4 = .ok (.iconst 0, 1) := by decide +kernel
theorem dX5_digest_5 : decode cX5_digest 5 = .ok (.istore_n 3, 1) := by decide +kernel
theorem dX5_digest_6 : decode cX5_digest 6 = .ok (.iload_n 3, 1) := by decide +kernel
theorem dX5_digest_7 : decode cX5_digest 7 = .ok (.bipush 11, 2) := by decide +kernel
theorem dX5_digest_9 : decode cX5_digest 9 = .ok (.if_icmp .gt 19, 3) := by decide +kernel
theorem dX5_digest_12 : decode cX5_digest 12 = .ok (.lload_n 1, 1) := by decide +kernel
theorem dX5_digest_13 : decode cX5_digest 13 = .ok (.aload_n 0, 1) := by decide +kernel
theorem dX5_digest_14 : decode cX5_digest 14 = .ok (.iload_n 3, 1) := by decide +kernel
theorem dX5_digest_15 : decode cX5_digest 15 = .ok (.invokevirtual 292, 3) := by decide +kernel
theorem dX5_digest_18 : decode cX5_digest 18 = .ok (.invokestatic 295, 3) := by decide +kernel
theorem dX5_digest_21 : decode cX5_digest 21 = .ok (.lstore_n 1, 1) := by decide +kernel
theorem dX5_digest_22 : decode cX5_digest 22 = .ok (.iinc 3 1, 3) := by decide +kernel
theorem dX5_digest_25 : decode cX5_digest 25 = .ok (.goto (-19), 3) := by decide +kernel
theorem dX5_digest_28 : decode cX5_digest 28 = .ok (.iconst 0, 1) := by decide +kernel
theorem dX5_digest_29 : decode cX5_digest 29 = .ok (.istore_n 3, 1) := by decide +kernel
theorem dX5_digest_30 : decode cX5_digest 30 = .ok (.iload_n 3, 1) := by decide +kernel
theorem dX5_digest_31 : decode cX5_digest 31 = .ok (.aload_n 0, 1) := by decide +kernel
theorem dX5_digest_32 : decode cX5_digest 32 = .ok (.getfield 10, 3) := by decide +kernel
theorem dX5_digest_35 : decode cX5_digest 35 = .ok (.getfield 27, 3) := by decide +kernel
theorem dX5_digest_38 : decode cX5_digest 38 = .ok (.if_icmp .ge 56, 3) := by decide +kernel
theorem dX5_digest_41 : decode cX5_digest 41 = .ok (.iconst 0, 1) := by decide +kernel
theorem dX5_digest_42 : decode cX5_digest 42 = .ok (.istore 4, 2) := by decide +kernel
theorem dX5_digest_44 : decode cX5_digest 44 = .ok (.iload 4, 2) := by decide +kernel
theorem dX5_digest_46 : decode cX5_digest 46 = .ok (.bipush 8, 2) := by decide +kernel
theorem dX5_digest_48 : decode cX5_digest 48 = .ok (.if_icmp .gt 21, 3) := by decide +kernel
theorem dX5_digest_51 : decode cX5_digest 51 = .ok (.lload_n 1, 1) := by decide +kernel
theorem dX5_digest_52 : decode cX5_digest 52 = .ok (.aload_n 0, 1) := by decide +kernel
theorem dX5_digest_53 : decode cX5_digest 53 = .ok (.iload_n 3, 1) := by decide +kernel
theorem dX5_digest_54 : decode cX5_digest 54 = .ok (.iload 4, 2) := by decide +kernel
theorem dX5_digest_56 : decode cX5_digest 56 = .ok (.invokevirtual 299, 3) := by decide +kernel
theorem dX5_digest_59 : decode cX5_digest 59 = .ok (.invokestatic 295, 3) := by decide +kernel
theorem dX5_digest_62 : decode cX5_digest 62 = .ok (.lstore_n 1, 1) := by decide +kernel
theorem dX5_digest_63 : decode cX5_digest 63 = .ok (.iinc 4 1, 3) := by decide +kernel
theorem dX5_digest_66 : decode cX5_digest 66 = .ok (.goto (-22), 3) := by decide +kernel
theorem dX5_digest_69 : decode cX5_digest 69 = .ok (.lload_n 1, 1) := by decide +kernel
theorem dX5_digest_70 : decode cX5_digest 70 = .ok (.aload_n 0, 1) := by decide +kernel
theorem dX5_digest_71 : decode cX5_digest 71 = .ok (.iload_n 3, 1) := by decide +kernel
theorem dX5_digest_72 : decode cX5_digest 72 = .ok (.bipush 9, 2) := by decide +kernel
theorem dX5_digest_74 : decode cX5_digest 74 = .ok (.invokevirtual 302, 3) := by decide +kernel
theorem dX5_digest_77 : decode cX5_digest 77 = .ok (.invokestatic 295, 3) := by decide +kernel
theorem dX5_digest_80 : decode cX5_digest 80 = .ok (.lstore_n 1, 1) := by decide +kernel
theorem dX5_digest_81 : decode cX5_digest 81 = .ok (.aload_n 0, 1) := by decide +kernel
theorem dX5_digest_82 : decode cX5_digest 82 = .ok (.lload_n 1, 1) := by decide +kernel
theorem dX5_digest_83 : decode cX5_digest 83 = .ok (.iload_n 3, 1) := by decide +kernel
theorem dX5_digest_84 : decode cX5_digest 84 = .ok (.invokevirtual 305, 3) := by decide +kernel
theorem dX5_digest_87 : decode cX5_digest 87 = .ok (.lstore_n 1, 1) := by decide +kernel
theorem dX5_digest_88 : decode cX5_digest 88 = .ok (.iinc 3 1, 3) := by decide +kernel
theorem dX5_digest_91 : decode cX5_digest 91 = .ok (.goto (-61), 3) := by decide +kernel
theorem dX5_digest_94 : decode cX5_digest 94 = .ok (.iconst 0, 1) := by decide +kernel
theorem dX5_digest_95 : decode cX5_digest 95 = .ok (.istore_n 3, 1) := by decide +kernel
theorem dX5_digest_96 : decode cX5_digest 96 = .ok (.iload_n 3, 1) := by decide +kernel
theorem dX5_digest_97 : decode cX5_digest 97 = .ok (.aload_n 0, 1) := by decide +kernel
theorem dX5_digest_98 : decode cX5_digest 98 = .ok (.getfield 10, 3) := by decide +kernel
theorem dX5_digest_101 : decode cX5_digest 101 = .ok (.getfield 249, 3) := by decide +kernel
theorem dX5_digest_104 : decode cX5_digest 104 = .ok (.if_icmp .ge 37, 3) := by decide +kernel
theorem dX5_digest_107 : decode cX5_digest 107 = .ok (.iconst 0, 1) := by decide +kernel
theorem dX5_digest_108 : decode cX5_digest 108 = .ok (.istore 4, 2) := by decide +kernel
theorem dX5_digest_110 : decode cX5_digest 110 = .ok (.iload 4, 2) := by decide +kernel
theorem dX5_digest_112 : decode cX5_digest 112 = .ok (.bipush 8, 2) := by decide +kernel
theorem dX5_digest_114 : decode cX5_digest 114 = .ok (.if_icmp .gt 21, 3) := by decide +kernel
theorem dX5_digest_117 : decode cX5_digest 117 = .ok (.lload_n 1, 1) := by decide +kernel
theorem dX5_digest_118 : decode cX5_digest 118 = .ok (.aload_n 0, 1) := by decide +kernel
theorem dX5_digest_119 : decode cX5_digest 119 = .ok (.iload_n 3, 1) := by decide +kernel
theorem dX5_digest_120 : decode cX5_digest 120 = .ok (.iload 4, 2) := by decide +kernel
theorem dX5_digest_122 : decode cX5_digest 122 = .ok (.invokevirtual 308, 3) := by decide +kernel
theorem dX5_digest_125 : decode cX5_digest 125 = .ok (.invokestatic 295, 3) := by decide +kernel
theorem dX5_digest_128 : decode cX5_digest 128 = .ok (.lstore_n 1, 1) := by decide +kernel
theorem dX5_digest_129 : decode cX5_digest 129 = .ok (.iinc 4 1, 3) := by decide +kernel
theorem dX5_digest_132 : decode cX5_digest 132 = .ok (.goto (-22), 3) := by decide +kernel
theorem dX5_digest_135 : decode cX5_digest 135 = .ok (.iinc 3 1, 3) := by decide +kernel
theorem dX5_digest_138 : decode cX5_digest 138 = .ok (.goto (-42), 3) := by decide +kernel
theorem dX5_digest_141 : decode cX5_digest 141 = .ok (.iconst 0, 1) := by decide +kernel
theorem dX5_digest_142 : decode cX5_digest 142 = .ok (.istore_n 3, 1) := by decide +kernel
theorem dX5_digest_143 : decode cX5_digest 143 = .ok (.iload_n 3, 1) := by decide +kernel
theorem dX5_digest_144 : decode cX5_digest 144 = .ok (.bipush 16, 2) := by decide +kernel
theorem dX5_digest_146 : decode cX5_digest 146 = .ok (.if_icmp .ge 19, 3) := by decide +kernel
theorem dX5_digest_149 : decode cX5_digest 149 = .ok (.lload_n 1, 1) := by decide +kernel
theorem dX5_digest_150 : decode cX5_digest 150 = .ok (.aload_n 0, 1) := by decide +kernel
theorem dX5_digest_151 : decode cX5_digest 151 = .ok (.iload_n 3, 1) := by decide +kernel
theorem dX5_digest_152 : decode cX5_digest 152 = .ok (.invokevirtual 311, 3) := by decide +kernel
theorem dX5_digest_155 : decode cX5_digest 155 = .ok (.invokestatic 295, 3) := by decide +kernel
theorem dX5_digest_158 : decode cX5_digest 158 = .ok (.lstore_n 1, 1) := by decide +kernel
theorem dX5_digest_159 : decode cX5_digest 159 = .ok (.iinc 3 1, 3) := by decide +kernel
theorem dX5_digest_162 : decode cX5_digest 162 = .ok (.goto (-19), 3) := by decide +kernel
theorem dX5_digest_165 : decode cX5_digest 165 = .ok (.iconst 0, 1) := by decide +kernel
theorem dX5_digest_166 : decode cX5_digest 166 = .ok (.istore_n 3, 1) := by decide +kernel
theorem dX5_digest_167 : decode cX5_digest 167 = .ok (.iload_n 3, 1) := by decide +kernel
theorem dX5_digest_168 : decode cX5_digest 168 = .ok (.aload_n 0, 1) := by decide +kernel
theorem dX5_digest_169 : decode cX5_digest 169 = .ok (.getfield 10, 3) := by decide +kernel
theorem dX5_digest_172 : decode cX5_digest 172 = .ok (.getfield 66, 3) := by decide +kernel
theorem dX5_digest_175 : decode cX5_digest 175 = .ok (.if_icmp .ge 19, 3) := by decide +kernel
theorem dX5_digest_178 : decode cX5_digest 178 = .ok (.lload_n 1, 1) := by decide +kernel
theorem dX5_digest_179 : decode cX5_digest 179 = .ok (.aload_n 0, 1) := by decide +kernel
theorem dX5_digest_180 : decode cX5_digest 180 = .ok (.iload_n 3, 1) := by decide +kernel
theorem dX5_digest_181 : decode cX5_digest 181 = .ok (.invokevirtual 314, 3) := by decide +kernel
theorem dX5_digest_184 : decode cX5_digest 184 = .ok (.invokestatic 295, 3) := by decide +kernel
theorem dX5_digest_187 : decode cX5_digest 187 = .ok (.lstore_n 1, 1) := by decide +kernel
theorem dX5_digest_188 : decode cX5_digest 188 = .ok (.iinc 3 1, 3) := by decide +kernel
theorem dX5_digest_191 : decode cX5_digest 191 = .ok (.goto (-24), 3) := by decide +kernel
theorem dX5_digest_194 : decode cX5_digest 194 = .ok (.lload_n 1, 1) := by decide +kernel
theorem dX5_digest_195 : decode cX5_digest 195 = .ok (.aload_n 0, 1) := by decide +kernel
theorem dX5_digest_196 : decode cX5_digest 196 = .ok (.iconst 5, 1) := by decide +kernel
theorem dX5_digest_197 : decode cX5_digest 197 = .ok (.iconst 1, 1) := by decide +kernel
theorem dX5_digest_198 : decode cX5_digest 198 = .ok (.bipush 6, 2) := by decide +kernel
theorem dX5_digest_200 : decode cX5_digest 200 = .ok (.invokevirtual 317, 3) := by decide +kernel
theorem dX5_digest_203 : decode cX5_digest 203 = .ok (.invokestatic 295, 3) := by decide +kernel
theorem dX5_digest_206 : decode cX5_digest 206 = .ok (.lreturn, 1) := by decide +kernel
/-! the digest of a fresh object -/
def wd_mx (d : Int64) (x : Int32) : Int64 := d * 31 + x.toInt64
def wd_A : Nat → Int64
  | 0 => 4814
  | k + 1 => wd_mx (wd_A k) (wmv (wi k))
def wd_B : Nat → Int64
  | 0 => wd_A 12
  | k + 1 => wd_mx (wd_B k) (-1)
def wdg : Int64 := wd_mx (wd_B 16) 0
theorem wi_le11 : ∀ k, k < 12 → ¬ (11 : Int32) < wi k := by decide +kernel
theorem wi_gt11 : (11 : Int32) < wi 12 := by decide +kernel
def k_X5_digest : List (Nat × vgF) := [(0, vi_lcst (4814) 3), (3, vi_lstore 1 4), (4, vi_icst (0) 5), (5, vi_istore 3 6), (6, vi_iload 3 7), (7, vi_icst (11) 9), (9, vi_cmp (fun x y => y < x) 28 12), (12, vi_lload 1 13), (13, vi_aload 0 14), (14, vi_iload 3 15), (15, vi_callV ww_shp 0 sp_X5_many 1 18), (18, vi_callS sp_X5_mix 2 21), (21, vi_lstore 1 22), (22, vi_iinc 3 (1) 25), (25, vi_goto 6), (28, vi_icst (0) 29), (29, vi_istore 3 30), (30, vi_iload 3 31), (31, vi_aload 0 32), (32, vi_get ww_shp 0 0 35), (35, vi_get ww_shp 1 4 38), (38, vi_cmp (fun x y => y ≤ x) 94 41), (41, vi_icst (0) 42), (42, vi_istore 4 44), (44, vi_iload 4 46), (46, vi_icst (8) 48), (48, vi_cmp (fun x y => y < x) 69 51), (51, vi_lload 1 52), (52, vi_aload 0 53), (53, vi_iload 3 54), (54, vi_iload 4 56), (56, vi_callV ww_shp 0 sp_X5_ofGroup 2 59), (59, vi_callS sp_X5_mix 2 62), (62, vi_lstore 1 63), (63, vi_iinc 4 (1) 66), (66, vi_goto 44), (69, vi_lload 1 70), (70, vi_aload 0 71), (71, vi_iload 3 72), (72, vi_icst (9) 74), (74, vi_no), (77, vi_callS sp_X5_mix 2 80), (80, vi_lstore 1 81), (81, vi_aload 0 82), (82, vi_lload 1 83), (83, vi_iload 3 84), (84, vi_no), (87, vi_lstore 1 88), (88, vi_iinc 3 (1) 91), (91, vi_goto 30), (94, vi_icst (0) 95), (95, vi_istore 3 96), (96, vi_iload 3 97), (97, vi_aload 0 98), (98, vi_get ww_shp 0 0 101), (101, vi_get ww_shp 1 6 104), (104, vi_cmp (fun x y => y ≤ x) 141 107), (107, vi_icst (0) 108), (108, vi_istore 4 110), (110, vi_iload 4 112), (112, vi_icst (8) 114), (114, vi_cmp (fun x y => y < x) 135 117), (117, vi_lload 1 118), (118, vi_aload 0 119), (119, vi_iload 3 120), (120, vi_iload 4 122), (122, vi_callV ww_shp 0 sp_X5_ofWarning 2 125), (125, vi_callS sp_X5_mix 2 128), (128, vi_lstore 1 129), (129, vi_iinc 4 (1) 132), (132, vi_goto 110), (135, vi_iinc 3 (1) 138), (138, vi_goto 96), (141, vi_icst (0) 142), (142, vi_istore 3 143), (143, vi_iload 3 144), (144, vi_icst (16) 146), (146, vi_cmp (fun x y => y ≤ x) 165 149), (149, vi_lload 1 150), (150, vi_aload 0 151), (151, vi_iload 3 152), (152, vi_callV ww_shp 0 sp_X5_inForce 1 155), (155, vi_callS sp_X5_mix 2 158), (158, vi_lstore 1 159), (159, vi_iinc 3 (1) 162), (162, vi_goto 143), (165, vi_icst (0) 166), (166, vi_istore 3 167), (167, vi_iload 3 168), (168, vi_aload 0 169), (169, vi_get ww_shp 0 0 172), (172, vi_get ww_shp 1 5 175), (175, vi_cmp (fun x y => y ≤ x) 194 178), (178, vi_lload 1 179), (179, vi_aload 0 180), (180, vi_iload 3 181), (181, vi_callV ww_shp 0 sp_X5_roomIn 1 184), (184, vi_callS sp_X5_mix 2 187), (187, vi_lstore 1 188), (188, vi_iinc 3 (1) 191), (191, vi_goto 167), (194, vi_lload 1 195), (195, vi_aload 0 196), (196, vi_icst (5) 197), (197, vi_icst (1) 198), (198, vi_icst (6) 200), (200, vi_callV ww_shp 0 sp_X5_sirenWould 3 203), (203, vi_callS sp_X5_mix 2 206), (206, vi_retL)]
set_option maxRecDepth 20000 in
theorem s_X5_digest : ∀ q ∈ k_X5_digest, vg_Snd ww_tb ww_nw ww_shp ww_nm ww_cl ww_tyl cX5_digest 5 RX5 (some .long) 7 q.1 q.2 := by
  refine vg_cons (vs_ldc2 dX5_digest_0 u_169 rfl) ?_
  refine vg_cons (vs_lstore_n dX5_digest_3 rfl (by decide) rfl) ?_
  refine vg_cons (vs_iconst dX5_digest_4 rfl rfl) ?_
  refine vg_cons (vs_istore_n dX5_digest_5 rfl (by decide) rfl) ?_
  refine vg_cons (vs_iload_n dX5_digest_6 rfl rfl) ?_
  refine vg_cons (vs_bipush dX5_digest_7 (by decide) rfl) ?_
  refine vg_cons (vs_cmp_gt dX5_digest_9 (by decide) rfl) ?_
  refine vg_cons (vs_lload_n dX5_digest_12 rfl rfl) ?_
  refine vg_cons (vs_aload_n dX5_digest_13 rfl rfl) ?_
  refine vg_cons (vs_iload_n dX5_digest_14 rfl rfl) ?_
  refine vg_cons (vs_callV (T := TX5) c_X5_many dX5_digest_15 rfl ww_good u_170 u_64 u_171 u_172 u_173 (by decide +kernel) (by decide) rfl) ?_
  refine vg_cons (vs_callS c_X5_mix dX5_digest_18 ww_good u_174 u_64 u_176 u_175 (by decide +kernel) (by decide) rfl) ?_
  refine vg_cons (vs_lstore_n dX5_digest_21 rfl (by decide) rfl) ?_
  refine vg_cons (vs_iinc dX5_digest_22 rfl rfl) ?_
  refine vg_cons (vs_goto dX5_digest_25 (by decide)) ?_
  refine vg_cons (vs_iconst dX5_digest_28 rfl rfl) ?_
  refine vg_cons (vs_istore_n dX5_digest_29 rfl (by decide) rfl) ?_
  refine vg_cons (vs_iload_n dX5_digest_30 rfl rfl) ?_
  refine vg_cons (vs_aload_n dX5_digest_31 rfl rfl) ?_
  refine vg_cons (vs_getfield (T := TX5) dX5_digest_32 rfl (by decide) ww_inX5 u_58 rfl) ?_
  refine vg_cons (vs_getfield (T := TX1) dX5_digest_35 rfl (by decide) ww_inX1 u_60 rfl) ?_
  refine vg_cons (vs_cmp_ge dX5_digest_38 (by decide) rfl) ?_
  refine vg_cons (vs_iconst dX5_digest_41 rfl rfl) ?_
  refine vg_cons (vs_istore dX5_digest_42 (by decide) rfl) ?_
  refine vg_cons (vs_iload dX5_digest_44 rfl) ?_
  refine vg_cons (vs_bipush dX5_digest_46 (by decide) rfl) ?_
  refine vg_cons (vs_cmp_gt dX5_digest_48 (by decide) rfl) ?_
  refine vg_cons (vs_lload_n dX5_digest_51 rfl rfl) ?_
  refine vg_cons (vs_aload_n dX5_digest_52 rfl rfl) ?_
  refine vg_cons (vs_iload_n dX5_digest_53 rfl rfl) ?_
  refine vg_cons (vs_iload dX5_digest_54 rfl) ?_
  refine vg_cons (vs_callV (T := TX5) c_X5_ofGroup dX5_digest_56 rfl ww_good u_177 u_64 u_178 u_179 u_180 (by decide +kernel) (by decide) rfl) ?_
  refine vg_cons (vs_callS c_X5_mix dX5_digest_59 ww_good u_174 u_64 u_176 u_175 (by decide +kernel) (by decide) rfl) ?_
  refine vg_cons (vs_lstore_n dX5_digest_62 rfl (by decide) rfl) ?_
  refine vg_cons (vs_iinc dX5_digest_63 rfl rfl) ?_
  refine vg_cons (vs_goto dX5_digest_66 (by decide)) ?_
  refine vg_cons (vs_lload_n dX5_digest_69 rfl rfl) ?_
  refine vg_cons (vs_aload_n dX5_digest_70 rfl rfl) ?_
  refine vg_cons (vs_iload_n dX5_digest_71 rfl rfl) ?_
  refine vg_cons (vs_bipush dX5_digest_72 (by decide) rfl) ?_
  refine vg_cons (vs_no) ?_
  refine vg_cons (vs_callS c_X5_mix dX5_digest_77 ww_good u_174 u_64 u_176 u_175 (by decide +kernel) (by decide) rfl) ?_
  refine vg_cons (vs_lstore_n dX5_digest_80 rfl (by decide) rfl) ?_
  refine vg_cons (vs_aload_n dX5_digest_81 rfl rfl) ?_
  refine vg_cons (vs_lload_n dX5_digest_82 rfl rfl) ?_
  refine vg_cons (vs_iload_n dX5_digest_83 rfl rfl) ?_
  refine vg_cons (vs_no) ?_
  refine vg_cons (vs_lstore_n dX5_digest_87 rfl (by decide) rfl) ?_
  refine vg_cons (vs_iinc dX5_digest_88 rfl rfl) ?_
  refine vg_cons (vs_goto dX5_digest_91 (by decide)) ?_
  refine vg_cons (vs_iconst dX5_digest_94 rfl rfl) ?_
  refine vg_cons (vs_istore_n dX5_digest_95 rfl (by decide) rfl) ?_
  refine vg_cons (vs_iload_n dX5_digest_96 rfl rfl) ?_
  refine vg_cons (vs_aload_n dX5_digest_97 rfl rfl) ?_
  refine vg_cons (vs_getfield (T := TX5) dX5_digest_98 rfl (by decide) ww_inX5 u_58 rfl) ?_
  refine vg_cons (vs_getfield (T := TX1) dX5_digest_101 rfl (by decide) ww_inX1 u_61 rfl) ?_
  refine vg_cons (vs_cmp_ge dX5_digest_104 (by decide) rfl) ?_
  refine vg_cons (vs_iconst dX5_digest_107 rfl rfl) ?_
  refine vg_cons (vs_istore dX5_digest_108 (by decide) rfl) ?_
  refine vg_cons (vs_iload dX5_digest_110 rfl) ?_
  refine vg_cons (vs_bipush dX5_digest_112 (by decide) rfl) ?_
  refine vg_cons (vs_cmp_gt dX5_digest_114 (by decide) rfl) ?_
  refine vg_cons (vs_lload_n dX5_digest_117 rfl rfl) ?_
  refine vg_cons (vs_aload_n dX5_digest_118 rfl rfl) ?_
  refine vg_cons (vs_iload_n dX5_digest_119 rfl rfl) ?_
  refine vg_cons (vs_iload dX5_digest_120 rfl) ?_
  refine vg_cons (vs_callV (T := TX5) c_X5_ofWarning dX5_digest_122 rfl ww_good u_181 u_64 u_182 u_183 u_184 (by decide +kernel) (by decide) rfl) ?_
  refine vg_cons (vs_callS c_X5_mix dX5_digest_125 ww_good u_174 u_64 u_176 u_175 (by decide +kernel) (by decide) rfl) ?_
  refine vg_cons (vs_lstore_n dX5_digest_128 rfl (by decide) rfl) ?_
  refine vg_cons (vs_iinc dX5_digest_129 rfl rfl) ?_
  refine vg_cons (vs_goto dX5_digest_132 (by decide)) ?_
  refine vg_cons (vs_iinc dX5_digest_135 rfl rfl) ?_
  refine vg_cons (vs_goto dX5_digest_138 (by decide)) ?_
  refine vg_cons (vs_iconst dX5_digest_141 rfl rfl) ?_
  refine vg_cons (vs_istore_n dX5_digest_142 rfl (by decide) rfl) ?_
  refine vg_cons (vs_iload_n dX5_digest_143 rfl rfl) ?_
  refine vg_cons (vs_bipush dX5_digest_144 (by decide) rfl) ?_
  refine vg_cons (vs_cmp_ge dX5_digest_146 (by decide) rfl) ?_
  refine vg_cons (vs_lload_n dX5_digest_149 rfl rfl) ?_
  refine vg_cons (vs_aload_n dX5_digest_150 rfl rfl) ?_
  refine vg_cons (vs_iload_n dX5_digest_151 rfl rfl) ?_
  refine vg_cons (vs_callV (T := TX5) c_X5_inForce dX5_digest_152 rfl ww_good u_185 u_64 u_186 u_187 u_188 (by decide +kernel) (by decide) rfl) ?_
  refine vg_cons (vs_callS c_X5_mix dX5_digest_155 ww_good u_174 u_64 u_176 u_175 (by decide +kernel) (by decide) rfl) ?_
  refine vg_cons (vs_lstore_n dX5_digest_158 rfl (by decide) rfl) ?_
  refine vg_cons (vs_iinc dX5_digest_159 rfl rfl) ?_
  refine vg_cons (vs_goto dX5_digest_162 (by decide)) ?_
  refine vg_cons (vs_iconst dX5_digest_165 rfl rfl) ?_
  refine vg_cons (vs_istore_n dX5_digest_166 rfl (by decide) rfl) ?_
  refine vg_cons (vs_iload_n dX5_digest_167 rfl rfl) ?_
  refine vg_cons (vs_aload_n dX5_digest_168 rfl rfl) ?_
  refine vg_cons (vs_getfield (T := TX5) dX5_digest_169 rfl (by decide) ww_inX5 u_58 rfl) ?_
  refine vg_cons (vs_getfield (T := TX1) dX5_digest_172 rfl (by decide) ww_inX1 u_84 rfl) ?_
  refine vg_cons (vs_cmp_ge dX5_digest_175 (by decide) rfl) ?_
  refine vg_cons (vs_lload_n dX5_digest_178 rfl rfl) ?_
  refine vg_cons (vs_aload_n dX5_digest_179 rfl rfl) ?_
  refine vg_cons (vs_iload_n dX5_digest_180 rfl rfl) ?_
  refine vg_cons (vs_callV (T := TX5) c_X5_roomIn dX5_digest_181 rfl ww_good u_189 u_64 u_190 u_191 u_192 (by decide +kernel) (by decide) rfl) ?_
  refine vg_cons (vs_callS c_X5_mix dX5_digest_184 ww_good u_174 u_64 u_176 u_175 (by decide +kernel) (by decide) rfl) ?_
  refine vg_cons (vs_lstore_n dX5_digest_187 rfl (by decide) rfl) ?_
  refine vg_cons (vs_iinc dX5_digest_188 rfl rfl) ?_
  refine vg_cons (vs_goto dX5_digest_191 (by decide)) ?_
  refine vg_cons (vs_lload_n dX5_digest_194 rfl rfl) ?_
  refine vg_cons (vs_aload_n dX5_digest_195 rfl rfl) ?_
  refine vg_cons (vs_iconst dX5_digest_196 rfl rfl) ?_
  refine vg_cons (vs_iconst dX5_digest_197 rfl rfl) ?_
  refine vg_cons (vs_bipush dX5_digest_198 (by decide) rfl) ?_
  refine vg_cons (vs_callV (T := TX5) c_X5_sirenWould dX5_digest_200 rfl ww_good u_193 u_64 u_194 u_195 u_196 (by decide +kernel) (by decide) rfl) ?_
  refine vg_cons (vs_callS c_X5_mix dX5_digest_203 ww_good u_174 u_64 u_176 u_175 (by decide +kernel) (by decide) rfl) ?_
  refine vg_cons (vs_lreturn dX5_digest_206 rfl) ?_
  exact fun _ h => absurd h List.not_mem_nil
theorem m_X5_digest : vg_Code k_X5_digest := fun q h => (s_X5_digest q h).1

abbrev wd_P : vgO := fun r _ => r = some (.inl (.long wdg))
theorem wd_loop2 {σ : vgS} (h : wx_fr σ) : ∀ n k, n + k = 16 → vg_Go k_X5_digest wd_P 143 [(0, .inr (0, 0, 0)), (1, .inl (.long (wd_B k))), (3, .inl (.int (wi k)))] [] σ
  | 0, k, hk => by
    have e : k = 16 := by omega
    subst e
    refine vg_run (cuts := [(143, [0, 1, 3])]) m_X5_digest 40 ?_
    refine And.intro (fun _ => ?_) (fun z => absurd wi_ge.2.2.2 z)
    refine And.intro (fun _ => ?_) (fun z => absurd (show σ (1, 0, 0) 5 ≤ 0 by rw [wx_s h]; decide) z)
    refine And.intro ⟨jc16.mpr ⟨by decide, by decide⟩, ⟨by decide, by decide⟩, ⟨by decide, by decide⟩, wx_lt ⟨by decide, by decide⟩, h.1, h.2.2.1.1, h.2.2.1.2.1, h.2.2.1.2.2, by rw [h.2.1.2.2.2.1]; decide⟩ ?_
    refine And.intro trivial ?_
    exact congrArg (fun x => some (Sum.inl (Value.long (wd_mx (wd_B 16) x)))) (wx_sir h 5 1 _)
  | n + 1, k, hk => by
    refine vg_run (cuts := [(143, [0, 1, 3])]) m_X5_digest 40 ?_
    refine And.intro (fun z => absurd z (wi_lt16 k (by omega))) (fun _ => ?_)
    refine And.intro ⟨wi_in (by omega) (by decide), h.1⟩ (And.intro trivial ?_)
    have e : jInf (jV σ 0) (wi k) (jWc (jV σ 0)) = -1 := by rw [h.2.1.2.2.1]; rfl
    have g := wd_loop2 h n (k + 1) (by omega)
    have e2 : wd_B (k + 1) = wd_mx (wd_B k) (jInf (jV σ 0) (wi k) (jWc (jV σ 0))) := by rw [e]; rfl
    rw [e2] at g
    exact g
theorem wd_loop1 {σ : vgS} (h : wx_fr σ) : ∀ n k, n + k = 12 → vg_Go k_X5_digest wd_P 6 [(0, .inr (0, 0, 0)), (1, .inl (.long (wd_A k))), (3, .inl (.int (wi k)))] [] σ
  | 0, k, hk => by
    have e : k = 12 := by omega
    subst e
    refine vg_run (cuts := [(6, [0, 1, 3]), (143, [0, 1, 3])]) m_X5_digest 40 ?_
    refine And.intro (fun _ => ?_) (fun z => absurd wi_gt11 z)
    refine And.intro (fun _ => ?_) (fun z => absurd (show σ (1, 0, 0) 4 ≤ 0 by rw [wx_g h]; decide) z)
    refine And.intro (fun _ => ?_) (fun z => absurd (show σ (1, 0, 0) 6 ≤ 0 by rw [wx_w h]; decide) z)
    exact wd_loop2 h 16 0 rfl
  | n + 1, k, hk => by
    have hx : vp_in (wi k) 12 := wi_in (by omega) (by decide)
    refine vg_run (cuts := [(6, [0, 1, 3])]) m_X5_digest 40 ?_
    refine And.intro (fun z => absurd z (wi_le11 k (by omega))) (fun _ => ?_)
    refine And.intro ⟨h.1, hx⟩ (And.intro trivial ?_)
    have g := wd_loop1 h n (k + 1) (by omega)
    have e2 : wd_A (k + 1) = wd_mx (wd_A k) (jMany (jV σ 0) (wi k)) := by rw [wx_many h hx]; rfl
    rw [e2] at g
    exact g
def pr_X5_digest : vgT → vgS → Prop := fun av σ => match av with
  | [.inr (0, 0, 0)] => wx_fr σ
  | _ => False
theorem dg_X5_digest : ∀ av σ, pr_X5_digest av σ → vg_Go k_X5_digest wd_P 0 (vg_args 0 av) [] σ := by
  intro av σ h
  unfold pr_X5_digest at h
  split at h
  next =>
    refine vg_run (cuts := [(6, [0, 1, 3])]) m_X5_digest 20 ?_
    exact wd_loop1 h 12 0 rfl
  next => exact h.elim
theorem wdg_X5_digest : ∀ av σ, pr_X5_digest av σ → vg_wd av ≤ 5 := by
  intro av σ h
  unfold pr_X5_digest at h
  split at h
  · exact Nat.le_of_ble_eq_true rfl
  · exact h.elim
theorem d_X5_digest : vg_Met ww_tb ww_nw ww_shp ww_nm ww_cl ww_tyl yX5_digest cX5_digest 5 (some .long) 7 pr_X5_digest (fun _ _ => wd_P) := vg_met ww_closed (by decide +kernel) rfl s_X5_digest wdg_X5_digest dg_X5_digest
