-- words of the tables, and what stands at each place of the methods' code (laid by program)
theorem q_183 : Cond.code yX0_becomeLike cX0_becomeLike 2 none ∈ ww_tb := by decide +kernel
theorem q_184 : Cond.methodLink RX1 71 yX0_becomeLike ∈ ww_tb := by decide +kernel
theorem q_185 : Cond.instanceMethod yX0_becomeLike ∈ ww_tb := by decide +kernel
theorem q_186 : Cond.selects RX0 yX0_becomeLike yX0_becomeLike ∈ ww_tb := by decide +kernel
theorem q_187 : Cond.code yX4_becomeLike cX4_becomeLike 2 none ∈ ww_tb := by decide +kernel
theorem q_188 : Cond.initialized RX4 ∈ ww_tb := by decide +kernel
theorem q_189 : Cond.methodLink RX1 81 yX4_becomeLike ∈ ww_tb := by decide +kernel
theorem q_190 : Cond.instanceMethod yX4_becomeLike ∈ ww_tb := by decide +kernel
theorem q_191 : Cond.selects RX4 yX4_becomeLike yX4_becomeLike ∈ ww_tb := by decide +kernel
theorem q_192 : Cond.code yX2_becomeLike cX2_becomeLike 3 none ∈ ww_tb := by decide +kernel
theorem q_193 : Cond.methodLink RX1 84 yX2_becomeLike ∈ ww_tb := by decide +kernel
theorem q_194 : Cond.instanceMethod yX2_becomeLike ∈ ww_tb := by decide +kernel
theorem q_195 : Cond.selects RX2 yX2_becomeLike yX2_becomeLike ∈ ww_tb := by decide +kernel
theorem q_196 : Cond.methodLink RX1 87 arraycopyName ∈ ww_tb := by decide +kernel
theorem dX1_becomeLike_0 : decode cX1_becomeLike 0 = .ok (.aload_n 0, 1) := by decide +kernel
theorem dX1_becomeLike_1 : decode cX1_becomeLike 1 = .ok (.aload_n 1, 1) := by decide +kernel
theorem dX1_becomeLike_2 : decode cX1_becomeLike 2 = .ok (.getfield 56, 3) := by decide +kernel
theorem dX1_becomeLike_5 : decode cX1_becomeLike 5 = .ok (.putfield 56, 3) := by decide +kernel
theorem dX1_becomeLike_8 : decode cX1_becomeLike 8 = .ok (.aload_n 0, 1) := by decide +kernel
theorem dX1_becomeLike_9 : decode cX1_becomeLike 9 = .ok (.aload_n 1, 1) := by decide +kernel
theorem dX1_becomeLike_10 : decode cX1_becomeLike 10 = .ok (.getfield 9, 3) := by decide +kernel
theorem dX1_becomeLike_13 : decode cX1_becomeLike 13 = .ok (.putfield 9, 3) := by decide +kernel
theorem dX1_becomeLike_16 : decode cX1_becomeLike 16 = .ok (.aload_n 0, 1) := by decide +kernel
theorem dX1_becomeLike_17 : decode cX1_becomeLike 17 = .ok (.aload_n 1, 1) := by decide +kernel
theorem dX1_becomeLike_18 : decode cX1_becomeLike 18 = .ok (.getfield 15, 3) := by decide +kernel
theorem dX1_becomeLike_21 : decode cX1_becomeLike 21 = .ok (.putfield 15, 3) := by decide +kernel
theorem dX1_becomeLike_24 : decode cX1_becomeLike 24 = .ok (.aload_n 0, 1) := by decide +kernel
theorem dX1_becomeLike_25 : decode cX1_becomeLike 25 = .ok (.aload_n 1, 1) := by decide +kernel
theorem dX1_becomeLike_26 : decode cX1_becomeLike 26 = .ok (.getfield 59, 3) := by decide +kernel
theorem dX1_becomeLike_29 : decode cX1_becomeLike 29 = .ok (.putfield 59, 3) := by decide +kernel
theorem dX1_becomeLike_32 : decode cX1_becomeLike 32 = .ok (.aload_n 0, 1) := by decide +kernel
theorem dX1_becomeLike_33 : decode cX1_becomeLike 33 = .ok (.aload_n 1, 1) := by decide +kernel
theorem dX1_becomeLike_34 : decode cX1_becomeLike 34 = .ok (.getfield 62, 3) := by decide +kernel
theorem dX1_becomeLike_37 : decode cX1_becomeLike 37 = .ok (.putfield 62, 3) := by decide +kernel
theorem dX1_becomeLike_40 : decode cX1_becomeLike 40 = .ok (.aload_n 0, 1) := by decide +kernel
theorem dX1_becomeLike_41 : decode cX1_becomeLike 41 = .ok (.aload_n 1, 1) := by decide +kernel
theorem dX1_becomeLike_42 : decode cX1_becomeLike 42 = .ok (.getfield 65, 3) := by decide +kernel
theorem dX1_becomeLike_45 : decode cX1_becomeLike 45 = .ok (.putfield 65, 3) := by decide +kernel
theorem dX1_becomeLike_48 : decode cX1_becomeLike 48 = .ok (.aload_n 0, 1) := by decide +kernel
theorem dX1_becomeLike_49 : decode cX1_becomeLike 49 = .ok (.aload_n 1, 1) := by decide +kernel
theorem dX1_becomeLike_50 : decode cX1_becomeLike 50 = .ok (.getfield 68, 3) := by decide +kernel
theorem dX1_becomeLike_53 : decode cX1_becomeLike 53 = .ok (.putfield 68, 3) := by decide +kernel
theorem dX1_becomeLike_56 : decode cX1_becomeLike 56 = .ok (.iconst 0, 1) := by decide +kernel
theorem dX1_becomeLike_57 : decode cX1_becomeLike 57 = .ok (.istore_n 2, 1) := by decide +kernel
theorem dX1_becomeLike_58 : decode cX1_becomeLike 58 = .ok (.iload_n 2, 1) := by decide +kernel
theorem dX1_becomeLike_59 : decode cX1_becomeLike 59 = .ok (.aload_n 0, 1) := by decide +kernel
theorem dX1_becomeLike_60 : decode cX1_becomeLike 60 = .ok (.getfield 62, 3) := by decide +kernel
theorem dX1_becomeLike_63 : decode cX1_becomeLike 63 = .ok (.if_icmp .ge 24, 3) := by decide +kernel
theorem dX1_becomeLike_66 : decode cX1_becomeLike 66 = .ok (.aload_n 0, 1) := by decide +kernel
theorem dX1_becomeLike_67 : decode cX1_becomeLike 67 = .ok (.getfield 20, 3) := by decide +kernel
theorem dX1_becomeLike_70 : decode cX1_becomeLike 70 = .ok (.iload_n 2, 1) := by decide +kernel
theorem dX1_becomeLike_71 : decode cX1_becomeLike 71 = .ok (.aaload, 1) := by decide +kernel
theorem dX1_becomeLike_72 : decode cX1_becomeLike 72 = .ok (.aload_n 1, 1) := by decide +kernel
theorem dX1_becomeLike_73 : decode cX1_becomeLike 73 = .ok (.getfield 20, 3) := by decide +kernel
theorem dX1_becomeLike_76 : decode cX1_becomeLike 76 = .ok (.iload_n 2, 1) := by decide +kernel
theorem dX1_becomeLike_77 : decode cX1_becomeLike 77 = .ok (.aaload, 1) := by decide +kernel
theorem dX1_becomeLike_78 : decode cX1_becomeLike 78 = .ok (.invokevirtual 71, 3) := by decide +kernel
theorem dX1_becomeLike_81 : decode cX1_becomeLike 81 = .ok (.iinc 2 1, 3) := by decide +kernel
theorem dX1_becomeLike_84 : decode cX1_becomeLike 84 = .ok (.goto (-26), 3) := by decide +kernel
theorem dX1_becomeLike_87 : decode cX1_becomeLike 87 = .ok (.iconst 0, 1) := by decide +kernel
theorem dX1_becomeLike_88 : decode cX1_becomeLike 88 = .ok (.istore_n 2, 1) := by decide +kernel
theorem dX1_becomeLike_89 : decode cX1_becomeLike 89 = .ok (.iload_n 2, 1) := by decide +kernel
theorem dX1_becomeLike_90 : decode cX1_becomeLike 90 = .ok (.aload_n 0, 1) := by decide +kernel
theorem dX1_becomeLike_91 : decode cX1_becomeLike 91 = .ok (.getfield 65, 3) := by decide +kernel
theorem dX1_becomeLike_94 : decode cX1_becomeLike 94 = .ok (.if_icmp .ge 45, 3) := by decide +kernel
theorem dX1_becomeLike_97 : decode cX1_becomeLike 97 = .ok (.aload_n 0, 1) := by decide +kernel
theorem dX1_becomeLike_98 : decode cX1_becomeLike 98 = .ok (.getfield 26, 3) := by decide +kernel
theorem dX1_becomeLike_101 : decode cX1_becomeLike 101 = .ok (.iload_n 2, 1) := by decide +kernel
theorem dX1_becomeLike_102 : decode cX1_becomeLike 102 = .ok (.aaload, 1) := by decide +kernel
theorem dX1_becomeLike_103 : decode cX1_becomeLike 103 = .ok (.aload_n 1, 1) := by decide +kernel
theorem dX1_becomeLike_104 : decode cX1_becomeLike 104 = .ok (.getfield 26, 3) := by decide +kernel
theorem dX1_becomeLike_107 : decode cX1_becomeLike 107 = .ok (.iload_n 2, 1) := by decide +kernel
theorem dX1_becomeLike_108 : decode cX1_becomeLike 108 = .ok (.aaload, 1) := by decide +kernel
theorem dX1_becomeLike_109 : decode cX1_becomeLike 109 = .ok (.getfield 75, 3) := by decide +kernel
theorem dX1_becomeLike_112 : decode cX1_becomeLike 112 = .ok (.putfield 75, 3) := by decide +kernel
theorem dX1_becomeLike_115 : decode cX1_becomeLike 115 = .ok (.aload_n 0, 1) := by decide +kernel
theorem dX1_becomeLike_116 : decode cX1_becomeLike 116 = .ok (.getfield 26, 3) := by decide +kernel
theorem dX1_becomeLike_119 : decode cX1_becomeLike 119 = .ok (.iload_n 2, 1) := by decide +kernel
theorem dX1_becomeLike_120 : decode cX1_becomeLike 120 = .ok (.aaload, 1) := by decide +kernel
theorem dX1_becomeLike_121 : decode cX1_becomeLike 121 = .ok (.aload_n 1, 1) := by decide +kernel
theorem dX1_becomeLike_122 : decode cX1_becomeLike 122 = .ok (.getfield 26, 3) := by decide +kernel
theorem dX1_becomeLike_125 : decode cX1_becomeLike 125 = .ok (.iload_n 2, 1) := by decide +kernel
theorem dX1_becomeLike_126 : decode cX1_becomeLike 126 = .ok (.aaload, 1) := by decide +kernel
theorem dX1_becomeLike_127 : decode cX1_becomeLike 127 = .ok (.getfield 78, 3) := by decide +kernel
theorem dX1_becomeLike_130 : decode cX1_becomeLike 130 = .ok (.putfield 78, 3) := by decide +kernel
theorem dX1_becomeLike_133 : decode cX1_becomeLike 133 = .ok (.iinc 2 1, 3) := by decide +kernel
theorem dX1_becomeLike_136 : decode cX1_becomeLike 136 = .ok (.goto (-47), 3) := by decide +kernel
theorem dX1_becomeLike_139 : decode cX1_becomeLike 139 = .ok (.iconst 0, 1) := by decide +kernel
theorem dX1_becomeLike_140 : decode cX1_becomeLike 140 = .ok (.istore_n 2, 1) := by decide +kernel
theorem dX1_becomeLike_141 : decode cX1_becomeLike 141 = .ok (.iload_n 2, 1) := by decide +kernel
theorem dX1_becomeLike_142 : decode cX1_becomeLike 142 = .ok (.aload_n 0, 1) := by decide +kernel
theorem dX1_becomeLike_143 : decode cX1_becomeLike 143 = .ok (.getfield 68, 3) := by decide +kernel
theorem dX1_becomeLike_146 : decode cX1_becomeLike 146 = .ok (.if_icmp .ge 24, 3) := by decide +kernel
theorem dX1_becomeLike_149 : decode cX1_becomeLike 149 = .ok (.aload_n 0, 1) := by decide +kernel
theorem dX1_becomeLike_150 : decode cX1_becomeLike 150 = .ok (.getfield 32, 3) := by decide +kernel
theorem dX1_becomeLike_153 : decode cX1_becomeLike 153 = .ok (.iload_n 2, 1) := by decide +kernel
theorem dX1_becomeLike_154 : decode cX1_becomeLike 154 = .ok (.aaload, 1) := by decide +kernel
theorem dX1_becomeLike_155 : decode cX1_becomeLike 155 = .ok (.aload_n 1, 1) := by decide +kernel
theorem dX1_becomeLike_156 : decode cX1_becomeLike 156 = .ok (.getfield 32, 3) := by decide +kernel
theorem dX1_becomeLike_159 : decode cX1_becomeLike 159 = .ok (.iload_n 2, 1) := by decide +kernel
theorem dX1_becomeLike_160 : decode cX1_becomeLike 160 = .ok (.aaload, 1) := by decide +kernel
theorem dX1_becomeLike_161 : decode cX1_becomeLike 161 = .ok (.invokevirtual 81, 3) := by decide +kernel
theorem dX1_becomeLike_164 : decode cX1_becomeLike 164 = .ok (.iinc 2 1, 3) := by decide +kernel
theorem dX1_becomeLike_167 : decode cX1_becomeLike 167 = .ok (.goto (-26), 3) := by decide +kernel
theorem dX1_becomeLike_170 : decode cX1_becomeLike 170 = .ok (.aload_n 0, 1) := by decide +kernel
theorem dX1_becomeLike_171 : decode cX1_becomeLike 171 = .ok (.getfield 39, 3) := by decide +kernel
theorem dX1_becomeLike_174 : decode cX1_becomeLike 174 = .ok (.aload_n 1, 1) := by decide +kernel
theorem dX1_becomeLike_175 : decode cX1_becomeLike 175 = .ok (.getfield 39, 3) := by decide +kernel
theorem dX1_becomeLike_178 : decode cX1_becomeLike 178 = .ok (.invokevirtual 84, 3) := by decide +kernel
theorem dX1_becomeLike_181 : decode cX1_becomeLike 181 = .ok (.aload_n 0, 1) := by decide +kernel
theorem dX1_becomeLike_182 : decode cX1_becomeLike 182 = .ok (.getfield 43, 3) := by decide +kernel
theorem dX1_becomeLike_185 : decode cX1_becomeLike 185 = .ok (.aload_n 1, 1) := by decide +kernel
theorem dX1_becomeLike_186 : decode cX1_becomeLike 186 = .ok (.getfield 43, 3) := by decide +kernel
theorem dX1_becomeLike_189 : decode cX1_becomeLike 189 = .ok (.invokevirtual 84, 3) := by decide +kernel
theorem dX1_becomeLike_192 : decode cX1_becomeLike 192 = .ok (.aload_n 1, 1) := by decide +kernel
theorem dX1_becomeLike_193 : decode cX1_becomeLike 193 = .ok (.getfield 46, 3) := by decide +kernel
theorem dX1_becomeLike_196 : decode cX1_becomeLike 196 = .ok (.iconst 0, 1) := by decide +kernel
theorem dX1_becomeLike_197 : decode cX1_becomeLike 197 = .ok (.aload_n 0, 1) := by decide +kernel
theorem dX1_becomeLike_198 : decode cX1_becomeLike 198 = .ok (.getfield 46, 3) := by decide +kernel
theorem dX1_becomeLike_201 : decode cX1_becomeLike 201 = .ok (.iconst 0, 1) := by decide +kernel
theorem dX1_becomeLike_202 : decode cX1_becomeLike 202 = .ok (.bipush 16, 2) := by decide +kernel
theorem dX1_becomeLike_204 : decode cX1_becomeLike 204 = .ok (.invokestatic 87, 3) := by decide +kernel
theorem dX1_becomeLike_207 : decode cX1_becomeLike 207 = .ok (.return_, 1) := by decide +kernel
/-! a land becomes like another -/
/-- what is a truth value is one -/
def jBo (w : jN) : Prop := (∀ g, g < 8 → (w 9 g 4 = 0 ∨ w 9 g 4 = 1) ∧ (w 9 g 5 = 0 ∨ w 9 g 5 = 1)) ∧ (∀ i, i < 12 → w 11 i 7 = 0 ∨ w 11 i 7 = 1) ∧ ∀ j s, s < 5 → w 8 j s = 0 ∨ w 8 j s = 1
def jRA (a c d : Nat) : Nat → Nat → Nat → Bool := fun k i s => (k == 1 && i == 0 && decide (s < 7)) || (decide (i < a) && ((k == 9 && decide (s < 8)) || (decide (14 ≤ k) && decide (k ≤ 18) && decide (s < 12)))) || (k == 10 && decide (i < c) && decide (s < 2)) || (k == 11 && decide (i < d) && decide (s < 8))
def jRL (a c d e f : Nat) : Nat → Nat → Nat → Bool := fun k i s => jRA a c d k i s || jRS 0 e k i s || jRS 1 f k i s || (k == 6 && i == 0 && decide (s < 16))
/-- like w, as far as w's counts go -/
def jLike (w v : jN) : jN := jCp (jRL (jGc w) (jSc w) (jWc w) (jNc w 0) (jNc w 1)) w v
theorem jCp_no {w v : jN} : jCp (fun _ _ _ => false) w v = v := by
  funext k i s
  exact if_neg Bool.false_ne_true
theorem jRA_0 {w v : jN} : jCp (jRo (jRo (jRo (jRo (jRo (jRo (jRo (fun _ _ _ => false) 1 0 0) 1 0 1) 1 0 2) 1 0 3) 1 0 4) 1 0 5) 1 0 6) w v = jCp (jRA 0 0 0) w v := by
  refine jCp_cg (fun k i s => ?_)
  unfold jRo jRA
  simp only [Bool.and_eq_true, Bool.or_eq_true, beq_iff_eq, decide_eq_true_eq, Bool.false_eq_true, false_or]
  omega
theorem jRA_g {w v : jN} {n : Nat} : jCp (jRG n) w (jCp (jRA n 0 0) w v) = jCp (jRA (n + 1) 0 0) w v := by
  rw [jCp_cp]
  refine jCp_cg (fun k i s => ?_)
  unfold jRG jRA
  simp only [Bool.and_eq_true, Bool.or_eq_true, beq_iff_eq, decide_eq_true_eq]
  omega
theorem jRA_s {w v : jN} {a n : Nat} : jCp (jRo (jRo (jRA a n 0) 10 n 0) 10 n 1) w v = jCp (jRA a (n + 1) 0) w v := by
  refine jCp_cg (fun k i s => ?_)
  unfold jRo jRA
  simp only [Bool.and_eq_true, Bool.or_eq_true, beq_iff_eq, decide_eq_true_eq]
  omega
theorem jRA_w {w v : jN} {a c n : Nat} : jCp (jRW n) w (jCp (jRA a c n) w v) = jCp (jRA a c (n + 1)) w v := by
  rw [jCp_cp]
  refine jCp_cg (fun k i s => ?_)
  unfold jRW jRA
  simp only [Bool.and_eq_true, Bool.or_eq_true, beq_iff_eq, decide_eq_true_eq]
  omega
theorem jLike_e {w v : jN} : jCp (fun k i s => k == 6 && i == 0 && decide (s < 16)) w (jCp (jRS 1 (jNc w 1)) w (jCp (jRS 0 (jNc w 0)) w (jCp (jRA (jGc w) (jSc w) (jWc w)) w v))) = jLike w v := by
  rw [jCp_cp, jCp_cp, jCp_cp]
  unfold jLike
  refine jCp_cg (fun k i s => ?_)
  unfold jRL
  simp only [Bool.or_eq_true]
  generalize (jRA (jGc w) (jSc w) (jWc w) k i s = true) = p1
  generalize (jRS 0 (jNc w 0) k i s = true) = p2
  generalize (jRS 1 (jNc w 1) k i s = true) = p3
  generalize ((k == 6 && i == 0 && decide (s < 16)) = true) = p4
  constructor
  · rintro (((h | h) | h) | h)
    · exact Or.inr h
    · exact Or.inl (Or.inr h)
    · exact Or.inl (Or.inl (Or.inr h))
    · exact Or.inl (Or.inl (Or.inl h))
  · rintro (((h | h) | h) | h)
    · exact Or.inr h
    · exact Or.inl (Or.inr h)
    · exact Or.inl (Or.inl (Or.inr h))
    · exact Or.inl (Or.inl (Or.inl h))
def sp_X1_becomeLike : vgC := fun av σ => match av with
  | [.inr (1, b, 0), .inr (1, b', 0)] => (¬ b' = b ∧ jWf (jV σ b') ∧ jBo (jV σ b'), none, jPut σ b (jLike (jV σ b') (jV σ b)))
  | _ => (False, none, σ)
def k_X1_becomeLike : List (Nat × vgF) := [(0, vi_aload 0 1), (1, vi_aload 1 2), (2, vi_get ww_shp 1 0 5), (5, vi_put ww_shp 1 0 8), (8, vi_aload 0 9), (9, vi_aload 1 10), (10, vi_get ww_shp 1 1 13), (13, vi_put ww_shp 1 1 16), (16, vi_aload 0 17), (17, vi_aload 1 18), (18, vi_get ww_shp 1 2 21), (21, vi_put ww_shp 1 2 24), (24, vi_aload 0 25), (25, vi_aload 1 26), (26, vi_get ww_shp 1 3 29), (29, vi_put ww_shp 1 3 32), (32, vi_aload 0 33), (33, vi_aload 1 34), (34, vi_get ww_shp 1 4 37), (37, vi_put ww_shp 1 4 40), (40, vi_aload 0 41), (41, vi_aload 1 42), (42, vi_get ww_shp 1 5 45), (45, vi_put ww_shp 1 5 48), (48, vi_aload 0 49), (49, vi_aload 1 50), (50, vi_get ww_shp 1 6 53), (53, vi_put ww_shp 1 6 56), (56, vi_icst (0) 57), (57, vi_istore 2 58), (58, vi_iload 2 59), (59, vi_aload 0 60), (60, vi_get ww_shp 1 4 63), (63, vi_cmp (fun x y => y ≤ x) 87 66), (66, vi_aload 0 67), (67, vi_get ww_shp 1 7 70), (70, vi_iload 2 71), (71, vi_aald ww_shp 2 72), (72, vi_aload 1 73), (73, vi_get ww_shp 1 7 76), (76, vi_iload 2 77), (77, vi_aald ww_shp 2 78), (78, vi_callV ww_shp 5 sp_X0_becomeLike 1 81), (81, vi_iinc 2 (1) 84), (84, vi_goto 58), (87, vi_icst (0) 88), (88, vi_istore 2 89), (89, vi_iload 2 90), (90, vi_aload 0 91), (91, vi_get ww_shp 1 5 94), (94, vi_cmp (fun x y => y ≤ x) 139 97), (97, vi_aload 0 98), (98, vi_get ww_shp 1 8 101), (101, vi_iload 2 102), (102, vi_aald ww_shp 3 103), (103, vi_aload 1 104), (104, vi_get ww_shp 1 8 107), (107, vi_iload 2 108), (108, vi_aald ww_shp 3 109), (109, vi_get ww_shp 3 0 112), (112, vi_put ww_shp 3 0 115), (115, vi_aload 0 116), (116, vi_get ww_shp 1 8 119), (119, vi_iload 2 120), (120, vi_aald ww_shp 3 121), (121, vi_aload 1 122), (122, vi_get ww_shp 1 8 125), (125, vi_iload 2 126), (126, vi_aald ww_shp 3 127), (127, vi_get ww_shp 3 1 130), (130, vi_put ww_shp 3 1 133), (133, vi_iinc 2 (1) 136), (136, vi_goto 89), (139, vi_icst (0) 140), (140, vi_istore 2 141), (141, vi_iload 2 142), (142, vi_aload 0 143), (143, vi_get ww_shp 1 6 146), (146, vi_cmp (fun x y => y ≤ x) 170 149), (149, vi_aload 0 150), (150, vi_get ww_shp 1 9 153), (153, vi_iload 2 154), (154, vi_aald ww_shp 4 155), (155, vi_aload 1 156), (156, vi_get ww_shp 1 9 159), (159, vi_iload 2 160), (160, vi_aald ww_shp 4 161), (161, vi_callV ww_shp 4 sp_X4_becomeLike 1 164), (164, vi_iinc 2 (1) 167), (167, vi_goto 141), (170, vi_aload 0 171), (171, vi_get ww_shp 1 10 174), (174, vi_aload 1 175), (175, vi_get ww_shp 1 10 178), (178, vi_callV ww_shp 2 sp_X2_becomeLike 1 181), (181, vi_aload 0 182), (182, vi_get ww_shp 1 11 185), (185, vi_aload 1 186), (186, vi_get ww_shp 1 11 189), (189, vi_callV ww_shp 2 sp_X2_becomeLike 1 192), (192, vi_aload 1 193), (193, vi_get ww_shp 1 12 196), (196, vi_icst (0) 197), (197, vi_aload 0 198), (198, vi_get ww_shp 1 12 201), (201, vi_icst (0) 202), (202, vi_icst (16) 204), (204, vi_cpy ww_shp 0 207), (207, vi_retV)]
set_option maxRecDepth 20000 in
theorem s_X1_becomeLike : ∀ q ∈ k_X1_becomeLike, vg_Snd ww_tb ww_nw ww_shp ww_nm ww_cl ww_tyl cX1_becomeLike 3 RX1 none 2 q.1 q.2 := by
  refine vg_cons (vs_aload_n dX1_becomeLike_0 rfl rfl) ?_
  refine vg_cons (vs_aload_n dX1_becomeLike_1 rfl rfl) ?_
  refine vg_cons (vs_getfield (T := TX1) dX1_becomeLike_2 rfl (by decide) ww_inX1 q_10 rfl) ?_
  refine vg_cons (vs_putfield (T := TX1) tyX1 dX1_becomeLike_5 rfl (by decide) ww_inX1 tyX1_ok nmX1 rfl rfl q_10 rfl) ?_
  refine vg_cons (vs_aload_n dX1_becomeLike_8 rfl rfl) ?_
  refine vg_cons (vs_aload_n dX1_becomeLike_9 rfl rfl) ?_
  refine vg_cons (vs_getfield (T := TX1) dX1_becomeLike_10 rfl (by decide) ww_inX1 q_99 rfl) ?_
  refine vg_cons (vs_putfield (T := TX1) tyX1 dX1_becomeLike_13 rfl (by decide) ww_inX1 tyX1_ok nmX1 rfl rfl q_99 rfl) ?_
  refine vg_cons (vs_aload_n dX1_becomeLike_16 rfl rfl) ?_
  refine vg_cons (vs_aload_n dX1_becomeLike_17 rfl rfl) ?_
  refine vg_cons (vs_getfield (T := TX1) dX1_becomeLike_18 rfl (by decide) ww_inX1 q_171 rfl) ?_
  refine vg_cons (vs_putfield (T := TX1) tyX1 dX1_becomeLike_21 rfl (by decide) ww_inX1 tyX1_ok nmX1 rfl rfl q_171 rfl) ?_
  refine vg_cons (vs_aload_n dX1_becomeLike_24 rfl rfl) ?_
  refine vg_cons (vs_aload_n dX1_becomeLike_25 rfl rfl) ?_
  refine vg_cons (vs_getfield (T := TX1) dX1_becomeLike_26 rfl (by decide) ww_inX1 q_104 rfl) ?_
  refine vg_cons (vs_putfield (T := TX1) tyX1 dX1_becomeLike_29 rfl (by decide) ww_inX1 tyX1_ok nmX1 rfl rfl q_104 rfl) ?_
  refine vg_cons (vs_aload_n dX1_becomeLike_32 rfl rfl) ?_
  refine vg_cons (vs_aload_n dX1_becomeLike_33 rfl rfl) ?_
  refine vg_cons (vs_getfield (T := TX1) dX1_becomeLike_34 rfl (by decide) ww_inX1 q_38 rfl) ?_
  refine vg_cons (vs_putfield (T := TX1) tyX1 dX1_becomeLike_37 rfl (by decide) ww_inX1 tyX1_ok nmX1 rfl rfl q_38 rfl) ?_
  refine vg_cons (vs_aload_n dX1_becomeLike_40 rfl rfl) ?_
  refine vg_cons (vs_aload_n dX1_becomeLike_41 rfl rfl) ?_
  refine vg_cons (vs_getfield (T := TX1) dX1_becomeLike_42 rfl (by decide) ww_inX1 q_60 rfl) ?_
  refine vg_cons (vs_putfield (T := TX1) tyX1 dX1_becomeLike_45 rfl (by decide) ww_inX1 tyX1_ok nmX1 rfl rfl q_60 rfl) ?_
  refine vg_cons (vs_aload_n dX1_becomeLike_48 rfl rfl) ?_
  refine vg_cons (vs_aload_n dX1_becomeLike_49 rfl rfl) ?_
  refine vg_cons (vs_getfield (T := TX1) dX1_becomeLike_50 rfl (by decide) ww_inX1 q_16 rfl) ?_
  refine vg_cons (vs_putfield (T := TX1) tyX1 dX1_becomeLike_53 rfl (by decide) ww_inX1 tyX1_ok nmX1 rfl rfl q_16 rfl) ?_
  refine vg_cons (vs_iconst dX1_becomeLike_56 rfl rfl) ?_
  refine vg_cons (vs_istore_n dX1_becomeLike_57 rfl (by decide) rfl) ?_
  refine vg_cons (vs_iload_n dX1_becomeLike_58 rfl rfl) ?_
  refine vg_cons (vs_aload_n dX1_becomeLike_59 rfl rfl) ?_
  refine vg_cons (vs_getfield (T := TX1) dX1_becomeLike_60 rfl (by decide) ww_inX1 q_38 rfl) ?_
  refine vg_cons (vs_cmp_ge dX1_becomeLike_63 (by decide) rfl) ?_
  refine vg_cons (vs_aload_n dX1_becomeLike_66 rfl rfl) ?_
  refine vg_cons (vs_getfield (T := TX1) dX1_becomeLike_67 rfl (by decide) ww_inX1 q_39 rfl) ?_
  refine vg_cons (vs_iload_n dX1_becomeLike_70 rfl rfl) ?_
  refine vg_cons (vs_aaload dX1_becomeLike_71 rfl rfl) ?_
  refine vg_cons (vs_aload_n dX1_becomeLike_72 rfl rfl) ?_
  refine vg_cons (vs_getfield (T := TX1) dX1_becomeLike_73 rfl (by decide) ww_inX1 q_39 rfl) ?_
  refine vg_cons (vs_iload_n dX1_becomeLike_76 rfl rfl) ?_
  refine vg_cons (vs_aaload dX1_becomeLike_77 rfl rfl) ?_
  refine vg_cons (vs_callV (T := TX0) c_X0_becomeLike dX1_becomeLike_78 rfl ww_good q_183 q_21 q_184 q_185 q_186 (by decide +kernel) (by decide) rfl) ?_
  refine vg_cons (vs_iinc dX1_becomeLike_81 rfl rfl) ?_
  refine vg_cons (vs_goto dX1_becomeLike_84 (by decide)) ?_
  refine vg_cons (vs_iconst dX1_becomeLike_87 rfl rfl) ?_
  refine vg_cons (vs_istore_n dX1_becomeLike_88 rfl (by decide) rfl) ?_
  refine vg_cons (vs_iload_n dX1_becomeLike_89 rfl rfl) ?_
  refine vg_cons (vs_aload_n dX1_becomeLike_90 rfl rfl) ?_
  refine vg_cons (vs_getfield (T := TX1) dX1_becomeLike_91 rfl (by decide) ww_inX1 q_60 rfl) ?_
  refine vg_cons (vs_cmp_ge dX1_becomeLike_94 (by decide) rfl) ?_
  refine vg_cons (vs_aload_n dX1_becomeLike_97 rfl rfl) ?_
  refine vg_cons (vs_getfield (T := TX1) dX1_becomeLike_98 rfl (by decide) ww_inX1 q_61 rfl) ?_
  refine vg_cons (vs_iload_n dX1_becomeLike_101 rfl rfl) ?_
  refine vg_cons (vs_aaload dX1_becomeLike_102 rfl rfl) ?_
  refine vg_cons (vs_aload_n dX1_becomeLike_103 rfl rfl) ?_
  refine vg_cons (vs_getfield (T := TX1) dX1_becomeLike_104 rfl (by decide) ww_inX1 q_61 rfl) ?_
  refine vg_cons (vs_iload_n dX1_becomeLike_107 rfl rfl) ?_
  refine vg_cons (vs_aaload dX1_becomeLike_108 rfl rfl) ?_
  refine vg_cons (vs_getfield (T := TX3) dX1_becomeLike_109 rfl (by decide) ww_inX3 q_62 rfl) ?_
  refine vg_cons (vs_putfield (T := TX3) tyX3 dX1_becomeLike_112 rfl (by decide) ww_inX3 tyX3_ok nmX3 rfl rfl q_62 rfl) ?_
  refine vg_cons (vs_aload_n dX1_becomeLike_115 rfl rfl) ?_
  refine vg_cons (vs_getfield (T := TX1) dX1_becomeLike_116 rfl (by decide) ww_inX1 q_61 rfl) ?_
  refine vg_cons (vs_iload_n dX1_becomeLike_119 rfl rfl) ?_
  refine vg_cons (vs_aaload dX1_becomeLike_120 rfl rfl) ?_
  refine vg_cons (vs_aload_n dX1_becomeLike_121 rfl rfl) ?_
  refine vg_cons (vs_getfield (T := TX1) dX1_becomeLike_122 rfl (by decide) ww_inX1 q_61 rfl) ?_
  refine vg_cons (vs_iload_n dX1_becomeLike_125 rfl rfl) ?_
  refine vg_cons (vs_aaload dX1_becomeLike_126 rfl rfl) ?_
  refine vg_cons (vs_getfield (T := TX3) dX1_becomeLike_127 rfl (by decide) ww_inX3 q_63 rfl) ?_
  refine vg_cons (vs_putfield (T := TX3) tyX3 dX1_becomeLike_130 rfl (by decide) ww_inX3 tyX3_ok nmX3 rfl rfl q_63 rfl) ?_
  refine vg_cons (vs_iinc dX1_becomeLike_133 rfl rfl) ?_
  refine vg_cons (vs_goto dX1_becomeLike_136 (by decide)) ?_
  refine vg_cons (vs_iconst dX1_becomeLike_139 rfl rfl) ?_
  refine vg_cons (vs_istore_n dX1_becomeLike_140 rfl (by decide) rfl) ?_
  refine vg_cons (vs_iload_n dX1_becomeLike_141 rfl rfl) ?_
  refine vg_cons (vs_aload_n dX1_becomeLike_142 rfl rfl) ?_
  refine vg_cons (vs_getfield (T := TX1) dX1_becomeLike_143 rfl (by decide) ww_inX1 q_16 rfl) ?_
  refine vg_cons (vs_cmp_ge dX1_becomeLike_146 (by decide) rfl) ?_
  refine vg_cons (vs_aload_n dX1_becomeLike_149 rfl rfl) ?_
  refine vg_cons (vs_getfield (T := TX1) dX1_becomeLike_150 rfl (by decide) ww_inX1 q_17 rfl) ?_
  refine vg_cons (vs_iload_n dX1_becomeLike_153 rfl rfl) ?_
  refine vg_cons (vs_aaload dX1_becomeLike_154 rfl rfl) ?_
  refine vg_cons (vs_aload_n dX1_becomeLike_155 rfl rfl) ?_
  refine vg_cons (vs_getfield (T := TX1) dX1_becomeLike_156 rfl (by decide) ww_inX1 q_17 rfl) ?_
  refine vg_cons (vs_iload_n dX1_becomeLike_159 rfl rfl) ?_
  refine vg_cons (vs_aaload dX1_becomeLike_160 rfl rfl) ?_
  refine vg_cons (vs_callV (T := TX4) c_X4_becomeLike dX1_becomeLike_161 rfl ww_good q_187 q_188 q_189 q_190 q_191 (by decide +kernel) (by decide) rfl) ?_
  refine vg_cons (vs_iinc dX1_becomeLike_164 rfl rfl) ?_
  refine vg_cons (vs_goto dX1_becomeLike_167 (by decide)) ?_
  refine vg_cons (vs_aload_n dX1_becomeLike_170 rfl rfl) ?_
  refine vg_cons (vs_getfield (T := TX1) dX1_becomeLike_171 rfl (by decide) ww_inX1 q_84 rfl) ?_
  refine vg_cons (vs_aload_n dX1_becomeLike_174 rfl rfl) ?_
  refine vg_cons (vs_getfield (T := TX1) dX1_becomeLike_175 rfl (by decide) ww_inX1 q_84 rfl) ?_
  refine vg_cons (vs_callV (T := TX2) c_X2_becomeLike dX1_becomeLike_178 rfl ww_good q_192 q_86 q_193 q_194 q_195 (by decide +kernel) (by decide) rfl) ?_
  refine vg_cons (vs_aload_n dX1_becomeLike_181 rfl rfl) ?_
  refine vg_cons (vs_getfield (T := TX1) dX1_becomeLike_182 rfl (by decide) ww_inX1 q_90 rfl) ?_
  refine vg_cons (vs_aload_n dX1_becomeLike_185 rfl rfl) ?_
  refine vg_cons (vs_getfield (T := TX1) dX1_becomeLike_186 rfl (by decide) ww_inX1 q_90 rfl) ?_
  refine vg_cons (vs_callV (T := TX2) c_X2_becomeLike dX1_becomeLike_189 rfl ww_good q_192 q_86 q_193 q_194 q_195 (by decide +kernel) (by decide) rfl) ?_
  refine vg_cons (vs_aload_n dX1_becomeLike_192 rfl rfl) ?_
  refine vg_cons (vs_getfield (T := TX1) dX1_becomeLike_193 rfl (by decide) ww_inX1 q_33 rfl) ?_
  refine vg_cons (vs_iconst dX1_becomeLike_196 rfl rfl) ?_
  refine vg_cons (vs_aload_n dX1_becomeLike_197 rfl rfl) ?_
  refine vg_cons (vs_getfield (T := TX1) dX1_becomeLike_198 rfl (by decide) ww_inX1 q_33 rfl) ?_
  refine vg_cons (vs_iconst dX1_becomeLike_201 rfl rfl) ?_
  refine vg_cons (vs_bipush dX1_becomeLike_202 (by decide) rfl) ?_
  refine vg_cons (vs_acopy dX1_becomeLike_204 rfl q_196 q_166 q_167 q_168 (by decide) rfl) ?_
  refine vg_cons (vs_return dX1_becomeLike_207 rfl) ?_
  exact fun _ h => absurd h List.not_mem_nil
theorem m_X1_becomeLike : vg_Code k_X1_becomeLike := fun q h => (s_X1_becomeLike q h).1

theorem w_X1_becomeLike : vg_Wd sp_X1_becomeLike 3 := by
  intro av σ h
  unfold sp_X1_becomeLike at h
  split at h
  · exact Nat.le_of_ble_eq_true rfl
  · exact h.elim
theorem g_X1_becomeLike : vg_G k_X1_becomeLike sp_X1_becomeLike := by
  intro av σ h
  unfold sp_X1_becomeLike at h ⊢
  split at h
  next b b' =>
    obtain ⟨hbb, hw, hz⟩ := h
    have h8 := hw.1.2
    have h3 := hw.2.1.2
    have h12 := hw.2.2.1.2
    have hrb : ∀ (σ' : vgS) k i s x k' i' s', vg_st σ' (k, b, i) s x (k', b', i') s' = σ' (k', b', i') s' := by
      intro σ' k i s x k' i' s'
      rw [vg_st_eq, if_neg]
      exact fun z => hbb (congrArg (fun n => n.2.1) z.1)
    have hj : ∀ k i s, σ (k, b', i) s = jV σ b' k i s := fun _ _ _ => rfl
    have hr : ∀ v k i s, jPut σ b v (k, b', i) s = jV σ b' k i s := fun v k i s => jPut_ne hbb
    have hct : ∀ a c d s, s < 7 → jPut σ b (jCp (jRA a c d) (jV σ b') (jV σ b)) (1, b, 0) s = jV σ b' 1 0 s := by
      intro a c d s hs
      rw [jPut_at, jCp_t]
      simp [jRA, hs]
    refine vg_run (cuts := [(58, [0, 1, 2]), (89, [0, 1, 2]), (141, [0, 1, 2]), (170, [0, 1]), (181, [0, 1]), (192, [0, 1])]) m_X1_becomeLike 60 ?_
    refine vg_loop (fun i lv σ' => ∃ x, σ' = jPut σ b (jCp (jRA i 0 0) (jV σ b') (jV σ b)) ∧ x = nI i ∧ lv = [(0, .inr (1, b, 0)), (1, .inr (1, b', 0)), (2, .inl (.int x))]) (jGc (jV σ b')) ?_ ?_ 0 _ _ (Nat.zero_le _) ⟨0, ?_, rfl, rfl⟩
    · rintro i lv σ' hi ⟨x, rfl, hx, rfl⟩ ih
      have hc0 : x.toNatClampNeg = i := jcl hx (by omega)
      have hv : vp_in x 8 := jin hx (by omega) (by decide)
      have hcnt := (hct i 0 0 4 (by decide)).trans hw.1.1
      refine vg_run (cuts := [(58, [0, 1, 2]), (89, [0, 1, 2]), (141, [0, 1, 2]), (170, [0, 1]), (181, [0, 1]), (192, [0, 1])]) m_X1_becomeLike 60 ?_
      refine And.intro (fun hc => absurd ((jle hcnt hx (by omega) (by omega)).mp hc) (by omega)) (fun _ => And.intro hv (And.intro hv (And.intro ?_ ?_)))
      · refine ⟨rfl, hbb, ?_, ?_⟩
        · rw [jV_put_ne hbb, hc0]
          exact (hz.1 i (by omega)).1
        · rw [jV_put_ne hbb, hc0]
          exact (hz.1 i (by omega)).2
      · refine ih _ _ ⟨x + 1, ?_, jinc hx, rfl⟩
        dsimp only
        rw [hc0, jPut_put, jV_put_ne hbb, jV_put, jRA_g]
    · rintro lv σ' ⟨x, rfl, hx, rfl⟩
      have hcnt := (hct (jGc (jV σ b')) 0 0 4 (by decide)).trans hw.1.1
      refine vg_run (cuts := [(58, [0, 1, 2]), (89, [0, 1, 2]), (141, [0, 1, 2]), (170, [0, 1]), (181, [0, 1]), (192, [0, 1])]) m_X1_becomeLike 60 ?_
      refine And.intro (fun _ => ?_) (fun hc => absurd ((jle hcnt hx (by omega) (by omega)).mpr (Nat.le_refl _)) hc)
      refine vg_loop (fun i lv σ' => ∃ x, σ' = jPut σ b (jCp (jRA (jGc (jV σ b')) i 0) (jV σ b') (jV σ b)) ∧ x = nI i ∧ lv = [(0, .inr (1, b, 0)), (1, .inr (1, b', 0)), (2, .inl (.int x))]) (jSc (jV σ b')) ?_ ?_ 0 _ _ (Nat.zero_le _) ⟨0, rfl, rfl, rfl⟩
      · rintro i lv σ' hi ⟨x, rfl, hx, rfl⟩ ih
        have hc0 : x.toNatClampNeg = i := jcl hx (by omega)
        have hv : vp_in x 3 := jin hx (by omega) (by decide)
        have hcnt := (hct (jGc (jV σ b')) i 0 5 (by decide)).trans hw.2.1.1
        refine vg_run (cuts := [(58, [0, 1, 2]), (89, [0, 1, 2]), (141, [0, 1, 2]), (170, [0, 1]), (181, [0, 1]), (192, [0, 1])]) m_X1_becomeLike 60 ?_
        refine And.intro (fun hc => absurd ((jle hcnt hx (by omega) (by omega)).mp hc) (by omega)) (fun _ => And.intro hv (And.intro hv (And.intro hv (And.intro hv ?_))))
        refine ih _ _ ⟨x + 1, ?_, jinc hx, rfl⟩
        dsimp only
        rw [hc0]
        simp only [hrb, hr]
        rw [jst, jst, jCp_up rfl, jCp_up rfl, jRA_s]
      · rintro lv σ' ⟨x, rfl, hx, rfl⟩
        have hcnt := (hct (jGc (jV σ b')) (jSc (jV σ b')) 0 5 (by decide)).trans hw.2.1.1
        refine vg_run (cuts := [(58, [0, 1, 2]), (89, [0, 1, 2]), (141, [0, 1, 2]), (170, [0, 1]), (181, [0, 1]), (192, [0, 1])]) m_X1_becomeLike 60 ?_
        refine And.intro (fun _ => ?_) (fun hc => absurd ((jle hcnt hx (by omega) (by omega)).mpr (Nat.le_refl _)) hc)
        refine vg_loop (fun i lv σ' => ∃ x, σ' = jPut σ b (jCp (jRA (jGc (jV σ b')) (jSc (jV σ b')) i) (jV σ b') (jV σ b)) ∧ x = nI i ∧ lv = [(0, .inr (1, b, 0)), (1, .inr (1, b', 0)), (2, .inl (.int x))]) (jWc (jV σ b')) ?_ ?_ 0 _ _ (Nat.zero_le _) ⟨0, rfl, rfl, rfl⟩
        · rintro i lv σ' hi ⟨x, rfl, hx, rfl⟩ ih
          have hc0 : x.toNatClampNeg = i := jcl hx (by omega)
          have hv : vp_in x 12 := jin hx (by omega) (by decide)
          have hcnt := (hct (jGc (jV σ b')) (jSc (jV σ b')) i 6 (by decide)).trans hw.2.2.1.1
          refine vg_run (cuts := [(58, [0, 1, 2]), (89, [0, 1, 2]), (141, [0, 1, 2]), (170, [0, 1]), (181, [0, 1]), (192, [0, 1])]) m_X1_becomeLike 60 ?_
          refine And.intro (fun hc => absurd ((jle hcnt hx (by omega) (by omega)).mp hc) (by omega)) (fun _ => And.intro hv (And.intro hv (And.intro ?_ ?_)))
          · refine ⟨rfl, hbb, ?_⟩
            rw [jV_put_ne hbb, hc0]
            exact hz.2.1 i (by omega)
          · refine ih _ _ ⟨x + 1, ?_, jinc hx, rfl⟩
            dsimp only
            rw [hc0, jPut_put, jV_put_ne hbb, jV_put, jRA_w]
        · rintro lv σ' ⟨x, rfl, hx, rfl⟩
          have hcnt := (hct (jGc (jV σ b')) (jSc (jV σ b')) (jWc (jV σ b')) 6 (by decide)).trans hw.2.2.1.1
          refine vg_run (cuts := [(58, [0, 1, 2]), (89, [0, 1, 2]), (141, [0, 1, 2]), (170, [0, 1]), (181, [0, 1]), (192, [0, 1])]) m_X1_becomeLike 60 ?_
          refine And.intro (fun _ => ?_) (fun hc => absurd ((jle hcnt hx (by omega) (by omega)).mpr (Nat.le_refl _)) hc)
          rw [← jLike_e]
          generalize jCp (jRA (jGc (jV σ b')) (jSc (jV σ b')) (jWc (jV σ b'))) (jV σ b') (jV σ b) = u
          refine vg_run (cuts := [(58, [0, 1, 2]), (89, [0, 1, 2]), (141, [0, 1, 2]), (170, [0, 1]), (181, [0, 1]), (192, [0, 1])]) m_X1_becomeLike 60 ?_
          refine And.intro ⟨rfl, hbb, by rw [jV_put_ne hbb]; exact hw.2.2.2.1, by rw [jV_put_ne hbb]; exact fun s hs => hz.2.2 0 s hs⟩ ?_
          dsimp only
          rw [jPut_put, jV_put_ne hbb, jV_put]
          generalize jCp (jRS 0 (jNc (jV σ b') 0)) (jV σ b') u = u2
          refine vg_run (cuts := [(58, [0, 1, 2]), (89, [0, 1, 2]), (141, [0, 1, 2]), (170, [0, 1]), (181, [0, 1]), (192, [0, 1])]) m_X1_becomeLike 60 ?_
          refine And.intro ⟨rfl, hbb, by rw [jV_put_ne hbb]; exact hw.2.2.2.2, by rw [jV_put_ne hbb]; exact fun s hs => hz.2.2 1 s hs⟩ ?_
          dsimp only
          rw [jPut_put, jV_put_ne hbb, jV_put]
          generalize jCp (jRS 1 (jNc (jV σ b') 1)) (jV σ b') u2 = u3
          refine vg_run (cuts := [(58, [0, 1, 2]), (89, [0, 1, 2]), (141, [0, 1, 2]), (170, [0, 1]), (181, [0, 1]), (192, [0, 1])]) m_X1_becomeLike 60 ?_
          refine And.intro ?_ (And.intro rfl ?_)
          · exact ⟨rfl, rfl, by decide, by decide, by decide⟩
          · funext n s
            obtain ⟨k, b0, i⟩ := n
            have e16 : (16 : Int32).toNatClampNeg = 16 := by decide
            simp only [vg_cp, jPut, jCp, jV, e16]
            by_cases h1 : b0 = b
            · subst h1
              by_cases h2 : k = 6 ∧ i = 0 ∧ s < 16
              · obtain ⟨rfl, rfl, h2⟩ := h2
                simp [h2, hbb]
              · have e : (k == 6 && i == 0 && decide (s < 16)) = false := by
                  rw [Bool.eq_false_iff]
                  intro z
                  simp only [Bool.and_eq_true, beq_iff_eq, decide_eq_true_eq] at z
                  exact h2 ⟨z.1.1, z.1.2, z.2⟩
                have f : ¬ ((k, b0, i) = (6, b0, 0) ∧ s < 16) := fun z => h2 ⟨congrArg Prod.fst z.1, congrArg (fun n => n.2.2) z.1, z.2⟩
                rw [if_neg f, if_pos rfl, if_pos rfl, if_neg]
                exact fun z => Bool.false_ne_true (e.symm.trans z)
            · simp [h1]
    · simp only [hrb, hj]
      rw [jst0 (s := 0), jst, jst, jst, jst, jst, jst]
      refine congrArg _ ?_
      rw [← jRA_0]
      conv => lhs; rw [← jCp_no (w := jV σ b') (v := jV σ b)]
      rw [jCp_up rfl, jCp_up rfl, jCp_up rfl, jCp_up rfl, jCp_up rfl, jCp_up rfl, jCp_up rfl]
  next => exact h.elim
theorem c_X1_becomeLike : vg_MetF ww_tb ww_nw ww_shp ww_nm ww_cl ww_tyl yX1_becomeLike cX1_becomeLike 3 none 2 sp_X1_becomeLike := vg_met ww_closed (by decide +kernel) rfl s_X1_becomeLike w_X1_becomeLike g_X1_becomeLike
