-- words of the tables, and what stands at each place of the methods' code (laid by program)
theorem q_276 : Cond.fieldLink RX5 16 (TX5 1).1 (TX5 1).2.1 (TX5 1).2.2.1 ∈ ww_tb := by decide +kernel
theorem q_277 : Cond.code yX1_becomeLike cX1_becomeLike 3 none ∈ ww_tb := by decide +kernel
theorem q_278 : Cond.methodLink RX5 283 yX1_becomeLike ∈ ww_tb := by decide +kernel
theorem q_279 : Cond.instanceMethod yX1_becomeLike ∈ ww_tb := by decide +kernel
theorem q_280 : Cond.selects RX1 yX1_becomeLike yX1_becomeLike ∈ ww_tb := by decide +kernel
theorem q_281 : Cond.code yX1_playMinutes cX1_playMinutes 4 (some .int) ∈ ww_tb := by decide +kernel
theorem q_282 : Cond.methodLink RX5 183 yX1_playMinutes ∈ ww_tb := by decide +kernel
theorem q_283 : Cond.instanceMethod yX1_playMinutes ∈ ww_tb := by decide +kernel
theorem q_284 : Cond.selects RX1 yX1_playMinutes yX1_playMinutes ∈ ww_tb := by decide +kernel
theorem q_285 : Cond.code yX1_peopleBelieving cX1_peopleBelieving 3 (some .int) ∈ ww_tb := by decide +kernel
theorem q_286 : Cond.methodLink RX5 287 yX1_peopleBelieving ∈ ww_tb := by decide +kernel
theorem q_287 : Cond.instanceMethod yX1_peopleBelieving ∈ ww_tb := by decide +kernel
theorem q_288 : Cond.selects RX1 yX1_peopleBelieving yX1_peopleBelieving ∈ ww_tb := by decide +kernel
theorem q_289 : Cond.fieldLink RX5 81 (TX1 10).1 (TX1 10).2.1 (TX1 10).2.2.1 ∈ ww_tb := by decide +kernel
theorem q_290 : Cond.code yX2_add cX2_add 3 (some .int) ∈ ww_tb := by decide +kernel
theorem q_291 : Cond.methodLink RX5 92 yX2_add ∈ ww_tb := by decide +kernel
theorem q_292 : Cond.instanceMethod yX2_add ∈ ww_tb := by decide +kernel
theorem q_293 : Cond.selects RX2 yX2_add yX2_add ∈ ww_tb := by decide +kernel
theorem dX5_sirenWould_0 : decode cX5_sirenWould 0 = .ok (.iload_n 1, 1) := by decide +kernel
theorem dX5_sirenWould_1 : decode cX5_sirenWould 1 = .ok (.invokestatic 19, 3) := by decide +kernel
theorem dX5_sirenWould_4 : decode cX5_sirenWould 4 = .ok (.iload_n 2, 1) := by decide +kernel
theorem dX5_sirenWould_5 : decode cX5_sirenWould 5 = .ok (.iconst 0, 1) := by decide +kernel
theorem dX5_sirenWould_6 : decode cX5_sirenWould 6 = .ok (.iconst 3, 1) := by decide +kernel
theorem dX5_sirenWould_7 : decode cX5_sirenWould 7 = .ok (.invokestatic 23, 3) := by decide +kernel
theorem dX5_sirenWould_10 : decode cX5_sirenWould 10 = .ok (.iload_n 3, 1) := by decide +kernel
theorem dX5_sirenWould_11 : decode cX5_sirenWould 11 = .ok (.iconst 1, 1) := by decide +kernel
theorem dX5_sirenWould_12 : decode cX5_sirenWould 12 = .ok (.bipush 60, 2) := by decide +kernel
theorem dX5_sirenWould_14 : decode cX5_sirenWould 14 = .ok (.invokestatic 23, 3) := by decide +kernel
theorem dX5_sirenWould_17 : decode cX5_sirenWould 17 = .ok (.aload_n 0, 1) := by decide +kernel
theorem dX5_sirenWould_18 : decode cX5_sirenWould 18 = .ok (.getfield 16, 3) := by decide +kernel
theorem dX5_sirenWould_21 : decode cX5_sirenWould 21 = .ok (.aload_n 0, 1) := by decide +kernel
theorem dX5_sirenWould_22 : decode cX5_sirenWould 22 = .ok (.getfield 10, 3) := by decide +kernel
theorem dX5_sirenWould_25 : decode cX5_sirenWould 25 = .ok (.invokevirtual 283, 3) := by decide +kernel
theorem dX5_sirenWould_28 : decode cX5_sirenWould 28 = .ok (.aload_n 0, 1) := by decide +kernel
theorem dX5_sirenWould_29 : decode cX5_sirenWould 29 = .ok (.getfield 16, 3) := by decide +kernel
theorem dX5_sirenWould_32 : decode cX5_sirenWould 32 = .ok (.iload_n 3, 1) := by decide +kernel
theorem dX5_sirenWould_33 : decode cX5_sirenWould 33 = .ok (.invokevirtual 183, 3) := by decide +kernel
theorem dX5_sirenWould_36 : decode cX5_sirenWould 36 = .ok (.pop, 1) := by decide +kernel
theorem dX5_sirenWould_37 : decode cX5_sirenWould 37 = .ok (.aload_n 0, 1) := by decide +kernel
theorem dX5_sirenWould_38 : decode cX5_sirenWould 38 = .ok (.getfield 16, 3) := by decide +kernel
theorem dX5_sirenWould_41 : decode cX5_sirenWould 41 = .ok (.invokevirtual 287, 3) := by decide +kernel
theorem dX5_sirenWould_44 : decode cX5_sirenWould 44 = .ok (.istore 4, 2) := by decide +kernel
theorem dX5_sirenWould_46 : decode cX5_sirenWould 46 = .ok (.aload_n 0, 1) := by decide +kernel
theorem dX5_sirenWould_47 : decode cX5_sirenWould 47 = .ok (.getfield 16, 3) := by decide +kernel
theorem dX5_sirenWould_50 : decode cX5_sirenWould 50 = .ok (.aload_n 0, 1) := by decide +kernel
theorem dX5_sirenWould_51 : decode cX5_sirenWould 51 = .ok (.getfield 10, 3) := by decide +kernel
theorem dX5_sirenWould_54 : decode cX5_sirenWould 54 = .ok (.invokevirtual 283, 3) := by decide +kernel
theorem dX5_sirenWould_57 : decode cX5_sirenWould 57 = .ok (.aload_n 0, 1) := by decide +kernel
theorem dX5_sirenWould_58 : decode cX5_sirenWould 58 = .ok (.getfield 16, 3) := by decide +kernel
theorem dX5_sirenWould_61 : decode cX5_sirenWould 61 = .ok (.getfield 81, 3) := by decide +kernel
theorem dX5_sirenWould_64 : decode cX5_sirenWould 64 = .ok (.iload_n 1, 1) := by decide +kernel
theorem dX5_sirenWould_65 : decode cX5_sirenWould 65 = .ok (.iload_n 2, 1) := by decide +kernel
theorem dX5_sirenWould_66 : decode cX5_sirenWould 66 = .ok (.invokevirtual 92, 3) := by decide +kernel
theorem dX5_sirenWould_69 : decode cX5_sirenWould 69 = .ok (.pop, 1) := by decide +kernel
theorem dX5_sirenWould_70 : decode cX5_sirenWould 70 = .ok (.aload_n 0, 1) := by decide +kernel
theorem dX5_sirenWould_71 : decode cX5_sirenWould 71 = .ok (.getfield 16, 3) := by decide +kernel
theorem dX5_sirenWould_74 : decode cX5_sirenWould 74 = .ok (.iload_n 3, 1) := by decide +kernel
theorem dX5_sirenWould_75 : decode cX5_sirenWould 75 = .ok (.invokevirtual 183, 3) := by decide +kernel
theorem dX5_sirenWould_78 : decode cX5_sirenWould 78 = .ok (.pop, 1) := by decide +kernel
theorem dX5_sirenWould_79 : decode cX5_sirenWould 79 = .ok (.aload_n 0, 1) := by decide +kernel
theorem dX5_sirenWould_80 : decode cX5_sirenWould 80 = .ok (.getfield 16, 3) := by decide +kernel
theorem dX5_sirenWould_83 : decode cX5_sirenWould 83 = .ok (.invokevirtual 287, 3) := by decide +kernel
theorem dX5_sirenWould_86 : decode cX5_sirenWould 86 = .ok (.iload 4, 2) := by decide +kernel
theorem dX5_sirenWould_88 : decode cX5_sirenWould 88 = .ok (.isub, 1) := by decide +kernel
theorem dX5_sirenWould_89 : decode cX5_sirenWould 89 = .ok (.ireturn, 1) := by decide +kernel
/-! what would be -/
theorem jRL_t {a c d e f k i s : Nat} (h : (k = 1 ∧ i = 0 ∧ s < 7) ∨ (k = 5 ∧ i < 2 ∧ s = 3)) : jRL a c d e f k i s = true := by
  rcases h with ⟨rfl, rfl, h⟩ | ⟨rfl, h, rfl⟩
  · simp [jRL, jRA, h]
  · rcases (show i = 0 ∨ i = 1 by omega) with rfl | rfl
    · simp [jRL, jRS]
    · simp [jRL, jRS]
theorem jLike_c {w v : jN} {k i s : Nat} (h : (k = 1 ∧ i = 0 ∧ s < 7) ∨ (k = 5 ∧ i < 2 ∧ s = 3)) : jLike w v k i s = w k i s := by
  unfold jLike
  exact jCp_t (jRL_t h)
theorem jLike_wf {w v : jN} (h : jWf w) : jWf (jLike w v) := by
  unfold jWf jGc jSc jWc jNc
  rw [jLike_c (k := 1) (i := 0) (s := 4) (by omega), jLike_c (k := 1) (i := 0) (s := 5) (by omega), jLike_c (k := 1) (i := 0) (s := 6) (by omega), jLike_c (k := 5) (i := 0) (s := 3) (by omega), jLike_c (k := 5) (i := 1) (s := 3) (by omega)]
  exact h
theorem jLike_or {w v : jN} (k i s : Nat) : jLike w v k i s = w k i s ∨ jLike w v k i s = v k i s := by
  unfold jLike jCp
  split
  · exact Or.inl rfl
  · exact Or.inr rfl
theorem jLike_pl {w v : jN} (h : jPl w) (h' : jPl v) : jPl (jLike w v) := by
  refine ⟨fun g hg => ?_, fun s hs => ?_⟩
  · rcases jLike_or (w := w) (v := v) 9 g 0 with z | z
    · rw [z]; exact h.1 g hg
    · rw [z]; exact h'.1 g hg
  · rcases jLike_or (w := w) (v := v) 10 s 0 with z | z
    · rw [z]; exact h.2 s hs
    · rw [z]; exact h'.2 s hs
theorem jAddS_wf {v : jN} {c r : Int32} (h : jWf v) (h4 : jNc v 0 ≤ 4) : jWf (jAddS v 0 c r) := by
  obtain ⟨h1, h2, h3, h5, h6⟩ := h
  have e : jAddS v 0 c r 5 0 3 = nI (jNc v 0 + 1) := by
    unfold jAddS
    rw [jUp_at]
    exact jinc h5.1
  refine ⟨h1, h2, h3, ⟨?_, ?_⟩, h6⟩
  · rw [e]
    refine congrArg nI ?_
    show jNc v 0 + 1 = (jAddS v 0 c r 5 0 3).toNatClampNeg
    rw [jcl e (by omega)]
  · show (jAddS v 0 c r 5 0 3).toNatClampNeg ≤ 5
    rw [jcl e (by omega)]
    omega
theorem jAddS_pl {v : jN} {c r : Int32} (h : jPl v) : jPl (jAddS v 0 c r) := by
  unfold jAddS
  exact (((h.up (by omega)).up (by omega)).up (by omega)).up (by omega)
theorem jPlay_wf {v : jN} (hw : jWf v) (h : jPl v) (n : Nat) : jWf (jPlay v n).1 ∧ jPl (jPlay v n).1 := by
  rw [jPlay_e]
  have z := jPlay_inv hw h n
  exact ⟨z.1.wf hw, z.2⟩
/-- how many people believe something -/
def jBelv (v : jN) : Int32 := jSum (fun g => if jLt v g = -1 then 0 else v 9 g 1) (jGc v)
def jW1 (w v : jN) (n : Nat) : jN := (jPlay (jLike w v) n).1
def jW2 (w v : jN) (c r : Int32) (n : Nat) : jN := (jPlay (jAddS (jLike w (jW1 w v n)) 0 c r) n).1
theorem jPut_jV0 {σ : vgS} {v : jN} {b b' : Nat} (h : ¬ b' = b) : jV (jPut σ b v) b' = jV σ b' := jV_put_ne h
def sp_X5_sirenWould : vgC := fun av σ => match av with
  | [.inr (0, 0, 0), .inl (.int c), .inl (.int r), .inl (.int m)] => (vp_in c 16 ∧ (¬ r < 0 ∧ r ≤ 3) ∧ (¬ m < 1 ∧ m ≤ 60) ∧ vp_in m 1000 ∧ jWf (jV σ 0) ∧ jBo (jV σ 0) ∧ jPl (jV σ 0) ∧ jPl (jV σ 1) ∧ jNc (jV σ 0) 0 ≤ 4, some (.inl (.int (jBelv (jW2 (jV σ 0) (jV σ 1) c r m.toNatClampNeg) - jBelv (jW1 (jV σ 0) (jV σ 1) m.toNatClampNeg)))), jPut σ 1 (jW2 (jV σ 0) (jV σ 1) c r m.toNatClampNeg))
  | _ => (False, none, σ)
def k_X5_sirenWould : List (Nat × vgF) := [(0, vi_iload 1 1), (1, vi_callS sp_X5_checkCell 1 4), (4, vi_iload 2 5), (5, vi_icst (0) 6), (6, vi_icst (3) 7), (7, vi_callS sp_X5_checkRange 3 10), (10, vi_iload 3 11), (11, vi_icst (1) 12), (12, vi_icst (60) 14), (14, vi_callS sp_X5_checkRange 3 17), (17, vi_aload 0 18), (18, vi_get ww_shp 0 1 21), (21, vi_aload 0 22), (22, vi_get ww_shp 0 0 25), (25, vi_callV ww_shp 1 sp_X1_becomeLike 1 28), (28, vi_aload 0 29), (29, vi_get ww_shp 0 1 32), (32, vi_iload 3 33), (33, vi_callV ww_shp 1 sp_X1_playMinutes 1 36), (36, vi_pop 37), (37, vi_aload 0 38), (38, vi_get ww_shp 0 1 41), (41, vi_callV ww_shp 1 sp_X1_peopleBelieving 0 44), (44, vi_istore 4 46), (46, vi_aload 0 47), (47, vi_get ww_shp 0 1 50), (50, vi_aload 0 51), (51, vi_get ww_shp 0 0 54), (54, vi_callV ww_shp 1 sp_X1_becomeLike 1 57), (57, vi_aload 0 58), (58, vi_get ww_shp 0 1 61), (61, vi_get ww_shp 1 10 64), (64, vi_iload 1 65), (65, vi_iload 2 66), (66, vi_callV ww_shp 2 sp_X2_add 2 69), (69, vi_pop 70), (70, vi_aload 0 71), (71, vi_get ww_shp 0 1 74), (74, vi_iload 3 75), (75, vi_callV ww_shp 1 sp_X1_playMinutes 1 78), (78, vi_pop 79), (79, vi_aload 0 80), (80, vi_get ww_shp 0 1 83), (83, vi_callV ww_shp 1 sp_X1_peopleBelieving 0 86), (86, vi_iload 4 88), (88, vi_bin (fun x y => x - y) 89), (89, vi_ret)]
set_option maxRecDepth 20000 in
theorem s_X5_sirenWould : ∀ q ∈ k_X5_sirenWould, vg_Snd ww_tb ww_nw ww_shp ww_nm ww_cl ww_tyl cX5_sirenWould 5 RX5 (some .int) 6 q.1 q.2 := by
  refine vg_cons (vs_iload_n dX5_sirenWould_0 rfl rfl) ?_
  refine vg_cons (vs_callS c_X5_checkCell dX5_sirenWould_1 ww_good q_236 q_51 q_238 q_237 (by decide +kernel) (by decide) rfl) ?_
  refine vg_cons (vs_iload_n dX5_sirenWould_4 rfl rfl) ?_
  refine vg_cons (vs_iconst dX5_sirenWould_5 rfl rfl) ?_
  refine vg_cons (vs_iconst dX5_sirenWould_6 rfl rfl) ?_
  refine vg_cons (vs_callS c_X5_checkRange dX5_sirenWould_7 ww_good q_201 q_51 q_203 q_202 (by decide +kernel) (by decide) rfl) ?_
  refine vg_cons (vs_iload_n dX5_sirenWould_10 rfl rfl) ?_
  refine vg_cons (vs_iconst dX5_sirenWould_11 rfl rfl) ?_
  refine vg_cons (vs_bipush dX5_sirenWould_12 (by decide) rfl) ?_
  refine vg_cons (vs_callS c_X5_checkRange dX5_sirenWould_14 ww_good q_201 q_51 q_203 q_202 (by decide +kernel) (by decide) rfl) ?_
  refine vg_cons (vs_aload_n dX5_sirenWould_17 rfl rfl) ?_
  refine vg_cons (vs_getfield (T := TX5) dX5_sirenWould_18 rfl (by decide) ww_inX5 q_276 rfl) ?_
  refine vg_cons (vs_aload_n dX5_sirenWould_21 rfl rfl) ?_
  refine vg_cons (vs_getfield (T := TX5) dX5_sirenWould_22 rfl (by decide) ww_inX5 q_197 rfl) ?_
  refine vg_cons (vs_callV (T := TX1) c_X1_becomeLike dX5_sirenWould_25 rfl ww_good q_277 q_12 q_278 q_279 q_280 (by decide +kernel) (by decide) rfl) ?_
  refine vg_cons (vs_aload_n dX5_sirenWould_28 rfl rfl) ?_
  refine vg_cons (vs_getfield (T := TX5) dX5_sirenWould_29 rfl (by decide) ww_inX5 q_276 rfl) ?_
  refine vg_cons (vs_iload_n dX5_sirenWould_32 rfl rfl) ?_
  refine vg_cons (vs_callV (T := TX1) c_X1_playMinutes dX5_sirenWould_33 rfl ww_good q_281 q_12 q_282 q_283 q_284 (by decide +kernel) (by decide) rfl) ?_
  refine vg_cons (vs_pop dX5_sirenWould_36 rfl) ?_
  refine vg_cons (vs_aload_n dX5_sirenWould_37 rfl rfl) ?_
  refine vg_cons (vs_getfield (T := TX5) dX5_sirenWould_38 rfl (by decide) ww_inX5 q_276 rfl) ?_
  refine vg_cons (vs_callV (T := TX1) c_X1_peopleBelieving dX5_sirenWould_41 rfl ww_good q_285 q_12 q_286 q_287 q_288 (by decide +kernel) (by decide) rfl) ?_
  refine vg_cons (vs_istore dX5_sirenWould_44 (by decide) rfl) ?_
  refine vg_cons (vs_aload_n dX5_sirenWould_46 rfl rfl) ?_
  refine vg_cons (vs_getfield (T := TX5) dX5_sirenWould_47 rfl (by decide) ww_inX5 q_276 rfl) ?_
  refine vg_cons (vs_aload_n dX5_sirenWould_50 rfl rfl) ?_
  refine vg_cons (vs_getfield (T := TX5) dX5_sirenWould_51 rfl (by decide) ww_inX5 q_197 rfl) ?_
  refine vg_cons (vs_callV (T := TX1) c_X1_becomeLike dX5_sirenWould_54 rfl ww_good q_277 q_12 q_278 q_279 q_280 (by decide +kernel) (by decide) rfl) ?_
  refine vg_cons (vs_aload_n dX5_sirenWould_57 rfl rfl) ?_
  refine vg_cons (vs_getfield (T := TX5) dX5_sirenWould_58 rfl (by decide) ww_inX5 q_276 rfl) ?_
  refine vg_cons (vs_getfield (T := TX1) dX5_sirenWould_61 rfl (by decide) ww_inX1 q_289 rfl) ?_
  refine vg_cons (vs_iload_n dX5_sirenWould_64 rfl rfl) ?_
  refine vg_cons (vs_iload_n dX5_sirenWould_65 rfl rfl) ?_
  refine vg_cons (vs_callV (T := TX2) c_X2_add dX5_sirenWould_66 rfl ww_good q_290 q_86 q_291 q_292 q_293 (by decide +kernel) (by decide) rfl) ?_
  refine vg_cons (vs_pop dX5_sirenWould_69 rfl) ?_
  refine vg_cons (vs_aload_n dX5_sirenWould_70 rfl rfl) ?_
  refine vg_cons (vs_getfield (T := TX5) dX5_sirenWould_71 rfl (by decide) ww_inX5 q_276 rfl) ?_
  refine vg_cons (vs_iload_n dX5_sirenWould_74 rfl rfl) ?_
  refine vg_cons (vs_callV (T := TX1) c_X1_playMinutes dX5_sirenWould_75 rfl ww_good q_281 q_12 q_282 q_283 q_284 (by decide +kernel) (by decide) rfl) ?_
  refine vg_cons (vs_pop dX5_sirenWould_78 rfl) ?_
  refine vg_cons (vs_aload_n dX5_sirenWould_79 rfl rfl) ?_
  refine vg_cons (vs_getfield (T := TX5) dX5_sirenWould_80 rfl (by decide) ww_inX5 q_276 rfl) ?_
  refine vg_cons (vs_callV (T := TX1) c_X1_peopleBelieving dX5_sirenWould_83 rfl ww_good q_285 q_12 q_286 q_287 q_288 (by decide +kernel) (by decide) rfl) ?_
  refine vg_cons (vs_iload dX5_sirenWould_86 rfl) ?_
  refine vg_cons (vs_isub dX5_sirenWould_88 rfl) ?_
  refine vg_cons (vs_ireturn dX5_sirenWould_89 rfl) ?_
  exact fun _ h => absurd h List.not_mem_nil
theorem m_X5_sirenWould : vg_Code k_X5_sirenWould := fun q h => (s_X5_sirenWould q h).1

theorem w_X5_sirenWould : vg_Wd sp_X5_sirenWould 5 := by
  intro av σ h
  unfold sp_X5_sirenWould at h
  split at h
  · exact Nat.le_of_ble_eq_true rfl
  · exact h.elim
theorem g_X5_sirenWould : vg_G k_X5_sirenWould sp_X5_sirenWould := by
  intro av σ h
  unfold sp_X5_sirenWould at h ⊢
  split at h
  next c r m =>
    obtain ⟨hc, hr, hm, hm2, hw, hb, hp, hp1, hn⟩ := h
    have h01 : ¬ 0 = 1 := by decide
    refine vg_run (cuts := [(28, [0, 1, 2, 3]), (37, [0, 1, 2, 3]), (46, [0, 1, 2, 3, 4]), (57, [0, 1, 2, 3, 4]), (70, [0, 1, 2, 3, 4]), (79, [0, 1, 2, 3, 4])]) m_X5_sirenWould 40 ?_
    refine And.intro hc (And.intro hr (And.intro hm (And.intro ⟨h01, hw, hb⟩ ?_)))
    refine vg_run (cuts := [(28, [0, 1, 2, 3]), (37, [0, 1, 2, 3]), (46, [0, 1, 2, 3, 4]), (57, [0, 1, 2, 3, 4]), (70, [0, 1, 2, 3, 4]), (79, [0, 1, 2, 3, 4])]) m_X5_sirenWould 40 ?_
    have w1 := jLike_wf (v := jV σ 1) hw
    have p1 := jLike_pl hp hp1
    refine And.intro (by rw [jV_put]; exact ⟨w1, p1, hm2⟩) (And.intro rfl ?_)
    dsimp only
    rw [jPut_put, jV_put]
    have e1 : (jPlay (jLike (jV σ 0) (jV σ 1)) m.toNatClampNeg).1 = jW1 (jV σ 0) (jV σ 1) m.toNatClampNeg := rfl
    have z1 := jPlay_wf w1 p1 m.toNatClampNeg
    rw [e1] at z1
    rw [e1]
    unfold jW2
    generalize jW1 (jV σ 0) (jV σ 1) m.toNatClampNeg = u1 at z1 ⊢
    refine vg_run (cuts := [(28, [0, 1, 2, 3]), (37, [0, 1, 2, 3]), (46, [0, 1, 2, 3, 4]), (57, [0, 1, 2, 3, 4]), (70, [0, 1, 2, 3, 4]), (79, [0, 1, 2, 3, 4])]) m_X5_sirenWould 40 ?_
    refine And.intro (by rw [jV_put]; exact z1.1) ?_
    dsimp only
    rw [jV_put]
    refine vg_run (cuts := [(28, [0, 1, 2, 3]), (37, [0, 1, 2, 3]), (46, [0, 1, 2, 3, 4]), (57, [0, 1, 2, 3, 4]), (70, [0, 1, 2, 3, 4]), (79, [0, 1, 2, 3, 4])]) m_X5_sirenWould 40 ?_
    refine And.intro ⟨h01, by rw [jV_put_ne h01]; exact hw, by rw [jV_put_ne h01]; exact hb⟩ ?_
    dsimp only
    rw [jPut_put, jV_put_ne h01, jV_put]
    have w2 := jLike_wf (v := u1) hw
    have p2 := jLike_pl hp z1.2
    have n2 : jNc (jLike (jV σ 0) u1) 0 ≤ 4 := by
      unfold jNc
      rw [jLike_c (by omega)]
      exact hn
    generalize jLike (jV σ 0) u1 = t2 at w2 p2 n2 ⊢
    refine vg_run (cuts := [(28, [0, 1, 2, 3]), (37, [0, 1, 2, 3]), (46, [0, 1, 2, 3, 4]), (57, [0, 1, 2, 3, 4]), (70, [0, 1, 2, 3, 4]), (79, [0, 1, 2, 3, 4])]) m_X5_sirenWould 40 ?_
    refine And.intro (by rw [jV_put]; exact ⟨w2.2.2.2.1.1, n2⟩) (And.intro rfl ?_)
    dsimp only
    rw [jPut_put, jV_put]
    have w3 := jAddS_wf (c := c) (r := r) w2 n2
    have p3 := jAddS_pl (c := c) (r := r) p2
    generalize jAddS t2 0 c r = t3 at w3 p3 ⊢
    have z3 := jPlay_wf w3 p3 m.toNatClampNeg
    refine vg_run (cuts := [(28, [0, 1, 2, 3]), (37, [0, 1, 2, 3]), (46, [0, 1, 2, 3, 4]), (57, [0, 1, 2, 3, 4]), (70, [0, 1, 2, 3, 4]), (79, [0, 1, 2, 3, 4])]) m_X5_sirenWould 40 ?_
    refine And.intro (by rw [jV_put]; exact ⟨w3, p3, hm2⟩) (And.intro rfl ?_)
    dsimp only
    rw [jPut_put, jV_put]
    generalize (jPlay t3 m.toNatClampNeg).1 = u3 at z3 ⊢
    refine vg_run (cuts := [(28, [0, 1, 2, 3]), (37, [0, 1, 2, 3]), (46, [0, 1, 2, 3, 4]), (57, [0, 1, 2, 3, 4]), (70, [0, 1, 2, 3, 4]), (79, [0, 1, 2, 3, 4])]) m_X5_sirenWould 40 ?_
    refine And.intro (by rw [jV_put]; exact z3.1) ?_
    refine And.intro ?_ rfl
    dsimp only
    rw [jV_put]
    rfl
  next => exact h.elim
theorem c_X5_sirenWould : vg_MetF ww_tb ww_nw ww_shp ww_nm ww_cl ww_tyl yX5_sirenWould cX5_sirenWould 5 (some .int) 6 sp_X5_sirenWould := vg_met ww_closed (by decide +kernel) rfl s_X5_sirenWould w_X5_sirenWould g_X5_sirenWould
