-- words of the tables, and what stands at each place of the methods' code (laid by program)
theorem q_294 : Cond.methodLink RX5 280 yX0_isSafe ∈ ww_tb := by decide +kernel
theorem dX5_safeIn_0 : decode cX5_safeIn 0 = .ok (.aload_n 0, 1) := by decide +kernel
theorem dX5_safeIn_1 : decode cX5_safeIn 1 = .ok (.iload_n 1, 1) := by decide +kernel
theorem dX5_safeIn_2 : decode cX5_safeIn 2 = .ok (.invokevirtual 60, 3) := by decide +kernel
theorem dX5_safeIn_5 : decode cX5_safeIn 5 = .ok (.iload_n 2, 1) := by decide +kernel
theorem dX5_safeIn_6 : decode cX5_safeIn 6 = .ok (.iconst 1, 1) := by decide +kernel
theorem dX5_safeIn_7 : decode cX5_safeIn 7 = .ok (.bipush 60, 2) := by decide +kernel
theorem dX5_safeIn_9 : decode cX5_safeIn 9 = .ok (.invokestatic 23, 3) := by decide +kernel
theorem dX5_safeIn_12 : decode cX5_safeIn 12 = .ok (.aload_n 0, 1) := by decide +kernel
theorem dX5_safeIn_13 : decode cX5_safeIn 13 = .ok (.getfield 10, 3) := by decide +kernel
theorem dX5_safeIn_16 : decode cX5_safeIn 16 = .ok (.getfield 38, 3) := by decide +kernel
theorem dX5_safeIn_19 : decode cX5_safeIn 19 = .ok (.iload_n 1, 1) := by decide +kernel
theorem dX5_safeIn_20 : decode cX5_safeIn 20 = .ok (.aaload, 1) := by decide +kernel
theorem dX5_safeIn_21 : decode cX5_safeIn 21 = .ok (.invokevirtual 280, 3) := by decide +kernel
theorem dX5_safeIn_24 : decode cX5_safeIn 24 = .ok (.ifCond .eq 5, 3) := by decide +kernel
theorem dX5_safeIn_27 : decode cX5_safeIn 27 = .ok (.iconst 0, 1) := by decide +kernel
theorem dX5_safeIn_28 : decode cX5_safeIn 28 = .ok (.ireturn, 1) := by decide +kernel
theorem dX5_safeIn_29 : decode cX5_safeIn 29 = .ok (.aload_n 0, 1) := by decide +kernel
theorem dX5_safeIn_30 : decode cX5_safeIn 30 = .ok (.getfield 16, 3) := by decide +kernel
theorem dX5_safeIn_33 : decode cX5_safeIn 33 = .ok (.aload_n 0, 1) := by decide +kernel
theorem dX5_safeIn_34 : decode cX5_safeIn 34 = .ok (.getfield 10, 3) := by decide +kernel
theorem dX5_safeIn_37 : decode cX5_safeIn 37 = .ok (.invokevirtual 283, 3) := by decide +kernel
theorem dX5_safeIn_40 : decode cX5_safeIn 40 = .ok (.iconst 1, 1) := by decide +kernel
theorem dX5_safeIn_41 : decode cX5_safeIn 41 = .ok (.istore_n 3, 1) := by decide +kernel
theorem dX5_safeIn_42 : decode cX5_safeIn 42 = .ok (.iload_n 3, 1) := by decide +kernel
theorem dX5_safeIn_43 : decode cX5_safeIn 43 = .ok (.iload_n 2, 1) := by decide +kernel
theorem dX5_safeIn_44 : decode cX5_safeIn 44 = .ok (.if_icmp .gt 35, 3) := by decide +kernel
theorem dX5_safeIn_47 : decode cX5_safeIn 47 = .ok (.aload_n 0, 1) := by decide +kernel
theorem dX5_safeIn_48 : decode cX5_safeIn 48 = .ok (.getfield 16, 3) := by decide +kernel
theorem dX5_safeIn_51 : decode cX5_safeIn 51 = .ok (.iconst 1, 1) := by decide +kernel
theorem dX5_safeIn_52 : decode cX5_safeIn 52 = .ok (.invokevirtual 183, 3) := by decide +kernel
theorem dX5_safeIn_55 : decode cX5_safeIn 55 = .ok (.pop, 1) := by decide +kernel
theorem dX5_safeIn_56 : decode cX5_safeIn 56 = .ok (.aload_n 0, 1) := by decide +kernel
theorem dX5_safeIn_57 : decode cX5_safeIn 57 = .ok (.getfield 16, 3) := by decide +kernel
theorem dX5_safeIn_60 : decode cX5_safeIn 60 = .ok (.getfield 38, 3) := by decide +kernel
theorem dX5_safeIn_63 : decode cX5_safeIn 63 = .ok (.iload_n 1, 1) := by decide +kernel
theorem dX5_safeIn_64 : decode cX5_safeIn 64 = .ok (.aaload, 1) := by decide +kernel
theorem dX5_safeIn_65 : decode cX5_safeIn 65 = .ok (.invokevirtual 280, 3) := by decide +kernel
theorem dX5_safeIn_68 : decode cX5_safeIn 68 = .ok (.ifCond .eq 5, 3) := by decide +kernel
theorem dX5_safeIn_71 : decode cX5_safeIn 71 = .ok (.iload_n 3, 1) := by decide +kernel
theorem dX5_safeIn_72 : decode cX5_safeIn 72 = .ok (.ireturn, 1) := by decide +kernel
theorem dX5_safeIn_73 : decode cX5_safeIn 73 = .ok (.iinc 3 1, 3) := by decide +kernel
theorem dX5_safeIn_76 : decode cX5_safeIn 76 = .ok (.goto (-34), 3) := by decide +kernel
theorem dX5_safeIn_79 : decode cX5_safeIn 79 = .ok (.iconst (-1), 1) := by decide +kernel
theorem dX5_safeIn_80 : decode cX5_safeIn 80 = .ok (.ireturn, 1) := by decide +kernel
/-! in how many minutes a group would be safe -/
/-- what n minutes make of a land -/
def jMs (t : jN) : Nat → jN
  | 0 => t
  | n + 1 => jMin (jMs t n)
/-- after n minutes, m more are to be looked at -/
def jSft (t : jN) (g : Nat) : Nat → Nat → Int32 × jN
  | _, 0 => (-1, t)
  | n, m + 1 => if jSafe (jMin t) g then (nI (n + 1), jMin t) else jSft (jMin t) g (n + 1) m
def jSafeIn (w v : jN) (g m : Nat) : Int32 × jN := if jSafe w g then (0, v) else jSft (jLike w v) g 0 m
theorem jPlay_1 (t : jN) : (jPlay t (1 : Int32).toNatClampNeg).1 = jMin t := by
  rw [show (1 : Int32).toNatClampNeg = 1 from by decide, jPlay_e, jPlay_s]
  dsimp only [jIt]
theorem jSft_t {t : jN} {g n m : Nat} (h : jSafe (jMin t) g) : jSft t g n (m + 1) = (nI (n + 1), jMin t) := if_pos h
theorem jSft_f {t : jN} {g n m : Nat} (h : ¬ jSafe (jMin t) g) : jSft t g n (m + 1) = jSft (jMin t) g (n + 1) m := if_neg h
def sp_X5_safeIn : vgC := fun av σ => match av with
  | [.inr (0, 0, 0), .inl (.int c), .inl (.int m)] => (vp_in c (jGc (jV σ 0)) ∧ (¬ m < 1 ∧ m ≤ 60) ∧ vp_in m 100 ∧ jWf (jV σ 0) ∧ jBo (jV σ 0) ∧ jPl (jV σ 0) ∧ jPl (jV σ 1), some (.inl (.int ((jSafeIn (jV σ 0) (jV σ 1) c.toNatClampNeg m.toNatClampNeg).1))), jPut σ 1 (jSafeIn (jV σ 0) (jV σ 1) c.toNatClampNeg m.toNatClampNeg).2)
  | _ => (False, none, σ)
def k_X5_safeIn : List (Nat × vgF) := [(0, vi_aload 0 1), (1, vi_iload 1 2), (2, vi_callV ww_shp 0 sp_X5_checkGroup 1 5), (5, vi_iload 2 6), (6, vi_icst (1) 7), (7, vi_icst (60) 9), (9, vi_callS sp_X5_checkRange 3 12), (12, vi_aload 0 13), (13, vi_get ww_shp 0 0 16), (16, vi_get ww_shp 1 7 19), (19, vi_iload 1 20), (20, vi_aald ww_shp 2 21), (21, vi_callV ww_shp 5 sp_X0_isSafe 0 24), (24, vi_if (fun x => x = 0) 29 27), (27, vi_icst (0) 28), (28, vi_ret), (29, vi_aload 0 30), (30, vi_get ww_shp 0 1 33), (33, vi_aload 0 34), (34, vi_get ww_shp 0 0 37), (37, vi_callV ww_shp 1 sp_X1_becomeLike 1 40), (40, vi_icst (1) 41), (41, vi_istore 3 42), (42, vi_iload 3 43), (43, vi_iload 2 44), (44, vi_cmp (fun x y => y < x) 79 47), (47, vi_aload 0 48), (48, vi_get ww_shp 0 1 51), (51, vi_icst (1) 52), (52, vi_callV ww_shp 1 sp_X1_playMinutes 1 55), (55, vi_pop 56), (56, vi_aload 0 57), (57, vi_get ww_shp 0 1 60), (60, vi_get ww_shp 1 7 63), (63, vi_iload 1 64), (64, vi_aald ww_shp 2 65), (65, vi_callV ww_shp 5 sp_X0_isSafe 0 68), (68, vi_if (fun x => x = 0) 73 71), (71, vi_iload 3 72), (72, vi_ret), (73, vi_iinc 3 (1) 76), (76, vi_goto 42), (79, vi_icst (-1) 80), (80, vi_ret)]
set_option maxRecDepth 20000 in
theorem s_X5_safeIn : ∀ q ∈ k_X5_safeIn, vg_Snd ww_tb ww_nw ww_shp ww_nm ww_cl ww_tyl cX5_safeIn 4 RX5 (some .int) 6 q.1 q.2 := by
  refine vg_cons (vs_aload_n dX5_safeIn_0 rfl rfl) ?_
  refine vg_cons (vs_iload_n dX5_safeIn_1 rfl rfl) ?_
  refine vg_cons (vs_callV (T := TX5) c_X5_checkGroup dX5_safeIn_2 rfl ww_good q_257 q_51 q_258 q_259 q_260 (by decide +kernel) (by decide) rfl) ?_
  refine vg_cons (vs_iload_n dX5_safeIn_5 rfl rfl) ?_
  refine vg_cons (vs_iconst dX5_safeIn_6 rfl rfl) ?_
  refine vg_cons (vs_bipush dX5_safeIn_7 (by decide) rfl) ?_
  refine vg_cons (vs_callS c_X5_checkRange dX5_safeIn_9 ww_good q_201 q_51 q_203 q_202 (by decide +kernel) (by decide) rfl) ?_
  refine vg_cons (vs_aload_n dX5_safeIn_12 rfl rfl) ?_
  refine vg_cons (vs_getfield (T := TX5) dX5_safeIn_13 rfl (by decide) ww_inX5 q_197 rfl) ?_
  refine vg_cons (vs_getfield (T := TX1) dX5_safeIn_16 rfl (by decide) ww_inX1 q_261 rfl) ?_
  refine vg_cons (vs_iload_n dX5_safeIn_19 rfl rfl) ?_
  refine vg_cons (vs_aaload dX5_safeIn_20 rfl rfl) ?_
  refine vg_cons (vs_callV (T := TX0) c_X0_isSafe dX5_safeIn_21 rfl ww_good q_45 q_21 q_294 q_47 q_48 (by decide +kernel) (by decide) rfl) ?_
  refine vg_cons (vs_if_eq dX5_safeIn_24 (by decide) rfl) ?_
  refine vg_cons (vs_iconst dX5_safeIn_27 rfl rfl) ?_
  refine vg_cons (vs_ireturn dX5_safeIn_28 rfl) ?_
  refine vg_cons (vs_aload_n dX5_safeIn_29 rfl rfl) ?_
  refine vg_cons (vs_getfield (T := TX5) dX5_safeIn_30 rfl (by decide) ww_inX5 q_276 rfl) ?_
  refine vg_cons (vs_aload_n dX5_safeIn_33 rfl rfl) ?_
  refine vg_cons (vs_getfield (T := TX5) dX5_safeIn_34 rfl (by decide) ww_inX5 q_197 rfl) ?_
  refine vg_cons (vs_callV (T := TX1) c_X1_becomeLike dX5_safeIn_37 rfl ww_good q_277 q_12 q_278 q_279 q_280 (by decide +kernel) (by decide) rfl) ?_
  refine vg_cons (vs_iconst dX5_safeIn_40 rfl rfl) ?_
  refine vg_cons (vs_istore_n dX5_safeIn_41 rfl (by decide) rfl) ?_
  refine vg_cons (vs_iload_n dX5_safeIn_42 rfl rfl) ?_
  refine vg_cons (vs_iload_n dX5_safeIn_43 rfl rfl) ?_
  refine vg_cons (vs_cmp_gt dX5_safeIn_44 (by decide) rfl) ?_
  refine vg_cons (vs_aload_n dX5_safeIn_47 rfl rfl) ?_
  refine vg_cons (vs_getfield (T := TX5) dX5_safeIn_48 rfl (by decide) ww_inX5 q_276 rfl) ?_
  refine vg_cons (vs_iconst dX5_safeIn_51 rfl rfl) ?_
  refine vg_cons (vs_callV (T := TX1) c_X1_playMinutes dX5_safeIn_52 rfl ww_good q_281 q_12 q_282 q_283 q_284 (by decide +kernel) (by decide) rfl) ?_
  refine vg_cons (vs_pop dX5_safeIn_55 rfl) ?_
  refine vg_cons (vs_aload_n dX5_safeIn_56 rfl rfl) ?_
  refine vg_cons (vs_getfield (T := TX5) dX5_safeIn_57 rfl (by decide) ww_inX5 q_276 rfl) ?_
  refine vg_cons (vs_getfield (T := TX1) dX5_safeIn_60 rfl (by decide) ww_inX1 q_261 rfl) ?_
  refine vg_cons (vs_iload_n dX5_safeIn_63 rfl rfl) ?_
  refine vg_cons (vs_aaload dX5_safeIn_64 rfl rfl) ?_
  refine vg_cons (vs_callV (T := TX0) c_X0_isSafe dX5_safeIn_65 rfl ww_good q_45 q_21 q_294 q_47 q_48 (by decide +kernel) (by decide) rfl) ?_
  refine vg_cons (vs_if_eq dX5_safeIn_68 (by decide) rfl) ?_
  refine vg_cons (vs_iload_n dX5_safeIn_71 rfl rfl) ?_
  refine vg_cons (vs_ireturn dX5_safeIn_72 rfl) ?_
  refine vg_cons (vs_iinc dX5_safeIn_73 rfl rfl) ?_
  refine vg_cons (vs_goto dX5_safeIn_76 (by decide)) ?_
  refine vg_cons (vs_iconst dX5_safeIn_79 rfl rfl) ?_
  refine vg_cons (vs_ireturn dX5_safeIn_80 rfl) ?_
  exact fun _ h => absurd h List.not_mem_nil
theorem m_X5_safeIn : vg_Code k_X5_safeIn := fun q h => (s_X5_safeIn q h).1

theorem w_X5_safeIn : vg_Wd sp_X5_safeIn 4 := by
  intro av σ h
  unfold sp_X5_safeIn at h
  split at h
  · exact Nat.le_of_ble_eq_true rfl
  · exact h.elim
theorem g_X5_safeIn : vg_G k_X5_safeIn sp_X5_safeIn := by
  intro av σ h
  unfold sp_X5_safeIn at h ⊢
  split at h
  next c m =>
    obtain ⟨hc, hm, hm2, hw, hb, hp, hp1⟩ := h
    have h01 : ¬ 0 = 1 := by decide
    obtain ⟨M, hM, rfl⟩ := vp_in_of hm2 (by decide)
    have eM : (nI M).toNatClampNeg = M := jcl rfl (by omega)
    have g8 := hw.1.2
    have hc8 : vp_in c 8 := jwide hc g8 (by decide)
    rw [eM]
    obtain ⟨R, U, hRU⟩ : ∃ R U, jSafeIn (jV σ 0) (jV σ 1) c.toNatClampNeg M = (R, U) := ⟨_, _, rfl⟩
    rw [hRU]
    dsimp only
    unfold jSafeIn at hRU
    refine vg_run (cuts := [(40, [0, 1, 2]), (42, [0, 1, 2, 3]), (56, [0, 1, 2, 3])]) m_X5_safeIn 40 ?_
    refine And.intro ⟨hw, hc⟩ (And.intro hm (And.intro hc8 (And.intro trivial (And.intro (fun hz => ?_) (fun hz => ?_)))))
    · have ns : ¬ jSafe (jV σ 0) c.toNatClampNeg := jb_0.mp hz
      rw [if_neg ns] at hRU
      refine And.intro ⟨h01, hw, hb⟩ ?_
      dsimp only
      have w1 := jLike_wf (v := jV σ 1) hw
      have p1 := jLike_pl hp hp1
      generalize jLike (jV σ 0) (jV σ 1) = t0 at w1 p1 hRU ⊢
      refine vg_run (cuts := [(40, [0, 1, 2]), (42, [0, 1, 2, 3]), (56, [0, 1, 2, 3])]) m_X5_safeIn 40 ?_
      refine vg_loop (fun i lv σ' => ∃ x t, jWf t ∧ jPl t ∧ jSft t c.toNatClampNeg i (M - i) = (R, U) ∧ σ' = jPut σ 1 t ∧ x = nI (i + 1) ∧ lv = [(0, .inr (0, 0, 0)), (1, .inl (.int c)), (2, .inl (.int (nI M))), (3, .inl (.int x))]) M ?_ ?_ 0 _ _ (Nat.zero_le _) ⟨1, t0, w1, p1, hRU, rfl, rfl, rfl⟩
      · rintro i lv σ' hi ⟨x, t, hwt, hpt, he, rfl, hx, rfl⟩ ih
        have eL : M - i = (M - (i + 1)) + 1 := by omega
        rw [eL] at he
        have w2 : jWf (jMin t) := (jMin_keep t).wf hwt
        have p2 : jPl (jMin t) := jMin_pl hwt.2.1.2 hpt
        have cond : ¬ nI M < x := by
          intro z
          have := (jle (c := x) (x := nI M) hx rfl (by omega) (by omega)).mpr (by omega)
          exact absurd this (Int32.not_le.mpr z)
        have e1 := jPlay_1 t
        refine vg_run (cuts := [(40, [0, 1, 2]), (42, [0, 1, 2, 3]), (56, [0, 1, 2, 3])]) m_X5_safeIn 40 ?_
        refine And.intro (fun z => absurd z cond) (fun _ => ?_)
        refine And.intro (by rw [jV_put]; exact ⟨hwt, hpt, (show vp_in (nI 1) 1000 from vp_in_nI (by decide) (by decide))⟩) (And.intro rfl ?_)
        dsimp only
        rw [jPut_put, jV_put, e1]
        generalize hu : jMin t = u at w2 p2
        refine vg_run (cuts := [(40, [0, 1, 2]), (42, [0, 1, 2, 3]), (56, [0, 1, 2, 3])]) m_X5_safeIn 40 ?_
        refine And.intro hc8 (And.intro trivial (And.intro (fun hf => ?_) (fun hf => ?_)))
        · rw [jV_put] at hf
          have hn : ¬ jSafe (jMin t) c.toNatClampNeg := by rw [hu]; exact jb_0.mp hf
          have h3 := (jSft_f hn).symm.trans he
          rw [hu] at h3
          exact ih _ _ ⟨x + 1, u, w2, p2, h3, rfl, jinc hx, rfl⟩
        · rw [jV_put] at hf
          have hs : jSafe (jMin t) c.toNatClampNeg := by rw [hu]; exact Classical.byContradiction (fun z => hf (jb_f z))
          have h3 := (jSft_t hs).symm.trans he
          rw [hu] at h3
          obtain ⟨h4, h5⟩ := Prod.mk.inj h3
          rw [hx, h4, h5]
          exact And.intro rfl rfl
      · rintro lv σ' ⟨x, t, hwt, hpt, he, rfl, hx, rfl⟩
        have cond : nI M < x := by
          refine Int32.not_le.mp (fun z => ?_)
          have := (jle (c := x) (x := nI M) hx rfl (by omega) (by omega)).mp z
          omega
        rw [Nat.sub_self] at he
        obtain ⟨h4, h5⟩ := Prod.mk.inj (show ((-1 : Int32), t) = (R, U) from he)
        refine vg_run (cuts := [(40, [0, 1, 2]), (42, [0, 1, 2, 3]), (56, [0, 1, 2, 3])]) m_X5_safeIn 40 ?_
        refine And.intro (fun _ => ?_) (fun z => absurd cond z)
        rw [← h4, ← h5]
        exact And.intro rfl rfl
    · have ns : jSafe (jV σ 0) c.toNatClampNeg := Classical.byContradiction (fun z => hz (jb_f z))
      rw [if_pos ns] at hRU
      obtain ⟨h4, h5⟩ := Prod.mk.inj hRU
      rw [← h4, ← h5]
      exact And.intro rfl jPut_jV.symm
  next => exact h.elim
theorem c_X5_safeIn : vg_MetF ww_tb ww_nw ww_shp ww_nm ww_cl ww_tyl yX5_safeIn cX5_safeIn 4 (some .int) 6 sp_X5_safeIn := vg_met ww_closed (by decide +kernel) rfl s_X5_safeIn w_X5_safeIn g_X5_safeIn
