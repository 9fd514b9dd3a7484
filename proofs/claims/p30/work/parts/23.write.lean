-- words of the tables, and what stands at each place of the methods' code (laid by program)
theorem q_70 : Cond.fieldLink RX1 260 (TX0 7).1 (TX0 7).2.1 (TX0 7).2.2.1 ∈ ww_tb := by decide +kernel
theorem q_71 : Cond.fieldLink RX0 18 (TX0 8).1 (TX0 8).2.1 (TX0 8).2.2.1 ∈ ww_tb := by decide +kernel
theorem q_72 : Cond.fieldLink RX0 22 (TX0 9).1 (TX0 9).2.1 (TX0 9).2.2.1 ∈ ww_tb := by decide +kernel
theorem q_73 : Cond.fieldLink RX0 25 (TX0 10).1 (TX0 10).2.1 (TX0 10).2.2.1 ∈ ww_tb := by decide +kernel
theorem q_74 : Cond.fieldLink RX0 28 (TX0 11).1 (TX0 11).2.1 (TX0 11).2.2.1 ∈ ww_tb := by decide +kernel
theorem dX1_harmAll_0 : decode cX1_harmAll 0 = .ok (.iconst 0, 1) := by decide +kernel
theorem dX1_harmAll_1 : decode cX1_harmAll 1 = .ok (.istore_n 1, 1) := by decide +kernel
theorem dX1_harmAll_2 : decode cX1_harmAll 2 = .ok (.iload_n 1, 1) := by decide +kernel
theorem dX1_harmAll_3 : decode cX1_harmAll 3 = .ok (.aload_n 0, 1) := by decide +kernel
theorem dX1_harmAll_4 : decode cX1_harmAll 4 = .ok (.getfield 62, 3) := by decide +kernel
theorem dX1_harmAll_7 : decode cX1_harmAll 7 = .ok (.if_icmp .ge 51, 3) := by decide +kernel
theorem dX1_harmAll_10 : decode cX1_harmAll 10 = .ok (.aload_n 0, 1) := by decide +kernel
theorem dX1_harmAll_11 : decode cX1_harmAll 11 = .ok (.getfield 20, 3) := by decide +kernel
theorem dX1_harmAll_14 : decode cX1_harmAll 14 = .ok (.iload_n 1, 1) := by decide +kernel
theorem dX1_harmAll_15 : decode cX1_harmAll 15 = .ok (.aaload, 1) := by decide +kernel
theorem dX1_harmAll_16 : decode cX1_harmAll 16 = .ok (.astore_n 2, 1) := by decide +kernel
theorem dX1_harmAll_17 : decode cX1_harmAll 17 = .ok (.aload_n 2, 1) := by decide +kernel
theorem dX1_harmAll_18 : decode cX1_harmAll 18 = .ok (.invokevirtual 97, 3) := by decide +kernel
theorem dX1_harmAll_21 : decode cX1_harmAll 21 = .ok (.ifCond .ne 31, 3) := by decide +kernel
theorem dX1_harmAll_24 : decode cX1_harmAll 24 = .ok (.aload_n 2, 1) := by decide +kernel
theorem dX1_harmAll_25 : decode cX1_harmAll 25 = .ok (.invokevirtual 126, 3) := by decide +kernel
theorem dX1_harmAll_28 : decode cX1_harmAll 28 = .ok (.ifCond .ne 24, 3) := by decide +kernel
theorem dX1_harmAll_31 : decode cX1_harmAll 31 = .ok (.aload_n 0, 1) := by decide +kernel
theorem dX1_harmAll_32 : decode cX1_harmAll 32 = .ok (.aload_n 2, 1) := by decide +kernel
theorem dX1_harmAll_33 : decode cX1_harmAll 33 = .ok (.getfield 129, 3) := by decide +kernel
theorem dX1_harmAll_36 : decode cX1_harmAll 36 = .ok (.invokevirtual 108, 3) := by decide +kernel
theorem dX1_harmAll_39 : decode cX1_harmAll 39 = .ok (.ifCond .eq 13, 3) := by decide +kernel
theorem dX1_harmAll_42 : decode cX1_harmAll 42 = .ok (.aload_n 2, 1) := by decide +kernel
theorem dX1_harmAll_43 : decode cX1_harmAll 43 = .ok (.dup, 1) := by decide +kernel
theorem dX1_harmAll_44 : decode cX1_harmAll 44 = .ok (.getfield 260, 3) := by decide +kernel
theorem dX1_harmAll_47 : decode cX1_harmAll 47 = .ok (.iconst 1, 1) := by decide +kernel
theorem dX1_harmAll_48 : decode cX1_harmAll 48 = .ok (.iadd, 1) := by decide +kernel
theorem dX1_harmAll_49 : decode cX1_harmAll 49 = .ok (.putfield 260, 3) := by decide +kernel
theorem dX1_harmAll_52 : decode cX1_harmAll 52 = .ok (.iinc 1 1, 3) := by decide +kernel
theorem dX1_harmAll_55 : decode cX1_harmAll 55 = .ok (.goto (-53), 3) := by decide +kernel
theorem dX1_harmAll_58 : decode cX1_harmAll 58 = .ok (.return_, 1) := by decide +kernel
theorem dX0_noteWays_0 : decode cX0_noteWays 0 = .ok (.aload_n 0, 1) := by decide +kernel
theorem dX0_noteWays_1 : decode cX0_noteWays 1 = .ok (.getfield 18, 3) := by decide +kernel
theorem dX0_noteWays_4 : decode cX0_noteWays 4 = .ok (.iload_n 1, 1) := by decide +kernel
theorem dX0_noteWays_5 : decode cX0_noteWays 5 = .ok (.iaload, 1) := by decide +kernel
theorem dX0_noteWays_6 : decode cX0_noteWays 6 = .ok (.ifCond .ne 79, 3) := by decide +kernel
theorem dX0_noteWays_9 : decode cX0_noteWays 9 = .ok (.iload_n 2, 1) := by decide +kernel
theorem dX0_noteWays_10 : decode cX0_noteWays 10 = .ok (.ifCond .eq 75, 3) := by decide +kernel
theorem dX0_noteWays_13 : decode cX0_noteWays 13 = .ok (.aload_n 0, 1) := by decide +kernel
theorem dX0_noteWays_14 : decode cX0_noteWays 14 = .ok (.getfield 22, 3) := by decide +kernel
theorem dX0_noteWays_17 : decode cX0_noteWays 17 = .ok (.iload_n 1, 1) := by decide +kernel
theorem dX0_noteWays_18 : decode cX0_noteWays 18 = .ok (.iload 4, 2) := by decide +kernel
theorem dX0_noteWays_20 : decode cX0_noteWays 20 = .ok (.iastore, 1) := by decide +kernel
theorem dX0_noteWays_21 : decode cX0_noteWays 21 = .ok (.aload_n 0, 1) := by decide +kernel
theorem dX0_noteWays_22 : decode cX0_noteWays 22 = .ok (.getfield 25, 3) := by decide +kernel
theorem dX0_noteWays_25 : decode cX0_noteWays 25 = .ok (.iload_n 1, 1) := by decide +kernel
theorem dX0_noteWays_26 : decode cX0_noteWays 26 = .ok (.iconst 0, 1) := by decide +kernel
theorem dX0_noteWays_27 : decode cX0_noteWays 27 = .ok (.iastore, 1) := by decide +kernel
theorem dX0_noteWays_28 : decode cX0_noteWays 28 = .ok (.aload_n 0, 1) := by decide +kernel
theorem dX0_noteWays_29 : decode cX0_noteWays 29 = .ok (.getfield 25, 3) := by decide +kernel
theorem dX0_noteWays_32 : decode cX0_noteWays 32 = .ok (.iload_n 1, 1) := by decide +kernel
theorem dX0_noteWays_33 : decode cX0_noteWays 33 = .ok (.iaload, 1) := by decide +kernel
theorem dX0_noteWays_34 : decode cX0_noteWays 34 = .ok (.iconst 4, 1) := by decide +kernel
theorem dX0_noteWays_35 : decode cX0_noteWays 35 = .ok (.if_icmp .ge 29, 3) := by decide +kernel
theorem dX0_noteWays_38 : decode cX0_noteWays 38 = .ok (.iload_n 2, 1) := by decide +kernel
theorem dX0_noteWays_39 : decode cX0_noteWays 39 = .ok (.aload_n 0, 1) := by decide +kernel
theorem dX0_noteWays_40 : decode cX0_noteWays 40 = .ok (.getfield 25, 3) := by decide +kernel
theorem dX0_noteWays_43 : decode cX0_noteWays 43 = .ok (.iload_n 1, 1) := by decide +kernel
theorem dX0_noteWays_44 : decode cX0_noteWays 44 = .ok (.iaload, 1) := by decide +kernel
theorem dX0_noteWays_45 : decode cX0_noteWays 45 = .ok (.invokestatic 65, 3) := by decide +kernel
theorem dX0_noteWays_48 : decode cX0_noteWays 48 = .ok (.ifCond .ne 16, 3) := by decide +kernel
theorem dX0_noteWays_51 : decode cX0_noteWays 51 = .ok (.aload_n 0, 1) := by decide +kernel
theorem dX0_noteWays_52 : decode cX0_noteWays 52 = .ok (.getfield 25, 3) := by decide +kernel
theorem dX0_noteWays_55 : decode cX0_noteWays 55 = .ok (.iload_n 1, 1) := by decide +kernel
theorem dX0_noteWays_56 : decode cX0_noteWays 56 = .ok (.dup2, 1) := by decide +kernel
theorem dX0_noteWays_57 : decode cX0_noteWays 57 = .ok (.iaload, 1) := by decide +kernel
theorem dX0_noteWays_58 : decode cX0_noteWays 58 = .ok (.iconst 1, 1) := by decide +kernel
theorem dX0_noteWays_59 : decode cX0_noteWays 59 = .ok (.iadd, 1) := by decide +kernel
theorem dX0_noteWays_60 : decode cX0_noteWays 60 = .ok (.iastore, 1) := by decide +kernel
theorem dX0_noteWays_61 : decode cX0_noteWays 61 = .ok (.goto (-33), 3) := by decide +kernel
theorem dX0_noteWays_64 : decode cX0_noteWays 64 = .ok (.aload_n 0, 1) := by decide +kernel
theorem dX0_noteWays_65 : decode cX0_noteWays 65 = .ok (.getfield 28, 3) := by decide +kernel
theorem dX0_noteWays_68 : decode cX0_noteWays 68 = .ok (.iload_n 1, 1) := by decide +kernel
theorem dX0_noteWays_69 : decode cX0_noteWays 69 = .ok (.aload_n 0, 1) := by decide +kernel
theorem dX0_noteWays_70 : decode cX0_noteWays 70 = .ok (.getfield 25, 3) := by decide +kernel
theorem dX0_noteWays_73 : decode cX0_noteWays 73 = .ok (.iload_n 1, 1) := by decide +kernel
theorem dX0_noteWays_74 : decode cX0_noteWays 74 = .ok (.iaload, 1) := by decide +kernel
theorem dX0_noteWays_75 : decode cX0_noteWays 75 = .ok (.iconst 4, 1) := by decide +kernel
theorem dX0_noteWays_76 : decode cX0_noteWays 76 = .ok (.if_icmp .ne 7, 3) := by decide +kernel
theorem dX0_noteWays_79 : decode cX0_noteWays 79 = .ok (.iload_n 3, 1) := by decide +kernel
theorem dX0_noteWays_80 : decode cX0_noteWays 80 = .ok (.goto 4, 3) := by decide +kernel
theorem dX0_noteWays_83 : decode cX0_noteWays 83 = .ok (.iconst (-1), 1) := by decide +kernel
theorem dX0_noteWays_84 : decode cX0_noteWays 84 = .ok (.iastore, 1) := by decide +kernel
theorem dX0_noteWays_85 : decode cX0_noteWays 85 = .ok (.aload_n 0, 1) := by decide +kernel
theorem dX0_noteWays_86 : decode cX0_noteWays 86 = .ok (.getfield 18, 3) := by decide +kernel
theorem dX0_noteWays_89 : decode cX0_noteWays 89 = .ok (.iload_n 1, 1) := by decide +kernel
theorem dX0_noteWays_90 : decode cX0_noteWays 90 = .ok (.dup2, 1) := by decide +kernel
theorem dX0_noteWays_91 : decode cX0_noteWays 91 = .ok (.iaload, 1) := by decide +kernel
theorem dX0_noteWays_92 : decode cX0_noteWays 92 = .ok (.iload_n 2, 1) := by decide +kernel
theorem dX0_noteWays_93 : decode cX0_noteWays 93 = .ok (.ior, 1) := by decide +kernel
theorem dX0_noteWays_94 : decode cX0_noteWays 94 = .ok (.iastore, 1) := by decide +kernel
theorem dX0_noteWays_95 : decode cX0_noteWays 95 = .ok (.return_, 1) := by decide +kernel
/-! what a land writes in a minute -/
def jHarm (g : Nat) (v : jN) : jN := if ¬ jGone v g ∧ ¬ jSafe v g ∧ jDng v (v 9 g 0).toNatClampNeg then jUp v 9 g 7 (v 9 g 7 + 1) else v
def jHarmAll (v : jN) : jN := jIt jHarm (jGc v) v
theorem jHarm_keep (g : Nat) (v : jN) : jKeep v (jHarm g v) := by
  unfold jHarm
  split
  · exact jKeep.rf.up (by omega)
  · exact jKeep.rf
/-- where groups and shelters are -/
def jPl (v : jN) : Prop := (∀ g, g < 8 → vp_in (v 9 g 0) 16) ∧ ∀ s, s < 3 → vp_in (v 10 s 0) 16
theorem jPl.up {v : jN} {k i s : Nat} {x : Int32} (h : jPl v) (hk : ¬ s = 0 ∨ ¬ (k = 9 ∨ k = 10)) : jPl (jUp v k i s x) := by
  refine ⟨fun g hg => ?_, fun s' hs => ?_⟩
  · rw [show jUp v k i s x 9 g 0 = v 9 g 0 from if_neg (fun z => by omega)]
    exact h.1 g hg
  · rw [show jUp v k i s x 10 s' 0 = v 10 s' 0 from if_neg (fun z => by omega)]
    exact h.2 s' hs
theorem jHarm_pl {g : Nat} {v : jN} (h : jPl v) : jPl (jHarm g v) := by
  unfold jHarm
  split
  · exact h.up (by omega)
  · exact h
theorem jIt_pl {f : Nat → jN → jN} (hf : ∀ i v, jPl v → jPl (f i v)) {v : jN} (h : jPl v) : ∀ n, jPl (jIt f n v)
  | 0 => h
  | n + 1 => hf n _ (jIt_pl hf h n)
def sp_X1_harmAll : vgC := fun av σ => match av with
  | [.inr (1, b, 0)] => (jWf (jV σ b) ∧ jPl (jV σ b), none, jPut σ b (jHarmAll (jV σ b)))
  | _ => (False, none, σ)
def k_X1_harmAll : List (Nat × vgF) := [(0, vi_icst (0) 1), (1, vi_istore 1 2), (2, vi_iload 1 3), (3, vi_aload 0 4), (4, vi_get ww_shp 1 4 7), (7, vi_cmp (fun x y => y ≤ x) 58 10), (10, vi_aload 0 11), (11, vi_get ww_shp 1 7 14), (14, vi_iload 1 15), (15, vi_aald ww_shp 2 16), (16, vi_astore 2 17), (17, vi_aload 2 18), (18, vi_callV ww_shp 5 sp_X0_isGone 0 21), (21, vi_if (fun x => x = 0) 24 52), (24, vi_aload 2 25), (25, vi_callV ww_shp 5 sp_X0_isSafe 0 28), (28, vi_if (fun x => x = 0) 31 52), (31, vi_aload 0 32), (32, vi_aload 2 33), (33, vi_get ww_shp 5 0 36), (36, vi_callV ww_shp 1 sp_X1_isInDanger 1 39), (39, vi_if (fun x => x = 0) 52 42), (42, vi_aload 2 43), (43, vi_dup 44), (44, vi_get ww_shp 5 7 47), (47, vi_icst (1) 48), (48, vi_bin (fun x y => x + y) 49), (49, vi_put ww_shp 5 7 52), (52, vi_iinc 1 (1) 55), (55, vi_goto 2), (58, vi_retV)]
set_option maxRecDepth 20000 in
theorem s_X1_harmAll : ∀ q ∈ k_X1_harmAll, vg_Snd ww_tb ww_nw ww_shp ww_nm ww_cl ww_tyl cX1_harmAll 3 RX1 none 1 q.1 q.2 := by
  refine vg_cons (vs_iconst dX1_harmAll_0 rfl rfl) ?_
  refine vg_cons (vs_istore_n dX1_harmAll_1 rfl (by decide) rfl) ?_
  refine vg_cons (vs_iload_n dX1_harmAll_2 rfl rfl) ?_
  refine vg_cons (vs_aload_n dX1_harmAll_3 rfl rfl) ?_
  refine vg_cons (vs_getfield (T := TX1) dX1_harmAll_4 rfl (by decide) ww_inX1 q_38 rfl) ?_
  refine vg_cons (vs_cmp_ge dX1_harmAll_7 (by decide) rfl) ?_
  refine vg_cons (vs_aload_n dX1_harmAll_10 rfl rfl) ?_
  refine vg_cons (vs_getfield (T := TX1) dX1_harmAll_11 rfl (by decide) ww_inX1 q_39 rfl) ?_
  refine vg_cons (vs_iload_n dX1_harmAll_14 rfl rfl) ?_
  refine vg_cons (vs_aaload dX1_harmAll_15 rfl rfl) ?_
  refine vg_cons (vs_astore_n dX1_harmAll_16 rfl (by decide) rfl) ?_
  refine vg_cons (vs_aload_n dX1_harmAll_17 rfl rfl) ?_
  refine vg_cons (vs_callV (T := TX0) c_X0_isGone dX1_harmAll_18 rfl ww_good q_20 q_21 q_22 q_23 q_24 (by decide +kernel) (by decide) rfl) ?_
  refine vg_cons (vs_if_ne dX1_harmAll_21 (by decide) rfl) ?_
  refine vg_cons (vs_aload_n dX1_harmAll_24 rfl rfl) ?_
  refine vg_cons (vs_callV (T := TX0) c_X0_isSafe dX1_harmAll_25 rfl ww_good q_45 q_21 q_46 q_47 q_48 (by decide +kernel) (by decide) rfl) ?_
  refine vg_cons (vs_if_ne dX1_harmAll_28 (by decide) rfl) ?_
  refine vg_cons (vs_aload_n dX1_harmAll_31 rfl rfl) ?_
  refine vg_cons (vs_aload_n dX1_harmAll_32 rfl rfl) ?_
  refine vg_cons (vs_getfield (T := TX0) dX1_harmAll_33 rfl (by decide) ww_inX0 q_49 rfl) ?_
  refine vg_cons (vs_callV (T := TX1) c_X1_isInDanger dX1_harmAll_36 rfl ww_good q_34 q_12 q_35 q_36 q_37 (by decide +kernel) (by decide) rfl) ?_
  refine vg_cons (vs_if_eq dX1_harmAll_39 (by decide) rfl) ?_
  refine vg_cons (vs_aload_n dX1_harmAll_42 rfl rfl) ?_
  refine vg_cons (vs_dup dX1_harmAll_43 rfl) ?_
  refine vg_cons (vs_getfield (T := TX0) dX1_harmAll_44 rfl (by decide) ww_inX0 q_70 rfl) ?_
  refine vg_cons (vs_iconst dX1_harmAll_47 rfl rfl) ?_
  refine vg_cons (vs_iadd dX1_harmAll_48 rfl) ?_
  refine vg_cons (vs_putfield (T := TX0) tyX0 dX1_harmAll_49 rfl (by decide) ww_inX0 tyX0_ok nmX0 rfl rfl q_70 rfl) ?_
  refine vg_cons (vs_iinc dX1_harmAll_52 rfl rfl) ?_
  refine vg_cons (vs_goto dX1_harmAll_55 (by decide)) ?_
  refine vg_cons (vs_return dX1_harmAll_58 rfl) ?_
  exact fun _ h => absurd h List.not_mem_nil
theorem m_X1_harmAll : vg_Code k_X1_harmAll := fun q h => (s_X1_harmAll q h).1

theorem w_X1_harmAll : vg_Wd sp_X1_harmAll 3 := by
  intro av σ h
  unfold sp_X1_harmAll at h
  split at h
  · exact Nat.le_of_ble_eq_true rfl
  · exact h.elim
theorem g_X1_harmAll : vg_G k_X1_harmAll sp_X1_harmAll := by
  intro av σ h
  unfold sp_X1_harmAll at h ⊢
  split at h
  next b =>
    obtain ⟨hw, hpl⟩ := h
    have h8 := hw.1.2
    refine vg_run (cuts := [(2, [0, 1])]) m_X1_harmAll 20 ?_
    refine vg_loop (fun i lv σ' => ∃ x v, v = jIt jHarm i (jV σ b) ∧ σ' = jPut σ b v ∧ x = nI i ∧ lv = [(0, .inr (1, b, 0)), (1, .inl (.int x))]) (jGc (jV σ b)) ?_ ?_ 0 _ _ (Nat.zero_le _) ⟨0, _, rfl, jPut_jV.symm, rfl, rfl⟩
    · rintro i lv σ' hi ⟨x, v, hvi, rfl, hx, rfl⟩ ih
      have hK : jKeep (jV σ b) v := by rw [hvi]; exact jIt_keep jHarm_keep _ i
      have hP : jPl v := by rw [hvi]; exact jIt_pl (fun i v => jHarm_pl) hpl i
      have hcnt : jPut σ b v (1, b, 0) 4 = nI (jGc (jV σ b)) := jPut_at.trans ((hK.1 0 4 (by omega)).trans hw.1.1)
      have hc0 : x.toNatClampNeg = i := jcl hx (by omega)
      have hv : vp_in x 8 := jin hx (by omega) (by decide)
      have nx : ¬ (¬ jGone v i ∧ ¬ jSafe v i ∧ jDng v (v 9 i 0).toNatClampNeg) → vg_Go k_X1_harmAll _ 2 [(0, .inr (1, b, 0)), (1, .inl (.int (x + 1)))] [] (jPut σ b v) := fun z => ih _ _ ⟨x + 1, v, by rw [hvi]; rw [hvi] at z; exact (if_neg z).symm, rfl, jinc hx, rfl⟩
      refine vg_run (cuts := [(2, [0, 1])]) m_X1_harmAll 60 ?_
      refine And.intro (fun hc => absurd ((jle hcnt hx (by omega) (by omega)).mp hc) (by omega)) (fun _ => And.intro hv (And.intro trivial (And.intro (fun hd => And.intro trivial (And.intro (fun he => And.intro ?_ (And.intro (fun hf => ?_) (fun hf => ?_))) (fun he => ?_))) (fun hd => ?_))))
      · show vp_in (jPut σ b v (9, b, x.toNatClampNeg) 0) 16
        rw [jPut_at, hc0]
        exact hP.1 i (by omega)
      · rw [jV_put, jPut_at, hc0] at hf
        exact nx (fun z => jb_0.mp hf z.2.2)
      · rw [jV_put, jPut_at, hc0] at hf
        rw [jV_put, hc0] at hd he
        have hf' := Classical.byContradiction (fun z => hf (jb_f z))
        refine And.intro rfl (ih _ _ ⟨x + 1, jHarm i v, by rw [hvi]; rfl, ?_, jinc hx, rfl⟩)
        show vg_st (jPut σ b v) (9, b, x.toNatClampNeg) 7 (jPut σ b v (9, b, x.toNatClampNeg) 7 + 1) = _
        rw [hc0, jst, jPut_at, jHarm, if_pos ⟨jb_0.mp hd, jb_0.mp he, hf'⟩]
      · rw [jV_put, hc0] at he
        exact nx (fun z => he (jb_f z.2.1))
      · rw [jV_put, hc0] at hd
        exact nx (fun z => hd (jb_f z.1))
    · rintro lv σ' ⟨x, v, hvi, rfl, hx, rfl⟩
      have hK : jKeep (jV σ b) v := by rw [hvi]; exact jIt_keep jHarm_keep _ _
      have hcnt : jPut σ b v (1, b, 0) 4 = nI (jGc (jV σ b)) := jPut_at.trans ((hK.1 0 4 (by omega)).trans hw.1.1)
      refine vg_run (cuts := [(2, [0, 1])]) m_X1_harmAll 20 ?_
      exact And.intro (fun _ => And.intro rfl (by rw [hvi]; rfl)) (fun hc => absurd ((jle hcnt hx (by omega) (by omega)).mpr (Nat.le_refl _)) hc)
  next => exact h.elim
theorem c_X1_harmAll : vg_MetF ww_tb ww_nw ww_shp ww_nm ww_cl ww_tyl yX1_harmAll cX1_harmAll 3 none 1 sp_X1_harmAll := vg_met ww_closed (by decide +kernel) rfl s_X1_harmAll w_X1_harmAll g_X1_harmAll
/-- by which way one has heard first -/
def jWay (nw : Int32) : Int32 := if ¬ jIn nw (nI 0) = 0 then nI 0 else if ¬ jIn nw (nI 1) = 0 then nI 1 else if ¬ jIn nw (nI 2) = 0 then nI 2 else if ¬ jIn nw (nI 3) = 0 then nI 3 else nI 4
theorem jWay_at {nw : Int32} {k : Nat} (h : ∀ q, q < k → jIn nw (nI q) = 0) (hk : k < 4) (hn : ¬ jIn nw (nI k) = 0) : jWay nw = nI k := by
  unfold jWay
  have a0 := fun z => h 0 z
  have a1 := fun z => h 1 z
  have a2 := fun z => h 2 z
  match k, hk with
  | 0, _ => rw [if_pos hn]
  | 1, _ => rw [if_neg (fun z => z (a0 (by omega))), if_pos hn]
  | 2, _ => rw [if_neg (fun z => z (a0 (by omega))), if_neg (fun z => z (a1 (by omega))), if_pos hn]
  | 3, _ => rw [if_neg (fun z => z (a0 (by omega))), if_neg (fun z => z (a1 (by omega))), if_neg (fun z => z (a2 (by omega))), if_pos hn]
theorem jWay_4 {nw : Int32} (h : ∀ q, q < 4 → jIn nw (nI q) = 0) : jWay nw = nI 4 := by
  unfold jWay
  rw [if_neg (fun z => z (h 0 (by omega))), if_neg (fun z => z (h 1 (by omega))), if_neg (fun z => z (h 2 (by omega))), if_neg (fun z => z (h 3 (by omega)))]
def jNote0 (v : jN) (g w : Nat) (nw nb t : Int32) : jN := if v 14 g w = 0 ∧ ¬ nw = 0 then jUp (jUp (jUp v 15 g w t) 16 g w (jWay nw)) 17 g w (if jWay nw = 4 then nb else -1) else v
def jNote (v : jN) (g w : Nat) (nw nb t : Int32) : jN := jUp (jNote0 v g w nw nb t) 14 g w (jNote0 v g w nw nb t 14 g w ||| nw)
theorem jNote_keep (v : jN) (g w : Nat) (nw nb t : Int32) : jKeep v (jNote v g w nw nb t) := by
  unfold jNote
  refine jKeep.up ?_ (by omega)
  unfold jNote0
  split
  · exact ((jKeep.rf.up (by omega)).up (by omega)).up (by omega)
  · exact jKeep.rf
def sp_X0_noteWays : vgC := fun av σ => match av with
  | [.inr (9, b, g), .inl (.int w), .inl (.int nw), .inl (.int nb), .inl (.int t)] => (vp_in w 12, none, jPut σ b (jNote (jV σ b) g w.toNatClampNeg nw nb t))
  | _ => (False, none, σ)
def k_X0_noteWays : List (Nat × vgF) := [(0, vi_aload 0 1), (1, vi_get ww_shp 5 8 4), (4, vi_iload 1 5), (5, vi_ald ww_shp 0 6), (6, vi_if (fun x => x = 0) 9 85), (9, vi_iload 2 10), (10, vi_if (fun x => x = 0) 85 13), (13, vi_aload 0 14), (14, vi_get ww_shp 5 9 17), (17, vi_iload 1 18), (18, vi_iload 4 20), (20, vi_ast ww_shp 0 21), (21, vi_aload 0 22), (22, vi_get ww_shp 5 10 25), (25, vi_iload 1 26), (26, vi_icst (0) 27), (27, vi_ast ww_shp 0 28), (28, vi_aload 0 29), (29, vi_get ww_shp 5 10 32), (32, vi_iload 1 33), (33, vi_ald ww_shp 0 34), (34, vi_icst (4) 35), (35, vi_cmp (fun x y => y ≤ x) 64 38), (38, vi_iload 2 39), (39, vi_aload 0 40), (40, vi_get ww_shp 5 10 43), (43, vi_iload 1 44), (44, vi_ald ww_shp 0 45), (45, vi_callS sp_X5_isIn 2 48), (48, vi_if (fun x => x = 0) 51 64), (51, vi_aload 0 52), (52, vi_get ww_shp 5 10 55), (55, vi_iload 1 56), (56, vi_dup2 57), (57, vi_ald ww_shp 0 58), (58, vi_icst (1) 59), (59, vi_bin (fun x y => x + y) 60), (60, vi_ast ww_shp 0 61), (61, vi_goto 28), (64, vi_aload 0 65), (65, vi_get ww_shp 5 11 68), (68, vi_iload 1 69), (69, vi_aload 0 70), (70, vi_get ww_shp 5 10 73), (73, vi_iload 1 74), (74, vi_ald ww_shp 0 75), (75, vi_icst (4) 76), (76, vi_cmp (fun x y => x = y) 79 83), (79, vi_iload 3 80), (80, vi_goto 84), (83, vi_icst (-1) 84), (84, vi_ast ww_shp 0 85), (85, vi_aload 0 86), (86, vi_get ww_shp 5 8 89), (89, vi_iload 1 90), (90, vi_dup2 91), (91, vi_ald ww_shp 0 92), (92, vi_iload 2 93), (93, vi_bin (fun x y => x ||| y) 94), (94, vi_ast ww_shp 0 95), (95, vi_retV)]
set_option maxRecDepth 20000 in
theorem s_X0_noteWays : ∀ q ∈ k_X0_noteWays, vg_Snd ww_tb ww_nw ww_shp ww_nm ww_cl ww_tyl cX0_noteWays 5 RX0 none 1 q.1 q.2 := by
  refine vg_cons (vs_aload_n dX0_noteWays_0 rfl rfl) ?_
  refine vg_cons (vs_getfield (T := TX0) dX0_noteWays_1 rfl (by decide) ww_inX0 q_71 rfl) ?_
  refine vg_cons (vs_iload_n dX0_noteWays_4 rfl rfl) ?_
  refine vg_cons (vs_iaload dX0_noteWays_5 rfl rfl) ?_
  refine vg_cons (vs_if_ne dX0_noteWays_6 (by decide) rfl) ?_
  refine vg_cons (vs_iload_n dX0_noteWays_9 rfl rfl) ?_
  refine vg_cons (vs_if_eq dX0_noteWays_10 (by decide) rfl) ?_
  refine vg_cons (vs_aload_n dX0_noteWays_13 rfl rfl) ?_
  refine vg_cons (vs_getfield (T := TX0) dX0_noteWays_14 rfl (by decide) ww_inX0 q_72 rfl) ?_
  refine vg_cons (vs_iload_n dX0_noteWays_17 rfl rfl) ?_
  refine vg_cons (vs_iload dX0_noteWays_18 rfl) ?_
  refine vg_cons (vs_iastore dX0_noteWays_20 rfl rfl) ?_
  refine vg_cons (vs_aload_n dX0_noteWays_21 rfl rfl) ?_
  refine vg_cons (vs_getfield (T := TX0) dX0_noteWays_22 rfl (by decide) ww_inX0 q_73 rfl) ?_
  refine vg_cons (vs_iload_n dX0_noteWays_25 rfl rfl) ?_
  refine vg_cons (vs_iconst dX0_noteWays_26 rfl rfl) ?_
  refine vg_cons (vs_iastore dX0_noteWays_27 rfl rfl) ?_
  refine vg_cons (vs_aload_n dX0_noteWays_28 rfl rfl) ?_
  refine vg_cons (vs_getfield (T := TX0) dX0_noteWays_29 rfl (by decide) ww_inX0 q_73 rfl) ?_
  refine vg_cons (vs_iload_n dX0_noteWays_32 rfl rfl) ?_
  refine vg_cons (vs_iaload dX0_noteWays_33 rfl rfl) ?_
  refine vg_cons (vs_iconst dX0_noteWays_34 rfl rfl) ?_
  refine vg_cons (vs_cmp_ge dX0_noteWays_35 (by decide) rfl) ?_
  refine vg_cons (vs_iload_n dX0_noteWays_38 rfl rfl) ?_
  refine vg_cons (vs_aload_n dX0_noteWays_39 rfl rfl) ?_
  refine vg_cons (vs_getfield (T := TX0) dX0_noteWays_40 rfl (by decide) ww_inX0 q_73 rfl) ?_
  refine vg_cons (vs_iload_n dX0_noteWays_43 rfl rfl) ?_
  refine vg_cons (vs_iaload dX0_noteWays_44 rfl rfl) ?_
  refine vg_cons (vs_callSN (host := "WarnWave") c_X5_isIn dX0_noteWays_45 ww_good q_50 q_51 (by decide +kernel) q_52 (by decide +kernel) (by decide) rfl) ?_
  refine vg_cons (vs_if_ne dX0_noteWays_48 (by decide) rfl) ?_
  refine vg_cons (vs_aload_n dX0_noteWays_51 rfl rfl) ?_
  refine vg_cons (vs_getfield (T := TX0) dX0_noteWays_52 rfl (by decide) ww_inX0 q_73 rfl) ?_
  refine vg_cons (vs_iload_n dX0_noteWays_55 rfl rfl) ?_
  refine vg_cons (vs_dup2 dX0_noteWays_56 rfl) ?_
  refine vg_cons (vs_iaload dX0_noteWays_57 rfl rfl) ?_
  refine vg_cons (vs_iconst dX0_noteWays_58 rfl rfl) ?_
  refine vg_cons (vs_iadd dX0_noteWays_59 rfl) ?_
  refine vg_cons (vs_iastore dX0_noteWays_60 rfl rfl) ?_
  refine vg_cons (vs_goto dX0_noteWays_61 (by decide)) ?_
  refine vg_cons (vs_aload_n dX0_noteWays_64 rfl rfl) ?_
  refine vg_cons (vs_getfield (T := TX0) dX0_noteWays_65 rfl (by decide) ww_inX0 q_74 rfl) ?_
  refine vg_cons (vs_iload_n dX0_noteWays_68 rfl rfl) ?_
  refine vg_cons (vs_aload_n dX0_noteWays_69 rfl rfl) ?_
  refine vg_cons (vs_getfield (T := TX0) dX0_noteWays_70 rfl (by decide) ww_inX0 q_73 rfl) ?_
  refine vg_cons (vs_iload_n dX0_noteWays_73 rfl rfl) ?_
  refine vg_cons (vs_iaload dX0_noteWays_74 rfl rfl) ?_
  refine vg_cons (vs_iconst dX0_noteWays_75 rfl rfl) ?_
  refine vg_cons (vs_cmp_ne dX0_noteWays_76 (by decide) rfl) ?_
  refine vg_cons (vs_iload_n dX0_noteWays_79 rfl rfl) ?_
  refine vg_cons (vs_goto dX0_noteWays_80 (by decide)) ?_
  refine vg_cons (vs_iconst dX0_noteWays_83 rfl rfl) ?_
  refine vg_cons (vs_iastore dX0_noteWays_84 rfl rfl) ?_
  refine vg_cons (vs_aload_n dX0_noteWays_85 rfl rfl) ?_
  refine vg_cons (vs_getfield (T := TX0) dX0_noteWays_86 rfl (by decide) ww_inX0 q_71 rfl) ?_
  refine vg_cons (vs_iload_n dX0_noteWays_89 rfl rfl) ?_
  refine vg_cons (vs_dup2 dX0_noteWays_90 rfl) ?_
  refine vg_cons (vs_iaload dX0_noteWays_91 rfl rfl) ?_
  refine vg_cons (vs_iload_n dX0_noteWays_92 rfl rfl) ?_
  refine vg_cons (vs_ior dX0_noteWays_93 rfl) ?_
  refine vg_cons (vs_iastore dX0_noteWays_94 rfl rfl) ?_
  refine vg_cons (vs_return dX0_noteWays_95 rfl) ?_
  exact fun _ h => absurd h List.not_mem_nil
theorem m_X0_noteWays : vg_Code k_X0_noteWays := fun q h => (s_X0_noteWays q h).1

theorem w_X0_noteWays : vg_Wd sp_X0_noteWays 5 := by
  intro av σ h
  unfold sp_X0_noteWays at h
  split at h
  · exact Nat.le_of_ble_eq_true rfl
  · exact h.elim
theorem g_X0_noteWays : vg_G k_X0_noteWays sp_X0_noteWays := by
  intro av σ h
  unfold sp_X0_noteWays at h ⊢
  split at h
  next b g w nw nb t =>
    generalize hwi : w.toNatClampNeg = wi
    have tail : ∀ v1, v1 = jNote0 (jV σ b) g wi nw nb t → vg_Go k_X0_noteWays (fun r σ' => r = none ∧ σ' = jPut σ b (jNote (jV σ b) g wi nw nb t)) 85 [(0, .inr (9, b, g)), (1, .inl (.int w)), (2, .inl (.int nw))] [] (jPut σ b v1) := by
      intro v1 h1
      refine vg_run (cuts := []) m_X0_noteWays 40 ?_
      refine And.intro ⟨rfl, rfl⟩ (And.intro h (And.intro h (And.intro rfl ?_)))
      show vg_st (jPut σ b v1) (14, b, g) w.toNatClampNeg (jPut σ b v1 (14, b, g) w.toNatClampNeg ||| nw) = _
      rw [hwi, jst, jPut_at, jNote, ← h1]
    refine vg_run (cuts := [(28, [0, 1, 2, 3, 4]), (85, [0, 1, 2])]) m_X0_noteWays 60 ?_
    refine And.intro h (And.intro (fun hc => And.intro (fun hd => ?_) (fun hd => And.intro h (And.intro h ?_))) (fun hc => ?_))
    · have e := tail (jV σ b) (if_neg (fun z => z.2 hd)).symm
      rw [jPut_jV] at e
      exact e
    · rw [hwi] at hc
      have hN : jNote0 (jV σ b) g wi nw nb t = jUp (jUp (jUp (jV σ b) 15 g wi t) 16 g wi (jWay nw)) 17 g wi (if jWay nw = 4 then nb else -1) := if_pos ⟨hc, hd⟩
      refine vg_loop (fun k lv σ' => (∀ q, q < k → jIn nw (nI q) = 0) ∧ σ' = jPut σ b (jUp (jUp (jV σ b) 15 g wi t) 16 g wi (nI k)) ∧ lv = [(0, .inr (9, b, g)), (1, .inl (.int w)), (2, .inl (.int nw)), (3, .inl (.int nb)), (4, .inl (.int t))]) 4 ?_ ?_ 0 _ _ (Nat.zero_le _) ⟨fun q hq => absurd hq (by omega), ?_, rfl⟩
      · rintro k lv σ' hk ⟨hq, rfl, rfl⟩ ih
        have hb : jPut σ b (jUp (jUp (jV σ b) 15 g wi t) 16 g wi (nI k)) (16, b, g) wi = nI k := by rw [jPut_at, jUp_at]
        refine vg_run (cuts := [(28, [0, 1, 2, 3, 4]), (85, [0, 1, 2])]) m_X0_noteWays 60 ?_
        refine And.intro h (And.intro (fun he => ?_) (fun he => And.intro h (And.intro trivial (And.intro (fun hf => ?_) (fun hf => ?_)))))
        · rw [hwi, hb] at he
          exact absurd ((jle (n := 4) rfl rfl (by omega) (by omega)).mp he) (by omega)
        · rw [hwi, hb] at hf
          refine And.intro ⟨rfl, rfl⟩ (And.intro h (And.intro h (ih _ _ ⟨fun q hq2 => ?_, ?_, rfl⟩)))
          · rcases Nat.lt_succ_iff_lt_or_eq.mp hq2 with z | z
            · exact hq q z
            · rw [z]; exact hf
          · show vg_st (jPut σ b _) (16, b, g) w.toNatClampNeg (jPut σ b _ (16, b, g) w.toNatClampNeg + 1) = _
            rw [hwi, hb, jst, jUp_up, nI_1]
        · rw [hwi, hb] at hf
          have hW : jWay nw = nI k := jWay_at hq hk hf
          refine And.intro h (And.intro (fun hg => ?_) (fun hg => And.intro h ?_))
          · rw [hwi, hb] at hg
            exact absurd ((nI_eq (by omega) (by omega)).mp (show nI k = nI 4 from hg)) (by omega)
          · rw [hwi, hb] at hg
            have e := tail _ hN.symm
            rw [hW, if_neg (show ¬ nI k = 4 from hg), ← jst, ← hwi] at e
            rw [← hwi]
            exact e
      · rintro lv σ' ⟨hq, rfl, rfl⟩
        have hb : jPut σ b (jUp (jUp (jV σ b) 15 g wi t) 16 g wi (nI 4)) (16, b, g) wi = nI 4 := by rw [jPut_at, jUp_at]
        refine vg_run (cuts := [(28, [0, 1, 2, 3, 4]), (85, [0, 1, 2])]) m_X0_noteWays 60 ?_
        refine And.intro h (And.intro (fun he => ?_) (fun he => ?_))
        · have hW : jWay nw = nI 4 := jWay_4 hq
          refine And.intro h (And.intro (fun hg => And.intro h ?_) (fun hg => ?_))
          · have e := tail _ hN.symm
            rw [hW, if_pos (show nI 4 = 4 from rfl), ← jst, ← hwi] at e
            rw [← hwi]
            exact e
          · rw [hwi, hb] at hg
            exact absurd rfl hg
        · rw [hwi, hb] at he
          exact absurd (by decide) he
      · show vg_st (vg_st σ (15, b, g) w.toNatClampNeg t) (16, b, g) w.toNatClampNeg 0 = _
        rw [hwi, show vg_st σ (15, b, g) wi t = jPut σ b (jUp (jV σ b) 15 g wi t) from jst0, jst]
        rfl
    · rw [hwi] at hc
      have e := tail (jV σ b) (if_neg (fun z => hc z.1)).symm
      rw [jPut_jV] at e
      exact e
  next => exact h.elim
theorem c_X0_noteWays : vg_MetF ww_tb ww_nw ww_shp ww_nm ww_cl ww_tyl yX0_noteWays cX0_noteWays 5 none 1 sp_X0_noteWays := vg_met ww_closed (by decide +kernel) rfl s_X0_noteWays w_X0_noteWays g_X0_noteWays
