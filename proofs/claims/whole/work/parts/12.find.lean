/-! what a land finds, and what it writes -/
abbrev jCallee (v : jN) (w g : Nat) : Prop := ¬ jIn (v 11 w 2) (v 9 g 0) = 0 ∧ ¬ jIn (v 11 w 4) (v 9 g 2) = 0 ∧ jIn (v 14 g w) 3 = 0 ∧ v 9 g 4 = 0 ∧ ¬ jGone v g
def sp_X1_firstToCall : vgC := fun av σ => match av with
  | [.inr (1, b, 0), .inl (.int w)] => (jWf (jV σ b) ∧ vp_in w 12, some (.inl (.int (jFind (jCallee (jV σ b) w.toNatClampNeg) 0 (jGc (jV σ b))))), σ)
  | _ => (False, none, σ)
def k_X1_firstToCall : List (Nat × vgF) := [(0, vi_aload 0 1), (1, vi_get ww_shp 1 9 4), (4, vi_iload 1 5), (5, vi_aald ww_shp 4 6), (6, vi_get ww_shp 4 2 9), (9, vi_istore 2 10), (10, vi_aload 0 11), (11, vi_get ww_shp 1 9 14), (14, vi_iload 1 15), (15, vi_aald ww_shp 4 16), (16, vi_get ww_shp 4 4 19), (19, vi_istore 3 20), (20, vi_icst (0) 21), (21, vi_istore 4 23), (23, vi_iload 4 25), (25, vi_aload 0 26), (26, vi_get ww_shp 1 4 29), (29, vi_cmp (fun x y => y ≤ x) 116 32), (32, vi_aload 0 33), (33, vi_get ww_shp 1 7 36), (36, vi_iload 4 38), (38, vi_aald ww_shp 2 39), (39, vi_astore 5 41), (41, vi_iload 2 42), (42, vi_aload 5 44), (44, vi_get ww_shp 5 0 47), (47, vi_callS sp_X5_isIn 2 50), (50, vi_if (fun x => x = 0) 69 53), (53, vi_iload 3 54), (54, vi_aload 5 56), (56, vi_get ww_shp 5 2 59), (59, vi_callS sp_X5_isIn 2 62), (62, vi_if (fun x => x = 0) 69 65), (65, vi_icst (1) 66), (66, vi_goto 70), (69, vi_icst (0) 70), (70, vi_istore 6 72), (72, vi_iload 6 74), (74, vi_if (fun x => x = 0) 110 77), (77, vi_aload 5 79), (79, vi_get ww_shp 5 8 82), (82, vi_iload 1 83), (83, vi_ald ww_shp 0 84), (84, vi_icst (3) 85), (85, vi_callS sp_X5_isIn 2 88), (88, vi_if (fun x => x = 0) 91 110), (91, vi_aload 5 93), (93, vi_get ww_shp 5 4 96), (96, vi_if (fun x => x = 0) 99 110), (99, vi_aload 5 101), (101, vi_callV ww_shp 5 sp_X0_isGone 0 104), (104, vi_if (fun x => x = 0) 107 110), (107, vi_iload 4 109), (109, vi_ret), (110, vi_iinc 4 (1) 113), (113, vi_goto 23), (116, vi_icst (-1) 117), (117, vi_ret)]
set_option maxRecDepth 20000 in
theorem s_X1_firstToCall : ∀ q ∈ k_X1_firstToCall, vg_Snd ww_tb ww_nw ww_shp ww_nm ww_cl ww_tyl cX1_firstToCall 7 RX1 (some .int) 1 q.1 q.2 := by
  refine vg_cons (vs_aload_n dX1_firstToCall_0 rfl rfl) ?_
  refine vg_cons (vs_getfield (T := TX1) dX1_firstToCall_1 rfl (by decide) ww_inX1 q_17 rfl) ?_
  refine vg_cons (vs_iload_n dX1_firstToCall_4 rfl rfl) ?_
  refine vg_cons (vs_aaload dX1_firstToCall_5 rfl rfl) ?_
  refine vg_cons (vs_getfield (T := TX4) dX1_firstToCall_6 rfl (by decide) ww_inX4 q_53 rfl) ?_
  refine vg_cons (vs_istore_n dX1_firstToCall_9 rfl (by decide) rfl) ?_
  refine vg_cons (vs_aload_n dX1_firstToCall_10 rfl rfl) ?_
  refine vg_cons (vs_getfield (T := TX1) dX1_firstToCall_11 rfl (by decide) ww_inX1 q_17 rfl) ?_
  refine vg_cons (vs_iload_n dX1_firstToCall_14 rfl rfl) ?_
  refine vg_cons (vs_aaload dX1_firstToCall_15 rfl rfl) ?_
  refine vg_cons (vs_getfield (T := TX4) dX1_firstToCall_16 rfl (by decide) ww_inX4 q_54 rfl) ?_
  refine vg_cons (vs_istore_n dX1_firstToCall_19 rfl (by decide) rfl) ?_
  refine vg_cons (vs_iconst dX1_firstToCall_20 rfl rfl) ?_
  refine vg_cons (vs_istore dX1_firstToCall_21 (by decide) rfl) ?_
  refine vg_cons (vs_iload dX1_firstToCall_23 rfl) ?_
  refine vg_cons (vs_aload_n dX1_firstToCall_25 rfl rfl) ?_
  refine vg_cons (vs_getfield (T := TX1) dX1_firstToCall_26 rfl (by decide) ww_inX1 q_38 rfl) ?_
  refine vg_cons (vs_cmp_ge dX1_firstToCall_29 (by decide) rfl) ?_
  refine vg_cons (vs_aload_n dX1_firstToCall_32 rfl rfl) ?_
  refine vg_cons (vs_getfield (T := TX1) dX1_firstToCall_33 rfl (by decide) ww_inX1 q_39 rfl) ?_
  refine vg_cons (vs_iload dX1_firstToCall_36 rfl) ?_
  refine vg_cons (vs_aaload dX1_firstToCall_38 rfl rfl) ?_
  refine vg_cons (vs_astore dX1_firstToCall_39 (by decide) rfl) ?_
  refine vg_cons (vs_iload_n dX1_firstToCall_41 rfl rfl) ?_
  refine vg_cons (vs_aload dX1_firstToCall_42 rfl) ?_
  refine vg_cons (vs_getfield (T := TX0) dX1_firstToCall_44 rfl (by decide) ww_inX0 q_49 rfl) ?_
  refine vg_cons (vs_callSN (host := "WarnWave") c_X5_isIn dX1_firstToCall_47 ww_good q_50 q_51 (by decide +kernel) q_52 (by decide +kernel) (by decide) rfl) ?_
  refine vg_cons (vs_if_eq dX1_firstToCall_50 (by decide) rfl) ?_
  refine vg_cons (vs_iload_n dX1_firstToCall_53 rfl rfl) ?_
  refine vg_cons (vs_aload dX1_firstToCall_54 rfl) ?_
  refine vg_cons (vs_getfield (T := TX0) dX1_firstToCall_56 rfl (by decide) ww_inX0 q_55 rfl) ?_
  refine vg_cons (vs_callSN (host := "WarnWave") c_X5_isIn dX1_firstToCall_59 ww_good q_50 q_51 (by decide +kernel) q_52 (by decide +kernel) (by decide) rfl) ?_
  refine vg_cons (vs_if_eq dX1_firstToCall_62 (by decide) rfl) ?_
  refine vg_cons (vs_iconst dX1_firstToCall_65 rfl rfl) ?_
  refine vg_cons (vs_goto dX1_firstToCall_66 (by decide)) ?_
  refine vg_cons (vs_iconst dX1_firstToCall_69 rfl rfl) ?_
  refine vg_cons (vs_istore dX1_firstToCall_70 (by decide) rfl) ?_
  refine vg_cons (vs_iload dX1_firstToCall_72 rfl) ?_
  refine vg_cons (vs_if_eq dX1_firstToCall_74 (by decide) rfl) ?_
  refine vg_cons (vs_aload dX1_firstToCall_77 rfl) ?_
  refine vg_cons (vs_getfield (T := TX0) dX1_firstToCall_79 rfl (by decide) ww_inX0 q_56 rfl) ?_
  refine vg_cons (vs_iload_n dX1_firstToCall_82 rfl rfl) ?_
  refine vg_cons (vs_iaload dX1_firstToCall_83 rfl rfl) ?_
  refine vg_cons (vs_iconst dX1_firstToCall_84 rfl rfl) ?_
  refine vg_cons (vs_callSN (host := "WarnWave") c_X5_isIn dX1_firstToCall_85 ww_good q_50 q_51 (by decide +kernel) q_52 (by decide +kernel) (by decide) rfl) ?_
  refine vg_cons (vs_if_ne dX1_firstToCall_88 (by decide) rfl) ?_
  refine vg_cons (vs_aload dX1_firstToCall_91 rfl) ?_
  refine vg_cons (vs_getfield (T := TX0) dX1_firstToCall_93 rfl (by decide) ww_inX0 q_57 rfl) ?_
  refine vg_cons (vs_if_ne dX1_firstToCall_96 (by decide) rfl) ?_
  refine vg_cons (vs_aload dX1_firstToCall_99 rfl) ?_
  refine vg_cons (vs_callV (T := TX0) c_X0_isGone dX1_firstToCall_101 rfl ww_good q_20 q_21 q_22 q_23 q_24 (by decide +kernel) (by decide) rfl) ?_
  refine vg_cons (vs_if_ne dX1_firstToCall_104 (by decide) rfl) ?_
  refine vg_cons (vs_iload dX1_firstToCall_107 rfl) ?_
  refine vg_cons (vs_ireturn dX1_firstToCall_109 rfl) ?_
  refine vg_cons (vs_iinc dX1_firstToCall_110 rfl rfl) ?_
  refine vg_cons (vs_goto dX1_firstToCall_113 (by decide)) ?_
  refine vg_cons (vs_iconst dX1_firstToCall_116 rfl rfl) ?_
  refine vg_cons (vs_ireturn dX1_firstToCall_117 rfl) ?_
  exact fun _ h => absurd h List.not_mem_nil
theorem m_X1_firstToCall : vg_Code k_X1_firstToCall := fun q h => (s_X1_firstToCall q h).1

theorem w_X1_firstToCall : vg_Wd sp_X1_firstToCall 7 := by
  intro av σ h
  unfold sp_X1_firstToCall at h
  split at h
  · exact Nat.le_of_ble_eq_true rfl
  · exact h.elim
theorem g_X1_firstToCall : vg_G k_X1_firstToCall sp_X1_firstToCall := by
  intro av σ h
  unfold sp_X1_firstToCall at h ⊢
  split at h
  next b w =>
    obtain ⟨hw, hw12⟩ := h
    have hgc := hw.1
    have h8 := hgc.2
    refine vg_run (cuts := [(23, [0, 1, 2, 3, 4])]) m_X1_firstToCall 40 ?_
    refine And.intro hw12 (And.intro hw12 ?_)
    refine vg_loop (fun i lv σ' => σ' = σ ∧ ∃ x, x = nI i ∧ jFind (jCallee (jV σ b) w.toNatClampNeg) 0 (jGc (jV σ b)) = jFind (jCallee (jV σ b) w.toNatClampNeg) i (jGc (jV σ b) - i) ∧ lv = [(0, .inr (1, b, 0)), (1, .inl (.int w)), (2, .inl (.int (jV σ b 11 w.toNatClampNeg 2))), (3, .inl (.int (jV σ b 11 w.toNatClampNeg 4))), (4, .inl (.int x))]) (jGc (jV σ b)) ?_ ?_ 0 _ _ (Nat.zero_le _) ⟨rfl, 0, rfl, rfl, rfl⟩
    · rintro i lv σ' hi ⟨e, x, hx, hr, rfl⟩ ih
      subst e
      have hc0 : x.toNatClampNeg = i := jcl hx (by omega)
      have hv : vp_in x 8 := jin hx (by omega) (by decide)
      have hs : jGc (jV σ' b) - i = (jGc (jV σ' b) - (i + 1)) + 1 := by omega
      have no : ¬ (jCallee (jV σ' b) w.toNatClampNeg) i → jFind (jCallee (jV σ' b) w.toNatClampNeg) 0 (jGc (jV σ' b)) = jFind (jCallee (jV σ' b) w.toNatClampNeg) (i + 1) (jGc (jV σ' b) - (i + 1)) := fun z => by rw [hr, hs, jFind, if_neg z]
      have yes : (jCallee (jV σ' b) w.toNatClampNeg) i → jFind (jCallee (jV σ' b) w.toNatClampNeg) 0 (jGc (jV σ' b)) = x := fun z => by rw [hr, hs, jFind, if_pos z, hx]
      refine vg_run (cuts := [(23, [0, 1, 2, 3, 4])]) m_X1_firstToCall 60 ?_
      refine And.intro (fun hc => absurd ((jle hgc.1 hx (by omega) (by omega)).mp hc) (by omega)) (fun _ => ?_)
      have nx : ¬ (jCallee (jV σ' b) w.toNatClampNeg) i → vg_Go k_X1_firstToCall _ 23 [(0, .inr (1, b, 0)), (1, .inl (.int w)), (2, .inl (.int (jV σ' b 11 w.toNatClampNeg 2))), (3, .inl (.int (jV σ' b 11 w.toNatClampNeg 4))), (4, .inl (.int (x + 1)))] [] σ' := fun z => ih _ _ ⟨rfl, x + 1, jinc hx, no z, rfl⟩
      refine And.intro hv (And.intro trivial (And.intro (fun hd => ?_) (fun hd => And.intro trivial (And.intro (fun he => ?_) (fun he => ?_)))))
      · rw [hc0] at hd
        exact And.intro (fun _ => nx (fun z => z.1 hd)) (fun z => absurd rfl z)
      · rw [hc0] at he
        exact And.intro (fun _ => nx (fun z => z.2.1 he)) (fun z => absurd rfl z)
      · rw [hc0] at hd he
        refine And.intro (fun z => absurd z (by decide)) (fun _ => And.intro hw12 (And.intro trivial (And.intro (fun hf => ?_) (fun hf => ?_))))
        · refine And.intro (fun hg => And.intro trivial (And.intro (fun hh => ?_) (fun hh => ?_))) (fun hg => ?_)
          · rw [hc0] at hf hg hh
            exact And.intro (by rw [yes ⟨hd, he, hf, hg, jb_0.mp hh⟩]) rfl
          · rw [hc0] at hh
            exact nx (fun z => hh (jb_f z.2.2.2.2))
          · rw [hc0] at hg
            exact nx (fun z => hg z.2.2.2.1)
        · rw [hc0] at hf
          exact nx (fun z => hf z.2.2.1)
    · rintro lv σ' ⟨e, x, hx, hr, rfl⟩
      subst e
      refine vg_run (cuts := [(23, [0, 1, 2, 3, 4])]) m_X1_firstToCall 20 ?_
      exact And.intro (fun _ => And.intro (by rw [hr, Nat.sub_self]; rfl) rfl) (fun hc => absurd ((jle hgc.1 hx (by omega) (by omega)).mpr (Nat.le_refl _)) hc)
  next => exact h.elim
theorem c_X1_firstToCall : vg_MetF ww_tb ww_nw ww_shp ww_nm ww_cl ww_tyl yX1_firstToCall cX1_firstToCall 7 (some .int) 1 sp_X1_firstToCall := vg_met ww_closed (by decide +kernel) rfl s_X1_firstToCall w_X1_firstToCall g_X1_firstToCall
abbrev jTells (v : jN) (g w o : Nat) : Prop := ¬ o = g ∧ ¬ jGone v o ∧ ¬ v 18 o w = -1 ∧ v 9 o 2 = v 9 g 2 ∧ ¬ (1 : Int32) < jDist (v 9 o 0) (v 9 g 0)
def sp_X1_believingNeighbour : vgC := fun av σ => match av with
  | [.inr (1, b, 0), .inl (.int g), .inl (.int w)] => (jWf (jV σ b) ∧ vp_in g 8 ∧ vp_in w 12, some (.inl (.int (jFind (jTells (jV σ b) g.toNatClampNeg w.toNatClampNeg) 0 (jGc (jV σ b))))), σ)
  | _ => (False, none, σ)
def k_X1_believingNeighbour : List (Nat × vgF) := [(0, vi_aload 0 1), (1, vi_get ww_shp 1 7 4), (4, vi_iload 1 5), (5, vi_aald ww_shp 2 6), (6, vi_astore 3 7), (7, vi_icst (0) 8), (8, vi_istore 4 10), (10, vi_iload 4 12), (12, vi_aload 0 13), (13, vi_get ww_shp 1 4 16), (16, vi_cmp (fun x y => y ≤ x) 102 19), (19, vi_aload 0 20), (20, vi_get ww_shp 1 7 23), (23, vi_iload 4 25), (25, vi_aald ww_shp 2 26), (26, vi_astore 5 28), (28, vi_iload 4 30), (30, vi_iload 1 31), (31, vi_cmp (fun x y => x = y) 57 34), (34, vi_aload 5 36), (36, vi_callV ww_shp 5 sp_X0_isGone 0 39), (39, vi_if (fun x => x = 0) 42 57), (42, vi_aload 5 44), (44, vi_get ww_shp 5 12 47), (47, vi_iload 2 48), (48, vi_ald ww_shp 0 49), (49, vi_icst (-1) 50), (50, vi_cmp (fun x y => x = y) 57 53), (53, vi_icst (1) 54), (54, vi_goto 58), (57, vi_icst (0) 58), (58, vi_istore 6 60), (60, vi_iload 6 62), (62, vi_if (fun x => x = 0) 96 65), (65, vi_aload 5 67), (67, vi_get ww_shp 5 2 70), (70, vi_aload 3 71), (71, vi_get ww_shp 5 2 74), (74, vi_cmp (fun x y => x = y) 77 96), (77, vi_aload 5 79), (79, vi_get ww_shp 5 0 82), (82, vi_aload 3 83), (83, vi_get ww_shp 5 0 86), (86, vi_callS sp_X5_distance 2 89), (89, vi_icst (1) 90), (90, vi_cmp (fun x y => y < x) 96 93), (93, vi_iload 4 95), (95, vi_ret), (96, vi_iinc 4 (1) 99), (99, vi_goto 10), (102, vi_icst (-1) 103), (103, vi_ret)]
set_option maxRecDepth 20000 in
theorem s_X1_believingNeighbour : ∀ q ∈ k_X1_believingNeighbour, vg_Snd ww_tb ww_nw ww_shp ww_nm ww_cl ww_tyl cX1_believingNeighbour 7 RX1 (some .int) 2 q.1 q.2 := by
  refine vg_cons (vs_aload_n dX1_believingNeighbour_0 rfl rfl) ?_
  refine vg_cons (vs_getfield (T := TX1) dX1_believingNeighbour_1 rfl (by decide) ww_inX1 q_39 rfl) ?_
  refine vg_cons (vs_iload_n dX1_believingNeighbour_4 rfl rfl) ?_
  refine vg_cons (vs_aaload dX1_believingNeighbour_5 rfl rfl) ?_
  refine vg_cons (vs_astore_n dX1_believingNeighbour_6 rfl (by decide) rfl) ?_
  refine vg_cons (vs_iconst dX1_believingNeighbour_7 rfl rfl) ?_
  refine vg_cons (vs_istore dX1_believingNeighbour_8 (by decide) rfl) ?_
  refine vg_cons (vs_iload dX1_believingNeighbour_10 rfl) ?_
  refine vg_cons (vs_aload_n dX1_believingNeighbour_12 rfl rfl) ?_
  refine vg_cons (vs_getfield (T := TX1) dX1_believingNeighbour_13 rfl (by decide) ww_inX1 q_38 rfl) ?_
  refine vg_cons (vs_cmp_ge dX1_believingNeighbour_16 (by decide) rfl) ?_
  refine vg_cons (vs_aload_n dX1_believingNeighbour_19 rfl rfl) ?_
  refine vg_cons (vs_getfield (T := TX1) dX1_believingNeighbour_20 rfl (by decide) ww_inX1 q_39 rfl) ?_
  refine vg_cons (vs_iload dX1_believingNeighbour_23 rfl) ?_
  refine vg_cons (vs_aaload dX1_believingNeighbour_25 rfl rfl) ?_
  refine vg_cons (vs_astore dX1_believingNeighbour_26 (by decide) rfl) ?_
  refine vg_cons (vs_iload dX1_believingNeighbour_28 rfl) ?_
  refine vg_cons (vs_iload_n dX1_believingNeighbour_30 rfl rfl) ?_
  refine vg_cons (vs_cmp_eq dX1_believingNeighbour_31 (by decide) rfl) ?_
  refine vg_cons (vs_aload dX1_believingNeighbour_34 rfl) ?_
  refine vg_cons (vs_callV (T := TX0) c_X0_isGone dX1_believingNeighbour_36 rfl ww_good q_20 q_21 q_22 q_23 q_24 (by decide +kernel) (by decide) rfl) ?_
  refine vg_cons (vs_if_ne dX1_believingNeighbour_39 (by decide) rfl) ?_
  refine vg_cons (vs_aload dX1_believingNeighbour_42 rfl) ?_
  refine vg_cons (vs_getfield (T := TX0) dX1_believingNeighbour_44 rfl (by decide) ww_inX0 q_19 rfl) ?_
  refine vg_cons (vs_iload_n dX1_believingNeighbour_47 rfl rfl) ?_
  refine vg_cons (vs_iaload dX1_believingNeighbour_48 rfl rfl) ?_
  refine vg_cons (vs_iconst dX1_believingNeighbour_49 rfl rfl) ?_
  refine vg_cons (vs_cmp_eq dX1_believingNeighbour_50 (by decide) rfl) ?_
  refine vg_cons (vs_iconst dX1_believingNeighbour_53 rfl rfl) ?_
  refine vg_cons (vs_goto dX1_believingNeighbour_54 (by decide)) ?_
  refine vg_cons (vs_iconst dX1_believingNeighbour_57 rfl rfl) ?_
  refine vg_cons (vs_istore dX1_believingNeighbour_58 (by decide) rfl) ?_
  refine vg_cons (vs_iload dX1_believingNeighbour_60 rfl) ?_
  refine vg_cons (vs_if_eq dX1_believingNeighbour_62 (by decide) rfl) ?_
  refine vg_cons (vs_aload dX1_believingNeighbour_65 rfl) ?_
  refine vg_cons (vs_getfield (T := TX0) dX1_believingNeighbour_67 rfl (by decide) ww_inX0 q_55 rfl) ?_
  refine vg_cons (vs_aload_n dX1_believingNeighbour_70 rfl rfl) ?_
  refine vg_cons (vs_getfield (T := TX0) dX1_believingNeighbour_71 rfl (by decide) ww_inX0 q_55 rfl) ?_
  refine vg_cons (vs_cmp_ne dX1_believingNeighbour_74 (by decide) rfl) ?_
  refine vg_cons (vs_aload dX1_believingNeighbour_77 rfl) ?_
  refine vg_cons (vs_getfield (T := TX0) dX1_believingNeighbour_79 rfl (by decide) ww_inX0 q_49 rfl) ?_
  refine vg_cons (vs_aload_n dX1_believingNeighbour_82 rfl rfl) ?_
  refine vg_cons (vs_getfield (T := TX0) dX1_believingNeighbour_83 rfl (by decide) ww_inX0 q_49 rfl) ?_
  refine vg_cons (vs_callSN (host := "WarnWave") c_X5_distance dX1_believingNeighbour_86 ww_good q_58 q_51 (by decide +kernel) q_59 (by decide +kernel) (by decide) rfl) ?_
  refine vg_cons (vs_iconst dX1_believingNeighbour_89 rfl rfl) ?_
  refine vg_cons (vs_cmp_gt dX1_believingNeighbour_90 (by decide) rfl) ?_
  refine vg_cons (vs_iload dX1_believingNeighbour_93 rfl) ?_
  refine vg_cons (vs_ireturn dX1_believingNeighbour_95 rfl) ?_
  refine vg_cons (vs_iinc dX1_believingNeighbour_96 rfl rfl) ?_
  refine vg_cons (vs_goto dX1_believingNeighbour_99 (by decide)) ?_
  refine vg_cons (vs_iconst dX1_believingNeighbour_102 rfl rfl) ?_
  refine vg_cons (vs_ireturn dX1_believingNeighbour_103 rfl) ?_
  exact fun _ h => absurd h List.not_mem_nil
theorem m_X1_believingNeighbour : vg_Code k_X1_believingNeighbour := fun q h => (s_X1_believingNeighbour q h).1

theorem w_X1_believingNeighbour : vg_Wd sp_X1_believingNeighbour 7 := by
  intro av σ h
  unfold sp_X1_believingNeighbour at h
  split at h
  · exact Nat.le_of_ble_eq_true rfl
  · exact h.elim
theorem g_X1_believingNeighbour : vg_G k_X1_believingNeighbour sp_X1_believingNeighbour := by
  intro av σ h
  unfold sp_X1_believingNeighbour at h ⊢
  split at h
  next b g w =>
    obtain ⟨hw, hg8, hw12⟩ := h
    have hgc := hw.1
    have h8 := hgc.2
    refine vg_run (cuts := [(10, [0, 1, 2, 3, 4])]) m_X1_believingNeighbour 40 ?_
    refine And.intro hg8 ?_
    refine vg_loop (fun i lv σ' => σ' = σ ∧ ∃ x, x = nI i ∧ jFind (jTells (jV σ b) g.toNatClampNeg w.toNatClampNeg) 0 (jGc (jV σ b)) = jFind (jTells (jV σ b) g.toNatClampNeg w.toNatClampNeg) i (jGc (jV σ b) - i) ∧ lv = [(0, .inr (1, b, 0)), (1, .inl (.int g)), (2, .inl (.int w)), (3, .inr (9, b, g.toNatClampNeg)), (4, .inl (.int x))]) (jGc (jV σ b)) ?_ ?_ 0 _ _ (Nat.zero_le _) ⟨rfl, 0, rfl, rfl, rfl⟩
    · rintro i lv σ' hi ⟨e, x, hx, hr, rfl⟩ ih
      subst e
      have hc0 : x.toNatClampNeg = i := jcl hx (by omega)
      have hv : vp_in x 8 := jin hx (by omega) (by decide)
      have hs : jGc (jV σ' b) - i = (jGc (jV σ' b) - (i + 1)) + 1 := by omega
      have no : ¬ (jTells (jV σ' b) g.toNatClampNeg w.toNatClampNeg) i → jFind (jTells (jV σ' b) g.toNatClampNeg w.toNatClampNeg) 0 (jGc (jV σ' b)) = jFind (jTells (jV σ' b) g.toNatClampNeg w.toNatClampNeg) (i + 1) (jGc (jV σ' b) - (i + 1)) := fun z => by rw [hr, hs, jFind, if_neg z]
      have yes : (jTells (jV σ' b) g.toNatClampNeg w.toNatClampNeg) i → jFind (jTells (jV σ' b) g.toNatClampNeg w.toNatClampNeg) 0 (jGc (jV σ' b)) = x := fun z => by rw [hr, hs, jFind, if_pos z, hx]
      refine vg_run (cuts := [(10, [0, 1, 2, 3, 4])]) m_X1_believingNeighbour 60 ?_
      refine And.intro (fun hc => absurd ((jle hgc.1 hx (by omega) (by omega)).mp hc) (by omega)) (fun _ => ?_)
      obtain ⟨g0, hg0, hgx⟩ := vp_in_of hg8 (by decide)
      have eg : g.toNatClampNeg = g0 := jcl hgx (by omega)
      have nx : ¬ (jTells (jV σ' b) g.toNatClampNeg w.toNatClampNeg) i → vg_Go k_X1_believingNeighbour _ 10 [(0, .inr (1, b, 0)), (1, .inl (.int g)), (2, .inl (.int w)), (3, .inr (9, b, g.toNatClampNeg)), (4, .inl (.int (x + 1)))] [] σ' := fun z => ih _ _ ⟨rfl, x + 1, jinc hx, no z, rfl⟩
      refine And.intro hv (And.intro (fun hd => ?_) (fun hd => And.intro trivial (And.intro (fun he => And.intro hw12 (And.intro (fun hf => ?_) (fun hf => ?_))) (fun he => ?_))))
      · have ei : i = g.toNatClampNeg := by rw [← hc0, hd]
        exact And.intro (fun _ => nx (fun z => z.1 ei)) (fun z => absurd rfl z)
      · rw [hc0] at hf
        exact And.intro (fun _ => nx (fun z => z.2.2.1 hf)) (fun z => absurd rfl z)
      · rw [hc0] at he hf
        have ni : ¬ i = g.toNatClampNeg := fun z => hd (by rw [hx, hgx, ← eg, z])
        refine And.intro (fun z => absurd z (by decide)) (fun _ => And.intro (fun hh => And.intro trivial (And.intro (fun hk => ?_) (fun hk => ?_))) (fun hh => ?_))
        · rw [hc0] at hk
          exact nx (fun z => z.2.2.2.2 hk)
        · rw [hc0] at hh hk
          exact And.intro (by rw [yes ⟨ni, jb_0.mp he, hf, hh, hk⟩]) rfl
        · rw [hc0] at hh
          exact nx (fun z => hh z.2.2.2.1)
      · rw [hc0] at he
        exact And.intro (fun _ => nx (fun z => he (jb_f z.2.1))) (fun z => absurd rfl z)
    · rintro lv σ' ⟨e, x, hx, hr, rfl⟩
      subst e
      refine vg_run (cuts := [(10, [0, 1, 2, 3, 4])]) m_X1_believingNeighbour 20 ?_
      exact And.intro (fun _ => And.intro (by rw [hr, Nat.sub_self]; rfl) rfl) (fun hc => absurd ((jle hgc.1 hx (by omega) (by omega)).mpr (Nat.le_refl _)) hc)
  next => exact h.elim
theorem c_X1_believingNeighbour : vg_MetF ww_tb ww_nw ww_shp ww_nm ww_cl ww_tyl yX1_believingNeighbour cX1_believingNeighbour 7 (some .int) 2 sp_X1_believingNeighbour := vg_met ww_closed (by decide +kernel) rfl s_X1_believingNeighbour w_X1_believingNeighbour g_X1_believingNeighbour
/-- the nearest shelter with room, of those below n, and how far -/
def jNear (v : jN) (g : Nat) : Nat → Int32 × Int32
  | 0 => (-1, 16)
  | n + 1 => if v 10 n 1 < v 9 g 1 then jNear v g n else if (jNear v g n).2 ≤ jDist (v 9 g 0) (v 10 n 0) then jNear v g n else (nI n, jDist (v 9 g 0) (v 10 n 0))
def sp_X1_nearestWithRoom : vgC := fun av σ => match av with
  | [.inr (1, b, 0), .inr (9, b', g)] => (jWf (jV σ b) ∧ b' = b, some (.inl (.int ((jNear (jV σ b) g (jSc (jV σ b))).1))), σ)
  | _ => (False, none, σ)
def k_X1_nearestWithRoom : List (Nat × vgF) := [(0, vi_icst (-1) 1), (1, vi_istore 2 2), (2, vi_icst (16) 4), (4, vi_istore 3 5), (5, vi_icst (0) 6), (6, vi_istore 4 8), (8, vi_iload 4 10), (10, vi_aload 0 11), (11, vi_get ww_shp 1 5 14), (14, vi_cmp (fun x y => y ≤ x) 71 17), (17, vi_aload 1 18), (18, vi_get ww_shp 5 0 21), (21, vi_aload 0 22), (22, vi_get ww_shp 1 8 25), (25, vi_iload 4 27), (27, vi_aald ww_shp 3 28), (28, vi_get ww_shp 3 0 31), (31, vi_callS sp_X5_distance 2 34), (34, vi_istore 5 36), (36, vi_aload 0 37), (37, vi_get ww_shp 1 8 40), (40, vi_iload 4 42), (42, vi_aald ww_shp 3 43), (43, vi_get ww_shp 3 1 46), (46, vi_aload 1 47), (47, vi_get ww_shp 5 1 50), (50, vi_cmp (fun x y => x < y) 65 53), (53, vi_iload 5 55), (55, vi_iload 3 56), (56, vi_cmp (fun x y => y ≤ x) 65 59), (59, vi_iload 4 61), (61, vi_istore 2 62), (62, vi_iload 5 64), (64, vi_istore 3 65), (65, vi_iinc 4 (1) 68), (68, vi_goto 8), (71, vi_iload 2 72), (72, vi_ret)]
set_option maxRecDepth 20000 in
theorem s_X1_nearestWithRoom : ∀ q ∈ k_X1_nearestWithRoom, vg_Snd ww_tb ww_nw ww_shp ww_nm ww_cl ww_tyl cX1_nearestWithRoom 6 RX1 (some .int) 2 q.1 q.2 := by
  refine vg_cons (vs_iconst dX1_nearestWithRoom_0 rfl rfl) ?_
  refine vg_cons (vs_istore_n dX1_nearestWithRoom_1 rfl (by decide) rfl) ?_
  refine vg_cons (vs_bipush dX1_nearestWithRoom_2 (by decide) rfl) ?_
  refine vg_cons (vs_istore_n dX1_nearestWithRoom_4 rfl (by decide) rfl) ?_
  refine vg_cons (vs_iconst dX1_nearestWithRoom_5 rfl rfl) ?_
  refine vg_cons (vs_istore dX1_nearestWithRoom_6 (by decide) rfl) ?_
  refine vg_cons (vs_iload dX1_nearestWithRoom_8 rfl) ?_
  refine vg_cons (vs_aload_n dX1_nearestWithRoom_10 rfl rfl) ?_
  refine vg_cons (vs_getfield (T := TX1) dX1_nearestWithRoom_11 rfl (by decide) ww_inX1 q_60 rfl) ?_
  refine vg_cons (vs_cmp_ge dX1_nearestWithRoom_14 (by decide) rfl) ?_
  refine vg_cons (vs_aload_n dX1_nearestWithRoom_17 rfl rfl) ?_
  refine vg_cons (vs_getfield (T := TX0) dX1_nearestWithRoom_18 rfl (by decide) ww_inX0 q_49 rfl) ?_
  refine vg_cons (vs_aload_n dX1_nearestWithRoom_21 rfl rfl) ?_
  refine vg_cons (vs_getfield (T := TX1) dX1_nearestWithRoom_22 rfl (by decide) ww_inX1 q_61 rfl) ?_
  refine vg_cons (vs_iload dX1_nearestWithRoom_25 rfl) ?_
  refine vg_cons (vs_aaload dX1_nearestWithRoom_27 rfl rfl) ?_
  refine vg_cons (vs_getfield (T := TX3) dX1_nearestWithRoom_28 rfl (by decide) ww_inX3 q_62 rfl) ?_
  refine vg_cons (vs_callSN (host := "WarnWave") c_X5_distance dX1_nearestWithRoom_31 ww_good q_58 q_51 (by decide +kernel) q_59 (by decide +kernel) (by decide) rfl) ?_
  refine vg_cons (vs_istore dX1_nearestWithRoom_34 (by decide) rfl) ?_
  refine vg_cons (vs_aload_n dX1_nearestWithRoom_36 rfl rfl) ?_
  refine vg_cons (vs_getfield (T := TX1) dX1_nearestWithRoom_37 rfl (by decide) ww_inX1 q_61 rfl) ?_
  refine vg_cons (vs_iload dX1_nearestWithRoom_40 rfl) ?_
  refine vg_cons (vs_aaload dX1_nearestWithRoom_42 rfl rfl) ?_
  refine vg_cons (vs_getfield (T := TX3) dX1_nearestWithRoom_43 rfl (by decide) ww_inX3 q_63 rfl) ?_
  refine vg_cons (vs_aload_n dX1_nearestWithRoom_46 rfl rfl) ?_
  refine vg_cons (vs_getfield (T := TX0) dX1_nearestWithRoom_47 rfl (by decide) ww_inX0 q_44 rfl) ?_
  refine vg_cons (vs_cmp_lt dX1_nearestWithRoom_50 (by decide) rfl) ?_
  refine vg_cons (vs_iload dX1_nearestWithRoom_53 rfl) ?_
  refine vg_cons (vs_iload_n dX1_nearestWithRoom_55 rfl rfl) ?_
  refine vg_cons (vs_cmp_ge dX1_nearestWithRoom_56 (by decide) rfl) ?_
  refine vg_cons (vs_iload dX1_nearestWithRoom_59 rfl) ?_
  refine vg_cons (vs_istore_n dX1_nearestWithRoom_61 rfl (by decide) rfl) ?_
  refine vg_cons (vs_iload dX1_nearestWithRoom_62 rfl) ?_
  refine vg_cons (vs_istore_n dX1_nearestWithRoom_64 rfl (by decide) rfl) ?_
  refine vg_cons (vs_iinc dX1_nearestWithRoom_65 rfl rfl) ?_
  refine vg_cons (vs_goto dX1_nearestWithRoom_68 (by decide)) ?_
  refine vg_cons (vs_iload_n dX1_nearestWithRoom_71 rfl rfl) ?_
  refine vg_cons (vs_ireturn dX1_nearestWithRoom_72 rfl) ?_
  exact fun _ h => absurd h List.not_mem_nil
theorem m_X1_nearestWithRoom : vg_Code k_X1_nearestWithRoom := fun q h => (s_X1_nearestWithRoom q h).1

theorem w_X1_nearestWithRoom : vg_Wd sp_X1_nearestWithRoom 6 := by
  intro av σ h
  unfold sp_X1_nearestWithRoom at h
  split at h
  · exact Nat.le_of_ble_eq_true rfl
  · exact h.elim
theorem g_X1_nearestWithRoom : vg_G k_X1_nearestWithRoom sp_X1_nearestWithRoom := by
  intro av σ h
  unfold sp_X1_nearestWithRoom at h ⊢
  split at h
  next b b' g =>
    obtain ⟨hw, rfl⟩ := h
    have hsc := hw.2.1
    have h3 := hsc.2
    refine vg_run (cuts := [(8, [0, 1, 2, 3, 4])]) m_X1_nearestWithRoom 20 ?_
    refine vg_loop (fun i lv σ' => σ' = σ ∧ ∃ x q, x = nI i ∧ q = jNear (jV σ b') g i ∧ lv = [(0, .inr (1, b', 0)), (1, .inr (9, b', g)), (2, .inl (.int q.1)), (3, .inl (.int q.2)), (4, .inl (.int x))]) (jSc (jV σ b')) ?_ ?_ 0 _ _ (Nat.zero_le _) ⟨rfl, 0, (-1, 16), rfl, rfl, rfl⟩
    · rintro i lv σ' hi ⟨e, x, q, hx, hq, rfl⟩ ih
      subst e
      have hc0 : x.toNatClampNeg = i := jcl hx (by omega)
      have hv : vp_in x 3 := jin hx (by omega) (by decide)
      refine vg_run (cuts := [(8, [0, 1, 2, 3, 4])]) m_X1_nearestWithRoom 60 ?_
      refine And.intro (fun hc => absurd ((jle hsc.1 hx (by omega) (by omega)).mp hc) (by omega)) (fun _ => ?_)
      refine And.intro hv (And.intro trivial (And.intro hv (And.intro (fun hd => ?_) (fun hd => And.intro (fun he => ?_) (fun he => ?_)))))
      · rw [hc0] at hd
        exact ih _ _ ⟨rfl, x + 1, q, jinc hx, hq.trans (if_pos hd).symm, rfl⟩
      · rw [hc0, hq] at he
        rw [hc0] at hd
        exact ih _ _ ⟨rfl, x + 1, q, jinc hx, hq.trans ((if_neg hd).trans (if_pos he)).symm, rfl⟩
      · rw [hc0, hq] at he
        rw [hc0] at hd
        refine ih _ _ ⟨rfl, x + 1, (x, jDist (σ' (9, b', g) 0) (σ' (10, b', x.toNatClampNeg) 0)), jinc hx, ?_, rfl⟩
        rw [hc0, hx]
        exact ((if_neg hd).trans (if_neg he)).symm
    · rintro lv σ' ⟨e, x, q, hx, hq, rfl⟩
      subst e
      refine vg_run (cuts := [(8, [0, 1, 2, 3, 4])]) m_X1_nearestWithRoom 20 ?_
      exact And.intro (fun _ => And.intro (by rw [hq]) rfl) (fun hc => absurd ((jle hsc.1 hx (by omega) (by omega)).mpr (Nat.le_refl _)) hc)
  next => exact h.elim
theorem c_X1_nearestWithRoom : vg_MetF ww_tb ww_nw ww_shp ww_nm ww_cl ww_tyl yX1_nearestWithRoom cX1_nearestWithRoom 6 (some .int) 2 sp_X1_nearestWithRoom := vg_met ww_closed (by decide +kernel) rfl s_X1_nearestWithRoom w_X1_nearestWithRoom g_X1_nearestWithRoom
/-- cells added to a set -/
def jAdd (f : Nat → Prop) [DecidablePred f] (a : Int32) : Nat → Int32
  | 0 => a
  | n + 1 => if f n then jAdd f a n ||| ((1 : Int32) <<< (nI n &&& 31)) else jAdd f a n
abbrev jNearBy (v : jN) (j k c : Nat) : Prop := ¬ v 13 j k < jDist (v 7 j k) (nI c)
/-- the cells that the first n of the sirens (j = 0) or masts (j = 1) reach -/
def jReach (v : jN) (j : Nat) : Nat → Int32
  | 0 => 0
  | n + 1 => if v 8 j n = 0 then jReach v j n else jAdd (jNearBy v j n) (jReach v j n) 16
def sp_X2_cellsReached : vgC := fun av σ => match av with
  | [.inr (5, b, j)] => (jV σ b 5 j 3 = nI (jNc (jV σ b) j) ∧ jNc (jV σ b) j ≤ 5, some (.inl (.int (jReach (jV σ b) j (jNc (jV σ b) j)))), σ)
  | _ => (False, none, σ)
def k_X2_cellsReached : List (Nat × vgF) := [(0, vi_icst (0) 1), (1, vi_istore 1 2), (2, vi_icst (0) 3), (3, vi_istore 2 4), (4, vi_iload 2 5), (5, vi_aload 0 6), (6, vi_get ww_shp 2 3 9), (9, vi_cmp (fun x y => y ≤ x) 66 12), (12, vi_icst (0) 13), (13, vi_istore 3 14), (14, vi_aload 0 15), (15, vi_get ww_shp 2 2 18), (18, vi_iload 2 19), (19, vi_ald ww_shp 1 20), (20, vi_if (fun x => x = 0) 60 23), (23, vi_iload 3 24), (24, vi_icst (16) 26), (26, vi_cmp (fun x y => y ≤ x) 60 29), (29, vi_aload 0 30), (30, vi_get ww_shp 2 0 33), (33, vi_iload 2 34), (34, vi_ald ww_shp 0 35), (35, vi_iload 3 36), (36, vi_callS sp_X5_distance 2 39), (39, vi_aload 0 40), (40, vi_get ww_shp 2 1 43), (43, vi_iload 2 44), (44, vi_ald ww_shp 0 45), (45, vi_cmp (fun x y => y < x) 54 48), (48, vi_iload 1 49), (49, vi_icst (1) 50), (50, vi_iload 3 51), (51, vi_bin (fun x y => x <<< (y &&& 31)) 52), (52, vi_bin (fun x y => x ||| y) 53), (53, vi_istore 1 54), (54, vi_iinc 3 (1) 57), (57, vi_goto 14), (60, vi_iinc 2 (1) 63), (63, vi_goto 4), (66, vi_iload 1 67), (67, vi_ret)]
set_option maxRecDepth 20000 in
theorem s_X2_cellsReached : ∀ q ∈ k_X2_cellsReached, vg_Snd ww_tb ww_nw ww_shp ww_nm ww_cl ww_tyl cX2_cellsReached 4 RX2 (some .int) 2 q.1 q.2 := by
  refine vg_cons (vs_iconst dX2_cellsReached_0 rfl rfl) ?_
  refine vg_cons (vs_istore_n dX2_cellsReached_1 rfl (by decide) rfl) ?_
  refine vg_cons (vs_iconst dX2_cellsReached_2 rfl rfl) ?_
  refine vg_cons (vs_istore_n dX2_cellsReached_3 rfl (by decide) rfl) ?_
  refine vg_cons (vs_iload_n dX2_cellsReached_4 rfl rfl) ?_
  refine vg_cons (vs_aload_n dX2_cellsReached_5 rfl rfl) ?_
  refine vg_cons (vs_getfield (T := TX2) dX2_cellsReached_6 rfl (by decide) ww_inX2 q_64 rfl) ?_
  refine vg_cons (vs_cmp_ge dX2_cellsReached_9 (by decide) rfl) ?_
  refine vg_cons (vs_iconst dX2_cellsReached_12 rfl rfl) ?_
  refine vg_cons (vs_istore_n dX2_cellsReached_13 rfl (by decide) rfl) ?_
  refine vg_cons (vs_aload_n dX2_cellsReached_14 rfl rfl) ?_
  refine vg_cons (vs_getfield (T := TX2) dX2_cellsReached_15 rfl (by decide) ww_inX2 q_65 rfl) ?_
  refine vg_cons (vs_iload_n dX2_cellsReached_18 rfl rfl) ?_
  refine vg_cons (vs_zaload dX2_cellsReached_19 rfl rfl) ?_
  refine vg_cons (vs_if_eq dX2_cellsReached_20 (by decide) rfl) ?_
  refine vg_cons (vs_iload_n dX2_cellsReached_23 rfl rfl) ?_
  refine vg_cons (vs_bipush dX2_cellsReached_24 (by decide) rfl) ?_
  refine vg_cons (vs_cmp_ge dX2_cellsReached_26 (by decide) rfl) ?_
  refine vg_cons (vs_aload_n dX2_cellsReached_29 rfl rfl) ?_
  refine vg_cons (vs_getfield (T := TX2) dX2_cellsReached_30 rfl (by decide) ww_inX2 q_66 rfl) ?_
  refine vg_cons (vs_iload_n dX2_cellsReached_33 rfl rfl) ?_
  refine vg_cons (vs_iaload dX2_cellsReached_34 rfl rfl) ?_
  refine vg_cons (vs_iload_n dX2_cellsReached_35 rfl rfl) ?_
  refine vg_cons (vs_callSN (host := "WarnWave") c_X5_distance dX2_cellsReached_36 ww_good q_58 q_51 (by decide +kernel) q_59 (by decide +kernel) (by decide) rfl) ?_
  refine vg_cons (vs_aload_n dX2_cellsReached_39 rfl rfl) ?_
  refine vg_cons (vs_getfield (T := TX2) dX2_cellsReached_40 rfl (by decide) ww_inX2 q_67 rfl) ?_
  refine vg_cons (vs_iload_n dX2_cellsReached_43 rfl rfl) ?_
  refine vg_cons (vs_iaload dX2_cellsReached_44 rfl rfl) ?_
  refine vg_cons (vs_cmp_gt dX2_cellsReached_45 (by decide) rfl) ?_
  refine vg_cons (vs_iload_n dX2_cellsReached_48 rfl rfl) ?_
  refine vg_cons (vs_iconst dX2_cellsReached_49 rfl rfl) ?_
  refine vg_cons (vs_iload_n dX2_cellsReached_50 rfl rfl) ?_
  refine vg_cons (vs_ishl dX2_cellsReached_51 rfl) ?_
  refine vg_cons (vs_ior dX2_cellsReached_52 rfl) ?_
  refine vg_cons (vs_istore_n dX2_cellsReached_53 rfl (by decide) rfl) ?_
  refine vg_cons (vs_iinc dX2_cellsReached_54 rfl rfl) ?_
  refine vg_cons (vs_goto dX2_cellsReached_57 (by decide)) ?_
  refine vg_cons (vs_iinc dX2_cellsReached_60 rfl rfl) ?_
  refine vg_cons (vs_goto dX2_cellsReached_63 (by decide)) ?_
  refine vg_cons (vs_iload_n dX2_cellsReached_66 rfl rfl) ?_
  refine vg_cons (vs_ireturn dX2_cellsReached_67 rfl) ?_
  exact fun _ h => absurd h List.not_mem_nil
theorem m_X2_cellsReached : vg_Code k_X2_cellsReached := fun q h => (s_X2_cellsReached q h).1

theorem w_X2_cellsReached : vg_Wd sp_X2_cellsReached 4 := by
  intro av σ h
  unfold sp_X2_cellsReached at h
  split at h
  · exact Nat.le_of_ble_eq_true rfl
  · exact h.elim
theorem g_X2_cellsReached : vg_G k_X2_cellsReached sp_X2_cellsReached := by
  intro av σ h
  unfold sp_X2_cellsReached at h ⊢
  split at h
  next b j =>
    have hn := h
    have h5 := h.2
    refine vg_run (cuts := [(4, [0, 1, 2])]) m_X2_cellsReached 20 ?_
    refine vg_loop (fun i lv σ' => σ' = σ ∧ ∃ x a, x = nI i ∧ a = jReach (jV σ b) j i ∧ lv = [(0, .inr (5, b, j)), (1, .inl (.int a)), (2, .inl (.int x))]) (jNc (jV σ b) j) ?_ ?_ 0 _ _ (Nat.zero_le _) ⟨rfl, 0, 0, rfl, rfl, rfl⟩
    · rintro i lv σ' hi ⟨e, x, a, hx, ha, rfl⟩ ih
      subst e
      have hc0 : x.toNatClampNeg = i := jcl hx (by omega)
      have hv : vp_in x 5 := jin hx (by omega) (by decide)
      refine vg_run (cuts := [(4, [0, 1, 2]), (14, [0, 1, 2, 3])]) m_X2_cellsReached 20 ?_
      refine And.intro (fun hc => absurd ((jle hn.1 hx (by omega) (by omega)).mp hc) (by omega)) (fun _ => ?_)
      by_cases hp : jV σ' b 8 j i = 0
      · refine vg_run (cuts := [(4, [0, 1, 2])]) m_X2_cellsReached 20 ?_
        refine And.intro hv (And.intro (fun _ => ?_) (fun z => absurd (by rw [hc0]; exact hp) z))
        exact ih _ _ ⟨rfl, x + 1, a, jinc hx, by rw [jReach, if_pos hp, ha], rfl⟩
      · refine vg_loop (fun c lv σ'' => σ'' = σ' ∧ ∃ y a', y = nI c ∧ a' = jAdd (jNearBy (jV σ' b) j i) a c ∧ lv = [(0, .inr (5, b, j)), (1, .inl (.int a')), (2, .inl (.int x)), (3, .inl (.int y))]) 16 ?_ ?_ 0 _ _ (Nat.zero_le _) ⟨rfl, 0, a, rfl, rfl, rfl⟩
        · rintro c lv σ'' hi2 ⟨e, y, a', hy, ha', rfl⟩ ih2
          subst e
          refine vg_run (cuts := [(4, [0, 1, 2]), (14, [0, 1, 2, 3])]) m_X2_cellsReached 40 ?_
          refine And.intro hv (And.intro (fun z => absurd z (by rw [hc0]; exact hp)) (fun _ => And.intro (fun hc => absurd ((jle (n := 16) rfl hy (by omega) (by omega)).mp hc) (by omega)) (fun _ => ?_)))
          refine And.intro hv (And.intro trivial (And.intro hv (And.intro (fun hd => ?_) (fun hd => ?_))))
          · rw [hc0, hy] at hd
            have hd' : ¬ jNearBy (jV σ'' b) j i c := fun z => z hd
            exact ih2 _ _ ⟨rfl, y + 1, a', jinc hy, by rw [jAdd, if_neg hd', ha'], rfl⟩
          · rw [hc0, hy] at hd
            have hd' : jNearBy (jV σ'' b) j i c := hd
            exact ih2 _ _ ⟨rfl, y + 1, a' ||| ((1 : Int32) <<< (y &&& 31)), jinc hy, by rw [jAdd, if_pos hd', ha', hy], rfl⟩
        · rintro lv σ'' ⟨e, y, a', hy, ha', rfl⟩
          subst e
          refine vg_run (cuts := [(4, [0, 1, 2])]) m_X2_cellsReached 20 ?_
          refine And.intro hv (And.intro (fun z => absurd z (by rw [hc0]; exact hp)) (fun _ => And.intro (fun _ => ?_) (fun hc => absurd ((jle (n := 16) rfl hy (by omega) (by omega)).mpr (Nat.le_refl _)) hc)))
          exact ih _ _ ⟨rfl, x + 1, a', jinc hx, by rw [jReach, if_neg hp, ha', ha], rfl⟩
    · rintro lv σ' ⟨e, x, a, hx, ha, rfl⟩
      subst e
      refine vg_run (cuts := [(4, [0, 1, 2])]) m_X2_cellsReached 20 ?_
      exact And.intro (fun _ => And.intro (by rw [ha]) rfl) (fun hc => absurd ((jle hn.1 hx (by omega) (by omega)).mpr (Nat.le_refl _)) hc)
  next => exact h.elim
theorem c_X2_cellsReached : vg_MetF ww_tb ww_nw ww_shp ww_nm ww_cl ww_tyl yX2_cellsReached cX2_cellsReached 4 (some .int) 2 sp_X2_cellsReached := vg_met ww_closed (by decide +kernel) rfl s_X2_cellsReached w_X2_cellsReached g_X2_cellsReached
/-- the ways that don't hang on others: sirens, masts, radio -/
def jPub (v : jN) (g w : Nat) (si ma sl : Int32) : Int32 :=
  if jIn (v 11 w 2) (v 9 g 0) = 0 then 0 else
  let s0 : Int32 := if si = 0 then 0 else 1
  if jIn (v 11 w 4) (v 9 g 2) = 0 then s0 else
  let s1 : Int32 := if ma = 0 then s0 else if sl = 0 then s0 ||| 2 else if v 1 0 0 - v 11 w 6 < 2 then s0 else s0 ||| 2
  if v 9 g 5 = 0 then s1 else if sl = 0 then s1 ||| 4 else s1
def sp_X1_publicWays : vgC := fun av σ => match av with
  | [.inr (1, b, 0), .inr (9, b', g), .inr (11, b'', w), .inl (.int si), .inl (.int ma), .inl (.int sl)] => (b' = b ∧ b'' = b, some (.inl (.int (jPub (jV σ b) g w si ma sl))), σ)
  | _ => (False, none, σ)
def k_X1_publicWays : List (Nat × vgF) := [(0, vi_aload 2 1), (1, vi_get ww_shp 4 2 4), (4, vi_aload 1 5), (5, vi_get ww_shp 5 0 8), (8, vi_callS sp_X5_isIn 2 11), (11, vi_if (fun x => x = 0) 14 16), (14, vi_icst (0) 15), (15, vi_ret), (16, vi_iload 3 17), (17, vi_if (fun x => x = 0) 24 20), (20, vi_icst (1) 21), (21, vi_goto 25), (24, vi_icst (0) 25), (25, vi_istore 6 27), (27, vi_aload 2 28), (28, vi_get ww_shp 4 4 31), (31, vi_aload 1 32), (32, vi_get ww_shp 5 2 35), (35, vi_callS sp_X5_isIn 2 38), (38, vi_if (fun x => x = 0) 41 44), (41, vi_iload 6 43), (43, vi_ret), (44, vi_iload 4 46), (46, vi_if (fun x => x = 0) 73 49), (49, vi_iload 5 51), (51, vi_if (fun x => x = 0) 67 54), (54, vi_aload 0 55), (55, vi_get ww_shp 1 0 58), (58, vi_aload 2 59), (59, vi_get ww_shp 4 6 62), (62, vi_bin (fun x y => x - y) 63), (63, vi_icst (2) 64), (64, vi_cmp (fun x y => x < y) 73 67), (67, vi_iload 6 69), (69, vi_icst (2) 70), (70, vi_bin (fun x y => x ||| y) 71), (71, vi_istore 6 73), (73, vi_aload 1 74), (74, vi_get ww_shp 5 5 77), (77, vi_if (fun x => x = 0) 92 80), (80, vi_iload 5 82), (82, vi_if (fun x => x = 0) 85 92), (85, vi_iload 6 87), (87, vi_icst (4) 88), (88, vi_bin (fun x y => x ||| y) 89), (89, vi_goto 94), (92, vi_iload 6 94), (94, vi_ret)]
set_option maxRecDepth 20000 in
theorem s_X1_publicWays : ∀ q ∈ k_X1_publicWays, vg_Snd ww_tb ww_nw ww_shp ww_nm ww_cl ww_tyl cX1_publicWays 7 RX1 (some .int) 1 q.1 q.2 := by
  refine vg_cons (vs_aload_n dX1_publicWays_0 rfl rfl) ?_
  refine vg_cons (vs_getfield (T := TX4) dX1_publicWays_1 rfl (by decide) ww_inX4 q_53 rfl) ?_
  refine vg_cons (vs_aload_n dX1_publicWays_4 rfl rfl) ?_
  refine vg_cons (vs_getfield (T := TX0) dX1_publicWays_5 rfl (by decide) ww_inX0 q_49 rfl) ?_
  refine vg_cons (vs_callSN (host := "WarnWave") c_X5_isIn dX1_publicWays_8 ww_good q_50 q_51 (by decide +kernel) q_52 (by decide +kernel) (by decide) rfl) ?_
  refine vg_cons (vs_if_ne dX1_publicWays_11 (by decide) rfl) ?_
  refine vg_cons (vs_iconst dX1_publicWays_14 rfl rfl) ?_
  refine vg_cons (vs_ireturn dX1_publicWays_15 rfl) ?_
  refine vg_cons (vs_iload_n dX1_publicWays_16 rfl rfl) ?_
  refine vg_cons (vs_if_eq dX1_publicWays_17 (by decide) rfl) ?_
  refine vg_cons (vs_iconst dX1_publicWays_20 rfl rfl) ?_
  refine vg_cons (vs_goto dX1_publicWays_21 (by decide)) ?_
  refine vg_cons (vs_iconst dX1_publicWays_24 rfl rfl) ?_
  refine vg_cons (vs_istore dX1_publicWays_25 (by decide) rfl) ?_
  refine vg_cons (vs_aload_n dX1_publicWays_27 rfl rfl) ?_
  refine vg_cons (vs_getfield (T := TX4) dX1_publicWays_28 rfl (by decide) ww_inX4 q_54 rfl) ?_
  refine vg_cons (vs_aload_n dX1_publicWays_31 rfl rfl) ?_
  refine vg_cons (vs_getfield (T := TX0) dX1_publicWays_32 rfl (by decide) ww_inX0 q_55 rfl) ?_
  refine vg_cons (vs_callSN (host := "WarnWave") c_X5_isIn dX1_publicWays_35 ww_good q_50 q_51 (by decide +kernel) q_52 (by decide +kernel) (by decide) rfl) ?_
  refine vg_cons (vs_if_ne dX1_publicWays_38 (by decide) rfl) ?_
  refine vg_cons (vs_iload dX1_publicWays_41 rfl) ?_
  refine vg_cons (vs_ireturn dX1_publicWays_43 rfl) ?_
  refine vg_cons (vs_iload dX1_publicWays_44 rfl) ?_
  refine vg_cons (vs_if_eq dX1_publicWays_46 (by decide) rfl) ?_
  refine vg_cons (vs_iload dX1_publicWays_49 rfl) ?_
  refine vg_cons (vs_if_eq dX1_publicWays_51 (by decide) rfl) ?_
  refine vg_cons (vs_aload_n dX1_publicWays_54 rfl rfl) ?_
  refine vg_cons (vs_getfield (T := TX1) dX1_publicWays_55 rfl (by decide) ww_inX1 q_10 rfl) ?_
  refine vg_cons (vs_aload_n dX1_publicWays_58 rfl rfl) ?_
  refine vg_cons (vs_getfield (T := TX4) dX1_publicWays_59 rfl (by decide) ww_inX4 q_68 rfl) ?_
  refine vg_cons (vs_isub dX1_publicWays_62 rfl) ?_
  refine vg_cons (vs_iconst dX1_publicWays_63 rfl rfl) ?_
  refine vg_cons (vs_cmp_lt dX1_publicWays_64 (by decide) rfl) ?_
  refine vg_cons (vs_iload dX1_publicWays_67 rfl) ?_
  refine vg_cons (vs_iconst dX1_publicWays_69 rfl rfl) ?_
  refine vg_cons (vs_ior dX1_publicWays_70 rfl) ?_
  refine vg_cons (vs_istore dX1_publicWays_71 (by decide) rfl) ?_
  refine vg_cons (vs_aload_n dX1_publicWays_73 rfl rfl) ?_
  refine vg_cons (vs_getfield (T := TX0) dX1_publicWays_74 rfl (by decide) ww_inX0 q_69 rfl) ?_
  refine vg_cons (vs_if_eq dX1_publicWays_77 (by decide) rfl) ?_
  refine vg_cons (vs_iload dX1_publicWays_80 rfl) ?_
  refine vg_cons (vs_if_ne dX1_publicWays_82 (by decide) rfl) ?_
  refine vg_cons (vs_iload dX1_publicWays_85 rfl) ?_
  refine vg_cons (vs_iconst dX1_publicWays_87 rfl rfl) ?_
  refine vg_cons (vs_ior dX1_publicWays_88 rfl) ?_
  refine vg_cons (vs_goto dX1_publicWays_89 (by decide)) ?_
  refine vg_cons (vs_iload dX1_publicWays_92 rfl) ?_
  refine vg_cons (vs_ireturn dX1_publicWays_94 rfl) ?_
  exact fun _ h => absurd h List.not_mem_nil
theorem m_X1_publicWays : vg_Code k_X1_publicWays := fun q h => (s_X1_publicWays q h).1

theorem w_X1_publicWays : vg_Wd sp_X1_publicWays 7 := by
  intro av σ h
  unfold sp_X1_publicWays at h
  split at h
  · exact Nat.le_of_ble_eq_true rfl
  · exact h.elim
theorem g_X1_publicWays : vg_G k_X1_publicWays sp_X1_publicWays := by
  intro av σ h
  unfold sp_X1_publicWays at h ⊢
  split at h
  next b b' g b'' w si ma sl =>
    obtain ⟨rfl, rfl⟩ := h
    refine vg_run (cuts := []) m_X1_publicWays 80 ?_
    have A : ∀ z, z = jPub (jV σ b'') g w si ma sl → some (Sum.inl (Value.int z)) = (some (Sum.inl (Value.int (jPub (jV σ b'') g w si ma sl))) : Option vgV) := fun z e => by rw [e]
    refine And.intro trivial (And.intro (fun hc => And.intro (A _ (if_pos hc).symm) rfl) (fun hc => ?_))
    refine And.intro (fun hd => And.intro trivial (And.intro (fun he => ?_) (fun he => ?_))) (fun hd => And.intro trivial (And.intro (fun he => ?_) (fun he => ?_)))
    · exact And.intro (A _ (by unfold jPub; simp_all [jV])) rfl
    · refine And.intro (fun h1 => ?_) (fun h1 => And.intro (fun h2 => ?_) (fun h2 => And.intro (fun h3 => ?_) (fun h3 => ?_)))
      all_goals refine And.intro (fun h4 => ?_) (fun h4 => And.intro (fun h5 => ?_) (fun h5 => ?_))
      all_goals exact And.intro (A _ (by unfold jPub; simp_all [jV] <;> (intro hz; exact absurd hz (Int32.not_lt.mpr ‹_›)))) rfl
    · exact And.intro (A _ (by unfold jPub; simp_all [jV])) rfl
    · refine And.intro (fun h1 => ?_) (fun h1 => And.intro (fun h2 => ?_) (fun h2 => And.intro (fun h3 => ?_) (fun h3 => ?_)))
      all_goals refine And.intro (fun h4 => ?_) (fun h4 => And.intro (fun h5 => ?_) (fun h5 => ?_))
      all_goals exact And.intro (A _ (by unfold jPub; simp_all [jV] <;> (intro hz; exact absurd hz (Int32.not_lt.mpr ‹_›)))) rfl
  next => exact h.elim
theorem c_X1_publicWays : vg_MetF ww_tb ww_nw ww_shp ww_nm ww_cl ww_tyl yX1_publicWays cX1_publicWays 7 (some .int) 1 sp_X1_publicWays := vg_met ww_closed (by decide +kernel) rfl s_X1_publicWays w_X1_publicWays g_X1_publicWays
