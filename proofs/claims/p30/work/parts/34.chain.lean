-- words of the tables, and what stands at each place of the methods' code (laid by program)
theorem q_328 : Cond.code yX5_heard cX5_heard 5 (some .int) ∈ ww_tb := by decide +kernel
theorem q_329 : Cond.methodLink RX5 321 yX5_heard ∈ ww_tb := by decide +kernel
theorem q_330 : Cond.instanceMethod yX5_heard ∈ ww_tb := by decide +kernel
theorem q_331 : Cond.selects RX5 yX5_heard yX5_heard ∈ ww_tb := by decide +kernel
theorem q_332 : Cond.code yX5_mix cX5_mix 3 (some .long) ∈ ww_tb := by decide +kernel
theorem q_333 : Cond.static yX5_mix ∈ ww_tb := by decide +kernel
theorem q_334 : Cond.methodLink RX5 295 yX5_mix ∈ ww_tb := by decide +kernel
theorem q_335 : Cond.code yX5_chain cX5_chain 6 (some .int) ∈ ww_tb := by decide +kernel
theorem q_336 : Cond.methodLink RX5 324 yX5_chain ∈ ww_tb := by decide +kernel
theorem q_337 : Cond.instanceMethod yX5_chain ∈ ww_tb := by decide +kernel
theorem q_338 : Cond.selects RX5 yX5_chain yX5_chain ∈ ww_tb := by decide +kernel
theorem dX5_chain_0 : decode cX5_chain 0 = .ok (.aload_n 0, 1) := by decide +kernel
theorem dX5_chain_1 : decode cX5_chain 1 = .ok (.iload_n 1, 1) := by decide +kernel
theorem dX5_chain_2 : decode cX5_chain 2 = .ok (.invokevirtual 60, 3) := by decide +kernel
theorem dX5_chain_5 : decode cX5_chain 5 = .ok (.aload_n 0, 1) := by decide +kernel
theorem dX5_chain_6 : decode cX5_chain 6 = .ok (.iload_n 2, 1) := by decide +kernel
theorem dX5_chain_7 : decode cX5_chain 7 = .ok (.invokevirtual 132, 3) := by decide +kernel
theorem dX5_chain_10 : decode cX5_chain 10 = .ok (.aload_n 0, 1) := by decide +kernel
theorem dX5_chain_11 : decode cX5_chain 11 = .ok (.getfield 10, 3) := by decide +kernel
theorem dX5_chain_14 : decode cX5_chain 14 = .ok (.getfield 38, 3) := by decide +kernel
theorem dX5_chain_17 : decode cX5_chain 17 = .ok (.iload_n 1, 1) := by decide +kernel
theorem dX5_chain_18 : decode cX5_chain 18 = .ok (.aaload, 1) := by decide +kernel
theorem dX5_chain_19 : decode cX5_chain 19 = .ok (.getfield 229, 3) := by decide +kernel
theorem dX5_chain_22 : decode cX5_chain 22 = .ok (.iload_n 2, 1) := by decide +kernel
theorem dX5_chain_23 : decode cX5_chain 23 = .ok (.iaload, 1) := by decide +kernel
theorem dX5_chain_24 : decode cX5_chain 24 = .ok (.ifCond .ne 5, 3) := by decide +kernel
theorem dX5_chain_27 : decode cX5_chain 27 = .ok (.iconst 0, 1) := by decide +kernel
theorem dX5_chain_28 : decode cX5_chain 28 = .ok (.ireturn, 1) := by decide +kernel
theorem dX5_chain_29 : decode cX5_chain 29 = .ok (.iconst 1, 1) := by decide +kernel
theorem dX5_chain_30 : decode cX5_chain 30 = .ok (.istore_n 3, 1) := by decide +kernel
theorem dX5_chain_31 : decode cX5_chain 31 = .ok (.iload_n 1, 1) := by decide +kernel
theorem dX5_chain_32 : decode cX5_chain 32 = .ok (.istore 4, 2) := by decide +kernel
theorem dX5_chain_34 : decode cX5_chain 34 = .ok (.iconst 0, 1) := by decide +kernel
theorem dX5_chain_35 : decode cX5_chain 35 = .ok (.istore 5, 2) := by decide +kernel
theorem dX5_chain_37 : decode cX5_chain 37 = .ok (.iload 5, 2) := by decide +kernel
theorem dX5_chain_39 : decode cX5_chain 39 = .ok (.aload_n 0, 1) := by decide +kernel
theorem dX5_chain_40 : decode cX5_chain 40 = .ok (.getfield 10, 3) := by decide +kernel
theorem dX5_chain_43 : decode cX5_chain 43 = .ok (.getfield 27, 3) := by decide +kernel
theorem dX5_chain_46 : decode cX5_chain 46 = .ok (.if_icmp .ge 51, 3) := by decide +kernel
theorem dX5_chain_49 : decode cX5_chain 49 = .ok (.iload 4, 2) := by decide +kernel
theorem dX5_chain_51 : decode cX5_chain 51 = .ok (.ifCond .lt 46, 3) := by decide +kernel
theorem dX5_chain_54 : decode cX5_chain 54 = .ok (.iload 4, 2) := by decide +kernel
theorem dX5_chain_56 : decode cX5_chain 56 = .ok (.aload_n 0, 1) := by decide +kernel
theorem dX5_chain_57 : decode cX5_chain 57 = .ok (.getfield 10, 3) := by decide +kernel
theorem dX5_chain_60 : decode cX5_chain 60 = .ok (.getfield 27, 3) := by decide +kernel
theorem dX5_chain_63 : decode cX5_chain 63 = .ok (.if_icmp .ge 34, 3) := by decide +kernel
theorem dX5_chain_66 : decode cX5_chain 66 = .ok (.iload_n 3, 1) := by decide +kernel
theorem dX5_chain_67 : decode cX5_chain 67 = .ok (.bipush 10, 2) := by decide +kernel
theorem dX5_chain_69 : decode cX5_chain 69 = .ok (.imul, 1) := by decide +kernel
theorem dX5_chain_70 : decode cX5_chain 70 = .ok (.iload 4, 2) := by decide +kernel
theorem dX5_chain_72 : decode cX5_chain 72 = .ok (.iadd, 1) := by decide +kernel
theorem dX5_chain_73 : decode cX5_chain 73 = .ok (.istore_n 3, 1) := by decide +kernel
theorem dX5_chain_74 : decode cX5_chain 74 = .ok (.aload_n 0, 1) := by decide +kernel
theorem dX5_chain_75 : decode cX5_chain 75 = .ok (.getfield 10, 3) := by decide +kernel
theorem dX5_chain_78 : decode cX5_chain 78 = .ok (.getfield 38, 3) := by decide +kernel
theorem dX5_chain_81 : decode cX5_chain 81 = .ok (.iload 4, 2) := by decide +kernel
theorem dX5_chain_83 : decode cX5_chain 83 = .ok (.aaload, 1) := by decide +kernel
theorem dX5_chain_84 : decode cX5_chain 84 = .ok (.getfield 226, 3) := by decide +kernel
theorem dX5_chain_87 : decode cX5_chain 87 = .ok (.iload_n 2, 1) := by decide +kernel
theorem dX5_chain_88 : decode cX5_chain 88 = .ok (.iaload, 1) := by decide +kernel
theorem dX5_chain_89 : decode cX5_chain 89 = .ok (.istore 4, 2) := by decide +kernel
theorem dX5_chain_91 : decode cX5_chain 91 = .ok (.iinc 5 1, 3) := by decide +kernel
theorem dX5_chain_94 : decode cX5_chain 94 = .ok (.goto (-57), 3) := by decide +kernel
theorem dX5_chain_97 : decode cX5_chain 97 = .ok (.iload_n 3, 1) := by decide +kernel
theorem dX5_chain_98 : decode cX5_chain 98 = .ok (.ireturn, 1) := by decide +kernel
theorem dX5_mixHeard_0 : decode cX5_mixHeard 0 = .ok (.lload_n 1, 1) := by decide +kernel
theorem dX5_mixHeard_1 : decode cX5_mixHeard 1 = .ok (.lstore 4, 2) := by decide +kernel
theorem dX5_mixHeard_3 : decode cX5_mixHeard 3 = .ok (.iconst 0, 1) := by decide +kernel
theorem dX5_mixHeard_4 : decode cX5_mixHeard 4 = .ok (.istore 6, 2) := by decide +kernel
theorem dX5_mixHeard_6 : decode cX5_mixHeard 6 = .ok (.iload 6, 2) := by decide +kernel
theorem dX5_mixHeard_8 : decode cX5_mixHeard 8 = .ok (.aload_n 0, 1) := by decide +kernel
theorem dX5_mixHeard_9 : decode cX5_mixHeard 9 = .ok (.getfield 10, 3) := by decide +kernel
theorem dX5_mixHeard_12 : decode cX5_mixHeard 12 = .ok (.getfield 249, 3) := by decide +kernel
theorem dX5_mixHeard_15 : decode cX5_mixHeard 15 = .ok (.if_icmp .ge 54, 3) := by decide +kernel
theorem dX5_mixHeard_18 : decode cX5_mixHeard 18 = .ok (.iconst 0, 1) := by decide +kernel
theorem dX5_mixHeard_19 : decode cX5_mixHeard 19 = .ok (.istore 7, 2) := by decide +kernel
theorem dX5_mixHeard_21 : decode cX5_mixHeard 21 = .ok (.iload 7, 2) := by decide +kernel
theorem dX5_mixHeard_23 : decode cX5_mixHeard 23 = .ok (.iconst 4, 1) := by decide +kernel
theorem dX5_mixHeard_24 : decode cX5_mixHeard 24 = .ok (.if_icmp .gt 25, 3) := by decide +kernel
theorem dX5_mixHeard_27 : decode cX5_mixHeard 27 = .ok (.lload 4, 2) := by decide +kernel
theorem dX5_mixHeard_29 : decode cX5_mixHeard 29 = .ok (.aload_n 0, 1) := by decide +kernel
theorem dX5_mixHeard_30 : decode cX5_mixHeard 30 = .ok (.iload_n 3, 1) := by decide +kernel
theorem dX5_mixHeard_31 : decode cX5_mixHeard 31 = .ok (.iload 6, 2) := by decide +kernel
theorem dX5_mixHeard_33 : decode cX5_mixHeard 33 = .ok (.iload 7, 2) := by decide +kernel
theorem dX5_mixHeard_35 : decode cX5_mixHeard 35 = .ok (.invokevirtual 321, 3) := by decide +kernel
theorem dX5_mixHeard_38 : decode cX5_mixHeard 38 = .ok (.invokestatic 295, 3) := by decide +kernel
theorem dX5_mixHeard_41 : decode cX5_mixHeard 41 = .ok (.lstore 4, 2) := by decide +kernel
theorem dX5_mixHeard_43 : decode cX5_mixHeard 43 = .ok (.iinc 7 1, 3) := by decide +kernel
theorem dX5_mixHeard_46 : decode cX5_mixHeard 46 = .ok (.goto (-25), 3) := by decide +kernel
theorem dX5_mixHeard_49 : decode cX5_mixHeard 49 = .ok (.lload 4, 2) := by decide +kernel
theorem dX5_mixHeard_51 : decode cX5_mixHeard 51 = .ok (.aload_n 0, 1) := by decide +kernel
theorem dX5_mixHeard_52 : decode cX5_mixHeard 52 = .ok (.iload_n 3, 1) := by decide +kernel
theorem dX5_mixHeard_53 : decode cX5_mixHeard 53 = .ok (.iload 6, 2) := by decide +kernel
theorem dX5_mixHeard_55 : decode cX5_mixHeard 55 = .ok (.invokevirtual 324, 3) := by decide +kernel
theorem dX5_mixHeard_58 : decode cX5_mixHeard 58 = .ok (.invokestatic 295, 3) := by decide +kernel
theorem dX5_mixHeard_61 : decode cX5_mixHeard 61 = .ok (.lstore 4, 2) := by decide +kernel
theorem dX5_mixHeard_63 : decode cX5_mixHeard 63 = .ok (.iinc 6 1, 3) := by decide +kernel
theorem dX5_mixHeard_66 : decode cX5_mixHeard 66 = .ok (.goto (-60), 3) := by decide +kernel
theorem dX5_mixHeard_69 : decode cX5_mixHeard 69 = .ok (.lload 4, 2) := by decide +kernel
theorem dX5_mixHeard_71 : decode cX5_mixHeard 71 = .ok (.lreturn, 1) := by decide +kernel
/-! of whom a group heard; what is mixed of what was heard -/
def jChn (v : jN) (w : Nat) : Nat → Int32 → Int32 → Int32
  | 0, d, _ => d
  | n + 1, d, l => if l < 0 then d else if v 1 0 4 ≤ l then d else jChn v w n (d * 10 + l) (v 17 l.toNatClampNeg w)
def jChain (v : jN) (g w : Nat) : Int32 := if v 14 g w = 0 then 0 else jChn v w (jGc v) 1 (nI g)
theorem jin0' {x : Int32} {n : Nat} (h0 : ¬ x < 0) (h : x < nI n) (hn : n < 1000) : vp_in x n := by
  intro z
  rcases z with z | z
  · exact h0 z
  · have h1 : (nI n).toInt ≤ x.toInt := by
      rw [nI_toInt (by omega)]
      have h2 : 0 ≤ x.toInt := by
        have := Int32.not_lt.mp h0
        exact Int32.le_iff_toInt_le.mp this
      have h3 : (x.toNatClampNeg : Int) = x.toInt := by
        show ((x.toInt.toNat : Nat) : Int) = x.toInt
        omega
      omega
    have h2 := Int32.lt_iff_toInt_lt.mp h
    omega
def sp_X5_chain : vgC := fun av σ => match av with
  | [.inr (0, 0, 0), .inl (.int c), .inl (.int d)] => (vp_in c (jGc (jV σ 0)) ∧ vp_in d (jWc (jV σ 0)) ∧ jWf (jV σ 0), some (.inl (.int (jChain (jV σ 0) c.toNatClampNeg d.toNatClampNeg))), σ)
  | _ => (False, none, σ)
def k_X5_chain : List (Nat × vgF) := [(0, vi_aload 0 1), (1, vi_iload 1 2), (2, vi_callV ww_shp 0 sp_X5_checkGroup 1 5), (5, vi_aload 0 6), (6, vi_iload 2 7), (7, vi_callV ww_shp 0 sp_X5_checkWarning 1 10), (10, vi_aload 0 11), (11, vi_get ww_shp 0 0 14), (14, vi_get ww_shp 1 7 17), (17, vi_iload 1 18), (18, vi_aald ww_shp 2 19), (19, vi_get ww_shp 5 8 22), (22, vi_iload 2 23), (23, vi_ald ww_shp 0 24), (24, vi_if (fun x => x = 0) 27 29), (27, vi_icst (0) 28), (28, vi_ret), (29, vi_icst (1) 30), (30, vi_istore 3 31), (31, vi_iload 1 32), (32, vi_istore 4 34), (34, vi_icst (0) 35), (35, vi_istore 5 37), (37, vi_iload 5 39), (39, vi_aload 0 40), (40, vi_get ww_shp 0 0 43), (43, vi_get ww_shp 1 4 46), (46, vi_cmp (fun x y => y ≤ x) 97 49), (49, vi_iload 4 51), (51, vi_if (fun x => x < 0) 97 54), (54, vi_iload 4 56), (56, vi_aload 0 57), (57, vi_get ww_shp 0 0 60), (60, vi_get ww_shp 1 4 63), (63, vi_cmp (fun x y => y ≤ x) 97 66), (66, vi_iload 3 67), (67, vi_icst (10) 69), (69, vi_bin (fun x y => x * y) 70), (70, vi_iload 4 72), (72, vi_bin (fun x y => x + y) 73), (73, vi_istore 3 74), (74, vi_aload 0 75), (75, vi_get ww_shp 0 0 78), (78, vi_get ww_shp 1 7 81), (81, vi_iload 4 83), (83, vi_aald ww_shp 2 84), (84, vi_get ww_shp 5 11 87), (87, vi_iload 2 88), (88, vi_ald ww_shp 0 89), (89, vi_istore 4 91), (91, vi_iinc 5 (1) 94), (94, vi_goto 37), (97, vi_iload 3 98), (98, vi_ret)]
set_option maxRecDepth 20000 in
theorem s_X5_chain : ∀ q ∈ k_X5_chain, vg_Snd ww_tb ww_nw ww_shp ww_nm ww_cl ww_tyl cX5_chain 6 RX5 (some .int) 1 q.1 q.2 := by
  refine vg_cons (vs_aload_n dX5_chain_0 rfl rfl) ?_
  refine vg_cons (vs_iload_n dX5_chain_1 rfl rfl) ?_
  refine vg_cons (vs_callV (T := TX5) c_X5_checkGroup dX5_chain_2 rfl ww_good q_257 q_51 q_258 q_259 q_260 (by decide +kernel) (by decide) rfl) ?_
  refine vg_cons (vs_aload_n dX5_chain_5 rfl rfl) ?_
  refine vg_cons (vs_iload_n dX5_chain_6 rfl rfl) ?_
  refine vg_cons (vs_callV (T := TX5) c_X5_checkWarning dX5_chain_7 rfl ww_good q_243 q_51 q_244 q_245 q_246 (by decide +kernel) (by decide) rfl) ?_
  refine vg_cons (vs_aload_n dX5_chain_10 rfl rfl) ?_
  refine vg_cons (vs_getfield (T := TX5) dX5_chain_11 rfl (by decide) ww_inX5 q_197 rfl) ?_
  refine vg_cons (vs_getfield (T := TX1) dX5_chain_14 rfl (by decide) ww_inX1 q_261 rfl) ?_
  refine vg_cons (vs_iload_n dX5_chain_17 rfl rfl) ?_
  refine vg_cons (vs_aaload dX5_chain_18 rfl rfl) ?_
  refine vg_cons (vs_getfield (T := TX0) dX5_chain_19 rfl (by decide) ww_inX0 q_274 rfl) ?_
  refine vg_cons (vs_iload_n dX5_chain_22 rfl rfl) ?_
  refine vg_cons (vs_iaload dX5_chain_23 rfl rfl) ?_
  refine vg_cons (vs_if_ne dX5_chain_24 (by decide) rfl) ?_
  refine vg_cons (vs_iconst dX5_chain_27 rfl rfl) ?_
  refine vg_cons (vs_ireturn dX5_chain_28 rfl) ?_
  refine vg_cons (vs_iconst dX5_chain_29 rfl rfl) ?_
  refine vg_cons (vs_istore_n dX5_chain_30 rfl (by decide) rfl) ?_
  refine vg_cons (vs_iload_n dX5_chain_31 rfl rfl) ?_
  refine vg_cons (vs_istore dX5_chain_32 (by decide) rfl) ?_
  refine vg_cons (vs_iconst dX5_chain_34 rfl rfl) ?_
  refine vg_cons (vs_istore dX5_chain_35 (by decide) rfl) ?_
  refine vg_cons (vs_iload dX5_chain_37 rfl) ?_
  refine vg_cons (vs_aload_n dX5_chain_39 rfl rfl) ?_
  refine vg_cons (vs_getfield (T := TX5) dX5_chain_40 rfl (by decide) ww_inX5 q_197 rfl) ?_
  refine vg_cons (vs_getfield (T := TX1) dX5_chain_43 rfl (by decide) ww_inX1 q_198 rfl) ?_
  refine vg_cons (vs_cmp_ge dX5_chain_46 (by decide) rfl) ?_
  refine vg_cons (vs_iload dX5_chain_49 rfl) ?_
  refine vg_cons (vs_if_lt dX5_chain_51 (by decide) rfl) ?_
  refine vg_cons (vs_iload dX5_chain_54 rfl) ?_
  refine vg_cons (vs_aload_n dX5_chain_56 rfl rfl) ?_
  refine vg_cons (vs_getfield (T := TX5) dX5_chain_57 rfl (by decide) ww_inX5 q_197 rfl) ?_
  refine vg_cons (vs_getfield (T := TX1) dX5_chain_60 rfl (by decide) ww_inX1 q_198 rfl) ?_
  refine vg_cons (vs_cmp_ge dX5_chain_63 (by decide) rfl) ?_
  refine vg_cons (vs_iload_n dX5_chain_66 rfl rfl) ?_
  refine vg_cons (vs_bipush dX5_chain_67 (by decide) rfl) ?_
  refine vg_cons (vs_imul dX5_chain_69 rfl) ?_
  refine vg_cons (vs_iload dX5_chain_70 rfl) ?_
  refine vg_cons (vs_iadd dX5_chain_72 rfl) ?_
  refine vg_cons (vs_istore_n dX5_chain_73 rfl (by decide) rfl) ?_
  refine vg_cons (vs_aload_n dX5_chain_74 rfl rfl) ?_
  refine vg_cons (vs_getfield (T := TX5) dX5_chain_75 rfl (by decide) ww_inX5 q_197 rfl) ?_
  refine vg_cons (vs_getfield (T := TX1) dX5_chain_78 rfl (by decide) ww_inX1 q_261 rfl) ?_
  refine vg_cons (vs_iload dX5_chain_81 rfl) ?_
  refine vg_cons (vs_aaload dX5_chain_83 rfl rfl) ?_
  refine vg_cons (vs_getfield (T := TX0) dX5_chain_84 rfl (by decide) ww_inX0 q_273 rfl) ?_
  refine vg_cons (vs_iload_n dX5_chain_87 rfl rfl) ?_
  refine vg_cons (vs_iaload dX5_chain_88 rfl rfl) ?_
  refine vg_cons (vs_istore dX5_chain_89 (by decide) rfl) ?_
  refine vg_cons (vs_iinc dX5_chain_91 rfl rfl) ?_
  refine vg_cons (vs_goto dX5_chain_94 (by decide)) ?_
  refine vg_cons (vs_iload_n dX5_chain_97 rfl rfl) ?_
  refine vg_cons (vs_ireturn dX5_chain_98 rfl) ?_
  exact fun _ h => absurd h List.not_mem_nil
theorem m_X5_chain : vg_Code k_X5_chain := fun q h => (s_X5_chain q h).1

theorem w_X5_chain : vg_Wd sp_X5_chain 6 := by
  intro av σ h
  unfold sp_X5_chain at h
  split at h
  · exact Nat.le_of_ble_eq_true rfl
  · exact h.elim
theorem g_X5_chain : vg_G k_X5_chain sp_X5_chain := by
  intro av σ h
  unfold sp_X5_chain at h ⊢
  split at h
  next c d =>
    obtain ⟨hc, hd, hw⟩ := h
    have h8 := hw.1.2
    have h12 := hw.2.2.1.2
    have hc8 : vp_in c 8 := jwide hc h8 (by decide)
    have hd12 : vp_in d 12 := jwide hd h12 (by decide)
    have ec : c = nI c.toNatClampNeg := by
      obtain ⟨j, hj, e⟩ := vp_in_of hc8 (by decide)
      rw [e, jcl rfl (by omega)]
    refine vg_run (cuts := [(37, [0, 1, 2, 3, 4, 5])]) m_X5_chain 40 ?_
    refine And.intro ⟨hw, hc⟩ (And.intro ⟨hw, hd⟩ (And.intro hc8 (And.intro hd12 (And.intro (fun hz => ?_) (fun hz => ?_)))))
    · refine And.intro ?_ rfl
      show some (Sum.inl (Value.int 0)) = some (Sum.inl (Value.int (jChain (jV σ 0) c.toNatClampNeg d.toNatClampNeg)))
      rw [show jChain (jV σ 0) c.toNatClampNeg d.toNatClampNeg = 0 from if_pos hz]
    · have eR : jChain (jV σ 0) c.toNatClampNeg d.toNatClampNeg = jChn (jV σ 0) d.toNatClampNeg (jGc (jV σ 0)) 1 (nI c.toNatClampNeg) := if_neg hz
      rw [eR, ← ec]
      refine vg_loop (fun i lv σ' => ∃ x r q, σ' = σ ∧ x = nI i ∧ jChn (jV σ 0) d.toNatClampNeg (jGc (jV σ 0)) 1 c = jChn (jV σ 0) d.toNatClampNeg (jGc (jV σ 0) - i) r q ∧ lv = [(0, .inr (0, 0, 0)), (1, .inl (.int c)), (2, .inl (.int d)), (3, .inl (.int r)), (4, .inl (.int q)), (5, .inl (.int x))]) (jGc (jV σ 0)) ?_ ?_ 0 _ _ (Nat.zero_le _) ⟨0, 1, c, rfl, rfl, rfl, rfl⟩
      · rintro i lv σ' hi ⟨x, r, q, rfl, hx, he, rfl⟩ ih
        have cond : ¬ σ' (1, 0, 0) 4 ≤ x := fun z => absurd ((jle (hw.1.1) hx (by omega) (by omega)).mp z) (by omega)
        have eL : jGc (jV σ' 0) - i = (jGc (jV σ' 0) - (i + 1)) + 1 := by omega
        rw [eL] at he
        have done : ∀ z : Int32, jChn (jV σ' 0) d.toNatClampNeg (jGc (jV σ' 0)) 1 c = z → (some (Sum.inl (Value.int z)) : Option vgV) = some (Sum.inl (Value.int (jChn (jV σ' 0) d.toNatClampNeg (jGc (jV σ' 0)) 1 c))) := fun z e => by rw [e]
        refine vg_run (cuts := [(37, [0, 1, 2, 3, 4, 5])]) m_X5_chain 60 ?_
        refine And.intro (fun z => absurd z cond) (fun _ => And.intro (fun hq => ?_) (fun hq => And.intro (fun hq2 => ?_) (fun hq2 => ?_)))
        · exact And.intro (done r (he.trans (if_pos hq))) rfl
        · exact And.intro (done r (he.trans ((if_neg hq).trans (if_pos hq2)))) rfl
        · have hq8 : vp_in q 8 := jwide (jin0' hq (by rw [← hw.1.1]; exact Int32.not_le.mp hq2) (by omega)) h8 (by decide)
          refine And.intro hq8 (And.intro hd12 ?_)
          exact ih _ _ ⟨x + 1, r * 10 + q, _, rfl, jinc hx, he.trans ((if_neg hq).trans (if_neg hq2)), rfl⟩
      · rintro lv σ' ⟨x, r, q, rfl, hx, he, rfl⟩
        have cond : σ' (1, 0, 0) 4 ≤ x := (jle (hw.1.1) hx (by omega) (by omega)).mpr (Nat.le_refl _)
        rw [Nat.sub_self] at he
        refine vg_run (cuts := [(37, [0, 1, 2, 3, 4, 5])]) m_X5_chain 60 ?_
        refine And.intro (fun _ => ?_) (fun z => absurd cond z)
        refine And.intro ?_ rfl
        show some (Sum.inl (Value.int r)) = some (Sum.inl (Value.int (jChn (jV σ' 0) d.toNatClampNeg (jGc (jV σ' 0)) 1 c)))
        rw [he]
        rfl
  next => exact h.elim
theorem c_X5_chain : vg_MetF ww_tb ww_nw ww_shp ww_nm ww_cl ww_tyl yX5_chain cX5_chain 6 (some .int) 1 sp_X5_chain := vg_met ww_closed (by decide +kernel) rfl s_X5_chain w_X5_chain g_X5_chain
def jMx (s : Int64) (x : Int32) : Int64 := s * 31 + x.toInt64
/-- one after the other from 0 on -/
def jMxN (f : Nat → Int32) : Nat → Int64 → Int64
  | 0, s => s
  | n + 1, s => jMx (jMxN f n s) (f n)
def jMx5 (v : jN) (g w : Nat) (s : Int64) : Int64 := jMx (jMxN (fun x => jHeard v g w (nI x)) 5 s) (jChain v g w)
def jMxH (v : jN) (g : Nat) : Nat → Int64 → Int64
  | 0, s => s
  | n + 1, s => jMx5 v g n (jMxH v g n s)
def sp_X5_mixHeard : vgC := fun av σ => match av with
  | [.inr (0, 0, 0), .inl (.long s), .inl (.int c)] => (vp_in c (jGc (jV σ 0)) ∧ jWf (jV σ 0), some (.inl (.long (jMxH (jV σ 0) c.toNatClampNeg (jWc (jV σ 0)) s))), σ)
  | _ => (False, none, σ)
def k_X5_mixHeard : List (Nat × vgF) := [(0, vi_lload 1 1), (1, vi_lstore 4 3), (3, vi_icst (0) 4), (4, vi_istore 6 6), (6, vi_iload 6 8), (8, vi_aload 0 9), (9, vi_get ww_shp 0 0 12), (12, vi_get ww_shp 1 6 15), (15, vi_cmp (fun x y => y ≤ x) 69 18), (18, vi_icst (0) 19), (19, vi_istore 7 21), (21, vi_iload 7 23), (23, vi_icst (4) 24), (24, vi_cmp (fun x y => y < x) 49 27), (27, vi_lload 4 29), (29, vi_aload 0 30), (30, vi_iload 3 31), (31, vi_iload 6 33), (33, vi_iload 7 35), (35, vi_callV ww_shp 0 sp_X5_heard 3 38), (38, vi_callS sp_X5_mix 2 41), (41, vi_lstore 4 43), (43, vi_iinc 7 (1) 46), (46, vi_goto 21), (49, vi_lload 4 51), (51, vi_aload 0 52), (52, vi_iload 3 53), (53, vi_iload 6 55), (55, vi_callV ww_shp 0 sp_X5_chain 2 58), (58, vi_callS sp_X5_mix 2 61), (61, vi_lstore 4 63), (63, vi_iinc 6 (1) 66), (66, vi_goto 6), (69, vi_lload 4 71), (71, vi_retL)]
set_option maxRecDepth 20000 in
theorem s_X5_mixHeard : ∀ q ∈ k_X5_mixHeard, vg_Snd ww_tb ww_nw ww_shp ww_nm ww_cl ww_tyl cX5_mixHeard 8 RX5 (some .long) 2 q.1 q.2 := by
  refine vg_cons (vs_lload_n dX5_mixHeard_0 rfl rfl) ?_
  refine vg_cons (vs_lstore dX5_mixHeard_1 (by decide) rfl) ?_
  refine vg_cons (vs_iconst dX5_mixHeard_3 rfl rfl) ?_
  refine vg_cons (vs_istore dX5_mixHeard_4 (by decide) rfl) ?_
  refine vg_cons (vs_iload dX5_mixHeard_6 rfl) ?_
  refine vg_cons (vs_aload_n dX5_mixHeard_8 rfl rfl) ?_
  refine vg_cons (vs_getfield (T := TX5) dX5_mixHeard_9 rfl (by decide) ww_inX5 q_197 rfl) ?_
  refine vg_cons (vs_getfield (T := TX1) dX5_mixHeard_12 rfl (by decide) ww_inX1 q_199 rfl) ?_
  refine vg_cons (vs_cmp_ge dX5_mixHeard_15 (by decide) rfl) ?_
  refine vg_cons (vs_iconst dX5_mixHeard_18 rfl rfl) ?_
  refine vg_cons (vs_istore dX5_mixHeard_19 (by decide) rfl) ?_
  refine vg_cons (vs_iload dX5_mixHeard_21 rfl) ?_
  refine vg_cons (vs_iconst dX5_mixHeard_23 rfl rfl) ?_
  refine vg_cons (vs_cmp_gt dX5_mixHeard_24 (by decide) rfl) ?_
  refine vg_cons (vs_lload dX5_mixHeard_27 rfl) ?_
  refine vg_cons (vs_aload_n dX5_mixHeard_29 rfl rfl) ?_
  refine vg_cons (vs_iload_n dX5_mixHeard_30 rfl rfl) ?_
  refine vg_cons (vs_iload dX5_mixHeard_31 rfl) ?_
  refine vg_cons (vs_iload dX5_mixHeard_33 rfl) ?_
  refine vg_cons (vs_callV (T := TX5) c_X5_heard dX5_mixHeard_35 rfl ww_good q_328 q_51 q_329 q_330 q_331 (by decide +kernel) (by decide) rfl) ?_
  refine vg_cons (vs_callS c_X5_mix dX5_mixHeard_38 ww_good q_332 q_51 q_334 q_333 (by decide +kernel) (by decide) rfl) ?_
  refine vg_cons (vs_lstore dX5_mixHeard_41 (by decide) rfl) ?_
  refine vg_cons (vs_iinc dX5_mixHeard_43 rfl rfl) ?_
  refine vg_cons (vs_goto dX5_mixHeard_46 (by decide)) ?_
  refine vg_cons (vs_lload dX5_mixHeard_49 rfl) ?_
  refine vg_cons (vs_aload_n dX5_mixHeard_51 rfl rfl) ?_
  refine vg_cons (vs_iload_n dX5_mixHeard_52 rfl rfl) ?_
  refine vg_cons (vs_iload dX5_mixHeard_53 rfl) ?_
  refine vg_cons (vs_callV (T := TX5) c_X5_chain dX5_mixHeard_55 rfl ww_good q_335 q_51 q_336 q_337 q_338 (by decide +kernel) (by decide) rfl) ?_
  refine vg_cons (vs_callS c_X5_mix dX5_mixHeard_58 ww_good q_332 q_51 q_334 q_333 (by decide +kernel) (by decide) rfl) ?_
  refine vg_cons (vs_lstore dX5_mixHeard_61 (by decide) rfl) ?_
  refine vg_cons (vs_iinc dX5_mixHeard_63 rfl rfl) ?_
  refine vg_cons (vs_goto dX5_mixHeard_66 (by decide)) ?_
  refine vg_cons (vs_lload dX5_mixHeard_69 rfl) ?_
  refine vg_cons (vs_lreturn dX5_mixHeard_71 rfl) ?_
  exact fun _ h => absurd h List.not_mem_nil
theorem m_X5_mixHeard : vg_Code k_X5_mixHeard := fun q h => (s_X5_mixHeard q h).1

theorem w_X5_mixHeard : vg_Wd sp_X5_mixHeard 8 := by
  intro av σ h
  unfold sp_X5_mixHeard at h
  split at h
  · exact Nat.le_of_ble_eq_true rfl
  · exact h.elim
theorem g_X5_mixHeard : vg_G k_X5_mixHeard sp_X5_mixHeard := by
  intro av σ h
  unfold sp_X5_mixHeard at h ⊢
  split at h
  next s c =>
    obtain ⟨hc, hw⟩ := h
    have h12 := hw.2.2.1.2
    refine vg_run (cuts := [(6, [0, 1, 3, 4, 6]), (21, [0, 1, 3, 4, 6, 7])]) m_X5_mixHeard 40 ?_
    refine vg_loop (fun i lv σ' => ∃ x, σ' = σ ∧ x = nI i ∧ lv = [(0, .inr (0, 0, 0)), (1, .inl (.long s)), (3, .inl (.int c)), (4, .inl (.long (jMxH (jV σ 0) c.toNatClampNeg i s))), (6, .inl (.int x))]) (jWc (jV σ 0)) ?_ ?_ 0 _ _ (Nat.zero_le _) ⟨0, rfl, rfl, rfl⟩
    · rintro i lv σ' hi ⟨x, rfl, hx, rfl⟩ ih
      have cond : ¬ σ' (1, 0, 0) 6 ≤ x := fun z => absurd ((jle (hw.2.2.1.1) hx (by omega) (by omega)).mp z) (by omega)
      have hv : vp_in x (jWc (jV σ' 0)) := jin hx hi (by omega)
      have ei : x.toNatClampNeg = i := jcl hx (by omega)
      refine vg_run (cuts := [(6, [0, 1, 3, 4, 6]), (21, [0, 1, 3, 4, 6, 7])]) m_X5_mixHeard 60 ?_
      refine And.intro (fun z => absurd z cond) (fun _ => ?_)
      refine vg_loop (fun j lv σ'' => ∃ y, σ'' = σ' ∧ y = nI j ∧ lv = [(0, .inr (0, 0, 0)), (1, .inl (.long s)), (3, .inl (.int c)), (4, .inl (.long (jMxN (fun z => jHeard (jV σ' 0) c.toNatClampNeg i (nI z)) j (jMxH (jV σ' 0) c.toNatClampNeg i s)))), (6, .inl (.int x)), (7, .inl (.int y))]) 5 ?_ ?_ 0 _ _ (Nat.zero_le _) ⟨0, rfl, rfl, rfl⟩
      · rintro j lv σ'' hj ⟨y, rfl, hy, rfl⟩ ih2
        have cond2 : ¬ (4 : Int32) < y := fun z => absurd ((jle (c := y) (x := 4) (i := 4) hy rfl (by omega) (by omega)).mpr (by omega)) (Int32.not_le.mpr z)
        have hv2 : vp_in y 5 := jin hy hj (by decide)
        refine vg_run (cuts := [(6, [0, 1, 3, 4, 6]), (21, [0, 1, 3, 4, 6, 7])]) m_X5_mixHeard 60 ?_
        refine And.intro (fun z => absurd z cond2) (fun _ => ?_)
        refine And.intro ⟨hw, hc, hv, hv2⟩ (And.intro trivial ?_)
        refine ih2 _ _ ⟨y + 1, rfl, jinc hy, ?_⟩
        rw [ei, hy]
        rfl
      · rintro lv σ'' ⟨y, rfl, hy, rfl⟩
        have cond2 : (4 : Int32) < y := by rw [hy]; decide
        refine vg_run (cuts := [(6, [0, 1, 3, 4, 6]), (21, [0, 1, 3, 4, 6, 7])]) m_X5_mixHeard 60 ?_
        refine And.intro (fun _ => ?_) (fun z => absurd cond2 z)
        refine And.intro ⟨hc, hv, hw⟩ (And.intro trivial ?_)
        refine ih _ _ ⟨x + 1, rfl, jinc hx, ?_⟩
        rw [ei]
        rfl
    · rintro lv σ' ⟨x, rfl, hx, rfl⟩
      have cond : σ' (1, 0, 0) 6 ≤ x := (jle (hw.2.2.1.1) hx (by omega) (by omega)).mpr (Nat.le_refl _)
      refine vg_run (cuts := [(6, [0, 1, 3, 4, 6]), (21, [0, 1, 3, 4, 6, 7])]) m_X5_mixHeard 60 ?_
      exact And.intro (fun _ => ⟨rfl, rfl⟩) (fun z => absurd cond z)
  next => exact h.elim
theorem c_X5_mixHeard : vg_MetF ww_tb ww_nw ww_shp ww_nm ww_cl ww_tyl yX5_mixHeard cX5_mixHeard 8 (some .long) 2 sp_X5_mixHeard := vg_met ww_closed (by decide +kernel) rfl s_X5_mixHeard w_X5_mixHeard g_X5_mixHeard
