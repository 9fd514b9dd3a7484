-- words of the tables, and what stands at each place of the methods' code (laid by program)
theorem u_60 : Cond.fieldLink RX5 27 (TX1 4).1 (TX1 4).2.1 (TX1 4).2.2.1 ∈ ww_tb := by decide +kernel
theorem u_61 : Cond.fieldLink RX5 249 (TX1 6).1 (TX1 6).2.1 (TX1 6).2.2.1 ∈ ww_tb := by decide +kernel
theorem u_62 : Cond.constant RX5 341 (65535) ∈ ww_tb := by decide +kernel
theorem u_63 : Cond.code yX5_checkRange cX5_checkRange 3 none ∈ ww_tb := by decide +kernel
theorem u_64 : Cond.initialized RX5 ∈ ww_tb := by decide +kernel
theorem u_65 : Cond.static yX5_checkRange ∈ ww_tb := by decide +kernel
theorem u_66 : Cond.methodLink RX5 23 yX5_checkRange ∈ ww_tb := by decide +kernel
/-! throws of the class's checks -/
def ww_tbx : List Cond := ["java/lang/IndexOutOfBoundsException", "java/lang/IllegalArgumentException", "java/lang/IllegalStateException"].flatMap (fun X => (vx_atS RX5 0 X ["java/lang/RuntimeException", "java/lang/Exception"]).filter (fun w => !goodWord w))
theorem ww_mv : ww_tbx.all vm_mvB = true := by decide +kernel
def ww_strs : List (String × Nat × String) := [(RX5, 331, "a cell is 0 to 15"), (RX5, 333, "an officer is 0 to 3"), (RX5, 342, "out of range"), (RX5, 335, "no such group"), (RX5, 337, "no such warning"), (RX5, 254, "no such shelter"), (RX5, 278, "what is 0 to 11")]
def vm_nkB (x : Nat) (text : String) (ik is ic : Nat) : Bool := decide ((RX5, is, text) ∈ ww_strs) && (decide (Cond.classLink RX5 ik (vm_xn x) ∈ ww_tb) && (decide (Cond.initialized (vm_xn x) ∈ ww_tb) && (((vx_atS RX5 ic (vm_xn x) ["java/lang/RuntimeException", "java/lang/Exception"]).filter goodWord).all (fun w => decide (w ∈ ww_tb)) && (((vx_atS RX5 ic (vm_xn x) ["java/lang/RuntimeException", "java/lang/Exception"]).filter (fun w => !goodWord w)).all (fun w => decide (w ∈ ww_tbx)) && (Bundle.fit (vm_xn x) && (Cond.classLink RX5 ik (vm_xn x) :: Cond.initialized (vm_xn x) :: vx_atS RX5 ic (vm_xn x) ["java/lang/RuntimeException", "java/lang/Exception"]).all vx_ot)))))
theorem vm_nk_of {cc : ByteArray} {pc x : Nat} (text : String) (ik is ic : Nat) (d0 : decode cc pc = .ok (.new ik, 3)) (d3 : decode cc (pc + 3) = .ok (.dup, 1))
    (dd : (decode cc (pc + 4) = .ok (.ldc is, 2) ∧ decode cc (pc + 6) = .ok (.invokespecial ic, 3) ∧ decode cc (pc + 9) = .ok (.athrow, 1)) ∨ (decode cc (pc + 4) = .ok (.ldc_w is, 3) ∧ decode cc (pc + 7) = .ok (.invokespecial ic, 3) ∧ decode cc (pc + 10) = .ok (.athrow, 1)))
    (h : vm_nkB x text ik is ic = true) : vm_nk ww_tb ww_tbx ww_strs RX5 cc pc x := by
  unfold vm_nkB at h
  simp only [Bool.and_eq_true, decide_eq_true_eq] at h
  obtain ⟨h1, h2, h3, h4, h5, h6, h7⟩ := h
  exact ⟨text, ik, is, ic, d0, d3, dd, h1, h2, h3, fun w hw => of_decide_eq_true (List.all_eq_true.mp h4 w hw), fun w hw => of_decide_eq_true (List.all_eq_true.mp h5 w hw), h6, fun w hw => List.all_eq_true.mp h7 w hw⟩
/-- a number that isn't negative and below N stands in a row of N -/
theorem jin0 {x : Int32} {N : Nat} (hN : N < 2147483648) (h0 : ¬ x < 0) (h1 : x < nI N) : vp_in x N := by
  rintro (h | h)
  · exact h0 h
  · have a : x.toInt < (nI N).toInt := Int32.lt_iff_toInt_lt.mp h1
    have b : (nI N).toInt = (N : Int) := by
      unfold nI
      exact Int32.toInt_ofNat_of_lt (by omega)
    have c : (0 : Int) ≤ x.toInt := by
      have := Int32.not_lt.mp h0
      simpa using Int32.le_iff_toInt_le.mp this
    have d : (x.toNatClampNeg : Int) = x.toInt := by
      show ((x.toInt.toNat : Nat) : Int) = x.toInt
      omega
    omega
def tx_X5_checkCell : vgT → vgS → Prop := fun av _ => match av with
  | [.inl (.int c)] => ¬ vp_in c 16
  | _ => False
def tx_X5_checkOfficer : vgT → vgS → Prop := fun av _ => match av with
  | [.inl (.int c)] => ¬ vp_in c 4
  | _ => False
def tx_X5_checkRange : vgT → vgS → Prop := fun av _ => match av with
  | [.inl (.int c), .inl (.int x), .inl (.int y)] => ¬ (¬ c < x ∧ c ≤ y)
  | _ => False
def tx_X5_checkGroup : vgT → vgS → Prop := fun av σ => match av with
  | [.inr (0, 0, 0), .inl (.int c)] => jWf (jV σ 0) ∧ ¬ vp_in c (jGc (jV σ 0))
  | _ => False
def tx_X5_checkWarning : vgT → vgS → Prop := fun av σ => match av with
  | [.inr (0, 0, 0), .inl (.int c)] => jWf (jV σ 0) ∧ ¬ vp_in c (jWc (jV σ 0))
  | _ => False
def tx_X5_checkWords : vgT → vgS → Prop := fun av _ => match av with
  | [.inl (.int a), .inl (.int d), .inl (.int t)] => ¬ ((¬ a < 1 ∧ a ≤ 65535) ∧ (¬ d < 0 ∧ d ≤ 1) ∧ ¬ t < 1 ∧ t ≤ 7)
  | _ => False
def ke_X5_checkCell : List (Nat × vgF) := [(0, vi_iload 0 1), (1, vi_if (fun x => x < 0) 10 4), (4, vi_iload 0 5), (5, vi_icst (16) 7), (7, vi_cmp (fun x y => x < y) 21 10), (10, vi_throw 1), (21, vi_retV)]
set_option maxRecDepth 20000 in
theorem se_X5_checkCell : ∀ q ∈ ke_X5_checkCell, vm_Snd true ww_tb ww_tbx ww_strs ww_nw ww_shp ww_nm ww_cl ww_tyl cX5_checkCell 1 RX5 none 6 q.1 q.2 := by
  refine vg_cons (vt_iload_n dX5_checkCell_0 rfl rfl) ?_
  refine vg_cons (vt_if_lt dX5_checkCell_1 (by decide) rfl) ?_
  refine vg_cons (vt_iload_n dX5_checkCell_4 rfl rfl) ?_
  refine vg_cons (vt_bipush dX5_checkCell_5 (by decide) rfl) ?_
  refine vg_cons (vt_cmp_lt dX5_checkCell_7 (by decide) rfl) ?_
  refine vg_cons (vt_throw (vm_nk_of "a cell is 0 to 15" 252 331 256 dX5_checkCell_10 dX5_checkCell_13 (Or.inr ⟨dX5_checkCell_14, dX5_checkCell_17, dX5_checkCell_20⟩) (by decide +kernel)) (by decide)) ?_
  refine vg_cons (vt_return dX5_checkCell_21 rfl) ?_
  exact fun _ h => absurd h List.not_mem_nil
theorem me_X5_checkCell : vg_Code ke_X5_checkCell := fun q h => (se_X5_checkCell q h).1

theorem wt_X5_checkCell : ∀ av σ, tx_X5_checkCell av σ → vg_wd av ≤ 1 := by
  intro av σ h
  unfold tx_X5_checkCell at h
  split at h
  · exact Nat.le_of_ble_eq_true rfl
  · exact h.elim
theorem gt_X5_checkCell : ∀ av σ, tx_X5_checkCell av σ → vg_Go ke_X5_checkCell (fun r _ => r = vm_th 1) 0 (vg_args 0 av) [] σ := by
  intro av σ h
  unfold tx_X5_checkCell at h
  split at h
  next c =>
    refine vg_run (cuts := []) me_X5_checkCell 20 ?_
    exact And.intro (fun _ => rfl) (fun z => And.intro (fun z2 => absurd (jin0 (N := 16) (by decide) z z2) h) (fun _ => rfl))
  next => exact h.elim
theorem t_X5_checkCell : vm_MetT ww_tb ww_tbx ww_strs ww_nw ww_shp ww_nm ww_cl ww_tyl yX5_checkCell cX5_checkCell 1 none 6 tx_X5_checkCell 1 := vm_metX ww_closed (by decide +kernel) rfl ww_mv se_X5_checkCell wt_X5_checkCell gt_X5_checkCell
def ke_X5_checkOfficer : List (Nat × vgF) := [(0, vi_iload 0 1), (1, vi_if (fun x => x < 0) 9 4), (4, vi_iload 0 5), (5, vi_icst (4) 6), (6, vi_cmp (fun x y => x < y) 20 9), (9, vi_throw 1), (20, vi_retV)]
set_option maxRecDepth 20000 in
theorem se_X5_checkOfficer : ∀ q ∈ ke_X5_checkOfficer, vm_Snd true ww_tb ww_tbx ww_strs ww_nw ww_shp ww_nm ww_cl ww_tyl cX5_checkOfficer 1 RX5 none 6 q.1 q.2 := by
  refine vg_cons (vt_iload_n dX5_checkOfficer_0 rfl rfl) ?_
  refine vg_cons (vt_if_lt dX5_checkOfficer_1 (by decide) rfl) ?_
  refine vg_cons (vt_iload_n dX5_checkOfficer_4 rfl rfl) ?_
  refine vg_cons (vt_iconst dX5_checkOfficer_5 rfl rfl) ?_
  refine vg_cons (vt_cmp_lt dX5_checkOfficer_6 (by decide) rfl) ?_
  refine vg_cons (vt_throw (vm_nk_of "an officer is 0 to 3" 252 333 256 dX5_checkOfficer_9 dX5_checkOfficer_12 (Or.inr ⟨dX5_checkOfficer_13, dX5_checkOfficer_16, dX5_checkOfficer_19⟩) (by decide +kernel)) (by decide)) ?_
  refine vg_cons (vt_return dX5_checkOfficer_20 rfl) ?_
  exact fun _ h => absurd h List.not_mem_nil
theorem me_X5_checkOfficer : vg_Code ke_X5_checkOfficer := fun q h => (se_X5_checkOfficer q h).1

theorem wt_X5_checkOfficer : ∀ av σ, tx_X5_checkOfficer av σ → vg_wd av ≤ 1 := by
  intro av σ h
  unfold tx_X5_checkOfficer at h
  split at h
  · exact Nat.le_of_ble_eq_true rfl
  · exact h.elim
theorem gt_X5_checkOfficer : ∀ av σ, tx_X5_checkOfficer av σ → vg_Go ke_X5_checkOfficer (fun r _ => r = vm_th 1) 0 (vg_args 0 av) [] σ := by
  intro av σ h
  unfold tx_X5_checkOfficer at h
  split at h
  next c =>
    refine vg_run (cuts := []) me_X5_checkOfficer 20 ?_
    exact And.intro (fun _ => rfl) (fun z => And.intro (fun z2 => absurd (jin0 (N := 4) (by decide) z z2) h) (fun _ => rfl))
  next => exact h.elim
theorem t_X5_checkOfficer : vm_MetT ww_tb ww_tbx ww_strs ww_nw ww_shp ww_nm ww_cl ww_tyl yX5_checkOfficer cX5_checkOfficer 1 none 6 tx_X5_checkOfficer 1 := vm_metX ww_closed (by decide +kernel) rfl ww_mv se_X5_checkOfficer wt_X5_checkOfficer gt_X5_checkOfficer
def ke_X5_checkRange : List (Nat × vgF) := [(0, vi_iload 0 1), (1, vi_iload 1 2), (2, vi_cmp (fun x y => x < y) 10 5), (5, vi_iload 0 6), (6, vi_iload 2 7), (7, vi_cmp (fun x y => x ≤ y) 21 10), (10, vi_throw 2), (21, vi_retV)]
set_option maxRecDepth 20000 in
theorem se_X5_checkRange : ∀ q ∈ ke_X5_checkRange, vm_Snd true ww_tb ww_tbx ww_strs ww_nw ww_shp ww_nm ww_cl ww_tyl cX5_checkRange 3 RX5 none 6 q.1 q.2 := by
  refine vg_cons (vt_iload_n dX5_checkRange_0 rfl rfl) ?_
  refine vg_cons (vt_iload_n dX5_checkRange_1 rfl rfl) ?_
  refine vg_cons (vt_cmp_lt dX5_checkRange_2 (by decide) rfl) ?_
  refine vg_cons (vt_iload_n dX5_checkRange_5 rfl rfl) ?_
  refine vg_cons (vt_iload_n dX5_checkRange_6 rfl rfl) ?_
  refine vg_cons (vt_cmp_le dX5_checkRange_7 (by decide) rfl) ?_
  refine vg_cons (vt_throw (vm_nk_of "out of range" 215 342 219 dX5_checkRange_10 dX5_checkRange_13 (Or.inr ⟨dX5_checkRange_14, dX5_checkRange_17, dX5_checkRange_20⟩) (by decide +kernel)) (by decide)) ?_
  refine vg_cons (vt_return dX5_checkRange_21 rfl) ?_
  exact fun _ h => absurd h List.not_mem_nil
theorem me_X5_checkRange : vg_Code ke_X5_checkRange := fun q h => (se_X5_checkRange q h).1

theorem wt_X5_checkRange : ∀ av σ, tx_X5_checkRange av σ → vg_wd av ≤ 3 := by
  intro av σ h
  unfold tx_X5_checkRange at h
  split at h
  · exact Nat.le_of_ble_eq_true rfl
  · exact h.elim
theorem gt_X5_checkRange : ∀ av σ, tx_X5_checkRange av σ → vg_Go ke_X5_checkRange (fun r _ => r = vm_th 2) 0 (vg_args 0 av) [] σ := by
  intro av σ h
  unfold tx_X5_checkRange at h
  split at h
  next c x y =>
    refine vg_run (cuts := []) me_X5_checkRange 20 ?_
    exact And.intro (fun _ => rfl) (fun z => And.intro (fun z2 => absurd ⟨z, z2⟩ h) (fun _ => rfl))
  next => exact h.elim
theorem t_X5_checkRange : vm_MetT ww_tb ww_tbx ww_strs ww_nw ww_shp ww_nm ww_cl ww_tyl yX5_checkRange cX5_checkRange 3 none 6 tx_X5_checkRange 2 := vm_metX ww_closed (by decide +kernel) rfl ww_mv se_X5_checkRange wt_X5_checkRange gt_X5_checkRange
def ke_X5_checkGroup : List (Nat × vgF) := [(0, vi_iload 1 1), (1, vi_if (fun x => x < 0) 15 4), (4, vi_iload 1 5), (5, vi_aload 0 6), (6, vi_get ww_shp 0 0 9), (9, vi_get ww_shp 1 4 12), (12, vi_cmp (fun x y => x < y) 26 15), (15, vi_throw 1), (26, vi_retV)]
set_option maxRecDepth 20000 in
theorem se_X5_checkGroup : ∀ q ∈ ke_X5_checkGroup, vm_Snd true ww_tb ww_tbx ww_strs ww_nw ww_shp ww_nm ww_cl ww_tyl cX5_checkGroup 2 RX5 none 6 q.1 q.2 := by
  refine vg_cons (vt_iload_n dX5_checkGroup_0 rfl rfl) ?_
  refine vg_cons (vt_if_lt dX5_checkGroup_1 (by decide) rfl) ?_
  refine vg_cons (vt_iload_n dX5_checkGroup_4 rfl rfl) ?_
  refine vg_cons (vt_aload_n dX5_checkGroup_5 rfl rfl) ?_
  refine vg_cons (vt_getfield (T := TX5) dX5_checkGroup_6 rfl (by decide) ww_inX5 u_58 rfl) ?_
  refine vg_cons (vt_getfield (T := TX1) dX5_checkGroup_9 rfl (by decide) ww_inX1 u_60 rfl) ?_
  refine vg_cons (vt_cmp_lt dX5_checkGroup_12 (by decide) rfl) ?_
  refine vg_cons (vt_throw (vm_nk_of "no such group" 252 335 256 dX5_checkGroup_15 dX5_checkGroup_18 (Or.inr ⟨dX5_checkGroup_19, dX5_checkGroup_22, dX5_checkGroup_25⟩) (by decide +kernel)) (by decide)) ?_
  refine vg_cons (vt_return dX5_checkGroup_26 rfl) ?_
  exact fun _ h => absurd h List.not_mem_nil
theorem me_X5_checkGroup : vg_Code ke_X5_checkGroup := fun q h => (se_X5_checkGroup q h).1

theorem wt_X5_checkGroup : ∀ av σ, tx_X5_checkGroup av σ → vg_wd av ≤ 2 := by
  intro av σ h
  unfold tx_X5_checkGroup at h
  split at h
  · exact Nat.le_of_ble_eq_true rfl
  · exact h.elim
theorem gt_X5_checkGroup : ∀ av σ, tx_X5_checkGroup av σ → vg_Go ke_X5_checkGroup (fun r _ => r = vm_th 1) 0 (vg_args 0 av) [] σ := by
  intro av σ h
  unfold tx_X5_checkGroup at h
  split at h
  next c =>
    obtain ⟨hw, h⟩ := h
    have hb := hw.1.2
    refine vg_run (cuts := []) me_X5_checkGroup 20 ?_
    refine And.intro (fun _ => rfl) (fun z => And.intro (fun z2 => absurd (jin0 (N := jGc (jV σ 0)) (by omega) z ?_) h) (fun _ => rfl))
    rw [← hw.1.1]
    exact z2
  next => exact h.elim
theorem t_X5_checkGroup : vm_MetT ww_tb ww_tbx ww_strs ww_nw ww_shp ww_nm ww_cl ww_tyl yX5_checkGroup cX5_checkGroup 2 none 6 tx_X5_checkGroup 1 := vm_metX ww_closed (by decide +kernel) rfl ww_mv se_X5_checkGroup wt_X5_checkGroup gt_X5_checkGroup
def ke_X5_checkWarning : List (Nat × vgF) := [(0, vi_iload 1 1), (1, vi_if (fun x => x < 0) 15 4), (4, vi_iload 1 5), (5, vi_aload 0 6), (6, vi_get ww_shp 0 0 9), (9, vi_get ww_shp 1 6 12), (12, vi_cmp (fun x y => x < y) 26 15), (15, vi_throw 1), (26, vi_retV)]
set_option maxRecDepth 20000 in
theorem se_X5_checkWarning : ∀ q ∈ ke_X5_checkWarning, vm_Snd true ww_tb ww_tbx ww_strs ww_nw ww_shp ww_nm ww_cl ww_tyl cX5_checkWarning 2 RX5 none 6 q.1 q.2 := by
  refine vg_cons (vt_iload_n dX5_checkWarning_0 rfl rfl) ?_
  refine vg_cons (vt_if_lt dX5_checkWarning_1 (by decide) rfl) ?_
  refine vg_cons (vt_iload_n dX5_checkWarning_4 rfl rfl) ?_
  refine vg_cons (vt_aload_n dX5_checkWarning_5 rfl rfl) ?_
  refine vg_cons (vt_getfield (T := TX5) dX5_checkWarning_6 rfl (by decide) ww_inX5 u_58 rfl) ?_
  refine vg_cons (vt_getfield (T := TX1) dX5_checkWarning_9 rfl (by decide) ww_inX1 u_61 rfl) ?_
  refine vg_cons (vt_cmp_lt dX5_checkWarning_12 (by decide) rfl) ?_
  refine vg_cons (vt_throw (vm_nk_of "no such warning" 252 337 256 dX5_checkWarning_15 dX5_checkWarning_18 (Or.inr ⟨dX5_checkWarning_19, dX5_checkWarning_22, dX5_checkWarning_25⟩) (by decide +kernel)) (by decide)) ?_
  refine vg_cons (vt_return dX5_checkWarning_26 rfl) ?_
  exact fun _ h => absurd h List.not_mem_nil
theorem me_X5_checkWarning : vg_Code ke_X5_checkWarning := fun q h => (se_X5_checkWarning q h).1

theorem wt_X5_checkWarning : ∀ av σ, tx_X5_checkWarning av σ → vg_wd av ≤ 2 := by
  intro av σ h
  unfold tx_X5_checkWarning at h
  split at h
  · exact Nat.le_of_ble_eq_true rfl
  · exact h.elim
theorem gt_X5_checkWarning : ∀ av σ, tx_X5_checkWarning av σ → vg_Go ke_X5_checkWarning (fun r _ => r = vm_th 1) 0 (vg_args 0 av) [] σ := by
  intro av σ h
  unfold tx_X5_checkWarning at h
  split at h
  next c =>
    obtain ⟨hw, h⟩ := h
    have hb := hw.2.2.1.2
    refine vg_run (cuts := []) me_X5_checkWarning 20 ?_
    refine And.intro (fun _ => rfl) (fun z => And.intro (fun z2 => absurd (jin0 (N := jWc (jV σ 0)) (by omega) z ?_) h) (fun _ => rfl))
    rw [← hw.2.2.1.1]
    exact z2
  next => exact h.elim
theorem t_X5_checkWarning : vm_MetT ww_tb ww_tbx ww_strs ww_nw ww_shp ww_nm ww_cl ww_tyl yX5_checkWarning cX5_checkWarning 2 none 6 tx_X5_checkWarning 1 := vm_metX ww_closed (by decide +kernel) rfl ww_mv se_X5_checkWarning wt_X5_checkWarning gt_X5_checkWarning
def ke_X5_checkWords : List (Nat × vgF) := [(0, vi_iload 0 1), (1, vi_icst (1) 2), (2, vi_icst (65535) 5), (5, vi_callSX sp_X5_checkRange tx_X5_checkRange 2 3 8), (8, vi_iload 1 9), (9, vi_icst (0) 10), (10, vi_icst (1) 11), (11, vi_callSX sp_X5_checkRange tx_X5_checkRange 2 3 14), (14, vi_iload 2 15), (15, vi_icst (1) 16), (16, vi_icst (7) 18), (18, vi_callSX sp_X5_checkRange tx_X5_checkRange 2 3 21), (21, vi_retV)]
set_option maxRecDepth 20000 in
theorem se_X5_checkWords : ∀ q ∈ ke_X5_checkWords, vm_Snd true ww_tb ww_tbx ww_strs ww_nw ww_shp ww_nm ww_cl ww_tyl cX5_checkWords 3 RX5 none 7 q.1 q.2 := by
  refine vg_cons (vt_iload_n dX5_checkWords_0 rfl rfl) ?_
  refine vg_cons (vt_iconst dX5_checkWords_1 rfl rfl) ?_
  refine vg_cons (vt_ldcw dX5_checkWords_2 u_62 rfl) ?_
  refine vg_cons (vt_callSX c_X5_checkRange t_X5_checkRange ww_mv dX5_checkWords_5 ww_good u_63 u_64 u_66 u_65 (by decide +kernel) (by decide) rfl) ?_
  refine vg_cons (vt_iload_n dX5_checkWords_8 rfl rfl) ?_
  refine vg_cons (vt_iconst dX5_checkWords_9 rfl rfl) ?_
  refine vg_cons (vt_iconst dX5_checkWords_10 rfl rfl) ?_
  refine vg_cons (vt_callSX c_X5_checkRange t_X5_checkRange ww_mv dX5_checkWords_11 ww_good u_63 u_64 u_66 u_65 (by decide +kernel) (by decide) rfl) ?_
  refine vg_cons (vt_iload_n dX5_checkWords_14 rfl rfl) ?_
  refine vg_cons (vt_iconst dX5_checkWords_15 rfl rfl) ?_
  refine vg_cons (vt_bipush dX5_checkWords_16 (by decide) rfl) ?_
  refine vg_cons (vt_callSX c_X5_checkRange t_X5_checkRange ww_mv dX5_checkWords_18 ww_good u_63 u_64 u_66 u_65 (by decide +kernel) (by decide) rfl) ?_
  refine vg_cons (vt_return dX5_checkWords_21 rfl) ?_
  exact fun _ h => absurd h List.not_mem_nil
theorem me_X5_checkWords : vg_Code ke_X5_checkWords := fun q h => (se_X5_checkWords q h).1

theorem wt_X5_checkWords : ∀ av σ, tx_X5_checkWords av σ → vg_wd av ≤ 3 := by
  intro av σ h
  unfold tx_X5_checkWords at h
  split at h
  · exact Nat.le_of_ble_eq_true rfl
  · exact h.elim
theorem gt_X5_checkWords : ∀ av σ, tx_X5_checkWords av σ → vg_Go ke_X5_checkWords (fun r _ => r = vm_th 2) 0 (vg_args 0 av) [] σ := by
  intro av σ h
  unfold tx_X5_checkWords at h
  split at h
  next a d t =>
    refine vg_run (cuts := []) me_X5_checkWords 30 ?_
    refine And.intro (fun _ => rfl) (fun z1 => And.intro (Classical.not_not.mp z1) (And.intro (fun _ => rfl) (fun z2 => And.intro (Classical.not_not.mp z2) (And.intro (fun _ => rfl) (fun z3 => And.intro (Classical.not_not.mp z3) (absurd ⟨Classical.not_not.mp z1, Classical.not_not.mp z2, Classical.not_not.mp z3⟩ h))))))
  next => exact h.elim
theorem t_X5_checkWords : vm_MetT ww_tb ww_tbx ww_strs ww_nw ww_shp ww_nm ww_cl ww_tyl yX5_checkWords cX5_checkWords 3 none 7 tx_X5_checkWords 2 := vm_metX ww_closed (by decide +kernel) rfl ww_mv se_X5_checkWords wt_X5_checkWords gt_X5_checkWords
