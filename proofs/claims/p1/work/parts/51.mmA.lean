-- words of the tables, and what stands at each place of the methods' code (laid by program)
theorem u_197 : Cond.code yX7_in cX7_in 3 (some .boolean) ∈ ww_tb := by decide +kernel
theorem u_198 : Cond.initialized RX7 ∈ ww_tb := by decide +kernel
theorem u_199 : Cond.static yX7_in ∈ ww_tb := by decide +kernel
theorem u_200 : Cond.methodLink RX7 29 yX7_in ∈ ww_tb := by decide +kernel
theorem u_201 : Cond.fieldLink RX7 20 (TX7 0).1 (TX7 0).2.1 (TX7 0).2.2.1 ∈ ww_tb := by decide +kernel
theorem u_202 : Cond.fieldLink RX7 10 (TX7 1).1 (TX7 1).2.1 (TX7 1).2.2.1 ∈ ww_tb := by decide +kernel
theorem u_203 : Cond.fieldLink RX7 33 (TX6 9).1 (TX6 9).2.1 (TX6 9).2.2.1 ∈ ww_tb := by decide +kernel
theorem u_204 : Cond.fieldLink RX7 36 (TX6 10).1 (TX6 10).2.1 (TX6 10).2.2.1 ∈ ww_tb := by decide +kernel
theorem u_205 : Cond.constant RX7 103 (65535) ∈ ww_tb := by decide +kernel
theorem dX7_in_0 : decode cX7_in 0 = .ok (.iload_n 0, 1) := by decide +kernel
theorem dX7_in_1 : decode cX7_in 1 = .ok (.iload_n 1, 1) := by decide +kernel
theorem dX7_in_2 : decode cX7_in 2 = .ok (.if_icmp .lt 12, 3) := by decide +kernel
theorem dX7_in_5 : decode cX7_in 5 = .ok (.iload_n 0, 1) := by decide +kernel
theorem dX7_in_6 : decode cX7_in 6 = .ok (.iload_n 2, 1) := by decide +kernel
theorem dX7_in_7 : decode cX7_in 7 = .ok (.if_icmp .gt 7, 3) := by decide +kernel
theorem dX7_in_10 : decode cX7_in 10 = .ok (.iconst 1, 1) := by decide +kernel
theorem dX7_in_11 : decode cX7_in 11 = .ok (.goto 4, 3) := by decide +kernel
theorem dX7_in_14 : decode cX7_in 14 = .ok (.iconst 0, 1) := by decide +kernel
theorem dX7_in_15 : decode cX7_in 15 = .ok (.ireturn, 1) := by decide +kernel
theorem dX7_isCell_0 : decode cX7_isCell 0 = .ok (.iload_n 0, 1) := by decide +kernel
theorem dX7_isCell_1 : decode cX7_isCell 1 = .ok (.iconst 0, 1) := by decide +kernel
theorem dX7_isCell_2 : decode cX7_isCell 2 = .ok (.bipush 15, 2) := by decide +kernel
theorem dX7_isCell_4 : decode cX7_isCell 4 = .ok (.invokestatic 29, 3) := by decide +kernel
theorem dX7_isCell_7 : decode cX7_isCell 7 = .ok (.ireturn, 1) := by decide +kernel
theorem dX7_no_0 : decode cX7_no 0 = .ok (.aload_n 0, 1) := by decide +kernel
theorem dX7_no_1 : decode cX7_no 1 = .ok (.iload_n 1, 1) := by decide +kernel
theorem dX7_no_2 : decode cX7_no 2 = .ok (.putfield 20, 3) := by decide +kernel
theorem dX7_no_5 : decode cX7_no 5 = .ok (.iconst 0, 1) := by decide +kernel
theorem dX7_no_6 : decode cX7_no 6 = .ok (.ireturn, 1) := by decide +kernel
theorem dX7_thrown_0 : decode cX7_thrown 0 = .ok (.aload_n 0, 1) := by decide +kernel
theorem dX7_thrown_1 : decode cX7_thrown 1 = .ok (.getfield 20, 3) := by decide +kernel
theorem dX7_thrown_4 : decode cX7_thrown 4 = .ok (.ireturn, 1) := by decide +kernel
theorem dX7_isGroup_0 : decode cX7_isGroup 0 = .ok (.iload_n 1, 1) := by decide +kernel
theorem dX7_isGroup_1 : decode cX7_isGroup 1 = .ok (.iconst 0, 1) := by decide +kernel
theorem dX7_isGroup_2 : decode cX7_isGroup 2 = .ok (.aload_n 0, 1) := by decide +kernel
theorem dX7_isGroup_3 : decode cX7_isGroup 3 = .ok (.getfield 10, 3) := by decide +kernel
theorem dX7_isGroup_6 : decode cX7_isGroup 6 = .ok (.getfield 33, 3) := by decide +kernel
theorem dX7_isGroup_9 : decode cX7_isGroup 9 = .ok (.iconst 1, 1) := by decide +kernel
theorem dX7_isGroup_10 : decode cX7_isGroup 10 = .ok (.isub, 1) := by decide +kernel
theorem dX7_isGroup_11 : decode cX7_isGroup 11 = .ok (.invokestatic 29, 3) := by decide +kernel
theorem dX7_isGroup_14 : decode cX7_isGroup 14 = .ok (.ireturn, 1) := by decide +kernel
theorem dX7_isWarning_0 : decode cX7_isWarning 0 = .ok (.iload_n 1, 1) := by decide +kernel
theorem dX7_isWarning_1 : decode cX7_isWarning 1 = .ok (.iconst 0, 1) := by decide +kernel
theorem dX7_isWarning_2 : decode cX7_isWarning 2 = .ok (.aload_n 0, 1) := by decide +kernel
theorem dX7_isWarning_3 : decode cX7_isWarning 3 = .ok (.getfield 10, 3) := by decide +kernel
theorem dX7_isWarning_6 : decode cX7_isWarning 6 = .ok (.getfield 36, 3) := by decide +kernel
theorem dX7_isWarning_9 : decode cX7_isWarning 9 = .ok (.iconst 1, 1) := by decide +kernel
theorem dX7_isWarning_10 : decode cX7_isWarning 10 = .ok (.isub, 1) := by decide +kernel
theorem dX7_isWarning_11 : decode cX7_isWarning 11 = .ok (.invokestatic 29, 3) := by decide +kernel
theorem dX7_isWarning_14 : decode cX7_isWarning 14 = .ok (.ireturn, 1) := by decide +kernel
theorem dX7_isText_0 : decode cX7_isText 0 = .ok (.iload_n 0, 1) := by decide +kernel
theorem dX7_isText_1 : decode cX7_isText 1 = .ok (.iconst 1, 1) := by decide +kernel
theorem dX7_isText_2 : decode cX7_isText 2 = .ok (.ldc 103, 2) := by decide +kernel
theorem dX7_isText_4 : decode cX7_isText 4 = .ok (.invokestatic 29, 3) := by decide +kernel
theorem dX7_isText_7 : decode cX7_isText 7 = .ok (.ifCond .eq 26, 3) := by decide +kernel
theorem dX7_isText_10 : decode cX7_isText 10 = .ok (.iload_n 1, 1) := by decide +kernel
theorem dX7_isText_11 : decode cX7_isText 11 = .ok (.iconst 0, 1) := by decide +kernel
theorem dX7_isText_12 : decode cX7_isText 12 = .ok (.iconst 1, 1) := by decide +kernel
theorem dX7_isText_13 : decode cX7_isText 13 = .ok (.invokestatic 29, 3) := by decide +kernel
theorem dX7_isText_16 : decode cX7_isText 16 = .ok (.ifCond .eq 17, 3) := by decide +kernel
theorem dX7_isText_19 : decode cX7_isText 19 = .ok (.iload_n 2, 1) := by decide +kernel
theorem dX7_isText_20 : decode cX7_isText 20 = .ok (.iconst 1, 1) := by decide +kernel
theorem dX7_isText_21 : decode cX7_isText 21 = .ok (.bipush 7, 2) := by decide +kernel
theorem dX7_isText_23 : decode cX7_isText 23 = .ok (.invokestatic 29, 3) := by decide +kernel
theorem dX7_isText_26 : decode cX7_isText 26 = .ok (.ifCond .eq 7, 3) := by decide +kernel
theorem dX7_isText_29 : decode cX7_isText 29 = .ok (.iconst 1, 1) := by decide +kernel
theorem dX7_isText_30 : decode cX7_isText 30 = .ok (.goto 4, 3) := by decide +kernel
theorem dX7_isText_33 : decode cX7_isText 33 = .ok (.iconst 0, 1) := by decide +kernel
theorem dX7_isText_34 : decode cX7_isText 34 = .ok (.ireturn, 1) := by decide +kernel
theorem dX7_lay_0 : decode cX7_lay 0 = .ok (.aload_n 0, 1) := by decide +kernel
theorem dX7_lay_1 : decode cX7_lay 1 = .ok (.iconst 0, 1) := by decide +kernel
theorem dX7_lay_2 : decode cX7_lay 2 = .ok (.iload_n 1, 1) := by decide +kernel
theorem dX7_lay_3 : decode cX7_lay 3 = .ok (.iastore, 1) := by decide +kernel
theorem dX7_lay_4 : decode cX7_lay 4 = .ok (.aload_n 0, 1) := by decide +kernel
theorem dX7_lay_5 : decode cX7_lay 5 = .ok (.iconst 1, 1) := by decide +kernel
theorem dX7_lay_6 : decode cX7_lay 6 = .ok (.iload_n 2, 1) := by decide +kernel
theorem dX7_lay_7 : decode cX7_lay 7 = .ok (.iastore, 1) := by decide +kernel
theorem dX7_lay_8 : decode cX7_lay 8 = .ok (.aload_n 0, 1) := by decide +kernel
theorem dX7_lay_9 : decode cX7_lay 9 = .ok (.iconst 2, 1) := by decide +kernel
theorem dX7_lay_10 : decode cX7_lay 10 = .ok (.iconst 1, 1) := by decide +kernel
theorem dX7_lay_11 : decode cX7_lay 11 = .ok (.iastore, 1) := by decide +kernel
theorem dX7_lay_12 : decode cX7_lay 12 = .ok (.return_, 1) := by decide +kernel
/-! small methods of the reference -/
def sp_X7_in : vgC := fun av σ => match av with
  | [.inl (.int k), .inl (.int a), .inl (.int b)] => (True, some (.inl (.int (jb (¬ k < a ∧ k ≤ b)))), σ)
  | _ => (False, none, σ)
def k_X7_in : List (Nat × vgF) := [(0, vi_iload 0 1), (1, vi_iload 1 2), (2, vi_cmp (fun x y => x < y) 14 5), (5, vi_iload 0 6), (6, vi_iload 2 7), (7, vi_cmp (fun x y => y < x) 14 10), (10, vi_icst (1) 11), (11, vi_goto 15), (14, vi_icst (0) 15), (15, vi_retZ)]
set_option maxRecDepth 20000 in
theorem s_X7_in {nm : List vgN} (hcl : vg_closed mm_shp nm) : ∀ q ∈ k_X7_in, vg_Snd ww_tb [] mm_shp nm mm_cl mm_tyl cX7_in 3 RX7 (some .boolean) 0 q.1 q.2 := by
  refine vg_cons (vs_iload_n dX7_in_0 rfl rfl) ?_
  refine vg_cons (vs_iload_n dX7_in_1 rfl rfl) ?_
  refine vg_cons (vs_cmp_lt dX7_in_2 (by decide) rfl) ?_
  refine vg_cons (vs_iload_n dX7_in_5 rfl rfl) ?_
  refine vg_cons (vs_iload_n dX7_in_6 rfl rfl) ?_
  refine vg_cons (vs_cmp_gt dX7_in_7 (by decide) rfl) ?_
  refine vg_cons (vs_iconst dX7_in_10 rfl rfl) ?_
  refine vg_cons (vs_goto dX7_in_11 (by decide)) ?_
  refine vg_cons (vs_iconst dX7_in_14 rfl rfl) ?_
  refine vg_cons (vs_zreturn dX7_in_15 rfl) ?_
  exact fun _ h => absurd h List.not_mem_nil
theorem m_X7_in : vg_Code k_X7_in := fun q h => (s_X7_in (nm := []) (fun n hn => nomatch hn) q h).1

theorem w_X7_in : vg_Wd sp_X7_in 3 := by
  intro av σ h
  unfold sp_X7_in at h
  split at h
  · exact Nat.le_of_ble_eq_true rfl
  · exact h.elim
theorem g_X7_in : vg_G k_X7_in sp_X7_in := by
  intro av σ h
  unfold sp_X7_in at h ⊢
  split at h
  next k a b =>
    refine vg_run (cuts := []) m_X7_in 20 ?_
    refine And.intro (fun z => ?_) (fun z => And.intro (fun z2 => ?_) (fun z2 => ?_))
    · refine And.intro (Or.inl rfl) (And.intro ?_ rfl)
      exact congrArg (fun x => some (Sum.inl (Value.int x))) (jb_f (c := ¬ k < a ∧ k ≤ b) (fun y => y.1 z)).symm
    · refine And.intro (Or.inl rfl) (And.intro ?_ rfl)
      exact congrArg (fun x => some (Sum.inl (Value.int x))) (jb_f (c := ¬ k < a ∧ k ≤ b) (fun y => absurd y.2 (Int32.not_le.mpr z2))).symm
    · refine And.intro (Or.inr rfl) (And.intro ?_ rfl)
      exact congrArg (fun x => some (Sum.inl (Value.int x))) (jb_t (c := ¬ k < a ∧ k ≤ b) ⟨z, Int32.not_lt.mp z2⟩).symm
  next => exact h.elim
theorem c_X7_in {nm : List vgN} (hcl : vg_closed mm_shp nm) : vg_MetF ww_tb [] mm_shp nm mm_cl mm_tyl yX7_in cX7_in 3 (some .boolean) 0 sp_X7_in := vg_met hcl (by decide +kernel) rfl (s_X7_in hcl) w_X7_in g_X7_in
def sp_X7_isCell : vgC := fun av σ => match av with
  | [.inl (.int c)] => (True, some (.inl (.int (jb (wp_c c)))), σ)
  | _ => (False, none, σ)
def k_X7_isCell : List (Nat × vgF) := [(0, vi_iload 0 1), (1, vi_icst (0) 2), (2, vi_icst (15) 4), (4, vi_callS sp_X7_in 3 7), (7, vi_retZ)]
set_option maxRecDepth 20000 in
theorem s_X7_isCell {nm : List vgN} (hcl : vg_closed mm_shp nm) : ∀ q ∈ k_X7_isCell, vg_Snd ww_tb [] mm_shp nm mm_cl mm_tyl cX7_isCell 1 RX7 (some .boolean) 1 q.1 q.2 := by
  refine vg_cons (vs_iload_n dX7_isCell_0 rfl rfl) ?_
  refine vg_cons (vs_iconst dX7_isCell_1 rfl rfl) ?_
  refine vg_cons (vs_bipush dX7_isCell_2 (by decide) rfl) ?_
  refine vg_cons (vs_callS (c_X7_in hcl) dX7_isCell_4 ww_good u_197 u_198 u_200 u_199 (by decide +kernel) (by decide) rfl) ?_
  refine vg_cons (vs_zreturn dX7_isCell_7 rfl) ?_
  exact fun _ h => absurd h List.not_mem_nil
theorem m_X7_isCell : vg_Code k_X7_isCell := fun q h => (s_X7_isCell (nm := []) (fun n hn => nomatch hn) q h).1

theorem w_X7_isCell : vg_Wd sp_X7_isCell 1 := by
  intro av σ h
  unfold sp_X7_isCell at h
  split at h
  · exact Nat.le_of_ble_eq_true rfl
  · exact h.elim
theorem g_X7_isCell : vg_G k_X7_isCell sp_X7_isCell := by
  intro av σ h
  unfold sp_X7_isCell at h ⊢
  split at h
  next c =>
    refine vg_run (cuts := []) m_X7_isCell 20 ?_
    exact And.intro trivial (And.intro (jb_01 _) (And.intro rfl rfl))
  next => exact h.elim
theorem c_X7_isCell {nm : List vgN} (hcl : vg_closed mm_shp nm) : vg_MetF ww_tb [] mm_shp nm mm_cl mm_tyl yX7_isCell cX7_isCell 1 (some .boolean) 1 sp_X7_isCell := vg_met hcl (by decide +kernel) rfl (s_X7_isCell hcl) w_X7_isCell g_X7_isCell
def sp_X7_no : vgC := fun av σ => match av with
  | [.inr (40, 0, 0), .inl (.int x)] => (True, some (.inl (.int 0)), vg_st σ (40, 0, 0) 0 x)
  | _ => (False, none, σ)
def k_X7_no : List (Nat × vgF) := [(0, vi_aload 0 1), (1, vi_iload 1 2), (2, vi_put mm_shp 0 0 5), (5, vi_icst (0) 6), (6, vi_ret)]
set_option maxRecDepth 20000 in
theorem s_X7_no {nm : List vgN} (hcl : vg_closed mm_shp nm) : ∀ q ∈ k_X7_no, vg_Snd ww_tb [] mm_shp nm mm_cl mm_tyl cX7_no 2 RX7 (some .int) 0 q.1 q.2 := by
  refine vg_cons (vs_aload_n dX7_no_0 rfl rfl) ?_
  refine vg_cons (vs_iload_n dX7_no_1 rfl rfl) ?_
  refine vg_cons (vs_putfield (T := TX7) tyX7 dX7_no_2 rfl (by decide) mm_inX7 tyX7_ok nmX7 rfl rfl u_201 rfl) ?_
  refine vg_cons (vs_iconst dX7_no_5 rfl rfl) ?_
  refine vg_cons (vs_ireturn dX7_no_6 rfl) ?_
  exact fun _ h => absurd h List.not_mem_nil
theorem m_X7_no : vg_Code k_X7_no := fun q h => (s_X7_no (nm := []) (fun n hn => nomatch hn) q h).1

theorem w_X7_no : vg_Wd sp_X7_no 2 := by
  intro av σ h
  unfold sp_X7_no at h
  split at h
  · exact Nat.le_of_ble_eq_true rfl
  · exact h.elim
theorem g_X7_no : vg_G k_X7_no sp_X7_no := by
  intro av σ h
  unfold sp_X7_no at h ⊢
  split at h
  next x =>
    refine vg_run (cuts := []) m_X7_no 20 ?_
    exact And.intro rfl rfl
  next => exact h.elim
theorem c_X7_no {nm : List vgN} (hcl : vg_closed mm_shp nm) : vg_MetF ww_tb [] mm_shp nm mm_cl mm_tyl yX7_no cX7_no 2 (some .int) 0 sp_X7_no := vg_met hcl (by decide +kernel) rfl (s_X7_no hcl) w_X7_no g_X7_no
def sp_X7_thrown : vgC := fun av σ => match av with
  | [.inr (40, 0, 0)] => (True, some (.inl (.int (σ (40, 0, 0) 0))), σ)
  | _ => (False, none, σ)
def k_X7_thrown : List (Nat × vgF) := [(0, vi_aload 0 1), (1, vi_get mm_shp 0 0 4), (4, vi_ret)]
set_option maxRecDepth 20000 in
theorem s_X7_thrown {nm : List vgN} (hcl : vg_closed mm_shp nm) : ∀ q ∈ k_X7_thrown, vg_Snd ww_tb [] mm_shp nm mm_cl mm_tyl cX7_thrown 1 RX7 (some .int) 0 q.1 q.2 := by
  refine vg_cons (vs_aload_n dX7_thrown_0 rfl rfl) ?_
  refine vg_cons (vs_getfield (T := TX7) dX7_thrown_1 rfl (by decide) mm_inX7 u_201 rfl) ?_
  refine vg_cons (vs_ireturn dX7_thrown_4 rfl) ?_
  exact fun _ h => absurd h List.not_mem_nil
theorem m_X7_thrown : vg_Code k_X7_thrown := fun q h => (s_X7_thrown (nm := []) (fun n hn => nomatch hn) q h).1

theorem w_X7_thrown : vg_Wd sp_X7_thrown 1 := by
  intro av σ h
  unfold sp_X7_thrown at h
  split at h
  · exact Nat.le_of_ble_eq_true rfl
  · exact h.elim
theorem g_X7_thrown : vg_G k_X7_thrown sp_X7_thrown := by
  intro av σ h
  unfold sp_X7_thrown at h ⊢
  split at h
  next =>
    refine vg_run (cuts := []) m_X7_thrown 20 ?_
    exact And.intro rfl rfl
  next => exact h.elim
theorem c_X7_thrown {nm : List vgN} (hcl : vg_closed mm_shp nm) : vg_MetF ww_tb [] mm_shp nm mm_cl mm_tyl yX7_thrown cX7_thrown 1 (some .int) 0 sp_X7_thrown := vg_met hcl (by decide +kernel) rfl (s_X7_thrown hcl) w_X7_thrown g_X7_thrown
def sp_X7_isGroup : vgC := fun av σ => match av with
  | [.inr (40, 0, 0), .inl (.int g)] => (True, some (.inl (.int (jb (¬ g < 0 ∧ g ≤ σ (41, 0, 0) 9 - 1)))), σ)
  | _ => (False, none, σ)
def k_X7_isGroup : List (Nat × vgF) := [(0, vi_iload 1 1), (1, vi_icst (0) 2), (2, vi_aload 0 3), (3, vi_get mm_shp 0 1 6), (6, vi_get mm_shp 1 9 9), (9, vi_icst (1) 10), (10, vi_bin (fun x y => x - y) 11), (11, vi_callS sp_X7_in 3 14), (14, vi_retZ)]
set_option maxRecDepth 20000 in
theorem s_X7_isGroup {nm : List vgN} (hcl : vg_closed mm_shp nm) : ∀ q ∈ k_X7_isGroup, vg_Snd ww_tb [] mm_shp nm mm_cl mm_tyl cX7_isGroup 2 RX7 (some .boolean) 1 q.1 q.2 := by
  refine vg_cons (vs_iload_n dX7_isGroup_0 rfl rfl) ?_
  refine vg_cons (vs_iconst dX7_isGroup_1 rfl rfl) ?_
  refine vg_cons (vs_aload_n dX7_isGroup_2 rfl rfl) ?_
  refine vg_cons (vs_getfield (T := TX7) dX7_isGroup_3 rfl (by decide) mm_inX7 u_202 rfl) ?_
  refine vg_cons (vs_getfield (T := TX6) dX7_isGroup_6 rfl (by decide) mm_inX6 u_203 rfl) ?_
  refine vg_cons (vs_iconst dX7_isGroup_9 rfl rfl) ?_
  refine vg_cons (vs_isub dX7_isGroup_10 rfl) ?_
  refine vg_cons (vs_callS (c_X7_in hcl) dX7_isGroup_11 ww_good u_197 u_198 u_200 u_199 (by decide +kernel) (by decide) rfl) ?_
  refine vg_cons (vs_zreturn dX7_isGroup_14 rfl) ?_
  exact fun _ h => absurd h List.not_mem_nil
theorem m_X7_isGroup : vg_Code k_X7_isGroup := fun q h => (s_X7_isGroup (nm := []) (fun n hn => nomatch hn) q h).1

theorem w_X7_isGroup : vg_Wd sp_X7_isGroup 2 := by
  intro av σ h
  unfold sp_X7_isGroup at h
  split at h
  · exact Nat.le_of_ble_eq_true rfl
  · exact h.elim
theorem g_X7_isGroup : vg_G k_X7_isGroup sp_X7_isGroup := by
  intro av σ h
  unfold sp_X7_isGroup at h ⊢
  split at h
  next g =>
    refine vg_run (cuts := []) m_X7_isGroup 20 ?_
    exact And.intro trivial (And.intro (jb_01 _) (And.intro rfl rfl))
  next => exact h.elim
theorem c_X7_isGroup {nm : List vgN} (hcl : vg_closed mm_shp nm) : vg_MetF ww_tb [] mm_shp nm mm_cl mm_tyl yX7_isGroup cX7_isGroup 2 (some .boolean) 1 sp_X7_isGroup := vg_met hcl (by decide +kernel) rfl (s_X7_isGroup hcl) w_X7_isGroup g_X7_isGroup
def sp_X7_isWarning : vgC := fun av σ => match av with
  | [.inr (40, 0, 0), .inl (.int g)] => (True, some (.inl (.int (jb (¬ g < 0 ∧ g ≤ σ (41, 0, 0) 10 - 1)))), σ)
  | _ => (False, none, σ)
def k_X7_isWarning : List (Nat × vgF) := [(0, vi_iload 1 1), (1, vi_icst (0) 2), (2, vi_aload 0 3), (3, vi_get mm_shp 0 1 6), (6, vi_get mm_shp 1 10 9), (9, vi_icst (1) 10), (10, vi_bin (fun x y => x - y) 11), (11, vi_callS sp_X7_in 3 14), (14, vi_retZ)]
set_option maxRecDepth 20000 in
theorem s_X7_isWarning {nm : List vgN} (hcl : vg_closed mm_shp nm) : ∀ q ∈ k_X7_isWarning, vg_Snd ww_tb [] mm_shp nm mm_cl mm_tyl cX7_isWarning 2 RX7 (some .boolean) 1 q.1 q.2 := by
  refine vg_cons (vs_iload_n dX7_isWarning_0 rfl rfl) ?_
  refine vg_cons (vs_iconst dX7_isWarning_1 rfl rfl) ?_
  refine vg_cons (vs_aload_n dX7_isWarning_2 rfl rfl) ?_
  refine vg_cons (vs_getfield (T := TX7) dX7_isWarning_3 rfl (by decide) mm_inX7 u_202 rfl) ?_
  refine vg_cons (vs_getfield (T := TX6) dX7_isWarning_6 rfl (by decide) mm_inX6 u_204 rfl) ?_
  refine vg_cons (vs_iconst dX7_isWarning_9 rfl rfl) ?_
  refine vg_cons (vs_isub dX7_isWarning_10 rfl) ?_
  refine vg_cons (vs_callS (c_X7_in hcl) dX7_isWarning_11 ww_good u_197 u_198 u_200 u_199 (by decide +kernel) (by decide) rfl) ?_
  refine vg_cons (vs_zreturn dX7_isWarning_14 rfl) ?_
  exact fun _ h => absurd h List.not_mem_nil
theorem m_X7_isWarning : vg_Code k_X7_isWarning := fun q h => (s_X7_isWarning (nm := []) (fun n hn => nomatch hn) q h).1

theorem w_X7_isWarning : vg_Wd sp_X7_isWarning 2 := by
  intro av σ h
  unfold sp_X7_isWarning at h
  split at h
  · exact Nat.le_of_ble_eq_true rfl
  · exact h.elim
theorem g_X7_isWarning : vg_G k_X7_isWarning sp_X7_isWarning := by
  intro av σ h
  unfold sp_X7_isWarning at h ⊢
  split at h
  next g =>
    refine vg_run (cuts := []) m_X7_isWarning 20 ?_
    exact And.intro trivial (And.intro (jb_01 _) (And.intro rfl rfl))
  next => exact h.elim
theorem c_X7_isWarning {nm : List vgN} (hcl : vg_closed mm_shp nm) : vg_MetF ww_tb [] mm_shp nm mm_cl mm_tyl yX7_isWarning cX7_isWarning 2 (some .boolean) 1 sp_X7_isWarning := vg_met hcl (by decide +kernel) rfl (s_X7_isWarning hcl) w_X7_isWarning g_X7_isWarning
def sp_X7_isText : vgC := fun av σ => match av with
  | [.inl (.int a), .inl (.int d), .inl (.int t)] => (True, some (.inl (.int (jb (wp_w a d t)))), σ)
  | _ => (False, none, σ)
def k_X7_isText : List (Nat × vgF) := [(0, vi_iload 0 1), (1, vi_icst (1) 2), (2, vi_icst (65535) 4), (4, vi_callS sp_X7_in 3 7), (7, vi_if (fun x => x = 0) 33 10), (10, vi_iload 1 11), (11, vi_icst (0) 12), (12, vi_icst (1) 13), (13, vi_callS sp_X7_in 3 16), (16, vi_if (fun x => x = 0) 33 19), (19, vi_iload 2 20), (20, vi_icst (1) 21), (21, vi_icst (7) 23), (23, vi_callS sp_X7_in 3 26), (26, vi_if (fun x => x = 0) 33 29), (29, vi_icst (1) 30), (30, vi_goto 34), (33, vi_icst (0) 34), (34, vi_retZ)]
set_option maxRecDepth 20000 in
theorem s_X7_isText {nm : List vgN} (hcl : vg_closed mm_shp nm) : ∀ q ∈ k_X7_isText, vg_Snd ww_tb [] mm_shp nm mm_cl mm_tyl cX7_isText 3 RX7 (some .boolean) 1 q.1 q.2 := by
  refine vg_cons (vs_iload_n dX7_isText_0 rfl rfl) ?_
  refine vg_cons (vs_iconst dX7_isText_1 rfl rfl) ?_
  refine vg_cons (vs_ldc dX7_isText_2 u_205 rfl) ?_
  refine vg_cons (vs_callS (c_X7_in hcl) dX7_isText_4 ww_good u_197 u_198 u_200 u_199 (by decide +kernel) (by decide) rfl) ?_
  refine vg_cons (vs_if_eq dX7_isText_7 (by decide) rfl) ?_
  refine vg_cons (vs_iload_n dX7_isText_10 rfl rfl) ?_
  refine vg_cons (vs_iconst dX7_isText_11 rfl rfl) ?_
  refine vg_cons (vs_iconst dX7_isText_12 rfl rfl) ?_
  refine vg_cons (vs_callS (c_X7_in hcl) dX7_isText_13 ww_good u_197 u_198 u_200 u_199 (by decide +kernel) (by decide) rfl) ?_
  refine vg_cons (vs_if_eq dX7_isText_16 (by decide) rfl) ?_
  refine vg_cons (vs_iload_n dX7_isText_19 rfl rfl) ?_
  refine vg_cons (vs_iconst dX7_isText_20 rfl rfl) ?_
  refine vg_cons (vs_bipush dX7_isText_21 (by decide) rfl) ?_
  refine vg_cons (vs_callS (c_X7_in hcl) dX7_isText_23 ww_good u_197 u_198 u_200 u_199 (by decide +kernel) (by decide) rfl) ?_
  refine vg_cons (vs_if_eq dX7_isText_26 (by decide) rfl) ?_
  refine vg_cons (vs_iconst dX7_isText_29 rfl rfl) ?_
  refine vg_cons (vs_goto dX7_isText_30 (by decide)) ?_
  refine vg_cons (vs_iconst dX7_isText_33 rfl rfl) ?_
  refine vg_cons (vs_zreturn dX7_isText_34 rfl) ?_
  exact fun _ h => absurd h List.not_mem_nil
theorem m_X7_isText : vg_Code k_X7_isText := fun q h => (s_X7_isText (nm := []) (fun n hn => nomatch hn) q h).1

theorem w_X7_isText : vg_Wd sp_X7_isText 3 := by
  intro av σ h
  unfold sp_X7_isText at h
  split at h
  · exact Nat.le_of_ble_eq_true rfl
  · exact h.elim
theorem g_X7_isText : vg_G k_X7_isText sp_X7_isText := by
  intro av σ h
  unfold sp_X7_isText at h ⊢
  split at h
  next a d t =>
    refine vg_run (cuts := []) m_X7_isText 40 ?_
    refine And.intro trivial (And.intro (fun z => ?_) (fun z => And.intro trivial (And.intro (fun z2 => ?_) (fun z2 => And.intro trivial (And.intro (fun z3 => ?_) (fun z3 => ?_))))))
    · refine And.intro (Or.inl rfl) (And.intro ?_ rfl)
      exact congrArg (fun x => some (Sum.inl (Value.int x))) (jb_f (c := wp_w a d t) (fun y => jb_0.mp z y.1)).symm
    · refine And.intro (Or.inl rfl) (And.intro ?_ rfl)
      exact congrArg (fun x => some (Sum.inl (Value.int x))) (jb_f (c := wp_w a d t) (fun y => jb_0.mp z2 y.2.1)).symm
    · refine And.intro (Or.inl rfl) (And.intro ?_ rfl)
      exact congrArg (fun x => some (Sum.inl (Value.int x))) (jb_f (c := wp_w a d t) (fun y => jb_0.mp z3 y.2.2)).symm
    · refine And.intro (Or.inr rfl) (And.intro ?_ rfl)
      exact congrArg (fun x => some (Sum.inl (Value.int x))) (jb_t (c := wp_w a d t) ⟨Classical.not_not.mp (fun y => z (jb_0.mpr y)), Classical.not_not.mp (fun y => z2 (jb_0.mpr y)), Classical.not_not.mp (fun y => z3 (jb_0.mpr y))⟩).symm
  next => exact h.elim
theorem c_X7_isText {nm : List vgN} (hcl : vg_closed mm_shp nm) : vg_MetF ww_tb [] mm_shp nm mm_cl mm_tyl yX7_isText cX7_isText 3 (some .boolean) 1 sp_X7_isText := vg_met hcl (by decide +kernel) rfl (s_X7_isText hcl) w_X7_isText g_X7_isText
def sp_X7_lay : vgC := fun av σ => match av with
  | [.inr (56, b, i), .inl (.int c), .inl (.int r)] => (True, none, vg_st (vg_st (vg_st σ (56, b, i) 0 c) (56, b, i) 1 r) (56, b, i) 2 1)
  | [.inr (57, b, i), .inl (.int c), .inl (.int r)] => (True, none, vg_st (vg_st (vg_st σ (57, b, i) 0 c) (57, b, i) 1 r) (57, b, i) 2 1)
  | _ => (False, none, σ)
def k_X7_lay : List (Nat × vgF) := [(0, vi_aload 0 1), (1, vi_icst (0) 2), (2, vi_iload 1 3), (3, vi_ast mm_shp 0 4), (4, vi_aload 0 5), (5, vi_icst (1) 6), (6, vi_iload 2 7), (7, vi_ast mm_shp 0 8), (8, vi_aload 0 9), (9, vi_icst (2) 10), (10, vi_icst (1) 11), (11, vi_ast mm_shp 0 12), (12, vi_retV)]
set_option maxRecDepth 20000 in
theorem s_X7_lay {nm : List vgN} (hcl : vg_closed mm_shp nm) : ∀ q ∈ k_X7_lay, vg_Snd ww_tb [] mm_shp nm mm_cl mm_tyl cX7_lay 3 RX7 none 0 q.1 q.2 := by
  refine vg_cons (vs_aload_n dX7_lay_0 rfl rfl) ?_
  refine vg_cons (vs_iconst dX7_lay_1 rfl rfl) ?_
  refine vg_cons (vs_iload_n dX7_lay_2 rfl rfl) ?_
  refine vg_cons (vs_iastore dX7_lay_3 rfl rfl) ?_
  refine vg_cons (vs_aload_n dX7_lay_4 rfl rfl) ?_
  refine vg_cons (vs_iconst dX7_lay_5 rfl rfl) ?_
  refine vg_cons (vs_iload_n dX7_lay_6 rfl rfl) ?_
  refine vg_cons (vs_iastore dX7_lay_7 rfl rfl) ?_
  refine vg_cons (vs_aload_n dX7_lay_8 rfl rfl) ?_
  refine vg_cons (vs_iconst dX7_lay_9 rfl rfl) ?_
  refine vg_cons (vs_iconst dX7_lay_10 rfl rfl) ?_
  refine vg_cons (vs_iastore dX7_lay_11 rfl rfl) ?_
  refine vg_cons (vs_return dX7_lay_12 rfl) ?_
  exact fun _ h => absurd h List.not_mem_nil
theorem m_X7_lay : vg_Code k_X7_lay := fun q h => (s_X7_lay (nm := []) (fun n hn => nomatch hn) q h).1

theorem w_X7_lay : vg_Wd sp_X7_lay 3 := by
  intro av σ h
  unfold sp_X7_lay at h
  split at h
  · exact Nat.le_of_ble_eq_true rfl
  · exact Nat.le_of_ble_eq_true rfl
  · exact h.elim
theorem mm_in3 (i : Int32) (h : i = 0 ∨ i = 1 ∨ i = 2) : vp_in i 3 := by
  rcases h with rfl | rfl | rfl
  · exact jin (i := 0) rfl (by decide) (by decide)
  · exact jin (i := 1) rfl (by decide) (by decide)
  · exact jin (i := 2) rfl (by decide) (by decide)
theorem g_X7_lay : vg_G k_X7_lay sp_X7_lay := by
  intro av σ h
  unfold sp_X7_lay at h ⊢
  split at h
  next b i c r =>
    refine vg_run (cuts := []) m_X7_lay 20 ?_
    exact And.intro (mm_in3 0 (Or.inl rfl)) (And.intro (mm_in3 1 (Or.inr (Or.inl rfl))) (And.intro (mm_in3 2 (Or.inr (Or.inr rfl))) (And.intro rfl rfl)))
  next b i c r =>
    refine vg_run (cuts := []) m_X7_lay 20 ?_
    exact And.intro (mm_in3 0 (Or.inl rfl)) (And.intro (mm_in3 1 (Or.inr (Or.inl rfl))) (And.intro (mm_in3 2 (Or.inr (Or.inr rfl))) (And.intro rfl rfl)))
  next => exact h.elim
theorem c_X7_lay {nm : List vgN} (hcl : vg_closed mm_shp nm) : vg_MetF ww_tb [] mm_shp nm mm_cl mm_tyl yX7_lay cX7_lay 3 none 0 sp_X7_lay := vg_met hcl (by decide +kernel) rfl (s_X7_lay hcl) w_X7_lay g_X7_lay
