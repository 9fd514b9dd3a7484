-- words of the tables, and what stands at each place of the methods' code (laid by program)
theorem dX7_thrown_0 : decode cX7_thrown 0 = .ok (.aload_n 0, 1) := by decide +kernel
theorem dX7_thrown_1 : decode cX7_thrown 1 = .ok (.getfield 20, 3) := by decide +kernel
theorem dX7_thrown_4 : decode cX7_thrown 4 = .ok (.ireturn, 1) := by decide +kernel
/-! thrown of the reference -/
def sp_X7_thrown : vgC := fun av σ => match av with
  | [.inr (40, 0, 0)] => (True, some (.inl (.int (σ (40, 0, 0) 0))), σ)
  | _ => (False, none, σ)
def k_X7_thrown : List (Nat × vgF) := [(0, vi_aload 0 1), (1, vi_get mm_shp 0 0 4), (4, vi_ret)]
set_option maxRecDepth 20000 in
theorem s_X7_thrown {nm : List vgN} (hcl : vg_closed mm_shp nm) : ∀ q ∈ k_X7_thrown, vg_Snd ww_tb [] mm_shp nm mm_cl mm_tyl cX7_thrown 1 RX7 (some .int) 0 q.1 q.2 := by
  refine vg_cons (vs_aload_n dX7_thrown_0 rfl rfl) ?_
  refine vg_cons (vs_getfield (T := TX7) dX7_thrown_1 rfl (by decide) mm_inX7 u_201 rfl) ?_
  refine vg_cons (vs_ireturn dX7_thrown_4 rfl) ?_
  exact fun _ h => absurd h List.not_mem_nil
theorem m_X7_thrown : vg_Code k_X7_thrown := fun q h => (s_X7_thrown (nm := []) (fun n hn => nomatch hn) q h).1

theorem w_X7_thrown : vg_Wd sp_X7_thrown 1 := by
  intro av σ h
  unfold sp_X7_thrown at h
  split at h
  · exact Nat.le_of_ble_eq_true rfl
  · exact h.elim
theorem g_X7_thrown : vg_G k_X7_thrown sp_X7_thrown := by
  intro av σ h
  unfold sp_X7_thrown at h ⊢
  split at h
  next =>
    refine vg_run (cuts := []) m_X7_thrown 20 ?_
    exact ⟨rfl, rfl⟩
  next => exact h.elim
theorem c_X7_thrown {nm : List vgN} (hcl : vg_closed mm_shp nm) : vg_MetF ww_tb [] mm_shp nm mm_cl mm_tyl yX7_thrown cX7_thrown 1 (some .int) 0 sp_X7_thrown := vg_met hcl (by decide +kernel) rfl (s_X7_thrown hcl) w_X7_thrown g_X7_thrown
