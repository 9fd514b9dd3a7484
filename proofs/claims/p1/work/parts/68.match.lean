-- words of the tables, and what stands at each place of the methods' code (laid by program)
/-! the wrappers and the reference say the same of a fresh object and a fresh model -/
theorem hm_group (v0 v1 v2 v3 v4 : Int32) : hc_group (pf_X5_group [.inr (0, 0, 0), .inl (.int v0), .inl (.int v1), .inl (.int v2), .inl (.int v3), .inl (.int v4)]).1 = (mf_X7_group [.inr (40, 0, 0), .inl (.int v0), .inl (.int v1), .inl (.int v2), .inl (.int v3), .inl (.int v4)]).1 ∧ (pf_X5_group [.inr (0, 0, 0), .inl (.int v0), .inl (.int v1), .inl (.int v2), .inl (.int v3), .inl (.int v4)]).2 = (mf_X7_group [.inr (40, 0, 0), .inl (.int v0), .inl (.int v1), .inl (.int v2), .inl (.int v3), .inl (.int v4)]).2 := by
  have e1 : pf_X5_group [.inr (0, 0, 0), .inl (.int v0), .inl (.int v1), .inl (.int v2), .inl (.int v3), .inl (.int v4)] = (if wp_c v0 then (if wp_r v1 (1) (99) then (if wp_r v2 (0) (2) then (0, 0) else (2, 0)) else (2, 0)) else (1, 0)) := rfl
  have e2 : mf_X7_group [.inr (40, 0, 0), .inl (.int v0), .inl (.int v1), .inl (.int v2), .inl (.int v3), .inl (.int v4)] = (if wp_c v0 then (if wp_r v1 1 99 then (if wp_r v2 0 2 then (0, 0) else (2, 0)) else (2, 0)) else (1, 0)) := rfl
  rw [e1, e2]
  repeat' split
  all_goals first | exact ⟨rfl, rfl⟩ | contradiction
theorem hm_trust (v0 v1 : Int32) : hc_trust (pf_X5_trust [.inr (0, 0, 0), .inl (.int v0), .inl (.int v1)]).1 = (mf_X7_trust [.inr (40, 0, 0), .inl (.int v0), .inl (.int v1)]).1 ∧ (pf_X5_trust [.inr (0, 0, 0), .inl (.int v0), .inl (.int v1)]).2 = (mf_X7_trust [.inr (40, 0, 0), .inl (.int v0), .inl (.int v1)]).2 := by
  have e1 : pf_X5_trust [.inr (0, 0, 0), .inl (.int v0), .inl (.int v1)] = (1, 0) := rfl
  have e2 : mf_X7_trust [.inr (40, 0, 0), .inl (.int v0), .inl (.int v1)] = (1, 0) := rfl
  rw [e1, e2]
  repeat' split
  all_goals first | exact ⟨rfl, rfl⟩ | contradiction
theorem hm_shelter (v0 v1 : Int32) : hc_shelter (pf_X5_shelter [.inr (0, 0, 0), .inl (.int v0), .inl (.int v1)]).1 = (mf_X7_shelter [.inr (40, 0, 0), .inl (.int v0), .inl (.int v1)]).1 ∧ (pf_X5_shelter [.inr (0, 0, 0), .inl (.int v0), .inl (.int v1)]).2 = (mf_X7_shelter [.inr (40, 0, 0), .inl (.int v0), .inl (.int v1)]).2 := by
  have e1 : pf_X5_shelter [.inr (0, 0, 0), .inl (.int v0), .inl (.int v1)] = (if wp_c v0 then (if wp_r v1 (1) (200) then (0, 0) else (2, 0)) else (1, 0)) := rfl
  have e2 : mf_X7_shelter [.inr (40, 0, 0), .inl (.int v0), .inl (.int v1)] = (if wp_c v0 then (if wp_r v1 (1) (200) then (0, 0) else (2, 0)) else (1, 0)) := rfl
  rw [e1, e2]
  repeat' split
  all_goals first | exact ⟨rfl, rfl⟩ | contradiction
theorem hm_siren (v0 v1 : Int32) : hc_siren (pf_X5_siren [.inr (0, 0, 0), .inl (.int v0), .inl (.int v1)]).1 = (mf_X7_siren [.inr (40, 0, 0), .inl (.int v0), .inl (.int v1)]).1 ∧ (pf_X5_siren [.inr (0, 0, 0), .inl (.int v0), .inl (.int v1)]).2 = (mf_X7_siren [.inr (40, 0, 0), .inl (.int v0), .inl (.int v1)]).2 := by
  have e1 : pf_X5_siren [.inr (0, 0, 0), .inl (.int v0), .inl (.int v1)] = (if wp_c v0 then (if wp_r v1 (0) (3) then (0, 0) else (2, 0)) else (1, 0)) := rfl
  have e2 : mf_X7_siren [.inr (40, 0, 0), .inl (.int v0), .inl (.int v1)] = (if wp_c v0 then (if wp_r v1 (0) (3) then (0, 0) else (2, 0)) else (1, 0)) := rfl
  rw [e1, e2]
  repeat' split
  all_goals first | exact ⟨rfl, rfl⟩ | contradiction
theorem hm_mast (v0 v1 : Int32) : hc_mast (pf_X5_mast [.inr (0, 0, 0), .inl (.int v0), .inl (.int v1)]).1 = (mf_X7_mast [.inr (40, 0, 0), .inl (.int v0), .inl (.int v1)]).1 ∧ (pf_X5_mast [.inr (0, 0, 0), .inl (.int v0), .inl (.int v1)]).2 = (mf_X7_mast [.inr (40, 0, 0), .inl (.int v0), .inl (.int v1)]).2 := by
  have e1 : pf_X5_mast [.inr (0, 0, 0), .inl (.int v0), .inl (.int v1)] = (if wp_c v0 then (if wp_r v1 (0) (3) then (0, 0) else (2, 0)) else (1, 0)) := rfl
  have e2 : mf_X7_mast [.inr (40, 0, 0), .inl (.int v0), .inl (.int v1)] = (if wp_c v0 then (if wp_r v1 (0) (3) then (0, 0) else (2, 0)) else (1, 0)) := rfl
  rw [e1, e2]
  repeat' split
  all_goals first | exact ⟨rfl, rfl⟩ | contradiction
theorem hm_power (v0 v1 : Int32) : hc_power (pf_X5_power [.inr (0, 0, 0), .inl (.int v0), .inl (.int v1)]).1 = (mf_X7_power_ [.inr (40, 0, 0), .inl (.int v0), .inl (.int v1)]).1 ∧ (pf_X5_power [.inr (0, 0, 0), .inl (.int v0), .inl (.int v1)]).2 = (mf_X7_power_ [.inr (40, 0, 0), .inl (.int v0), .inl (.int v1)]).2 := by
  have e1 : pf_X5_power [.inr (0, 0, 0), .inl (.int v0), .inl (.int v1)] = (if wp_c v0 then (0, 0) else (1, 0)) := rfl
  have e2 : mf_X7_power_ [.inr (40, 0, 0), .inl (.int v0), .inl (.int v1)] = (if wp_c v0 then (0, 0) else (1, 0)) := rfl
  rw [e1, e2]
  repeat' split
  all_goals first | exact ⟨rfl, rfl⟩ | contradiction
theorem hm_lines (v0 : Int32) : hc_lines (pf_X5_lines [.inr (0, 0, 0), .inl (.int v0)]).1 = (mf_X7_lines [.inr (40, 0, 0), .inl (.int v0)]).1 ∧ (pf_X5_lines [.inr (0, 0, 0), .inl (.int v0)]).2 = (mf_X7_lines [.inr (40, 0, 0), .inl (.int v0)]).2 := by
  have e1 : pf_X5_lines [.inr (0, 0, 0), .inl (.int v0)] = (if wp_r v0 (0) (3) then (0, 1) else (2, 0)) := rfl
  have e2 : mf_X7_lines [.inr (40, 0, 0), .inl (.int v0)] = (if wp_r v0 (0) (3) then (0, 1) else (1, 0)) := rfl
  rw [e1, e2]
  repeat' split
  all_goals first | exact ⟨rfl, rfl⟩ | contradiction
theorem hm_danger (v0 v1 : Int32) : hc_danger (pf_X5_danger [.inr (0, 0, 0), .inl (.int v0), .inl (.int v1)]).1 = (mf_X7_danger [.inr (40, 0, 0), .inl (.int v0), .inl (.int v1)]).1 ∧ (pf_X5_danger [.inr (0, 0, 0), .inl (.int v0), .inl (.int v1)]).2 = (mf_X7_danger [.inr (40, 0, 0), .inl (.int v0), .inl (.int v1)]).2 := by
  have e1 : pf_X5_danger [.inr (0, 0, 0), .inl (.int v0), .inl (.int v1)] = (if wp_c v0 then (if wp_r v1 (-1) (999) then (0, (-1)) else (2, 0)) else (1, 0)) := rfl
  have e2 : mf_X7_danger [.inr (40, 0, 0), .inl (.int v0), .inl (.int v1)] = (if wp_c v0 then (if wp_r v1 (-1) (999) then (0, (-1)) else (2, 0)) else (1, 0)) := rfl
  rw [e1, e2]
  repeat' split
  all_goals first | exact ⟨rfl, rfl⟩ | contradiction
theorem hm_key (v0 v1 : Int32) : hc_key (pf_X5_key [.inr (0, 0, 0), .inl (.int v0), .inl (.int v1)]).1 = (mf_X7_key [.inr (40, 0, 0), .inl (.int v0), .inl (.int v1)]).1 ∧ (pf_X5_key [.inr (0, 0, 0), .inl (.int v0), .inl (.int v1)]).2 = (mf_X7_key [.inr (40, 0, 0), .inl (.int v0), .inl (.int v1)]).2 := by
  have e1 : pf_X5_key [.inr (0, 0, 0), .inl (.int v0), .inl (.int v1)] = (if wp_o v0 then (0, (jIn 3 v0)) else (1, 0)) := rfl
  have e2 : mf_X7_key [.inr (40, 0, 0), .inl (.int v0), .inl (.int v1)] = (if wp_o v0 then (0, (jIn 3 v0)) else (1, 0)) := rfl
  rw [e1, e2]
  repeat' split
  all_goals first | exact ⟨rfl, rfl⟩ | contradiction
theorem hm_alert (v0 v1 v2 : Int32) : hc_alert (pf_X5_alert [.inr (0, 0, 0), .inl (.int v0), .inl (.int v1), .inl (.int v2)]).1 = (mf_X7_alert [.inr (40, 0, 0), .inl (.int v0), .inl (.int v1), .inl (.int v2)]).1 ∧ (pf_X5_alert [.inr (0, 0, 0), .inl (.int v0), .inl (.int v1), .inl (.int v2)]).2 = (mf_X7_alert [.inr (40, 0, 0), .inl (.int v0), .inl (.int v1), .inl (.int v2)]).2 := by
  have e1 : pf_X5_alert [.inr (0, 0, 0), .inl (.int v0), .inl (.int v1), .inl (.int v2)] = (if wp_w v0 v1 v2 then (0, 0) else (2, 0)) := rfl
  have e2 : mf_X7_alert [.inr (40, 0, 0), .inl (.int v0), .inl (.int v1), .inl (.int v2)] = (if wp_w v0 v1 v2 then (0, 0) else (1, 0)) := rfl
  rw [e1, e2]
  repeat' split
  all_goals first | exact ⟨rfl, rfl⟩ | contradiction
theorem hm_update (v0 v1 v2 v3 : Int32) : hc_update (pf_X5_update [.inr (0, 0, 0), .inl (.int v0), .inl (.int v1), .inl (.int v2), .inl (.int v3)]).1 = (mf_X7_update [.inr (40, 0, 0), .inl (.int v0), .inl (.int v1), .inl (.int v2), .inl (.int v3)]).1 ∧ (pf_X5_update [.inr (0, 0, 0), .inl (.int v0), .inl (.int v1), .inl (.int v2), .inl (.int v3)]).2 = (mf_X7_update [.inr (40, 0, 0), .inl (.int v0), .inl (.int v1), .inl (.int v2), .inl (.int v3)]).2 := by
  have e1 : pf_X5_update [.inr (0, 0, 0), .inl (.int v0), .inl (.int v1), .inl (.int v2), .inl (.int v3)] = (1, 0) := rfl
  have e2 : mf_X7_update [.inr (40, 0, 0), .inl (.int v0), .inl (.int v1), .inl (.int v2), .inl (.int v3)] = (1, 0) := rfl
  rw [e1, e2]
  repeat' split
  all_goals first | exact ⟨rfl, rfl⟩ | contradiction
theorem hm_cancel (v0 : Int32) : hc_cancel (pf_X5_cancel [.inr (0, 0, 0), .inl (.int v0)]).1 = (mf_X7_cancel [.inr (40, 0, 0), .inl (.int v0)]).1 ∧ (pf_X5_cancel [.inr (0, 0, 0), .inl (.int v0)]).2 = (mf_X7_cancel [.inr (40, 0, 0), .inl (.int v0)]).2 := by
  have e1 : pf_X5_cancel [.inr (0, 0, 0), .inl (.int v0)] = (1, 0) := rfl
  have e2 : mf_X7_cancel [.inr (40, 0, 0), .inl (.int v0)] = (1, 0) := rfl
  rw [e1, e2]
  repeat' split
  all_goals first | exact ⟨rfl, rfl⟩ | contradiction
theorem hm_approve (v0 v1 : Int32) : hc_approve (pf_X5_approve [.inr (0, 0, 0), .inl (.int v0), .inl (.int v1)]).1 = (mf_X7_approve [.inr (40, 0, 0), .inl (.int v0), .inl (.int v1)]).1 ∧ (pf_X5_approve [.inr (0, 0, 0), .inl (.int v0), .inl (.int v1)]).2 = (mf_X7_approve [.inr (40, 0, 0), .inl (.int v0), .inl (.int v1)]).2 := by
  have e1 : pf_X5_approve [.inr (0, 0, 0), .inl (.int v0), .inl (.int v1)] = (1, 0) := rfl
  have e2 : mf_X7_approve [.inr (40, 0, 0), .inl (.int v0), .inl (.int v1)] = (1, 0) := rfl
  rw [e1, e2]
  repeat' split
  all_goals first | exact ⟨rfl, rfl⟩ | contradiction
theorem hm_send (v0 : Int32) : hc_send (pf_X5_send [.inr (0, 0, 0), .inl (.int v0)]).1 = (mf_X7_send [.inr (40, 0, 0), .inl (.int v0)]).1 ∧ (pf_X5_send [.inr (0, 0, 0), .inl (.int v0)]).2 = (mf_X7_send [.inr (40, 0, 0), .inl (.int v0)]).2 := by
  have e1 : pf_X5_send [.inr (0, 0, 0), .inl (.int v0)] = (1, 0) := rfl
  have e2 : mf_X7_send [.inr (40, 0, 0), .inl (.int v0)] = (1, 0) := rfl
  rw [e1, e2]
  repeat' split
  all_goals first | exact ⟨rfl, rfl⟩ | contradiction
theorem hm_pass (v0 : Int32) : hc_pass (pf_X5_pass [.inr (0, 0, 0), .inl (.int v0)]).1 = (mf_X7_pass [.inr (40, 0, 0), .inl (.int v0)]).1 ∧ (pf_X5_pass [.inr (0, 0, 0), .inl (.int v0)]).2 = (mf_X7_pass [.inr (40, 0, 0), .inl (.int v0)]).2 := by
  have e1 : pf_X5_pass [.inr (0, 0, 0), .inl (.int v0)] = (if wp_r v0 (1) (60) then (0, 0) else (2, 0)) := rfl
  have e2 : mf_X7_pass [.inr (40, 0, 0), .inl (.int v0)] = (if wp_r v0 (1) (60) then (0, 0) else (1, 0)) := rfl
  rw [e1, e2]
  repeat' split
  all_goals first | exact ⟨rfl, rfl⟩ | contradiction
theorem hm_until (v0 : Int32) : hc_until (pf_X5_until [.inr (0, 0, 0), .inl (.int v0)]).1 = (mf_X7_until [.inr (40, 0, 0), .inl (.int v0)]).1 ∧ (pf_X5_until [.inr (0, 0, 0), .inl (.int v0)]).2 = (mf_X7_until [.inr (40, 0, 0), .inl (.int v0)]).2 := by
  have e1 : pf_X5_until [.inr (0, 0, 0), .inl (.int v0)] = (if wp_r v0 (0) (23) then (0, (wu v0)) else (2, 0)) := rfl
  have e2 : mf_X7_until [.inr (40, 0, 0), .inl (.int v0)] = (if wp_r v0 (0) (23) then (0, (wu v0)) else (1, 0)) := rfl
  rw [e1, e2]
  repeat' split
  all_goals first | exact ⟨rfl, rfl⟩ | contradiction
theorem hm_ofGroup (v0 v1 : Int32) : hc_ofGroup (pf_X5_ofGroup [.inr (0, 0, 0), .inl (.int v0), .inl (.int v1)]).1 = (mf_X7_ofGroup [.inr (40, 0, 0), .inl (.int v0), .inl (.int v1)]).1 ∧ (pf_X5_ofGroup [.inr (0, 0, 0), .inl (.int v0), .inl (.int v1)]).2 = (mf_X7_ofGroup [.inr (40, 0, 0), .inl (.int v0), .inl (.int v1)]).2 := by
  have e1 : pf_X5_ofGroup [.inr (0, 0, 0), .inl (.int v0), .inl (.int v1)] = (1, 0) := rfl
  have e2 : mf_X7_ofGroup [.inr (40, 0, 0), .inl (.int v0), .inl (.int v1)] = (1, 0) := rfl
  rw [e1, e2]
  repeat' split
  all_goals first | exact ⟨rfl, rfl⟩ | contradiction
theorem hm_heard (v0 v1 v2 : Int32) : hc_heard (pf_X5_heard [.inr (0, 0, 0), .inl (.int v0), .inl (.int v1), .inl (.int v2)]).1 = (mf_X7_heard [.inr (40, 0, 0), .inl (.int v0), .inl (.int v1), .inl (.int v2)]).1 ∧ (pf_X5_heard [.inr (0, 0, 0), .inl (.int v0), .inl (.int v1), .inl (.int v2)]).2 = (mf_X7_heard [.inr (40, 0, 0), .inl (.int v0), .inl (.int v1), .inl (.int v2)]).2 := by
  have e1 : pf_X5_heard [.inr (0, 0, 0), .inl (.int v0), .inl (.int v1), .inl (.int v2)] = (1, 0) := rfl
  have e2 : mf_X7_heard [.inr (40, 0, 0), .inl (.int v0), .inl (.int v1), .inl (.int v2)] = (1, 0) := rfl
  rw [e1, e2]
  repeat' split
  all_goals first | exact ⟨rfl, rfl⟩ | contradiction
theorem hm_ofWarning (v0 v1 : Int32) : hc_ofWarning (pf_X5_ofWarning [.inr (0, 0, 0), .inl (.int v0), .inl (.int v1)]).1 = (mf_X7_ofWarning [.inr (40, 0, 0), .inl (.int v0), .inl (.int v1)]).1 ∧ (pf_X5_ofWarning [.inr (0, 0, 0), .inl (.int v0), .inl (.int v1)]).2 = (mf_X7_ofWarning [.inr (40, 0, 0), .inl (.int v0), .inl (.int v1)]).2 := by
  have e1 : pf_X5_ofWarning [.inr (0, 0, 0), .inl (.int v0), .inl (.int v1)] = (1, 0) := rfl
  have e2 : mf_X7_ofWarning [.inr (40, 0, 0), .inl (.int v0), .inl (.int v1)] = (1, 0) := rfl
  rw [e1, e2]
  repeat' split
  all_goals first | exact ⟨rfl, rfl⟩ | contradiction
theorem hm_inForce (v0 : Int32) : hc_inForce (pf_X5_inForce [.inr (0, 0, 0), .inl (.int v0)]).1 = (mf_X7_inForce [.inr (40, 0, 0), .inl (.int v0)]).1 ∧ (pf_X5_inForce [.inr (0, 0, 0), .inl (.int v0)]).2 = (mf_X7_inForce [.inr (40, 0, 0), .inl (.int v0)]).2 := by
  have e1 : pf_X5_inForce [.inr (0, 0, 0), .inl (.int v0)] = (if wp_c v0 then (0, (-1)) else (1, 0)) := rfl
  have e2 : mf_X7_inForce [.inr (40, 0, 0), .inl (.int v0)] = (if wp_c v0 then (0, (-1)) else (1, 0)) := rfl
  rw [e1, e2]
  repeat' split
  all_goals first | exact ⟨rfl, rfl⟩ | contradiction
theorem hm_roomIn (v0 : Int32) : hc_roomIn (pf_X5_roomIn [.inr (0, 0, 0), .inl (.int v0)]).1 = (mf_X7_roomIn [.inr (40, 0, 0), .inl (.int v0)]).1 ∧ (pf_X5_roomIn [.inr (0, 0, 0), .inl (.int v0)]).2 = (mf_X7_roomIn [.inr (40, 0, 0), .inl (.int v0)]).2 := by
  have e1 : pf_X5_roomIn [.inr (0, 0, 0), .inl (.int v0)] = (1, 0) := rfl
  have e2 : mf_X7_roomIn [.inr (40, 0, 0), .inl (.int v0)] = (1, 0) := rfl
  rw [e1, e2]
  repeat' split
  all_goals first | exact ⟨rfl, rfl⟩ | contradiction
theorem hm_chain (v0 v1 : Int32) : hc_chain (pf_X5_chain [.inr (0, 0, 0), .inl (.int v0), .inl (.int v1)]).1 = (mf_X7_chain [.inr (40, 0, 0), .inl (.int v0), .inl (.int v1)]).1 ∧ (pf_X5_chain [.inr (0, 0, 0), .inl (.int v0), .inl (.int v1)]).2 = (mf_X7_chain [.inr (40, 0, 0), .inl (.int v0), .inl (.int v1)]).2 := by
  have e1 : pf_X5_chain [.inr (0, 0, 0), .inl (.int v0), .inl (.int v1)] = (1, 0) := rfl
  have e2 : mf_X7_chain [.inr (40, 0, 0), .inl (.int v0), .inl (.int v1)] = (1, 0) := rfl
  rw [e1, e2]
  repeat' split
  all_goals first | exact ⟨rfl, rfl⟩ | contradiction
theorem hm_many (v0 : Int32) : hc_many (pf_X5_many [.inr (0, 0, 0), .inl (.int v0)]).1 = (mf_X7_many [.inr (40, 0, 0), .inl (.int v0)]).1 ∧ (pf_X5_many [.inr (0, 0, 0), .inl (.int v0)]).2 = (mf_X7_many [.inr (40, 0, 0), .inl (.int v0)]).2 := by
  have e1 : pf_X5_many [.inr (0, 0, 0), .inl (.int v0)] = if wp_m v0 then (0, wmv v0) else (2, 0) := rfl
  have e2 : mf_X7_many [.inr (40, 0, 0), .inl (.int v0)] = (if wp_m v0 then (0, (wmv v0)) else (1, 0)) := rfl
  rw [e1, e2]
  repeat' split
  all_goals first | exact ⟨rfl, rfl⟩ | contradiction
theorem hm_safeIn (v0 v1 : Int32) : hc_safeIn (pf_X5_safeIn [.inr (0, 0, 0), .inl (.int v0), .inl (.int v1)]).1 = (mf_X7_safeIn [.inr (40, 0, 0), .inl (.int v0), .inl (.int v1)]).1 ∧ (pf_X5_safeIn [.inr (0, 0, 0), .inl (.int v0), .inl (.int v1)]).2 = (mf_X7_safeIn [.inr (40, 0, 0), .inl (.int v0), .inl (.int v1)]).2 := by
  have e1 : pf_X5_safeIn [.inr (0, 0, 0), .inl (.int v0), .inl (.int v1)] = (1, 0) := rfl
  have e2 : mf_X7_safeIn [.inr (40, 0, 0), .inl (.int v0), .inl (.int v1)] = (1, 0) := rfl
  rw [e1, e2]
  repeat' split
  all_goals first | exact ⟨rfl, rfl⟩ | contradiction
theorem hm_sirenWould (v0 v1 v2 : Int32) : hc_sirenWould (pf_X5_sirenWould [.inr (0, 0, 0), .inl (.int v0), .inl (.int v1), .inl (.int v2)]).1 = (mf_X7_sirenWould [.inr (40, 0, 0), .inl (.int v0), .inl (.int v1), .inl (.int v2)]).1 ∧ (pf_X5_sirenWould [.inr (0, 0, 0), .inl (.int v0), .inl (.int v1), .inl (.int v2)]).2 = (mf_X7_sirenWould [.inr (40, 0, 0), .inl (.int v0), .inl (.int v1), .inl (.int v2)]).2 := by
  have e1 : pf_X5_sirenWould [.inr (0, 0, 0), .inl (.int v0), .inl (.int v1), .inl (.int v2)] = if wp_c v0 then (if wp_r v1 0 3 then (if wp_r v2 1 60 then (0, 0) else (2, 0)) else (2, 0)) else (1, 0) := rfl
  have e2 : mf_X7_sirenWould [.inr (40, 0, 0), .inl (.int v0), .inl (.int v1), .inl (.int v2)] = (if wp_c v0 then (if wp_r v1 0 3 then (if wp_r v2 1 60 then (0, 0) else (2, 0)) else (2, 0)) else (1, 0)) := rfl
  rw [e1, e2]
  repeat' split
  all_goals first | exact ⟨rfl, rfl⟩ | contradiction
