-- words of the tables, and what stands at each place of the methods' code (laid by program)
/-! .. and its strings -/
theorem lq_str {args : Array Value} {s : State} (hl : ∀ w ∈ lw_tbl, w.before args s = true) (hg : (Jvm.Cond.and given_1 narrow_1).before args s = true) : ∀ z ∈ ww_strs, ∃ sa, vk_R z.1 z.2.1 z.2.2 sa s := by
  have hf := flat_of_before _ hg
  intro z hz
  have h1 : (ww_strs.all (fun z => decide (Cond.exactly (.string z.1 z.2.1) "java/lang/String" ∈ flatC (Jvm.Cond.and given_1 narrow_1)) && decide (Cond.stringRef z.1 z.2.1 z.2.2 ∈ lw_tbl))) = true := by decide +kernel
  have h2 := List.all_eq_true.mp h1 z hz
  simp only [Bool.and_eq_true, decide_eq_true_eq] at h2
  obtain ⟨a, c, cell, k, h, _⟩ := Cond.exactly_spec (hf _ h2.1)
  exact ⟨a, vk_R.of (hl _ h2.2) h⟩
