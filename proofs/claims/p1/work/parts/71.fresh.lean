-- words of the tables, and what stands at each place of the methods' code (laid by program)
/-! what WarnWave() leaves is fresh -/
def wy_σ : vgS := fun n => if n ∈ ww_nm then wx_σ n else fun _ => 0
theorem wy_in {n : vgN} (h : n ∈ ww_nm) : wy_σ n = wx_σ n := if_pos h
theorem wy_8 : ∀ n ∈ ww_nm, n.1 = 8 → n.2.2 < 2 := by decide +kernel
theorem wy_8v : ∀ j, j < 2 → ∀ s, s < 5 → wy_σ (8, 0, j) s = 0 ∨ wy_σ (8, 0, j) s = 1 := by decide +kernel
theorem wy_9 : ∀ b, b < 2 → ∀ g, g < 8 → wy_σ (9, b, g) 0 = 0 ∧ wy_σ (9, b, g) 4 = 0 ∧ wy_σ (9, b, g) 5 = 0 := by decide +kernel
theorem wy_10 : ∀ b, b < 2 → ∀ g, g < 3 → wy_σ (10, b, g) 0 = 0 := by decide +kernel
theorem wy_11 : ∀ i, i < 12 → wy_σ (11, 0, i) 7 = 0 := by decide +kernel
theorem wy_wf : jWf (jV wy_σ 0) := by
  unfold jWf jGc jSc jWc jNc jV
  decide +kernel
theorem wy_ct : jGc (jV wy_σ 0) = 0 ∧ jSc (jV wy_σ 0) = 0 ∧ jWc (jV wy_σ 0) = 0 ∧ jNc (jV wy_σ 0) 0 = 0 ∧ jNc (jV wy_σ 0) 1 = 0 := by
  unfold jGc jSc jWc jNc jV
  decide +kernel
theorem wy_1 : (wy_σ (1, 0, 0) 0 = 0 ∧ wy_σ (1, 0, 0) 1 = 1 ∧ wy_σ (1, 0, 0) 2 = 3 ∧ wy_σ (1, 0, 0) 3 = 0) ∧ ∀ c, c < 16 → wy_σ (6, 0, 0) c = -1 := by decide +kernel
theorem wy_pl (b : Nat) (hb : b < 2) : jPl (jV wy_σ b) := ⟨fun g hg => mm_i 0 16 _ (wy_9 b hb g hg).1 (by decide) (by decide), fun g hg => mm_i 0 16 _ (wy_10 b hb g hg) (by decide) (by decide)⟩
theorem wy_bo : jBo (jV wy_σ 0) := by
  refine ⟨fun g hg => ⟨Or.inl (wy_9 0 (by decide) g hg).2.1, Or.inl (wy_9 0 (by decide) g hg).2.2⟩, fun i hi => Or.inl (wy_11 i hi), fun j s hs => ?_⟩
  show wy_σ (8, 0, j) s = 0 ∨ wy_σ (8, 0, j) s = 1
  by_cases h : ((8, 0, j) : vgN) ∈ ww_nm
  · exact wy_8v j (wy_8 _ h rfl) s hs
  · exact Or.inl (congrFun (show wy_σ (8, 0, j) = fun _ => 0 from if_neg h) s)
theorem wy_fr : wx_fr wy_σ := ⟨wy_wf, wy_ct, ⟨wy_bo, wy_pl 0 (by decide), wy_pl 1 (by decide)⟩, wy_1.1, wy_1.2⟩
