-- words of the tables, and what stands at each place of the methods' code (laid by program)
/-! .. and through what is told at first -/
theorem wy_9s : ∀ g, g < 8 → wy_σ (9, 0, g) 1 = 0 := by decide +kernel
theorem wy_11s : ∀ i, i < 12 → wy_σ (11, 0, i) 5 = 0 ∧ wy_σ (11, 0, i) 6 = -1 := by decide +kernel
theorem wy_9 : ∀ b, b < 2 → ∀ g, g < 8 → wy_σ (9, b, g) 0 = 0 ∧ wy_σ (9, b, g) 4 = 0 ∧ wy_σ (9, b, g) 5 = 0 := by decide +kernel
theorem wy_10 : ∀ b, b < 2 → ∀ g, g < 3 → wy_σ (10, b, g) 0 = 0 := by decide +kernel
theorem wy_11 : ∀ i, i < 12 → wy_σ (11, 0, i) 7 = 0 := by decide +kernel
theorem wy_8 : ∀ n ∈ ww_nm, n.1 = 8 → n.2.2 < 2 := by decide +kernel
theorem wy_8v : ∀ j, j < 2 → ∀ s, s < 5 → wy_σ (8, 0, j) s = 0 ∨ wy_σ (8, 0, j) s = 1 := by decide +kernel
theorem wy_wf : jWf (jV wy_σ 0) := by
  unfold jWf jGc jSc jWc jNc jV
  decide +kernel
theorem wy_ct : jGc (jV wy_σ 0) = 0 ∧ jSc (jV wy_σ 0) = 0 ∧ jWc (jV wy_σ 0) = 0 ∧ jNc (jV wy_σ 0) 0 = 0 ∧ jNc (jV wy_σ 0) 1 = 0 := by
  unfold jGc jSc jWc jNc jV
  decide +kernel
theorem wy_1 : wy_σ (1, 0, 0) 0 = 0 ∧ wy_σ (1, 0, 0) 2 = 3 := by decide +kernel
theorem wy_pl (b : Nat) (hb : b < 2) : jPl (jV wy_σ b) := ⟨fun g hg => jin (x := jV wy_σ b 9 g 0) (i := 0) (wy_9 b hb g hg).1 (by decide) (by decide), fun g hg => jin (x := jV wy_σ b 10 g 0) (i := 0) (wy_10 b hb g hg) (by decide) (by decide)⟩
theorem wy_bo : jBo (jV wy_σ 0) := by
  refine ⟨fun g hg => ⟨Or.inl (wy_9 0 (by decide) g hg).2.1, Or.inl (wy_9 0 (by decide) g hg).2.2⟩, fun i hi => Or.inl (wy_11 i hi), fun j s hs => ?_⟩
  show wy_σ (8, 0, j) s = 0 ∨ wy_σ (8, 0, j) s = 1
  by_cases h : ((8, 0, j) : vgN) ∈ ww_nm
  · exact wy_8v j (wy_8 _ h rfl) s hs
  · exact Or.inl (congrFun (show wy_σ (8, 0, j) = fun _ => 0 from if_neg h) s)
theorem wy_inv : jInv (jV wy_σ 0) 0 := by
  refine ⟨wy_wf, wy_bo, wy_pl 0 (by decide), fun g hg => ?_, wy_1.2, wy_1.1, fun i _ hi => wy_11s i hi⟩
  rw [show jV wy_σ 0 9 g 1 = 0 from wy_9s g hg]
  decide
/-- what stands of a land when all that is told at first is told -/
def jI (v : jN) (t : Nat) : Prop := jInv v t ∧ jGc v = 5 ∧ jNc v 0 = 2
theorem jFG_inv (xs : Nat → Int32) (L : Nat) {q : jN × Nat} (h : jInv q.1 0) (h8 : jGc q.1 < 8) : jInv (jFG xs L q).1 0 := by
  obtain ⟨P, h1, h2, e⟩ := jDr_add xs L (q.2 + 1) (N := 60) (a := 1) (by decide) (by decide) (by decide)
  exact jInv.group h h8 (jDr_vp xs L q.2 (by decide) (by decide)) (P := P) ⟨e, by omega⟩ (jFD_01 xs L _) (jDr_01 xs L _)
theorem jFG_it (xs : Nat → Int32) (L : Nat) {q : jN × Nat} (h : jInv q.1 0) (h0 : jGc q.1 = 0) : ∀ n, n ≤ 5 → jInv (jIt (fun _ => jFG xs L) n q).1 0 ∧ jGc (jIt (fun _ => jFG xs L) n q).1 = n ∧ jSc (jIt (fun _ => jFG xs L) n q).1 = jSc q.1 ∧ jWc (jIt (fun _ => jFG xs L) n q).1 = jWc q.1 ∧ (∀ j, jNc (jIt (fun _ => jFG xs L) n q).1 j = jNc q.1 j) ∧ (jIt (fun _ => jFG xs L) n q).2 ≤ q.2 + 7 * n
  | 0, _ => ⟨h, h0, rfl, rfl, fun _ => rfl, Nat.le_refl _⟩
  | n + 1, hn => by
    obtain ⟨a1, a2, a3, a4, a5, a6⟩ := jFG_it xs L h h0 n (by omega)
    obtain ⟨Z, hZ⟩ : ∃ Z, Z = jIt (fun _ => jFG xs L) n q := ⟨_, rfl⟩
    rw [← hZ] at a1 a2 a3 a4 a5 a6
    have e : jIt (fun _ => jFG xs L) (n + 1) q = jFG xs L Z := by rw [hZ]; rfl
    rw [e]
    have C := jFG_c xs L a1.1 (by omega)
    have I := jFG_inv xs L a1 (by omega)
    obtain ⟨Y, hY⟩ : ∃ Y, Y = jFG xs L Z := ⟨_, rfl⟩
    rw [← hY] at C I ⊢
    exact ⟨I, by omega, C.1.2.2.1.trans a3, C.1.2.2.2.1.trans a4, fun j => (C.1.2.2.2.2 j).trans (a5 j), by omega⟩
theorem jFS_inv (xs : Nat → Int32) (L : Nat) {q : jN × Nat} (h : jInv q.1 0) (h3 : jSc q.1 < 3) (n0 : jNc q.1 0 < 5) (n1 : jNc q.1 1 < 5) : jInv (jFS xs L q).1 0 ∧ jGc (jFS xs L q).1 = jGc q.1 ∧ jSc (jFS xs L q).1 = jSc q.1 + 1 ∧ jWc (jFS xs L q).1 = jWc q.1 ∧ jNc (jFS xs L q).1 0 = jNc q.1 0 + 1 ∧ jNc (jFS xs L q).1 1 = jNc q.1 1 + 1 ∧ (jFS xs L q).2 = q.2 + 6 := by
  have i1 := jInv.shel (r := 20 + jDr xs L (q.2 + 1) (nI 120)) h h3 (jDr_vp xs L q.2 (N := 16) (by decide) (by decide))
  have c1 := jShel_c (c := jDr xs L q.2 (nI 16)) (r := 20 + jDr xs L (q.2 + 1) (nI 120)) h.1 h3
  obtain ⟨v1, hv1⟩ : ∃ v1, v1 = jShel q.1 (jDr xs L q.2 (nI 16)) (20 + jDr xs L (q.2 + 1) (nI 120)) := ⟨_, rfl⟩
  rw [← hv1] at i1 c1
  have m0 := c1.2.2.2.2 0
  have m1 := c1.2.2.2.2 1
  have i2 := jInv.addS (c := jDr xs L (q.2 + 2) (nI 16)) (r := jDr xs L (q.2 + 3) (nI 4)) i1 (Or.inl rfl) (by omega)
  have c2 := jAddS_c (c := jDr xs L (q.2 + 2) (nI 16)) (r := jDr xs L (q.2 + 3) (nI 4)) (j := 0) (Or.inl rfl) i1.1 (by omega)
  obtain ⟨v2, hv2⟩ : ∃ v2, v2 = jAddS v1 0 (jDr xs L (q.2 + 2) (nI 16)) (jDr xs L (q.2 + 3) (nI 4)) := ⟨_, rfl⟩
  rw [← hv2] at i2 c2
  have w1 := c2.2.2.2.2.2 1 (by decide)
  have i3 := jInv.addS (c := jDr xs L (q.2 + 4) (nI 16)) (r := jDr xs L (q.2 + 5) (nI 4)) i2 (Or.inr rfl) (by omega)
  have c3 := jAddS_c (c := jDr xs L (q.2 + 4) (nI 16)) (r := jDr xs L (q.2 + 5) (nI 4)) (j := 1) (Or.inr rfl) i2.1 (by omega)
  have w0 := c3.2.2.2.2.2 0 (by decide)
  have e : (jFS xs L q).1 = jAddS v2 1 (jDr xs L (q.2 + 4) (nI 16)) (jDr xs L (q.2 + 5) (nI 4)) := by rw [hv2, hv1]; rfl
  have e2 : (jFS xs L q).2 = q.2 + 6 := rfl
  rw [e, e2]
  obtain ⟨v3, hv3⟩ : ∃ v3, v3 = jAddS v2 1 (jDr xs L (q.2 + 4) (nI 16)) (jDr xs L (q.2 + 5) (nI 4)) := ⟨_, rfl⟩
  rw [← hv3] at i3 c3 w0 ⊢
  exact ⟨i3, by omega, by omega, by omega, by omega, by omega, rfl⟩
theorem jFound_I (xs : Nat → Int32) (L : Nat) {v : jN} {k : Nat} (h : jInv v 0) (hc : jGc v = 0 ∧ jSc v = 0 ∧ jWc v = 0 ∧ jNc v 0 = 0 ∧ jNc v 1 = 0) : jI (jFound xs L (v, k)).1 0 ∧ jWc (jFound xs L (v, k)).1 = 0 ∧ (jFound xs L (v, k)).2 ≤ k + 47 := by
  have a := jFG_it xs L (q := (v, k)) h hc.1 5 (Nat.le_refl _)
  obtain ⟨Z, hZ⟩ : ∃ Z, Z = jIt (fun _ => jFG xs L) 5 (v, k) := ⟨_, rfl⟩
  rw [← hZ] at a
  obtain ⟨a1, a2, a3, a4, a5, a6⟩ := a
  have b0 := a5 0
  have b1 := a5 1
  dsimp only at a3 a4 a6 b0 b1
  have e : jFound xs L (v, k) = jFS xs L (jFS xs L Z) := by rw [hZ]; rfl
  rw [e]
  have f1 := jFS_inv xs L (q := Z) a1 (by omega) (by omega) (by omega)
  obtain ⟨Y, hY⟩ : ∃ Y, Y = jFS xs L Z := ⟨_, rfl⟩
  rw [← hY] at f1 ⊢
  obtain ⟨f11, f12, f13, f14, f15, f16, f17⟩ := f1
  have f2 := jFS_inv xs L (q := Y) f11 (by omega) (by omega) (by omega)
  obtain ⟨X, hX⟩ : ∃ X, X = jFS xs L Y := ⟨_, rfl⟩
  rw [← hX] at f2 ⊢
  obtain ⟨f21, f22, f23, f24, f25, f26, f27⟩ := f2
  exact ⟨⟨f21, by omega, by omega⟩, by omega, by omega⟩
/-! .. and the law's own turns -/
theorem jI.ms {v : jN} {t : Nat} (h : jI v t) (n : Nat) : jI (jMs v n) (t + n) := ⟨h.1.ms n, (jMs_keep v n).gc.trans h.2.1, ((jMs_keep v n).nc 0).trans h.2.2⟩
theorem jI.danger {v : jN} {t : Nat} (h : jI v t) (c d : Int32) : jI (jDanger v c d) t := by
  have K : jKeep v (jDanger v c d) := jKeep.rf.up (by omega)
  exact ⟨h.1.danger c d, K.gc.trans h.2.1, (K.nc 0).trans h.2.2⟩
theorem jI.now {v : jN} {t t' : Nat} (h : jI v t) : jI (jUp v 1 0 0 (nI t')) t' := by
  have K : jKeep v (jUp v 1 0 0 (nI t')) := jKeep.rf.up (by omega)
  exact ⟨h.1.now, K.gc.trans h.2.1, (K.nc 0).trans h.2.2⟩
theorem jI.send {v : jN} {t : Nat} (h : jI v t) (h12 : jWc v < 12) (a d : Int32) : jI (jSendV v a d) t := ⟨(h.1.send h12 a d).1, (h.1.send h12 a d).2.1.trans h.2.1, (h.1.send h12 a d).2.2.trans h.2.2⟩
