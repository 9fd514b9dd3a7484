-- words of the tables, and what stands at each place of the methods' code (laid by program)
/-! what is told leaves the counts right -/
theorem jGroup_c {v : jN} {c p t d r : Int32} (hw : jWf v) (h : jGc v < 8) : jWf (jGroup v c p t d r) ∧ jGc (jGroup v c p t d r) = jGc v + 1 ∧ jSc (jGroup v c p t d r) = jSc v ∧ jWc (jGroup v c p t d r) = jWc v ∧ ∀ j, jNc (jGroup v c p t d r) j = jNc v j := by
  have e4 : jGroup v c p t d r 1 0 4 = nI (jGc v + 1) := by
    unfold jGroup
    rw [jUp_at]
    exact jinc hw.1.1
  have ne : ∀ k i s, ¬ k = 9 → ¬ (k = 1 ∧ i = 0 ∧ s = 4) → jGroup v c p t d r k i s = v k i s := fun k i s h1 h2 => by
    unfold jGroup
    have e : ∀ (u : jN) (x : Int32), jUp u 1 0 4 x k i s = u k i s := fun u x => if_neg h2
    rw [e, jUp_k h1, jUp_k h1, jUp_k h1, jUp_k h1, jUp_k h1]
  have c4 : jGc (jGroup v c p t d r) = jGc v + 1 := (congrArg Int32.toNatClampNeg e4).trans (jcl rfl (by omega))
  have c5 : jSc (jGroup v c p t d r) = jSc v := congrArg Int32.toNatClampNeg (ne 1 0 5 (by decide) (by decide))
  have c6 : jWc (jGroup v c p t d r) = jWc v := congrArg Int32.toNatClampNeg (ne 1 0 6 (by decide) (by decide))
  have cj : ∀ j, jNc (jGroup v c p t d r) j = jNc v j := fun j => congrArg Int32.toNatClampNeg (ne 5 j 3 (by decide) (by omega))
  refine ⟨?_, c4, c5, c6, cj⟩
  unfold jWf
  rw [c4, c5, c6, cj, cj, e4, ne 1 0 5 (by decide) (by decide), ne 1 0 6 (by decide) (by decide), ne 5 0 3 (by decide) (by decide), ne 5 1 3 (by decide) (by decide)]
  exact ⟨⟨rfl, by omega⟩, hw.2⟩
theorem jShel_c {v : jN} {c r : Int32} (hw : jWf v) (h : jSc v < 3) : jWf (jShel v c r) ∧ jGc (jShel v c r) = jGc v ∧ jSc (jShel v c r) = jSc v + 1 ∧ jWc (jShel v c r) = jWc v ∧ ∀ j, jNc (jShel v c r) j = jNc v j := by
  have e4 : jShel v c r 1 0 5 = nI (jSc v + 1) := by
    unfold jShel
    rw [jUp_at]
    exact jinc hw.2.1.1
  have ne : ∀ k i s, ¬ k = 10 → ¬ (k = 1 ∧ i = 0 ∧ s = 5) → jShel v c r k i s = v k i s := fun k i s h1 h2 => by
    unfold jShel
    have e : ∀ (u : jN) (x : Int32), jUp u 1 0 5 x k i s = u k i s := fun u x => if_neg h2
    rw [e, jUp_k h1, jUp_k h1]
  have c5 : jSc (jShel v c r) = jSc v + 1 := (congrArg Int32.toNatClampNeg e4).trans (jcl rfl (by omega))
  have c4 : jGc (jShel v c r) = jGc v := congrArg Int32.toNatClampNeg (ne 1 0 4 (by decide) (by decide))
  have c6 : jWc (jShel v c r) = jWc v := congrArg Int32.toNatClampNeg (ne 1 0 6 (by decide) (by decide))
  have cj : ∀ j, jNc (jShel v c r) j = jNc v j := fun j => congrArg Int32.toNatClampNeg (ne 5 j 3 (by decide) (by omega))
  refine ⟨?_, c4, c5, c6, cj⟩
  unfold jWf
  rw [c4, c5, c6, cj, cj, e4, ne 1 0 4 (by decide) (by decide), ne 1 0 6 (by decide) (by decide), ne 5 0 3 (by decide) (by decide), ne 5 1 3 (by decide) (by decide)]
  exact ⟨hw.1, ⟨rfl, by omega⟩, hw.2.2⟩
theorem jAddS_c {v : jN} {j : Nat} {c r : Int32} (hj : j = 0 ∨ j = 1) (hw : jWf v) (h : jNc v j < 5) : jWf (jAddS v j c r) ∧ jGc (jAddS v j c r) = jGc v ∧ jSc (jAddS v j c r) = jSc v ∧ jWc (jAddS v j c r) = jWc v ∧ jNc (jAddS v j c r) j = jNc v j + 1 ∧ ∀ i, ¬ i = j → jNc (jAddS v j c r) i = jNc v i := by
  have e3 : v 5 j 3 = nI (jNc v j) := by rcases hj with rfl | rfl; exact hw.2.2.2.1.1; exact hw.2.2.2.2.1
  have e4 : jAddS v j c r 5 j 3 = nI (jNc v j + 1) := by
    unfold jAddS
    rw [jUp_at]
    exact jinc e3
  have ne1 : ∀ i s, jAddS v j c r 1 i s = v 1 i s := fun i s => by
    unfold jAddS
    rw [jUp_k (by decide), jUp_k (by decide), jUp_k (by decide), jUp_k (by decide)]
  have ne5 : ∀ i s, ¬ i = j → jAddS v j c r 5 i s = v 5 i s := fun i s h2 => by
    unfold jAddS
    rw [jUp_i h2, jUp_k (by decide), jUp_k (by decide), jUp_k (by decide)]
  have c0 : jNc (jAddS v j c r) j = jNc v j + 1 := (congrArg Int32.toNatClampNeg e4).trans (jcl rfl (by omega))
  have c4 : jGc (jAddS v j c r) = jGc v := congrArg Int32.toNatClampNeg (ne1 0 4)
  have c5 : jSc (jAddS v j c r) = jSc v := congrArg Int32.toNatClampNeg (ne1 0 5)
  have c6 : jWc (jAddS v j c r) = jWc v := congrArg Int32.toNatClampNeg (ne1 0 6)
  have cj : ∀ i, ¬ i = j → jNc (jAddS v j c r) i = jNc v i := fun i h2 => congrArg Int32.toNatClampNeg (ne5 i 3 h2)
  refine ⟨?_, c4, c5, c6, c0, cj⟩
  unfold jWf
  rw [c4, c5, c6, ne1 0 4, ne1 0 5, ne1 0 6]
  rcases hj with rfl | rfl
  · rw [c0, cj 1 (by decide), e4, ne5 1 3 (by decide)]
    exact ⟨hw.1, hw.2.1, hw.2.2.1, ⟨rfl, by omega⟩, hw.2.2.2.2⟩
  · rw [c0, cj 0 (by decide), e4, ne5 0 3 (by decide)]
    exact ⟨hw.1, hw.2.1, hw.2.2.1, hw.2.2.2.1, ⟨rfl, by omega⟩⟩
/-! what is drawn and told -/
def jFT (xs : Nat → Int32) (L k : Nat) : Int32 × Nat := if jDr xs L k (nI 3) = 0 then (jDr xs L (k + 1) (nI 3), k + 2) else (0, k + 1)
def jFD (xs : Nat → Int32) (L k : Nat) : Int32 := if jDr xs L k (nI 5) = 0 then 1 else 0
def jFG (xs : Nat → Int32) (L : Nat) (q : jN × Nat) : jN × Nat := (jGroup q.1 (jDr xs L q.2 (nI 16)) (1 + jDr xs L (q.2 + 1) (nI 60)) (jFT xs L (q.2 + 2)).1 (jFD xs L (jFT xs L (q.2 + 2)).2) (jDr xs L ((jFT xs L (q.2 + 2)).2 + 1) (nI 2)), (jFT xs L (q.2 + 2)).2 + 2)
def jFS (xs : Nat → Int32) (L : Nat) (q : jN × Nat) : jN × Nat := (jAddS (jAddS (jShel q.1 (jDr xs L q.2 (nI 16)) (20 + jDr xs L (q.2 + 1) (nI 120))) 0 (jDr xs L (q.2 + 2) (nI 16)) (jDr xs L (q.2 + 3) (nI 4))) 1 (jDr xs L (q.2 + 4) (nI 16)) (jDr xs L (q.2 + 5) (nI 4)), q.2 + 6)
theorem jFT_le (xs : Nat → Int32) (L k : Nat) : k < (jFT xs L k).2 ∧ (jFT xs L k).2 ≤ k + 2 := by
  unfold jFT
  split
  · exact ⟨by show k < k + 2; omega, by show k + 2 ≤ k + 2; omega⟩
  · exact ⟨by show k < k + 1; omega, by show k + 1 ≤ k + 2; omega⟩
theorem jFT_in (xs : Nat → Int32) (L k : Nat) : ¬ (jFT xs L k).1 < 0 ∧ (jFT xs L k).1 ≤ 2 := by
  unfold jFT
  split
  · obtain ⟨j, hj, e⟩ := jDr_in xs L (k + 1) (N := 3) (by decide) (by decide)
    show ¬ jDr xs L (k + 1) (nI 3) < 0 ∧ jDr xs L (k + 1) (nI 3) ≤ 2
    rw [e]
    exact ⟨nI_pos (by omega), nI_le (a := j) (b := 2) (by omega) (by decide)⟩
  · exact ⟨show ¬ (0 : Int32) < 0 by decide, show (0 : Int32) ≤ 2 by decide⟩
theorem jFD_01 (xs : Nat → Int32) (L k : Nat) : jFD xs L k = 0 ∨ jFD xs L k = 1 := by
  unfold jFD
  split
  · exact Or.inr rfl
  · exact Or.inl rfl
theorem jDr_01 (xs : Nat → Int32) (L k : Nat) : jDr xs L k (nI 2) = 0 ∨ jDr xs L k (nI 2) = 1 := by
  obtain ⟨j, hj, e⟩ := jDr_in xs L k (N := 2) (by decide) (by decide)
  rw [e]
  rcases (show j = 0 ∨ j = 1 by omega) with rfl | rfl
  · exact Or.inl rfl
  · exact Or.inr rfl
/-- a drawn number and more -/
theorem jDr_add (xs : Nat → Int32) (L k : Nat) {N a : Nat} (h0 : 0 < N) (hN : N < 1000) (ha : a < 1000) : ∃ j, a ≤ j ∧ j < a + N ∧ nI a + jDr xs L k (nI N) = nI j := by
  obtain ⟨j, hj, e⟩ := jDr_in xs L k (N := N) h0 (by omega)
  refine ⟨a + j, by omega, by omega, ?_⟩
  rw [e]
  exact (Int32.ofNat_add a j).symm
theorem jDr_3 (xs : Nat → Int32) (L k : Nat) : ¬ jDr xs L k (nI 4) < 0 ∧ jDr xs L k (nI 4) ≤ 3 := by
  obtain ⟨j, hj, e⟩ := jDr_in xs L k (N := 4) (by decide) (by decide)
  rw [e]
  exact ⟨nI_pos (by omega), nI_le (a := j) (b := 3) (by omega) (by decide)⟩
theorem jFG_c (xs : Nat → Int32) (L : Nat) {q : jN × Nat} (hw : jWf q.1) (h : jGc q.1 < 8) : (jWf (jFG xs L q).1 ∧ jGc (jFG xs L q).1 = jGc q.1 + 1 ∧ jSc (jFG xs L q).1 = jSc q.1 ∧ jWc (jFG xs L q).1 = jWc q.1 ∧ ∀ j, jNc (jFG xs L q).1 j = jNc q.1 j) ∧ q.2 ≤ (jFG xs L q).2 ∧ (jFG xs L q).2 ≤ q.2 + 7 := by
  refine ⟨jGroup_c hw h, ?_⟩
  have := jFT_le xs L (q.2 + 2)
  show q.2 ≤ (jFT xs L (q.2 + 2)).2 + 2 ∧ (jFT xs L (q.2 + 2)).2 + 2 ≤ q.2 + 7
  omega
/-- the whole -/
def jFound (xs : Nat → Int32) (L : Nat) (q : jN × Nat) : jN × Nat := jIt (fun _ => jFS xs L) 2 (jIt (fun _ => jFG xs L) 5 q)
