-- words of the tables, and what stands at each place of the methods' code (laid by program)
/-! what the law draws -/
def jBelow (v n : Int32) : Int32 := (v &&& 2147483647) - (v &&& 2147483647) / n * n
def jCell (xs : Nat → Int32) (L k : Nat) : Int32 := if k < L then xs k else 790386105 * (nI k + 3)
def jDr (xs : Nat → Int32) (L k : Nat) (n : Int32) : Int32 := jBelow ((jCell xs L (k % 24) >>> (nI (k / 24 % 8) &&& 31)) + 311 * nI k) n
theorem jBelow_in (v : Int32) {N : Nat} (h0 : 0 < N) (hN : N < 2 ^ 31) : ∃ j, j < N ∧ jBelow v (nI N) = nI j := by
  have e : v &&& 2147483647 = nI (v.toBitVec.toNat % 2 ^ 31) := pk_and v 31 (by decide)
  refine ⟨v.toBitVec.toNat % 2 ^ 31 % N, Nat.mod_lt _ h0, ?_⟩
  unfold jBelow
  rw [e]
  exact pk_rem (Nat.mod_lt _ (by decide)) h0 hN
theorem jDr_in (xs : Nat → Int32) (L k : Nat) {N : Nat} (h0 : 0 < N) (hN : N < 2 ^ 31) : ∃ j, j < N ∧ jDr xs L k (nI N) = nI j := jBelow_in _ h0 hN
theorem jDr_vp (xs : Nat → Int32) (L k : Nat) {N : Nat} (h0 : 0 < N) (hN : N < 2 ^ 31) : vp_in (jDr xs L k (nI N)) N := by
  obtain ⟨j, hj, e⟩ := jDr_in xs L k h0 hN
  rw [e]
  exact vp_in_nI hj hN
