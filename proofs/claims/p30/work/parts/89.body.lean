-- words of the tables, and what stands at each place of the methods' code (laid by program)
/-! the law's body -/
theorem whole_start {p : Program} {e : Env} {s : State} {m : MethodId} {below : List Frame} {meth : Method} {c : Code} (l : Launch) (hflags : l.flags = flags0) {b L : Nat} {xs : Nat → Int32} (hL : L ≤ 260) (C0 : lw_At p s m meth c b L xs) : W p l e room_1 s m #[Value.ref b] below meth c s.heap [] 0 0 (lw_Z below #[Value.ref b] s) (entryFrame m ([Value.ref b] : List Value).toArray 21) := by
  obtain ⟨hx, hcb, hr, hml, hown, hl0, hX, hbl, hlocks, hgv⟩ := C0
  have hts := lq_tb hl0
  have hnx := lq_nx hl0
  have hnw := lq_nw hl0
  have hnt := lq_nt hl0
  obtain ⟨Dx, tx, htx, hKx⟩ := lq_Kx hts hl0
  obtain ⟨D, cI, cG, cH, hK⟩ := lq_Kt hts hl0
  have hl := lv_entry ([Value.ref b] : List Value) (n := 21) (show (1 : Nat) ≤ 21 by decide)
  rw [lg_entry_eq]
  have loop : ∀ (q j : Nat), q + j = 3 → ∀ (H : Heap) (locs : List Loc) (ls : Array Slot) (ck cn : Nat), va_S (fun q => s.heap.size ≤ q) s.heap H locs → lv_has ls 21 [(1, .int (nI j)), (0, .ref b)] → ck + 504 * q ≤ 600086 → cn + 4396 * q ≤ 7301442 → W p l e room_1 s m #[Value.ref b] below meth c H locs ck cn (lw_Z below #[Value.ref b] s) (F0 m 2 ls []) := by
    intro q
    induction q with
    | zero =>
      intro j hj H locs ls ck cn hS hl2 h1 h2
      have ej : j = 3 := by omega
      subst ej
      refine lv_iload_n hx hcb dw_2 rfl (lv_at hl2 0 rfl) ?_
      refine lv_iconst (v := nI 3) hx hcb dw_3 rfl ?_
      refine lv_icmp_ge (tgt := 545) hx hcb dw_4 (by decide) (fun _ => ?_) (fun y => absurd (by decide) y)
      refine lv_iconst (v := 1) hx hcb dw_545 rfl ?_
      refine va_forget hS.2.2 ?_
      refine W.widen (k := 600086) (n := 7301442) (by omega) (by omega) ?_
      exact lw_ret hx hcb hr hlocks dw_546
    | succ q ih =>
      intro j hj H locs ls ck cn hS hl2 h1 h2
      refine lv_iload_n hx hcb dw_2 rfl (lv_at hl2 0 rfl) ?_
      refine lv_iconst (v := nI 3) hx hcb dw_3 rfl ?_
      refine lv_icmp_ge (tgt := 545) hx hcb dw_4 (by decide) (fun y => absurd y (nI_ge (a := j) (b := 3) (by omega) (by decide))) (fun _ => ?_)
      have hL9 : L < 1000 := by omega
      have hj3 : j < 3 := by omega
      have r1 : ck + 1 + 173 + 1 + 173 + 78 + 78 + 504 * q ≤ 600086 := by omega
      have r2 : cn + 15 + 1750 + 15 + 1750 + 433 + 433 + 4396 * q ≤ 7301442 := by omega
      have r3 : ck + 1 + 173 + 1 + 173 + 78 + 78 ≤ 600086 := Nat.le_trans (Nat.le_add_right _ _) r1
      have r4 : cn + 15 + 1750 + 15 + 1750 + 433 + 433 ≤ 7301442 := Nat.le_trans (Nat.le_add_right _ _) r2
      refine kl_start (j := j) hj3 hx hcb hml hown hts hK hnt hnw hKx hnx htx hX hbl hL9 hS hl2 r3 r4 (fun t o ax ay H1 locs1 ls1 v k tm hr2 C h hJ ht hk hl3 => ?_)
      refine kl_loop 8 0 rfl H1 locs1 ls1 v tm k C h hJ (by omega) (by omega) hl3 r3 r4 (fun H2 locs2 ls2 v2 tm2 k2 h2 hJ2 t2 q2 hl4 => ?_)
      refine kl_end C h2 hJ2 (by omega) (by omega) hl4 r3 r4 (fun H3 locs3 ls3 hS3 hl5 => ?_)
      refine lv_iinc (k := 0) (v := nI (j + 1)) (lv' := [(1, .int (nI (j + 1))), (0, .ref b)]) hx hcb dw_539 hl5 rfl (nI_succ j).symm (by decide) rfl (fun ls6 hl6 => ?_)
      refine lv_goto (tgt := 2) hx hcb dw_542 (by decide) ?_
      exact ih (j + 1) (by omega) H3 locs3 ls6 _ _ hS3 hl6 r1 r2
  refine lv_iconst (v := nI 0) hx hcb dw_0 rfl ?_
  refine lv_istore_n (i := 1) (lv' := [(1, .int (nI 0)), (0, .ref b)]) hx hcb dw_1 rfl hl (by decide) rfl (fun ls1 hl1 => ?_)
  exact loop 3 0 rfl s.heap [] ls1 0 0 va_S.rf hl1 (by decide) (by decide)
