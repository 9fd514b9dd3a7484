-- words of the tables, and what stands at each place of the methods' code (laid by program)
/-! the law's own steps: an int of the script -/
section LA
variable {p : Program} {l : Launch} {e : Env} {R : Room} {s : State} {m : MethodId} {args : Array Value} {below : List Frame} {meth : Method} {c : Code} {H : Heap} {Q : State → Prop} {ck cn : Nat}
variable {cc : ByteArray} {nL pc : Nat} {ls : Array Slot} {rest : List Value}
theorem lq_arg {b : Nat} {xs : Nat → Int32} {j : Nat} {n : Int} {lv : List (Nat × Value)} (hx : p.tables.exec = Jvm.exec) (hcb : c.code = cc) (hX : va_X b 6 xs s s.heap) (hbl : b < s.heap.size) (hS : va_S (fun q => s.heap.size ≤ q) s.heap H []) (hl : lv_has ls nL lv) (h0 : (0, Value.ref b) ∈ lv) (h5 : (5, Value.int 0) ∈ lv)
    (d0 : decode cc pc = .ok (.aload_n 0, 1)) (d1 : decode cc (pc + 1) = .ok (.iload 5, 2)) (d3 : decode cc (pc + 3) = .ok (.iconst n, 1)) (d4 : decode cc (pc + 4) = .ok (.iadd, 1)) (d5 : decode cc (pc + 5) = .ok (.iaload, 1)) (hn : Int32.ofInt n = nI j) (hj : j < 6)
    (k : W p l e R s m args below meth c H [] ck cn Q (F0 m (pc + 6) ls (.int (xs j) :: rest))) : W p l e R s m args below meth c H [] ck cn Q (F0 m pc ls rest) := by
  refine lv_aload_n hx hcb d0 rfl (hl.2.2 _ h0) ?_
  refine lv_iload hx hcb d1 (hl.2.2 _ h5) ?_
  refine lv_iconst hx hcb d3 hn ?_
  refine lv_iadd hx hcb d4 ?_
  rw [Int32.zero_add]
  refine va_sld (A := fun q => s.heap.size ≤ q) hx hcb hX hbl (show ¬ s.heap.size ≤ b by omega) hS (mm_i j 6 _ rfl hj (by decide)) d5 ?_
  rw [nI_clamp (show j < 2147483648 by omega)]
  exact k
end LA
