-- words of the tables, and what stands at each place of the methods' code (laid by program)
/-! the wrappers' contract, and how they end -/
abbrev wq_P (D : va_G) (tys : List (ClassId × FieldType)) (ad : vgN → Nat) (σ : vgS) (o : Nat) (cO : ClassId) (f0 : Nat → Int64) (sz : Nat) : State → Prop := fun U =>
  U.heap.size = sz ∧ va_P D ww_cl (vg_ws ww_shp ww_nm ad tys σ) U.heap ∧ va_K D ww_cl tys U ∧ va_D (fun _ => True) (vg_ws ww_shp ww_nm ad tys σ) ∧ vg_nw ww_nw U ∧ vm_XF ww_tbx ww_strs (wq_A ad sz o) U U.heap ∧ wq_N U ∧ va_K D [] [(cO, .long)] U ∧ va_P D [] (wq_O o cO f0) U.heap
def wq_Q (D : va_G) (ad : vgN → Nat) (o : Nat) (cO : ClassId) (sz : Nat) (cod val : Int32) : Array Value → State → Outcome → State → Prop := fun _ st oc t =>
  (oc = .returned (some (.int cod)) ∧ ∃ f : Nat → Int64, (cod = 0 → f 0 = val.toInt64) ∧ va_P D [] (wq_O o cO f) t.heap) ∧ va_F (wq_A ad sz o) st t
abbrev wq_rm (d : Nat) : Room := { frames := d, cells := 1, slots := 6, locals := 32 * d }
abbrev wq_X : String → State → State → Prop := fun _ _ _ => False
/-- a wrapper around a call on a fresh object that answers or throws pf -/
def wq_Wr (y : MethodName) (cc : ByteArray) (nL : Nat) (hh : List (Nat × Nat × Nat × Nat)) (d : Nat) (as : vgT) (cod val : Int32) : Prop :=
  ∀ (l : Launch) (D : va_G) (tys : List (ClassId × FieldType)) (ad : vgN → Nat) (sz : Nat) (σ : vgS) (o : Nat) (cO : ClassId) (f0 : Nat → Int64), l.stackTraces = false → tys.map (fun q => q.2) = ww_tyl → wx_fr σ → (∀ n ∈ ww_nm, ad n ≠ o) →
    vx_Met l y (.codeWith y cc nL (some .int) hh :: ww_tb) (wq_rm d) (va_Pc (.ref (ad (0, 0, 0)) :: (as.map (vg_cv ad) ++ [.ref o])) (wq_P D tys ad σ o cO f0 sz)) (wq_Q D ad o cO sz cod val) wq_X 1 6 (wq_A ad sz o)
section WE
variable {p : Program} {l : Launch} {e : Env} {R : Room} {s : State} {m : MethodId} {args : Array Value} {below : List Frame} {meth : Method} {c : Code} {H : Heap} {locs : List Loc}
variable {cc : ByteArray} {pc : Nat} {ls : Array Slot} {D : va_G} {ad : vgN → Nat} {o : Nat} {cO : ClassId} {f : Nat → Int64} {cod val : Int32}
/-- the end with a number -/
theorem wq_end (hx : p.tables.exec = Jvm.exec) (hb : c.code = cc) (hr : meth.sig.returnType = some .int) (hlocks : meth.locks = false) {n : Int} {v : Int32} (d1 : decode cc pc = .ok (.iconst n, 1)) (hv : Int32.ofInt n = v) (d2 : decode cc (pc + 1) = .ok (.ireturn, 1)) (hc : v = cod)
    (hf : cod = 0 → f 0 = val.toInt64) (hS : va_S (wq_A ad s.heap.size o) s.heap H locs) (hO : va_P D [] (wq_O o cO f) H) : W p l e R s m args below meth c H locs 1 6 (vx_MQ below (wq_Q D ad o cO s.heap.size cod val) wq_X args s 1 6 (wq_A ad s.heap.size o)) (F0 m pc ls []) := by
  refine lv_iconst hx hb d1 hv ?_
  subst hc
  refine vx_ret (W.iret hx hb hr (fun t ht _ => ⟨⟨rfl, f, hf, by rw [ht]; exact hO⟩, hS.F ht⟩) hS.2.2 d2 hlocks)
/-- a long is put into the row, and then the end -/
theorem wq_fin (hx : p.tables.exec = Jvm.exec) (hb : c.code = cc) (hr : meth.sig.returnType = some .int) (hlocks : meth.locks = false) {x : Int64} {off : Int} {E : Nat} (d2 : decode cc pc = .ok (.lastore, 1)) (d3 : decode cc (pc + 1) = .ok (.goto off, 3)) (ht : ((pc + 1 : Nat) : Int) + off = (E : Int)) (d4 : decode cc E = .ok (.iconst 0, 1)) (d5 : decode cc (E + 1) = .ok (.ireturn, 1))
    (hK : va_K D [] [(cO, .long)] s) (hv : x = val.toInt64) (hc : 0 = cod) (hS : va_S (wq_A ad s.heap.size o) s.heap H locs) (hO : va_P D [] (wq_O o cO f) H) : W p l e R s m args below meth c H locs 1 6 (vx_MQ below (wq_Q D ad o cO s.heap.size cod val) wq_X args s 1 6 (wq_A ad s.heap.size o)) (F0 m pc ls (.long x :: .int 0 :: .ref o :: [])) := by
  refine va_last (D := D) (A := wq_A ad s.heap.size o) hx hb hK hO (wq_Od (Or.inr rfl)) hS 0 0 (cA := cO) (n := 1) (f := f) rfl rfl (mm_i 0 1 0 rfl (by decide) (by decide)) d2 (fun H1 locs1 hP1 _ hS1 => ?_)
  refine lv_goto hx hb d3 ht ?_
  exact wq_end (f := vp_updL f 0 x) hx hb hr hlocks d4 rfl d5 hc (fun _ => hv) hS1 hP1
end WE
