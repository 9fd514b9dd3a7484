-- words of the tables, and what stands at each place of the methods' code (laid by program)
theorem q_500 : Cond.instantiable RX1 14 ∈ ww_tb := by decide +kernel
theorem q_501 : Cond.instantiable RX2 4 ∈ ww_tb := by decide +kernel
theorem q_502 : Cond.instantiable RX3 2 ∈ ww_tb := by decide +kernel
theorem q_503 : Cond.instantiable RX4 8 ∈ ww_tb := by decide +kernel
theorem q_504 : Cond.instantiable RX0 13 ∈ ww_tb := by decide +kernel
/-! the law's entry: the classes and the arrays of both sides are known -/
def lq_okA (ty : FieldType) (s : State) : Prop := ∃ cA : ClassId, ArrOfT s cA ty ∧ va_RA s cA ty
theorem lq_prim {args : Array Value} {s : State} {ty : FieldType} (h : (Cond.arrayClass ty).before args s = true) (hr : ∀ (U : State) (c : ClassId), U.vm.findClass ("[" ++ ty.toString) = some c → va_RA U c ty) : lq_okA ty s := by
  obtain ⟨cA, kA, comp, h1, h2, h3⟩ := Cond.arrayClass_spec h
  exact ⟨cA, fun N z => ⟨(fun k h => by cases h), kA, h2, comp, h3⟩, hr s cA h1⟩
theorem lq_obj {args : Array Value} {s : State} {C : String} (h : (Cond.arrayOver (.object C)).before args s = true) : lq_okA (.object C) s := by
  obtain ⟨comp, c, k, h1, h2, h3, h4, h5⟩ := Cond.arrayOver_spec h
  exact ⟨c, fun N z => ⟨(fun k h => by cases h), k, h3, comp, h4⟩, k, comp, h3, h4, h1, h5⟩
theorem lq_arr2 {args : Array Value} {s : State} {t : FieldType} (h : (Cond.arrayOver (.array t)).before args s = true) : lq_okA (.array t) s := by
  obtain ⟨comp, c, k, h1, h3, h4, h5⟩ := Cond.arrayOver_specA h
  exact ⟨c, fun N z => ⟨(fun k h => by cases h), k, h3, comp, h4⟩, h5⟩
theorem lq_tys {s : State} : ∀ (L : List FieldType), (∀ ty ∈ L, lq_okA ty s) → ∃ tys : List (ClassId × FieldType), tys.map (fun q => q.2) = L ∧ ∀ (k : Nat) (q : ClassId × FieldType), tys[k]? = some q → ArrOfT s q.1 q.2 ∧ va_RA s q.1 q.2
  | [], _ => ⟨[], rfl, fun k q h => by simp at h⟩
  | ty :: L, h => by
    obtain ⟨cA, h1, h2⟩ := h ty List.mem_cons_self
    obtain ⟨tys, e, ht⟩ := lq_tys L (fun t ht => h t (List.mem_cons_of_mem _ ht))
    refine ⟨(cA, ty) :: tys, by rw [List.map_cons, e], fun k q hq => ?_⟩
    cases k with
    | zero =>
      have hq' : some (cA, ty) = some q := hq
      cases hq'
      exact ⟨h1, h2⟩
    | succ k => exact ht k q hq
theorem lq_cls {s : State} {cl : List vw_C} (h : ∀ q ∈ cl, ∃ (cC : ClassId) (iS : Nat → Nat), u_Kn s q.1 q.2.1 q.2.2 cC iS) : ∃ D : va_G, ∀ (c : Nat) (q : vw_C), cl[c]? = some q → u_Kn s q.1 q.2.1 q.2.2 (D.1 c) (D.2 c) := by
  have h2 : ∀ c : Nat, ∃ z : ClassId × (Nat → Nat), ∀ q : vw_C, cl[c]? = some q → u_Kn s q.1 q.2.1 q.2.2 z.1 z.2 := by
    intro c
    cases hc : cl[c]? with
    | none => exact ⟨(0, fun _ => 0), fun q hq => by cases hq⟩
    | some q =>
      obtain ⟨cC, iS, hk⟩ := h q (List.mem_of_getElem? hc)
      exact ⟨(cC, iS), fun q' hq => by cases hq; exact hk⟩
  exact ⟨(fun c => (Classical.choose (h2 c)).1, fun c => (Classical.choose (h2 c)).2), fun c q hq => Classical.choose_spec (h2 c) q hq⟩
theorem lq_K {s : State} {cl : List vw_C} {tyl : List FieldType} (h1 : ∀ q ∈ cl, ∃ (cC : ClassId) (iS : Nat → Nat), u_Kn s q.1 q.2.1 q.2.2 cC iS) (h2 : ∀ ty ∈ tyl, lq_okA ty s) : ∃ (D : va_G) (tys : List (ClassId × FieldType)), tys.map (fun q => q.2) = tyl ∧ va_K D cl tys s := by
  obtain ⟨D, hD⟩ := lq_cls h1
  obtain ⟨tys, e, ht⟩ := lq_tys tyl h2
  exact ⟨D, tys, e, hD, ht⟩
theorem lq_Kx {args : Array Value} {s : State} (hts : ∀ w ∈ ww_tb, w.before args s = true) (hl : ∀ w ∈ lw_tbl, w.before args s = true) : ∃ (D : va_G) (tys : List (ClassId × FieldType)), tys.map (fun q => q.2) = ww_tyl ∧ va_K D ww_cl tys s := by
  refine lq_K (List.forall_mem_cons.mpr ⟨u_known hts ww_inX5 (hts _ q_438), List.forall_mem_cons.mpr ⟨u_known hts ww_inX1 (hts _ q_500), List.forall_mem_cons.mpr ⟨u_known hts ww_inX2 (hts _ q_501), List.forall_mem_cons.mpr ⟨u_known hts ww_inX3 (hts _ q_502), List.forall_mem_cons.mpr ⟨u_known hts ww_inX4 (hts _ q_503), List.forall_mem_cons.mpr ⟨u_known hts ww_inX0 (hts _ q_504), fun _ h => nomatch h⟩⟩⟩⟩⟩⟩) ?_
  refine List.forall_mem_cons.mpr ⟨lq_prim (hl (.arrayClass .int) (by decide +kernel)) (fun _ _ h => h), List.forall_mem_cons.mpr ⟨lq_prim (hl (.arrayClass .boolean) (by decide +kernel)) (fun _ _ h => h), List.forall_mem_cons.mpr ⟨lq_obj (hl (.arrayOver (.object "WarnWave$Group")) (by decide +kernel)), List.forall_mem_cons.mpr ⟨lq_obj (hl (.arrayOver (.object "WarnWave$Shelter")) (by decide +kernel)), List.forall_mem_cons.mpr ⟨lq_obj (hl (.arrayOver (.object "WarnWave$Warning")) (by decide +kernel)), fun _ h => nomatch h⟩⟩⟩⟩⟩
theorem lq_tb {args : Array Value} {s : State} (hl : ∀ w ∈ lw_tbl, w.before args s = true) : ∀ w ∈ ww_tb, w.before args s = true := fun w h => hl w (List.mem_filter.mp h).1
theorem lq_nx {args : Array Value} {s : State} (hl : ∀ w ∈ lw_tbl, w.before args s = true) : vh_nx wh_nx s := by
  refine ⟨fun q hq => ?_, fun C hC => ?_, fun _ => ?_⟩
  · have h1 : (wh_nx.1.all (fun q => decide (Cond.methodLinkNest q.1 q.2.1 q.2.2.1 q.2.2.2 ∈ lw_tbl))) = true := by decide +kernel
    exact va_Nw.of rfl (hl _ (of_decide_eq_true (List.all_eq_true.mp h1 q hq)))
  · have h1 : (wh_nx.2.1.all (fun C => decide (Cond.arrayOver (.object C) ∈ lw_tbl))) = true := by decide +kernel
    exact va_AO.of (hl _ (of_decide_eq_true (List.all_eq_true.mp h1 C hC)))
  · exact (show (Cond.arrayOver (.array .int)).before args s = true from hl (.arrayOver (.array .int)) (by decide +kernel))
theorem lq_nw {args : Array Value} {s : State} (hl : ∀ w ∈ lw_tbl, w.before args s = true) : vg_nw ww_nw s := by
  intro q hq
  have h1 : (ww_nw.all (fun q => decide (Cond.methodLinkNest q.1 q.2.1 q.2.2.1 q.2.2.2 ∈ lw_tbl))) = true := by decide +kernel
  exact va_Nw.of rfl (hl _ (of_decide_eq_true (List.all_eq_true.mp h1 q hq)))
theorem lq_nt {args : Array Value} {s : State} (hl : ∀ w ∈ lw_tbl, w.before args s = true) : vg_nw tw_nw s := by
  intro q hq
  have h1 : (tw_nw.all (fun q => decide (Cond.methodLinkNest q.1 q.2.1 q.2.2.1 q.2.2.2 ∈ lw_tbl))) = true := by decide +kernel
  exact va_Nw.of rfl (hl _ (of_decide_eq_true (List.all_eq_true.mp h1 q hq)))
theorem lq_Kt {args : Array Value} {s : State} (hts : ∀ w ∈ ww_tb, w.before args s = true) (hl : ∀ w ∈ lw_tbl, w.before args s = true) : ∃ (D : va_G) (cI cG cH : ClassId), tK D cI cG cH s := by
  obtain ⟨D, hD⟩ := lq_cls (s := s) (cl := tClT) (List.forall_mem_cons.mpr ⟨u_known hts tt_inX6 (hts _ q_488), fun _ h => nomatch h⟩)
  have a2 := hl (.arrayOver (.array .int)) (by decide +kernel)
  have a3 := hl (.arrayOver (.array (.array .int))) (by decide +kernel)
  obtain ⟨cI, kI, compI, i1, i2, i3⟩ := Cond.arrayClass_spec (hl (.arrayClass .int) (by decide +kernel))
  obtain ⟨g0, cG, kG, g1, g3, g4, g5⟩ := Cond.arrayOver_specA a2
  obtain ⟨h0, cH, kH, h1, h3, h4, h5⟩ := Cond.arrayOver_specA a3
  have e1 : g0 = cI := Option.some.inj (g1.symm.trans i1)
  have e2 : h0 = cG := Option.some.inj (h1.symm.trans g5)
  subst e1
  subst e2
  refine ⟨D, g0, h0, cH, ⟨hD, fun k q hq => ?_⟩, ⟨kG, g3, g4⟩, ⟨kH, h3, h4⟩, g1, h1, a2, a3⟩
  match k, hq with
  | 0, hq =>
    cases hq
    exact ⟨fun N z => ⟨(fun k h => by cases h), kI, i2, compI, i3⟩, i1⟩
  | 1, hq =>
    cases hq
    exact ⟨fun N z => ⟨(fun k h => by cases h), kG, g3, g0, g4⟩, g5⟩
  | 2, hq =>
    cases hq
    exact ⟨fun N z => ⟨(fun k h => by cases h), kH, h3, h0, h4⟩, h5⟩
  | k + 3, hq => exact absurd hq (by simp)
