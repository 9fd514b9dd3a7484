/-! throws: a method's own, and those of a callee that pass through; contracts; cells made between two stretches -/
def vm_mvB : Cond → Bool
  | .declares _ => true
  | .castable _ _ => true
  | _ => false
theorem vm_mv {w : Cond} (h : vm_mvB w = true) {s U : State} (hW : s.WarmedH U.vm) (hZ : va_Nw w s) : va_Nw w U := by
  cases w <;> first | exact absurd (show false = true from h) Bool.false_ne_true | exact va_Nw.warmD hW hZ | exact va_Nw.warmC hW hZ
theorem vm_mvT {w : Cond} (h : vm_mvB w = true) : w.onTables = true := by
  cases w <;> first | exact absurd (show false = true from h) Bool.false_ne_true | rfl
theorem vm_XF.call {tbx : List Cond} {strs : List (String × Nat × String)} {A A1 : Nat → Prop} {s U : State} {H : Heap} {locs : List Loc} (hm : tbx.all vm_mvB = true) (h : vm_XF tbx strs A s s.heap) (hS : va_S A s.heap H locs) (hA : ∀ q, A1 q → A q) (hU : U.heap = H) (hW : s.WarmedH U.vm) : vm_XF tbx strs A1 U U.heap := by
  refine ⟨fun w hw => vm_mv (List.all_eq_true.mp hm w hw) hW (h.1 w hw), ?_, ?_, fun z hz => ?_⟩
  · rw [hU]
    exact ((h.2.1.kept hS.2.1).moved hW.alike).narrow hA
  · rw [hU]
    exact ((h.2.2.1.kept hS.2.1).moved hW.alike).narrow hA
  · obtain ⟨sa, hsa⟩ := h.2.2.2 z hz
    exact ⟨sa, vk_R.warm hW hsa⟩
theorem vm_XF.blind {tbx : List Cond} {strs : List (String × Nat × String)} {A : Nat → Prop} {a : Array Value} {U : State} {g : JFrame} {mk : MethodId} (hm : tbx.all vm_mvB = true) (h : vm_XF tbx strs A U U.heap) : vm_XF tbx strs A (U.calling g mk a) (U.calling g mk a).heap :=
  ⟨fun w hw => va_Nw.same (u := U) (U := U.calling g mk a) (vm_mvT (List.all_eq_true.mp hm w hw)) rfl (h.1 w hw), vx_Zq.moved (u := U) (U := U.calling g mk a) (Vm.Alike.refl U.vm) h.2.1, vx_Zq.moved (u := U) (U := U.calling g mk a) (Vm.Alike.refl U.vm) h.2.2.1, fun z hz => (h.2.2.2 z hz).elim fun sa hsa => ⟨sa, vk_R.same (u := U) (U := U.calling g mk a) rfl hsa⟩⟩
def vm_rmx (d : Nat) : Room := { frames := d, cells := 1, slots := 6, locals := 32 * d }
def vm_Qx (shp : vgN → vgH) (nm : List vgN) (cl : List vw_C) (D : va_G) (tys : List (ClassId × FieldType)) (ad : vgN → Nat) (A : Nat → Prop) (P : vgO) : Array Value → State → Outcome → State → Prop := fun _ st oc t =>
  (∃ (r : Option vgV) (σ : vgS), oc = .returned (r.map (vg_cv ad)) ∧ P r σ ∧ (∀ x, r ≠ vm_th x) ∧ va_P D cl (vg_ws shp nm ad tys σ) t.heap) ∧ va_F A st t
def vm_XC (A : Nat → Prop) (P : vgO) : String → State → State → Prop := fun E st t => (∃ (x : Nat) (σ : vgS), E = vm_xn x ∧ P (vm_th x) σ) ∧ va_F A st t
/-- the contract of a method that may throw -/
def vm_MetX (tb tbx : List Cond) (strs : List (String × Nat × String)) (nw : List (String × Nat × MethodName × String)) (shp : vgN → vgH) (nm : List vgN) (cl : List vw_C) (tyl : List FieldType) (y : MethodName) (cc : ByteArray) (nL : Nat) (ret : Option FieldType) (d : Nat) (pre : vgT → vgS → Prop) (post : vgT → vgS → vgO) : Prop :=
  ∀ (l : Launch) (D : va_G) (tys : List (ClassId × FieldType)) (ad : vgN → Nat) (sz : Nat) (av : vgT) (σ : vgS), l.stackTraces = false → tys.map (fun q => q.2) = tyl → (∀ v ∈ av, vg_ok nm v) → pre av σ →
    vx_Met l y (.code y cc nL ret :: tb) (vm_rmx d) (va_Pc (av.map (vg_cv ad)) (fun U => U.heap.size = sz ∧ va_P D cl (vg_ws shp nm ad tys σ) U.heap ∧ va_K D cl tys U ∧ va_D (fun _ => True) (vg_ws shp nm ad tys σ) ∧ vg_nw nw U ∧ vm_XF tbx strs (vg_A nm ad sz) U U.heap)) (vm_Qx shp nm cl D tys ad (vg_A nm ad sz) (post av σ)) (vm_XC (vg_A nm ad sz) (post av σ)) 1 6 (vg_A nm ad sz)
theorem vm_rkV {cc : ByteArray} {ret : Option FieldType} {pc : Nat} {r : Option vgV} (h : vm_rk cc ret pc r) : ∀ x, r ≠ vm_th x := by
  intro x e
  subst e
  exact h
theorem vm_rkN {cc : ByteArray} {ret : Option FieldType} {pc : Nat} {r : Option vgV} {nm : List vgN} (h : vm_rk cc ret pc r) : ∀ v, r = some v → vg_ok nm v := by
  intro v e
  subst e
  cases v with
  | inl v => exact trivial
  | inr n => exact h.elim
section VME
variable {p : Program} {l : Launch} {e : Env} {R : Room} {s : State} {m : MethodId} {args : Array Value} {below : List Frame} {meth : Method} {c : Code} {H : Heap} {locs : List Loc} {Q : State → Prop}
/-- the return of a machine, whatever its end asks -/
theorem vm_leave {cc : ByteArray} {ret : Option FieldType} {pc : Nat} {r : Option vgV} {ad : vgN → Nat} {ls : Array Slot} {ck cn : Nat} {Qc : Array Value → State → Outcome → State → Prop} {A : Nat → Prop} (hx : p.tables.exec = Jvm.exec) (hb : c.code = cc) (hr : meth.sig.returnType = ret) (hlocks : meth.locks = false) (hk : vm_rk cc ret pc r) (hf : ∀ z ∈ locs, A z.base)
    (hq : ∀ t : State, t.heap = H → Qc args s (.returned (r.map (vg_cv ad))) t) : W p l e R s m args below meth c H locs ck cn (MQ below Qc args s ck cn A) (F0 m pc ls ((r.map (vg_cv ad)).toList)) := by
  cases r with
  | none => exact W.vret hx hb (hr.trans hk.2) (fun t ht hW => hq t ht) hf hk.1 hlocks
  | some v =>
    cases v with
    | inr n => exact hk.elim
    | inl v =>
      cases v with
      | int x =>
        rcases hk with hk | hk
        · exact W.iret (v := x) hx hb (hr.trans hk.2) (fun t ht hW => hq t ht) hf hk.1 hlocks
        · exact W.zret (v := x) hx hb (hr.trans hk.2.1) (by rcases hk.2.2 with rfl | rfl <;> rfl) (fun t ht hW => hq t ht) hf hk.1 hlocks
      | long x => exact W.lret (v := x) hx hb (hr.trans hk.2) (fun t ht hW => hq t ht) hf hk.1 hlocks
      | _ => exact hk.elim
end VME
set_option maxHeartbeats 1000000 in
theorem vm_metX {tb tbx : List Cond} {strs : List (String × Nat × String)} {nw : List (String × Nat × MethodName × String)} {shp : vgN → vgH} {nm : List vgN} {cl : List vw_C} {tyl : List FieldType} {y : MethodName} {cc : ByteArray} {nL : Nat} {own : String} {ret : Option FieldType} {d : Nat} {pre : vgT → vgS → Prop} {post : vgT → vgS → vgO} {code : List (Nat × vgF)}
    (hcl : vg_closed shp nm) (hy : plainName y.cls = true) (hown : y.cls = own) (hmv : tbx.all vm_mvB = true) (hs : ∀ q ∈ code, vm_Snd true tb tbx strs nw shp nm cl tyl cc nL own ret d q.1 q.2)
    (hw : ∀ av σ, pre av σ → vg_wd av ≤ nL) (go : ∀ av σ, pre av σ → vg_Go code (post av σ) 0 (vg_args 0 av) [] σ) : vm_MetX tb tbx strs nw shp nm cl tyl y cc nL ret d pre post := by
  intro l D tys ad sz av σ hlst hty hok hpre
  refine vx_ofW (cc := cc) (maxL := nL) (ret := ret) hy rfl ?_
  intro p e s m args below meth c s₁ B hml hxt hv
  obtain ⟨rfl, hsz, hP, hK, hD, hnw, hXF⟩ := hv
  have hx := B.exec
  have hb := B.bytes
  have hr := B.returns
  have hts : ∀ w ∈ tb, w.before (av.map (vg_cv ad)).toArray s = true := fun w h => atoms_spec (ws := .code y cc nL ret :: tb) B.pre w (List.mem_cons_of_mem _ h)
  have ho : s.vm.findClass own = some m.cls := by rw [← hown]; exact findClass_of_methodNamed B.named
  have hlocks := B.notSynchronized
  subst hsz
  have hDA : ∀ σ', va_D (vg_A nm ad s.heap.size) (vg_ws shp nm ad tys σ') := fun σ' => (vg_ws_D hD σ').weaken (fun k q hk _ => by
    unfold vg_ws at hk
    rw [List.getElem?_map] at hk
    cases hn : nm[k]? with
    | none => rw [hn] at hk; cases hk
    | some n => rw [hn] at hk; cases hk; exact Or.inl ⟨n, List.mem_of_getElem? hn, rfl⟩)
  have C0 : vm_C tb nw shp nm cl tyl cc nL own ret d p (vm_rmx d) s m (av.map (vg_cv ad)).toArray meth c D tys ad (vg_A nm ad s.heap.size) := ⟨hx, hb, hml, ho, hts, hK, hty, hr, hlocks, ⟨Nat.le_refl _, Nat.le_refl _⟩, fun q h => Or.inr h, hDA, hcl, hnw⟩
  have E0 : vm_E true tb tbx strs shp nm cl cc own ret p l e (vm_rmx d) s m (av.map (vg_cv ad)).toArray below meth c D tys ad (vg_A nm ad s.heap.size) (post av σ) 0 0 (vx_MQ below (vm_Qx shp nm cl D tys ad (vg_A nm ad s.heap.size) (post av σ)) (vm_XC (vg_A nm ad s.heap.size) (post av σ)) (av.map (vg_cv ad)).toArray s 1 6 (vg_A nm ad s.heap.size)) := by
    refine ⟨⟨Nat.zero_le _, Nat.zero_le _⟩, ?_, fun _ => ⟨hXF, ⟨hlst, Nat.le_refl _, Nat.le_refl _⟩, ?_, ?_⟩⟩
    · intro r σ' pc ls H locs hp hP' hS hk
      refine vx_ret (W.widen (k := 1) (n := 6) (Nat.zero_le _) (Nat.zero_le _) ?_)
      exact vm_leave hx hb hr hlocks hk hS.2.2 (fun t ht => ⟨⟨r, σ', rfl, hp, vm_rkV hk, by rw [ht]; exact hP'⟩, hS.F ht⟩)
    · intro x σ' pc ls rest H locs hp hS hls hwd hRf hRl hnk
      obtain ⟨text, ik, is, ic, d0, d3, dd, hstr, hkl, hini, hw1, hw2, hfit, hgood⟩ := hnk
      obtain ⟨sa, hsa⟩ := hXF.2.2.2 _ hstr
      have hat : ∀ w ∈ vx_atS own ic (vm_xn x) ["java/lang/RuntimeException", "java/lang/Exception"], w.before (av.map (vg_cv ad)).toArray s = true := by
        intro w hw
        cases hg : goodWord w with
        | true => exact hts w (hw1 w (List.mem_filter.mpr ⟨hw, hg⟩))
        | false =>
          have h1 := hw2 w (List.mem_filter.mpr ⟨hw, by rw [hg]; rfl⟩)
          exact va_Nw.use (vm_mvT (List.all_eq_true.mp hmv w h1)) (hXF.1 w h1)
      have hXC : ∀ t : State, s.vm.Alike t.vm → H.size ≤ t.heap.size → (∀ q : Nat, q < H.size → t.heap[q]? = H[q]?) → vm_XC (vg_A nm ad s.heap.size) (post av σ) (vm_xn x) s t := fun t _ h1 h2 =>
        ⟨⟨x, σ', rfl, hp⟩, Nat.le_trans hS.1 h1, fun q hq hn => by rw [h2 q (Nat.lt_of_lt_of_le hq hS.1)]; exact hS.2.1 q hq hn⟩
      have hnm : ∀ n ∈ ["java/lang/RuntimeException", "java/lang/Exception"], Bundle.fit n = true := by decide +kernel
      rcases dd with ⟨d4, d6, d9⟩ | ⟨d4, d7, d10⟩
      · exact vx_throwS hx hb hlst (own := own) (cls := vm_xn x) (names := ["java/lang/RuntimeException", "java/lang/Exception"]) ho hfit hnm (hts _ hkl) (hts _ hini) hsa hat hgood hXF.2.1 hXF.2.2.1 hS hls d0 d3 d4 d6 d9 (fun z hz => (hxt z hz).elim) (by show 2 + 3 < d; have : 6 ≤ d := hRf; omega) (by show _ + (13 * (2 + 1) + 43) ≤ 32 * d; have : 192 ≤ 32 * d := hRl; omega) (Nat.le_refl _) (Nat.le_refl _) hlocks hXC hS.2.2 (Nat.le_refl _) (Nat.le_refl _)
      · exact vx_throwSW hx hb hlst (own := own) (cls := vm_xn x) (names := ["java/lang/RuntimeException", "java/lang/Exception"]) ho hfit hnm (hts _ hkl) (hts _ hini) hsa hat hgood hXF.2.1 hXF.2.2.1 hS hls d0 d3 d4 d7 d10 (fun z hz => (hxt z hz).elim) (by show 2 + 3 < d; have : 6 ≤ d := hRf; omega) (by show _ + (13 * (2 + 1) + 43) ≤ 32 * d; have : 192 ≤ 32 * d := hRl; omega) (Nat.le_refl _) (Nat.le_refl _) hlocks hXC hS.2.2 (Nat.le_refl _) (Nat.le_refl _)
    · intro x σ' pc ls rest H locs q ce hp hS hq hcv hcls
      exact vx_out (fun z hz => (hxt z hz).elim) hlocks hq hcv hcls (fun t ht _ => ⟨⟨x, σ', rfl, hp⟩, hS.F ht⟩) hS.2.2 (Nat.le_refl _) (Nat.le_refl _)
  have hl := lv_entry (av.map (vg_cv ad)) (n := nL) (by rw [vg_wd_eq]; exact hw av σ hpre)
  rw [vg_args_eq] at hl
  rw [lg_entry_eq]
  exact vm_sound (ex := []) hs C0 E0 (fun _ h => absurd h List.not_mem_nil) (go av σ hpre) s.heap [] _ hl (vg_args_ok av 0 hok) (fun v h => by cases h) hP va_S.rf
/-- the contract of a method that makes cells and doesn't throw -/
def vm_Met (tb : List Cond) (nw : List (String × Nat × MethodName × String)) (shp : vgN → vgH) (nm : List vgN) (cl : List vw_C) (tyl : List FieldType) (y : MethodName) (cc : ByteArray) (nL : Nat) (ret : Option FieldType) (d mc ms : Nat) (pre : vgT → vgS → Prop) (post : vgT → vgS → vgO) : Prop :=
  ∀ (l : Launch) (D : va_G) (tys : List (ClassId × FieldType)) (ad : vgN → Nat) (sz : Nat) (av : vgT) (σ : vgS), tys.map (fun q => q.2) = tyl → (∀ v ∈ av, vg_ok nm v) → pre av σ →
    Met l y (.code y cc nL ret :: tb) { frames := d, cells := mc, slots := ms, locals := 32 * d } (va_Pc (av.map (vg_cv ad)) (fun U => U.heap.size = sz ∧ va_P D cl (vg_ws shp nm ad tys σ) U.heap ∧ va_K D cl tys U ∧ va_D (fun _ => True) (vg_ws shp nm ad tys σ) ∧ vg_nw nw U)) (vg_Q shp nm cl D tys ad (vg_A nm ad sz) (post av σ)) mc ms (vg_A nm ad sz)
theorem vm_met {tb : List Cond} {nw : List (String × Nat × MethodName × String)} {shp : vgN → vgH} {nm : List vgN} {cl : List vw_C} {tyl : List FieldType} {y : MethodName} {cc : ByteArray} {nL : Nat} {own : String} {ret : Option FieldType} {d mc ms : Nat} {pre : vgT → vgS → Prop} {post : vgT → vgS → vgO}
    (hcl : vg_closed shp nm) (hy : plainName y.cls = true) (hown : y.cls = own) (hw : ∀ av σ, pre av σ → vg_wd av ≤ nL)
    (go : ∀ (p : Program) (l : Launch) (e : Env) (R : Room) (s : State) (m : MethodId) (args : Array Value) (below : List Frame) (meth : Method) (c : Code) (D : va_G) (tys : List (ClassId × FieldType)) (ad : vgN → Nat) (A : Nat → Prop) (Z : State → Prop) (av : vgT) (σ : vgS), pre av σ → R.cells = mc → R.slots = ms →
      vm_C tb nw shp nm cl tyl cc nL own ret d p R s m args meth c D tys ad A → (∀ k n, k ≤ mc → n ≤ ms → vm_E false tb [] [] shp nm cl cc own ret p l e R s m args below meth c D tys ad A (post av σ) k n Z) → vm_X shp nm cl nL p l e R s m args below meth c D tys ad A 0 0 Z 0 (vg_args 0 av) [] σ) : vm_Met tb nw shp nm cl tyl y cc nL ret d mc ms pre post := by
  intro l D tys ad sz av σ hty hok hpre
  refine Met.ofW (cc := cc) (maxL := nL) (ret := ret) hy rfl ?_
  intro p e s m args below meth c s₁ B hml hv
  obtain ⟨rfl, hsz, hP, hK, hD, hnw⟩ := hv
  have hx := B.exec
  have hb := B.bytes
  have hr := B.returns
  have hts : ∀ w ∈ tb, w.before (av.map (vg_cv ad)).toArray s = true := fun w h => atoms_spec (ws := .code y cc nL ret :: tb) B.pre w (List.mem_cons_of_mem _ h)
  have ho : s.vm.findClass own = some m.cls := by rw [← hown]; exact findClass_of_methodNamed B.named
  have hlocks := B.notSynchronized
  subst hsz
  have hDA : ∀ σ', va_D (vg_A nm ad s.heap.size) (vg_ws shp nm ad tys σ') := fun σ' => (vg_ws_D hD σ').weaken (fun k q hk _ => by
    unfold vg_ws at hk
    rw [List.getElem?_map] at hk
    cases hn : nm[k]? with
    | none => rw [hn] at hk; cases hk
    | some n => rw [hn] at hk; cases hk; exact Or.inl ⟨n, List.mem_of_getElem? hn, rfl⟩)
  have C0 : vm_C tb nw shp nm cl tyl cc nL own ret d p { frames := d, cells := mc, slots := ms, locals := 32 * d } s m (av.map (vg_cv ad)).toArray meth c D tys ad (vg_A nm ad s.heap.size) := ⟨hx, hb, hml, ho, hts, hK, hty, hr, hlocks, ⟨Nat.le_refl _, Nat.le_refl _⟩, fun q h => Or.inr h, hDA, hcl, hnw⟩
  have E0 : ∀ k n, k ≤ mc → n ≤ ms → vm_E false tb [] [] shp nm cl cc own ret p l e { frames := d, cells := mc, slots := ms, locals := 32 * d } s m (av.map (vg_cv ad)).toArray below meth c D tys ad (vg_A nm ad s.heap.size) (post av σ) k n (MQ below (vg_Q shp nm cl D tys ad (vg_A nm ad s.heap.size) (post av σ)) (av.map (vg_cv ad)).toArray s mc ms (vg_A nm ad s.heap.size)) := by
    intro k n hk hn
    refine ⟨⟨hk, hn⟩, ?_, fun h => Bool.noConfusion h⟩
    intro r σ' pc ls H locs hp hP' hS hrk
    refine W.widen (k := mc) (n := ms) hk hn ?_
    exact vm_leave hx hb hr hlocks hrk hS.2.2 (fun t ht => ⟨⟨r, σ', rfl, hp, vm_rkN hrk, by rw [ht]; exact hP'⟩, hS.F ht⟩)
  have hl := lv_entry (av.map (vg_cv ad)) (n := nL) (by rw [vg_wd_eq]; exact hw av σ hpre)
  rw [vg_args_eq] at hl
  rw [lg_entry_eq]
  exact go p l e _ s m _ below meth c D tys ad _ _ av σ hpre rfl rfl C0 E0 s.heap [] _ hl (vg_args_ok av 0 hok) (fun v h => by cases h) hP va_S.rf
/-! throwing instructions -/
def vi_throw (x : Nat) : vgF := fun P _ _ st σ => bif Nat.ble (vg_wd st) 8 then P (vm_th x) σ else False
/-- a call of a static method that throws x where tx holds, and else does what sp says -/
def vi_callSX (sp : vgC) (tx : vgT → vgS → Prop) (x k n : Nat) : vgF := fun P K lv st σ => match vg_pop k [] st with
  | some q => bif Nat.ble (vg_wd q.2) 8 then ((tx q.1 σ → P (vm_th x) σ) ∧ (¬ tx q.1 σ → (sp q.1 σ).1 ∧ vg_k K n lv q.2 (sp q.1 σ).2.1 (sp q.1 σ).2.2)) else False
  | none => False
def vi_callVX (shp : vgN → vgH) (ci : Nat) (sp : vgC) (tx : vgT → vgS → Prop) (x k n : Nat) : vgF := fun P K lv st σ => match vg_pop (k + 1) [] st with
  | some (.inr m :: as, t) => (match shp m with
    | .inl o => bif Nat.beq o.1 ci && Nat.ble (vg_wd t) 8 then ((tx (.inr m :: as) σ → P (vm_th x) σ) ∧ (¬ tx (.inr m :: as) σ → (sp (.inr m :: as) σ).1 ∧ vg_k K n lv t (sp (.inr m :: as) σ).2.1 (sp (.inr m :: as) σ).2.2)) else False
    | _ => False)
  | _ => False
/-- a method that throws x where tx holds -/
abbrev vm_MetT (tb tbx : List Cond) (strs : List (String × Nat × String)) (nw : List (String × Nat × MethodName × String)) (shp : vgN → vgH) (nm : List vgN) (cl : List vw_C) (tyl : List FieldType) (y : MethodName) (cc : ByteArray) (nL : Nat) (ret : Option FieldType) (d : Nat) (tx : vgT → vgS → Prop) (x : Nat) : Prop :=
  vm_MetX tb tbx strs nw shp nm cl tyl y cc nL ret d tx (fun _ _ r _ => r = vm_th x)
section VT4
variable {p : Program} {l : Launch} {e : Env} {R : Room} {s : State} {m : MethodId} {args : Array Value} {below : List Frame} {meth : Method} {c : Code} {H : Heap} {locs : List Loc} {Q : State → Prop} {ck cn : Nat}
variable {bf : Bool} {tb tbx : List Cond} {strs : List (String × Nat × String)} {nw : List (String × Nat × MethodName × String)} {shp : vgN → vgH} {nm : List vgN} {cl : List vw_C} {tyl : List FieldType} {cc : ByteArray} {nL : Nat} {own : String} {ret : Option FieldType} {d pc n : Nat}
theorem vm_callT {D : va_G} {tys : List (ClassId × FieldType)} {ad : vgN → Nat} {A A1 : Nat → Prop} {a : Array Value} {ls : Array Slot} {st0 rest : List Value} {x : Nat}
    (hr : vx_Run p l e R s m args below meth c H locs ck cn 1 6 (F0 m pc ls st0) rest (vm_Qx shp nm cl D tys ad A1 (fun r _ => r = vm_th x) a) (vm_XC A1 (fun r _ => r = vm_th x)) A1) (hS : va_S A s.heap H locs) (hA : ∀ q, A1 q → A q)
    (kx : ∀ (H1 : Heap) (locs1 : List Loc) (q : Addr) (ce : Cell), va_S A s.heap H1 locs1 → H1[q]? = some ce → ce.vm = .none → s.vm.findClass (vm_xn x) = some ce.cls → vx_W p l e R s m args below meth c H1 locs1 (ck + 1) (cn + 6) Q (F0 m pc ls rest) q) : W p l e R s m args below meth c H locs ck cn Q (F0 m pc ls st0) := by
  intro T hT X
  rcases hr T hT X with ⟨v, st₀, t, T', L, h0, X', hL, e1, e2, ⟨⟨r, u, hv, hp, hne, hb⟩, hF⟩, st⟩ | ⟨q, st₀, t, T', L, E, ce, h0, X', hL, e1, e2, ⟨⟨x', u, hE, hp⟩, hF⟩, hce, hcv, hcl, st⟩
  · exact absurd hp (hne x)
  · obtain ⟨k1, k2, k3⟩ := vx_keep h0 e1 hS (fun q _ h => hA q h) hA hL hF
    have hxx : x' = x := by
      have h2 := hp
      simpa [vm_th] using h2
    subst hxx
    obtain ⟨t2, a1, b1⟩ := kx T'.heap (locs ++ L) q ce k3 (by rw [e1]; exact hce) hcv (by rw [← hE]; exact hcl) T' rfl X'
    exact ⟨t2, st.trans a1, b1⟩
theorem vt_throw {x : Nat} (hk : vm_nk tb tbx strs own cc pc x) (hd : 6 ≤ d) : vm_Snd true tb tbx strs nw shp nm cl tyl cc nL own ret d pc (vi_throw x) := by
  refine ⟨fun P K K' h lv st σ g => g, ?_⟩
  intro p l e R s m args below meth c D tys ad A P ck cn Z C0 E0 lv st σ h H locs ls hl ho hs hP hS
  unfold vi_throw at h
  cases hb : Nat.ble (vg_wd st) 8 with
  | false => rw [hb] at h; exact h.elim
  | true =>
    rw [hb] at h
    have hwd : vg_wd st ≤ 8 := Nat.le_of_ble_eq_true hb
    have hR := C0.2.2.2.2.2.2.2.2.2.1
    exact (E0.2.2 rfl).2.2.1 x σ pc ls _ H locs h hS (hl.1.trans C0.2.2.1.symm) (by rw [vg_wd_sum]; exact hwd) (by omega) (by omega) hk
theorem vt_callSX {k ix x : Nat} {y : MethodName} {bytes : ByteArray} {mL d' d2 : Nat} {rt : Option FieldType} {sp : vgC} {tx : vgT → vgS → Prop} (hM : vg_MetF tb nw shp nm cl tyl y bytes mL rt d' sp) (hT : vm_MetT tb tbx strs nw shp nm cl tyl y bytes mL rt d2 tx x) (hmv : tbx.all vm_mvB = true) (hd : decode cc pc = .ok (.invokestatic ix, 3))
    (hG : tb.all goodWord = true) (hcw : Cond.code y bytes mL rt ∈ tb) (hini : Cond.initialized y.cls ∈ tb) (hl : Cond.methodLink own ix y ∈ tb) (hi : Cond.static y ∈ tb)
    (hy : y.cls ≠ "java/lang/invoke/MethodHandle" ∧ y.cls ≠ "java/lang/invoke/VarHandle" ∧ (parseMethodDescriptor y.desc).map (fun d => d.parameters.length) = some k) (hR : (d' + 1 ≤ d ∧ mL ≤ 13) ∧ d2 + 1 ≤ d) (hn : pc + 3 = n) : vm_Snd true tb tbx strs nw shp nm cl tyl cc nL own ret d pc (vi_callSX sp tx x k n) := by
  refine ⟨?_, ?_⟩
  · intro P K K' h lv st σ g
    unfold vi_callSX at g ⊢
    split at g
    next q hq =>
      cases hb : Nat.ble (vg_wd q.2) 8 with
      | false => rw [hb] at g; exact g.elim
      | true =>
        rw [hb] at g
        exact ⟨g.1, fun z => ⟨(g.2 z).1, vg_k_mono h (g.2 z).2⟩⟩
    next => exact g
  intro p l e R s m args below meth c D tys ad A P ck cn Z C0 E0 lv st σ h
  by_cases hc : ∃ q, vg_pop k [] st = some q ∧ tx q.1 σ
  · obtain ⟨⟨as, t⟩, hpop, htx⟩ := hc
    unfold vi_callSX at h
    rw [hpop] at h
    intro H locs ls hl0 ho hs hP hS
    cases hb : Nat.ble (vg_wd t) 8 with
    | false =>
      have h' : (bif Nat.ble (vg_wd t) 8 then _ else False) := h
      rw [hb] at h'
      exact h'.elim
    | true =>
      have h' : (bif Nat.ble (vg_wd t) 8 then _ else False) := h
      rw [hb] at h'
      have hwd : vg_wd t ≤ 8 := Nat.le_of_ble_eq_true hb
      have hP2 : P (vm_th x) σ := h'.1 htx
      obtain ⟨hx, hcb, hml, hown, hts, hK, hty, hr, hlocks, hRR, hA, hDA, hclo, hnw⟩ := C0
      obtain ⟨e1, e2⟩ := vg_pop_eq _ _ _ _ _ hpop
      have hst : st = as.reverse ++ t := by rw [e1]; rfl
      have hav : ∀ v ∈ as, vg_ok nm v := fun v hv => hs v (by rw [hst]; exact List.mem_append_left _ (List.mem_reverse.mpr hv))
      have hlen : as.length = k := by simp at e2; omega
      have hstk : st.map (vg_cv ad) = (as.map (vg_cv ad)).reverse ++ t.map (vg_cv ad) := by rw [hst]; simp
      have hg : ∀ w ∈ tb, goodWord w = true := fun w h => List.all_eq_true.mp hG w h
      have cb : CallB R s args own ix y bytes mL rt (.code y bytes mL rt :: tb) (vm_rmx d2) 1 6 k := by
        refine callB_of k hts (fun w hw => ?_) rfl rfl rfl (hts _ hini) (hts _ hl) hy ⟨Nat.le_trans hR.2 hRR.1, ?_⟩
        · rcases List.mem_cons.mp hw with rfl | hw
          · exact ⟨hcw, good_of_word (hg _ hcw)⟩
          · exact ⟨hw, good_of_word (hg _ hw)⟩
        · show 8 + (mL + 11) + 32 * d2 ≤ R.locals
          omega
      have hX := (E0.2.2 rfl).1
      refine vm_callT (vx_runS (As := as.map (vg_cv ad)) (rest := t.map (vg_cv ad)) ⟨hx, hcb, hml, hown, hts⟩ (hT l D tys ad H.size as σ (E0.2.2 rfl).2.1.1 hty hav htx) ⟨cb, hts _ hi⟩ ⟨fun a U g mk q => ?_, fun U hU hW => ⟨rfl, ?_, ?_, ?_, ?_, fun z hz => va_Nw.warmM hW (hnw z hz), ?_⟩⟩ rfl (by rw [List.length_map]; exact hlen) hl0.1 hstk (lv_room (by rw [vg_wd_sum]; exact hwd)) hd ⟨(E0.2.2 rfl).2.1.2.1, (E0.2.2 rfl).2.1.2.2⟩) hS (vg_in_A (hDA σ) hA hS.1) (fun H1 locs1 q ce hS1 hq hcv hcls => ?_)
      · obtain ⟨q0, q1, qP, qK, qD, qN, qX⟩ := q
        exact ⟨q0, q1, qP, va_K.moved (u := U) (U := U.calling g mk a) (Vm.Alike.refl U.vm) qK, qD, fun z hz => va_Nw.same (u := U) (U := U.calling g mk a) rfl rfl (qN z hz), vm_XF.blind hmv qX⟩
      · rw [hU]
      · rw [hU]; exact hP
      · exact va_K.moved hW.alike hK
      · exact (hDA σ).weaken (fun _ _ _ _ => trivial)
      · exact vm_XF.call hmv hX hS (vg_in_A (hDA σ) hA hS.1) hU hW
      · exact (E0.2.2 rfl).2.2.2 x σ pc ls _ H1 locs1 q ce hP2 hS1 hq hcv hcls
  · refine (vt_callS (bf := true) (tbx := tbx) (strs := strs) hM hd hG hcw hini hl hi hy hR.1 hn).2 p l e R s m args below meth c D tys ad A P ck cn Z C0 E0 lv st σ ?_
    unfold vi_callSX at h
    unfold vi_callS
    split at h
    next q hq =>
      cases hb : Nat.ble (vg_wd q.2) 8 with
      | false => rw [hb] at h; exact h.elim
      | true =>
        rw [hb] at h
        rw [hq]
        show (bif Nat.ble (vg_wd q.2) 8 then _ else False)
        rw [hb]
        exact h.2 (fun z => hc ⟨q, hq, z⟩)
    next => exact h.elim
theorem vt_callVX {ci k ix x : Nat} {C : String} {T : u_T} {N : Nat} {y : MethodName} {bytes : ByteArray} {mL d' d2 : Nat} {rt : Option FieldType} {sp : vgC} {tx : vgT → vgS → Prop} (hM : vg_MetF tb nw shp nm cl tyl y bytes mL rt d' sp) (hT : vm_MetT tb tbx strs nw shp nm cl tyl y bytes mL rt d2 tx x) (hmv : tbx.all vm_mvB = true) (hd : decode cc pc = .ok (.invokevirtual ix, 3)) (hc : cl[ci]? = some (C, T, N))
    (hG : tb.all goodWord = true) (hcw : Cond.code y bytes mL rt ∈ tb) (hini : Cond.initialized C ∈ tb) (hl : Cond.methodLink own ix y ∈ tb) (hi : Cond.instanceMethod y ∈ tb) (hse : Cond.selects C y y ∈ tb)
    (hy : y.cls = C ∧ y.cls ≠ "java/lang/invoke/MethodHandle" ∧ y.cls ≠ "java/lang/invoke/VarHandle" ∧ (parseMethodDescriptor y.desc).map (fun d => d.parameters.length) = some k) (hR : (d' + 1 ≤ d ∧ mL ≤ 13) ∧ d2 + 1 ≤ d) (hn : pc + 3 = n) : vm_Snd true tb tbx strs nw shp nm cl tyl cc nL own ret d pc (vi_callVX shp ci sp tx x k n) := by
  refine ⟨?_, ?_⟩
  · intro P K K' h lv st σ g
    unfold vi_callVX at g ⊢
    split at g
    next m0 as t hpop =>
      split at g
      next o ho0 =>
        cases hb : Nat.beq o.1 ci && Nat.ble (vg_wd t) 8 with
        | false => rw [hb] at g; exact g.elim
        | true =>
          rw [hb] at g
          exact ⟨g.1, fun z => ⟨(g.2 z).1, vg_k_mono h (g.2 z).2⟩⟩
      next => exact g
    next => exact g
  intro p l e R s m args below meth c D tys ad A P ck cn Z C0 E0 lv st σ h
  by_cases hcase : ∃ m0 as t, vg_pop (k + 1) [] st = some (.inr m0 :: as, t) ∧ tx (.inr m0 :: as) σ
  · obtain ⟨m0, as, t, hpop, htx⟩ := hcase
    unfold vi_callVX at h
    rw [hpop] at h
    intro H locs ls hl0 ho hs hP hS
    have h' : (match shp m0 with
      | .inl o => bif Nat.beq o.1 ci && Nat.ble (vg_wd t) 8 then _ else False
      | _ => False) := h
    split at h'
    next o ho0 =>
      cases hb : Nat.beq o.1 ci && Nat.ble (vg_wd t) 8 with
      | false => rw [hb] at h'; exact h'.elim
      | true =>
        rw [hb] at h'
        have hP2 : P (vm_th x) σ := h'.1 htx
        simp only [Bool.and_eq_true] at hb
        have e : o.1 = ci := Nat.eq_of_beq_eq_true hb.1
        have hwd : vg_wd t ≤ 8 := Nat.le_of_ble_eq_true hb.2
        obtain ⟨hx, hcb, hml, hown, hts, hK, hty, hr, hlocks, hRR, hA, hDA, hclo, hnw⟩ := C0
        obtain ⟨e1, e2⟩ := vg_pop_eq _ _ _ _ _ hpop
        have hst : st = (Sum.inr m0 :: as : vgT).reverse ++ t := by rw [e1]; rfl
        have hav : ∀ v ∈ (Sum.inr m0 :: as : vgT), vg_ok nm v := fun v hv => hs v (by rw [hst]; exact List.mem_append_left _ (List.mem_reverse.mpr hv))
        have hlen : as.length = k := by simp at e2; omega
        have hm0 : m0 ∈ nm := hav _ List.mem_cons_self
        obtain ⟨q0, hq0, hws⟩ := vg_ws_get (shp := shp) (ad := ad) (tys := tys) (σ := σ) hm0
        rw [ho0] at hws
        have hws2 : (vg_ws shp nm ad tys σ)[q0]? = some (ad m0, .inr (ci, vg_fs ad (σ m0) 0 o.2)) := by rw [hws]; show some (ad m0, Sum.inr (o.1, _)) = _; rw [e]
        have hstk : st.map (vg_cv ad) = (as.map (vg_cv ad)).reverse ++ .ref (ad m0) :: t.map (vg_cv ad) := by rw [hst]; simp [vg_cv]
        have hg : ∀ w ∈ tb, goodWord w = true := fun w h => List.all_eq_true.mp hG w h
        have cb : CallB R s args own ix y bytes mL rt (.code y bytes mL rt :: tb) (vm_rmx d2) 1 6 k := by
          refine callB_of k hts (fun w hw => ?_) rfl rfl rfl (hts _ (by rw [hy.1]; exact hini)) (hts _ hl) hy.2 ⟨Nat.le_trans hR.2 hRR.1, ?_⟩
          · rcases List.mem_cons.mp hw with rfl | hw
            · exact ⟨hcw, good_of_word (hg _ hcw)⟩
            · exact ⟨hw, good_of_word (hg _ hw)⟩
          · show 8 + (mL + 11) + 32 * d2 ≤ R.locals
            omega
        have hX := (E0.2.2 rfl).1
        refine vm_callT (vx_runV (As := as.map (vg_cv ad)) (b := ad m0) (rest := t.map (vg_cv ad)) (C := C) ⟨hx, hcb, hml, hown, hts⟩ (hT l D tys ad H.size (.inr m0 :: as) σ (E0.2.2 rfl).2.1.1 hty hav htx) ⟨cb, hts _ hi, hts _ hse⟩ ⟨fun a U g mk q => ?_, va_recv hK hP (ci := ci) (q0 := q0) hc hws2, fun U hU hW => ⟨?_, ?_, ?_, ?_, ?_, fun z hz => va_Nw.warmM hW (hnw z hz), ?_⟩⟩ rfl (by rw [List.length_map]; exact hlen) hl0.1 hstk (lv_room (by rw [vg_wd_sum]; exact hwd)) hd ⟨(E0.2.2 rfl).2.1.2.1, (E0.2.2 rfl).2.1.2.2⟩) hS (vg_in_A (hDA σ) hA hS.1) (fun H1 locs1 q ce hS1 hq hcv hcls => ?_)
        · obtain ⟨q0, q1, qP, qK, qD, qN, qX⟩ := q
          exact ⟨q0, q1, qP, va_K.moved (u := U) (U := U.calling g mk a) (Vm.Alike.refl U.vm) qK, qD, fun z hz => va_Nw.same (u := U) (U := U.calling g mk a) rfl rfl (qN z hz), vm_XF.blind hmv qX⟩
        · rfl
        · rw [hU]
        · rw [hU]; exact hP
        · exact va_K.moved hW.alike hK
        · exact (hDA σ).weaken (fun _ _ _ _ => trivial)
        · exact vm_XF.call hmv hX hS (vg_in_A (hDA σ) hA hS.1) hU hW
        · exact (E0.2.2 rfl).2.2.2 x σ pc ls _ H1 locs1 q ce hP2 hS1 hq hcv hcls
    next => exact h'.elim
  · refine (vt_callV (bf := true) (tbx := tbx) (strs := strs) hM hd hc hG hcw hini hl hi hse hy hR.1 hn).2 p l e R s m args below meth c D tys ad A P ck cn Z C0 E0 lv st σ ?_
    unfold vi_callVX at h
    unfold vi_callV
    split at h
    next m0 as t hpop =>
      split at h
      next o ho0 =>
        cases hb : Nat.beq o.1 ci && Nat.ble (vg_wd t) 8 with
        | false => rw [hb] at h; exact h.elim
        | true =>
          rw [hb] at h
          rw [hpop]
          show (match shp m0 with | .inl o => bif Nat.beq o.1 ci && Nat.ble (vg_wd t) 8 then _ else False | _ => False)
          rw [ho0]
          show (bif Nat.beq o.1 ci && Nat.ble (vg_wd t) 8 then _ else False)
          rw [hb]
          exact h.2 (fun z => hcase ⟨m0, as, t, hpop, z⟩)
      next => exact h.elim
    next => exact h.elim
end VT4
