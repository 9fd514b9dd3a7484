-- words of the tables, and what stands at each place of the methods' code (laid by program)
/-! the law's wrappers: a call of the class, its answer put into a row of one long, its throws made a number -/
abbrev wq_3 (x : Nat) : Prop := x = 1 ∨ x = 2 ∨ x = 3
/-- what a catch asks of the tables -/
def wq_N (U : State) : Prop := (∀ x y : Nat, wq_3 x → wq_3 y → ¬ x = y → va_Nc (vm_xn x) (vm_xn y) U) ∧ ∀ x : Nat, wq_3 x → va_Nw (.castable (vm_xn x) (vm_xn x)) U
theorem wq_N.warm {s U : State} (hW : s.WarmedH U.vm) (h : wq_N s) : wq_N U := ⟨fun x y hx hy hn => (h.1 x y hx hy hn).moved hW.alike, fun x hx => va_Nw.warmC hW (h.2 x hx)⟩
theorem wq_N.blind {a : Array Value} {U : State} {g : JFrame} {mk : MethodId} (h : wq_N U) : wq_N (U.calling g mk a) := ⟨fun x y hx hy hn => va_Nc.moved (u := U) (U := U.calling g mk a) (Vm.Alike.refl U.vm) (h.1 x y hx hy hn), fun x hx => va_Nw.same (u := U) (U := U.calling g mk a) rfl rfl (h.2 x hx)⟩
def wq_A (ad : vgN → Nat) (sz o : Nat) : Nat → Prop := fun q => vg_A ww_nm ad sz q ∨ q = o
abbrev wq_O (o : Nat) (cO : ClassId) (f : Nat → Int64) : va_W := [(o, (Sum.inl (cO, (1, .inr (.inl f))) : va_E))]
theorem wq_Od {A : Nat → Prop} {o : Nat} {cO : ClassId} {f : Nat → Int64} (h : A o) : va_D A (wq_O o cO f) := by
  refine ⟨fun i j x y hi hj _ => ?_, fun i x hi => ?_⟩
  · have h1 : i < 1 := (List.getElem?_eq_some_iff.mp hi).1
    have h2 : j < 1 := (List.getElem?_eq_some_iff.mp hj).1
    omega
  · have h1 : i < 1 := (List.getElem?_eq_some_iff.mp hi).1
    have h2 : i = 0 := by omega
    subst h2
    cases hi
    exact h
theorem po_ret {q : Nat × Int32} {r : Option vgV} (hr : r = po q) (hne : ∀ x, r ≠ vm_th x) : q.1 = 0 ∧ r = some (.inl (.int q.2)) := by
  obtain ⟨x, v⟩ := q
  cases x with
  | zero => exact ⟨rfl, hr⟩
  | succ x => exact absurd hr (hne (x + 1))
theorem po_thr {q : Nat × Int32} {x : Nat} (hr : vm_th x = po q) : ¬ q.1 = 0 ∧ q.1 = x := by
  obtain ⟨y, v⟩ := q
  cases y with
  | zero =>
    have h : some (Sum.inr (77, x, 0)) = (some (.inl (.int v)) : Option vgV) := hr
    cases h
  | succ y =>
    have h : (some (Sum.inr (77, x, 0)) : Option vgV) = some (.inr (77, y + 1, 0)) := hr
    cases h
    exact ⟨Nat.succ_ne_zero y, rfl⟩
def wq_en (h : Nat × Nat × Nat × Nat) : ExceptionTableEntry := ⟨h.1, h.2.1, h.2.2.1, h.2.2.2⟩
def wq_ct (k : Nat) : Nat := if k = 13 then 1 else if k = 15 then 2 else 3
def wq_find (x : Nat) : List (Nat × Nat × Nat × Nat) → Option Nat
  | [] => none
  | h :: t => if wq_ct h.2.2.2 = x then some h.2.2.1 else wq_find x t
section WL
variable {p : Program} {l : Launch} {e : Env} {R : Room} {s : State} {m : MethodId} {args : Array Value} {below : List Frame} {meth : Method} {c : Code} {Q : State → Prop} {cells slots : Nat} {H : Heap} {locs : List Loc}
theorem wq_catch {pc x hpc : Nat} {ls : Array Slot} {rest : List Value} {q : Addr} {ce : Cell} (hown : s.vm.findClass RL = some m.cls) (hw : ∀ k : Nat, (k = 13 ∨ k = 15 ∨ k = 17) → (Cond.classLink RL k (vm_xn (wq_ct k))).before args s = true) (hN : wq_N s) (hx : wq_3 x) (hcell : H[q]? = some ce) (hv : ce.vm = .none) (hcl : s.vm.findClass (vm_xn x) = some ce.cls)
    (kk : W p l e R s m args below meth c H locs cells slots Q (F0 m hpc ls [.ref q])) : ∀ (hh : List (Nat × Nat × Nat × Nat)) (pre : List ExceptionTableEntry), c.exceptionTable.toList = pre ++ hh.map wq_en → (∀ z ∈ pre, covers z pc = false ∨ (z.catchType ≠ 0 ∧ ∃ nm : String, (Cond.classLink RL z.catchType nm).before args s = true ∧ va_Nc (vm_xn x) nm s)) → (∀ h ∈ hh, (h.1 = 0 ∧ pc < h.2.1) ∧ (h.2.2.2 = 13 ∨ h.2.2.2 = 15 ∨ h.2.2.2 = 17)) → wq_find x hh = some hpc →
      vx_W p l e R s m args below meth c H locs cells slots Q (F0 m pc ls rest) q
  | [], _, _, _, _, hf => by cases hf
  | h :: t, pre, hT, hp, hh, hf => by
    obtain ⟨⟨h0, h1⟩, h2⟩ := hh h List.mem_cons_self
    have hlk := hw _ h2
    by_cases hxx : wq_ct h.2.2.2 = x
    · have hf' : (if wq_ct h.2.2.2 = x then some h.2.2.1 else wq_find x t) = some hpc := hf
      rw [if_pos hxx] at hf'
      cases hf'
      rw [hxx] at hlk
      exact vx_catch (E := vm_xn x) (name := vm_xn x) hown pre (wq_en h) (t.map wq_en) hT hp (by simp [covers, wq_en, h0, h1]) (by show h.2.2.2 ≠ 0; omega) hlk (va_Nw.use rfl (hN.2 x hx)) hcell hv hcl kk
    · have hf' : (if wq_ct h.2.2.2 = x then some h.2.2.1 else wq_find x t) = some hpc := hf
      rw [if_neg hxx] at hf'
      have h3 : wq_3 (wq_ct h.2.2.2) := by
        rcases h2 with h2 | h2 | h2 <;> rw [h2] <;> decide
      refine wq_catch hown hw hN hx hcell hv hcl kk t (pre ++ [wq_en h]) (by rw [List.append_assoc]; exact hT) (fun z hz => ?_) (fun z hz => hh z (List.mem_cons_of_mem _ hz)) hf'
      rcases List.mem_append.mp hz with hz | hz
      · exact hp z hz
      · rw [List.mem_singleton.mp hz]
        exact Or.inr ⟨by show h.2.2.2 ≠ 0; omega, _, hlk, hN.1 x _ hx h3 (fun z => hxx z.symm)⟩
set_option maxHeartbeats 1000000 in
theorem wq_call {yX : MethodName} {ccX cc : ByteArray} {mL dX nL ix pc : Nat} {rt : Option FieldType} {pre : vgT → vgS → Prop} {pf : vgT → Nat × Int32} {D : va_G} {tys : List (ClassId × FieldType)} {ad : vgN → Nat} {σ : vgS} {o os : Nat} {cO : ClassId} {f0 : Nat → Int64} {as : vgT} {ls : Array Slot}
    (hx : p.tables.exec = Jvm.exec) (hcb : c.code = cc) (hml : c.maxLocals = nL) (hown : s.vm.findClass RL = some m.cls) (hts : ∀ w ∈ ww_tb, w.before args s = true) (hstk : l.stackTraces = false)
    (hty : tys.map (fun q => q.2) = ww_tyl) (hK : va_K D ww_cl tys s) (hD : va_D (fun _ => True) (vg_ws ww_shp ww_nm ad tys σ)) (hnw : vg_nw ww_nw s) (hXF : vm_XF ww_tbx ww_strs (wq_A ad s.heap.size o) s s.heap) (hP : va_P D ww_cl (vg_ws ww_shp ww_nm ad tys σ) s.heap) (hO : va_P D [] (wq_O o cO f0) s.heap) (ho : ∀ n ∈ ww_nm, ad n ≠ o)
    (hM : vm_MetX ww_tb ww_tbx ww_strs ww_nw ww_shp ww_nm ww_cl ww_tyl yX ccX mL rt dX pre (fun av _ r _ => r = po (pf av)))
    (hd : decode cc pc = .ok (.invokevirtual ix, 3)) (hcw : Cond.code yX ccX mL rt ∈ ww_tb) (hini : Cond.initialized RX5 ∈ ww_tb) (hl : Cond.methodLink RL ix yX ∈ ww_tb) (hi : Cond.instanceMethod yX ∈ ww_tb) (hse : Cond.selects RX5 yX yX ∈ ww_tb)
    (hy : yX.cls = RX5 ∧ yX.cls ≠ "java/lang/invoke/MethodHandle" ∧ yX.cls ≠ "java/lang/invoke/VarHandle" ∧ (parseMethodDescriptor yX.desc).map (fun d => d.parameters.length) = some as.length) (hR : dX + 1 ≤ R.frames ∧ 8 + (mL + 11) + 32 * dX ≤ R.locals) (h1c : 1 ≤ R.cells ∧ 6 ≤ R.slots) (hav : ∀ v ∈ as, vg_ok ww_nm v) (hpre : pre (.inr (0, 0, 0) :: as) σ) (hls : ls.size = nL)
    (kr : ∀ (H1 : Heap) (locs1 : List Loc), (pf (.inr (0, 0, 0) :: as)).1 = 0 → va_S (wq_A ad s.heap.size o) s.heap H1 locs1 → va_P D [] (wq_O o cO f0) H1 → W p l e R s m args below meth c H1 locs1 1 6 Q (F0 m (pc + 3) ls (.int (pf (.inr (0, 0, 0) :: as)).2 :: .int 0 :: .ref os :: [])))
    (kx : ∀ (H1 : Heap) (locs1 : List Loc) (q : Addr) (ce : Cell), ¬ (pf (.inr (0, 0, 0) :: as)).1 = 0 → va_S (wq_A ad s.heap.size o) s.heap H1 locs1 → va_P D [] (wq_O o cO f0) H1 → H1[q]? = some ce → ce.vm = .none → s.vm.findClass (vm_xn (pf (.inr (0, 0, 0) :: as)).1) = some ce.cls → vx_W p l e R s m args below meth c H1 locs1 1 6 Q (F0 m pc ls (.int 0 :: .ref os :: [])) q) :
    W p l e R s m args below meth c s.heap [] 0 0 Q (F0 m pc ls ((as.map (vg_cv ad)).reverse ++ .ref (ad (0, 0, 0)) :: .int 0 :: .ref os :: [])) := by
  have hm0 : ((0, 0, 0) : vgN) ∈ ww_nm := by decide +kernel
  obtain ⟨q0, hq0, hws⟩ := vg_ws_get (shp := ww_shp) (ad := ad) (tys := tys) (σ := σ) hm0
  have hws2 : (vg_ws ww_shp ww_nm ad tys σ)[q0]? = some (ad (0, 0, 0), .inr (0, vg_fs ad (σ (0, 0, 0)) 0 [some (1, 0, 0), some (1, 1, 0)])) := hws
  have hg : ∀ w ∈ ww_tb, goodWord w = true := fun w h => List.all_eq_true.mp ww_good w h
  have cb : CallB R s args RL ix yX ccX mL rt (.code yX ccX mL rt :: ww_tb) (vm_rmx dX) 1 6 as.length := by
    refine callB_of as.length hts (fun w hw => ?_) rfl rfl rfl (hts _ (by rw [hy.1]; exact hini)) (hts _ hl) hy.2 hR
    rcases List.mem_cons.mp hw with rfl | hw
    · exact ⟨hcw, good_of_word (hg _ hcw)⟩
    · exact ⟨hw, good_of_word (hg _ hw)⟩
  have hA : ∀ q, vg_A ww_nm ad s.heap.size q → wq_A ad s.heap.size o q := fun q h => Or.inl h
  have hol : o < s.heap.size := (hO 0 _ rfl).lt
  have hon : ¬ vg_A ww_nm ad s.heap.size o := fun h => by
    rcases h with ⟨n, hn, h⟩ | h
    · exact ho n hn h
    · omega
  have hr := vx_runV (below := below) (meth := meth) (e := e) (locs := []) (cells := 0) (slots := 0) (As := as.map (vg_cv ad)) (b := ad (0, 0, 0)) (rest := .int 0 :: .ref os :: []) (C := RX5) (g := F0 m pc ls ((as.map (vg_cv ad)).reverse ++ .ref (ad (0, 0, 0)) :: .int 0 :: .ref os :: [])) ⟨hx, hcb, hml, hown, hts⟩ (hM l D tys ad s.heap.size (.inr (0, 0, 0) :: as) σ hstk hty (List.forall_mem_cons.mpr ⟨hm0, hav⟩) hpre) ⟨cb, hts _ hi, hts _ hse⟩ ⟨fun a U g mk q => by
      obtain ⟨q0, q1, qP, qK, qD, qN, qX⟩ := q
      exact ⟨q0, q1, qP, va_K.moved (u := U) (U := U.calling g mk a) (Vm.Alike.refl U.vm) qK, qD, fun z hz => va_Nw.same (u := U) (U := U.calling g mk a) rfl rfl (qN z hz), vm_XF.blind ww_mv qX⟩, va_recv hK hP (ci := 0) (q0 := q0) (show ww_cl[0]? = some (RX5, TX5, 2) from rfl) hws2, fun U hU hW => ⟨rfl, by rw [hU], by rw [hU]; exact hP, va_K.moved hW.alike hK, hD, fun z hz => va_Nw.warmM hW (hnw z hz), vm_XF.call ww_mv hXF va_S.rf hA hU hW⟩⟩ rfl (by rw [List.length_map]) hls rfl (lv_room (show (1 + (1 + 0) : Nat) ≤ 8 by decide)) hd ⟨h1c.1, h1c.2⟩
  intro T hT X
  rcases hr T hT X with ⟨v, st₀, t, T', L, h0, X', hL, e1, e2, ⟨⟨r, u, hv, hp, hne, hb⟩, hF⟩, st⟩ | ⟨q, st₀, t, T', L, E, ce, h0, X', hL, e1, e2, ⟨⟨x', u, hE, hp⟩, hF⟩, hce, hcv, hcl, st⟩
  · cases hv
    obtain ⟨k1, k2, k3⟩ := vx_keep h0 e1 (va_S.rf (A := wq_A ad s.heap.size o)) (fun q _ h => hA q h) hA hL hF
    obtain ⟨g1, g2⟩ := po_ret hp hne
    subst g2
    obtain ⟨t2, a1, b1⟩ := kr T'.heap ([] ++ L) g1 k3 (fun k x hk => (hO k x hk).kept (k2 x.1 (hO k x hk).lt (by
      have h9 : k < 1 := (List.getElem?_eq_some_iff.mp hk).1
      have h8 : k = 0 := by omega
      subst h8
      cases hk
      exact hon))) T' rfl X'
    exact ⟨t2, st t2 a1, b1⟩
  · obtain ⟨k1, k2, k3⟩ := vx_keep h0 e1 (va_S.rf (A := wq_A ad s.heap.size o)) (fun q _ h => hA q h) hA hL hF
    obtain ⟨g1, g2⟩ := po_thr hp
    subst g2
    obtain ⟨t2, a1, b1⟩ := kx T'.heap ([] ++ L) q ce g1 k3 (fun k x hk => (hO k x hk).kept (k2 x.1 (hO k x hk).lt (by
      have h9 : k < 1 := (List.getElem?_eq_some_iff.mp hk).1
      have h8 : k = 0 := by omega
      subst h8
      cases hk
      exact hon))) (by rw [e1]; exact hce) hcv (by rw [← hE]; exact hcl) T' rfl X'
    exact ⟨t2, st.trans a1, b1⟩
end WL
