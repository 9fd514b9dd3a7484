-- words of the tables, and what stands at each place of the methods' code (laid by program)
/-! the law's own steps: a new object beside all that is there -/
section LN
variable {p : Program} {l : Launch} {e : Env} {R : Room} {s : State} {m : MethodId} {args : Array Value} {below : List Frame} {meth : Method} {c : Code} {H : Heap} {Q : State → Prop} {ck cn : Nat}
variable {tb : List Cond} {nx : vhW} {cl : List vw_C} {tyl : List FieldType} {cc : ByteArray} {nL pc : Nat} {own : String} {D : va_G} {tys : List (ClassId × FieldType)} {ls : Array Slot} {rest : List Value}
set_option maxHeartbeats 1000000 in
theorem lq_newc {ci ix ic N : Nat} {C : String} {T : u_T} (ty : Nat → FieldType) {fs : List Value} {y : MethodName} {bytes : ByteArray} {mL d' mc ms : Nat} {cs : vhS}
    (hx : p.tables.exec = Jvm.exec) (hcb : c.code = cc) (hml : c.maxLocals = nL) (hown : s.vm.findClass own = some m.cls) (hts : ∀ w ∈ tb, w.before args s = true) (hK : va_K D cl tys s) (hty : tys.map (fun q => q.2) = tyl) (hnx : vh_nx nx s) (hI : vh_Ini tb nx cl tyl y bytes mL d' mc ms ci fs cs)
    (hd0 : decode cc pc = .ok (.new ix, 3)) (hd3 : decode cc (pc + 3) = .ok (.dup, 1)) (hd4 : decode cc (pc + 4) = .ok (.invokespecial ic, 3)) (hc : cl[ci]? = some (C, T, N)) (hin : ∀ w ∈ u_ws C T N, w ∈ tb) (hty0 : ∀ k, k < N → parseFieldDescriptor (T k).2.2.1 = some (ty k))
    (hk0 : Cond.classLink own ix C ∈ tb) (hinst : Cond.instantiable C N ∈ tb) (hini : Cond.initialized C ∈ tb) (hfs : ∀ j, j < N → defaultValue (ty j) = vp_V fs j) (hG : tb.all goodWord = true) (hcw : Cond.code y bytes mL none ∈ tb) (hyC : y.cls = C) (hl2 : Cond.methodLink own ic y ∈ tb) (hi : Cond.instanceMethod y ∈ tb) (hyn : y.name = "<init>")
    (hy : y.cls ≠ "java/lang/invoke/MethodHandle" ∧ y.cls ≠ "java/lang/invoke/VarHandle" ∧ (parseMethodDescriptor y.desc).map (fun d => d.parameters.length) = some 0) (hR : d' + 1 ≤ R.frames ∧ 8 + (mL + 11) + 32 * d' ≤ R.locals) (hwd : (rest.map fun v => v.category).sum ≤ 6) (hcc : ck + 1 + mc ≤ R.cells) (hcs : cn + N + ms ≤ R.slots) (hsz : s.heap.size ≤ H.size) (hls : ls.size = nL)
    (kk : ∀ (ad1 : vgN → Nat) (H1 : Heap), va_P D cl (vh_ws ad1 tys cs) H1 → va_D (fun q => H.size ≤ q) (vh_ws ad1 tys cs) → H.size ≤ H1.size → (∀ q : Nat, q < H.size → H1[q]? = H[q]?) → W p l e R s m args below meth c H1 [] (ck + 1 + mc) (cn + N + ms) Q (F0 m (pc + 7) ls (.ref (ad1 (vh_n 0)) :: rest))) :
    W p l e R s m args below meth c H [] ck cn Q (F0 m pc ls rest) := by
  have hP : va_P D cl [] H := fun k x h => by simp at h
  have hD : va_D (fun q => H.size ≤ q) [] := ⟨fun i j x y h _ _ => by simp at h, fun i x h => by simp at h⟩
  refine va_new (A := fun q => H.size ≤ q) (H0 := H) (ci := ci) (fs := fs) (C := C) (T := T) (N := N) hx hcb hts hin ty hty0 hown (hts _ hk0) (hts _ hinst) (hts _ hini) hK hP hD va_S.rf (fun q h => h) hc hfs (by omega) (by omega) hd0 (fun q H1 hP1 hD1 hS1 => ?_)
  refine lv_dup hx hcb hd3 rfl ?_
  have hPc : va_P D cl [(q, .inr (ci, fs))] H1 := hP1
  have hq : H.size ≤ q := hD1.2 0 _ rfl
  have hFree : ∀ z, va_A [(q, (Sum.inr (ci, fs) : va_E))] H1.size z → H.size ≤ z := by
    intro z hz
    rcases hz with ⟨k2, e2, hz⟩ | hz
    · have h9 : k2 < 1 := (List.getElem?_eq_some_iff.mp hz).1
      have h8 : k2 = 0 := by omega
      subst h8
      have h7 : q = z := congrArg Prod.fst (Option.some.inj hz)
      rw [← h7]
      exact hq
    · exact Nat.le_trans hS1.1 hz
  have hg : ∀ w ∈ tb, goodWord w = true := fun w h => List.all_eq_true.mp hG w h
  have cw : CallB R s args own ic y bytes mL none (.code y bytes mL none :: tb) { frames := d', cells := mc, slots := ms, locals := 32 * d' } mc ms 0 := by
    refine callB_of 0 hts (fun w hw => ?_) rfl rfl rfl (hts _ (by rw [hyC]; exact hini)) (hts _ hl2) hy hR
    rcases List.mem_cons.mp hw with rfl | hw
    · exact ⟨hcw, good_of_word (hg _ hcw)⟩
    · exact ⟨hw, good_of_word (hg _ hw)⟩
  have hr2 := va_runI (As := []) (rest := .ref q :: rest) (locs := []) (cells := ck + 1) (slots := cn + N) (below := below) (meth := meth) (e := e) (g := F0 m (pc + 4) ls (.ref q :: .ref q :: rest)) ⟨hx, hcb, hml, hown, hts⟩ (hI.2 l D tys q H1.size hty) ⟨cw, hyn, hts _ hi⟩ ⟨fun a U g mk z => by
      obtain ⟨q0, q1, qP, qK, qN⟩ := z
      exact ⟨q0, q1, qP, va_K.moved (u := U) (U := U.calling g mk a) (Vm.Alike.refl U.vm) qK, vh_nx.blind qN⟩, fun U hU hW => ⟨rfl, by rw [hU], by rw [hU]; exact hPc, va_K.moved hW.alike hK, vh_nx.warm hW hnx⟩⟩ rfl rfl hls rfl (lv_room (by
      show 1 + ((rest).map fun v => v.category).sum ≤ 8
      omega)) hd4 ⟨by omega, by omega⟩
  intro T9 hT X
  obtain ⟨v, st₀, t9, T', L, h0, X', hLf, e1, e2, ⟨⟨hv, ad1, hP2, hD2, had1⟩, hF⟩, stp⟩ := hr2 T9 hT X
  cases hv
  obtain ⟨hz, hkp⟩ := hF
  rw [h0] at hz hkp
  have hk2 := kk ad1 T'.heap (by rw [e1]; exact hP2) (hD2.weaken (fun k x _ hx => hFree x.1 hx)) (Nat.le_trans hS1.1 (by rw [e1]; exact hz)) (fun q1 h1 => by
    rw [e1, hkp q1 (Nat.lt_of_lt_of_le h1 hS1.1) (fun z => by have := hFree q1 z; omega)]
    exact hS1.2.1 q1 h1 (fun z => by omega))
  rw [had1] at hk2
  obtain ⟨t2, a1, b1⟩ := W.forget (locs := []) (L := L) (fun z hz => Nat.le_trans hsz (hFree _ (hLf z hz))) hk2 T' rfl X'
  exact ⟨t2, stp t2 a1, b1⟩
end LN
