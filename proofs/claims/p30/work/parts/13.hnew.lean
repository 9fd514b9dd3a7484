/-! new objects by constructors without arguments, in the machine vh -/
section HN
variable {tb : List Cond} {nw : vhW} {cl : List vw_C} {tyl : List FieldType} {cc : ByteArray} {nL : Nat} {own : String} {ret : Option FieldType} {d Rc Rs : Nat} {ini : Bool} {pc n : Nat}
theorem ht_newc {ci ix ic N : Nat} {C : String} {T : u_T} (ty : Nat → FieldType) {fs : List Value} {y : MethodName} {bytes : ByteArray} {mL d' mc ms : Nat} {cs : vhS} (hI : vh_Ini tb nw cl tyl y bytes mL d' mc ms ci fs cs) (hc0 : 0 < cs.length)
    (hd0 : decode cc pc = .ok (.new ix, 3)) (hd3 : decode cc (pc + 3) = .ok (.dup, 1)) (hd4 : decode cc (pc + 4) = .ok (.invokespecial ic, 3)) (hc : cl[ci]? = some (C, T, N)) (hin : ∀ w ∈ u_ws C T N, w ∈ tb) (hty0 : ∀ k, k < N → parseFieldDescriptor (T k).2.2.1 = some (ty k))
    (hk0 : Cond.classLink own ix C ∈ tb) (hinst : Cond.instantiable C N ∈ tb) (hini : Cond.initialized C ∈ tb) (hfs : ∀ j, j < N → defaultValue (ty j) = vp_V fs j) (hG : tb.all goodWord = true) (hcw : Cond.code y bytes mL none ∈ tb) (hyC : y.cls = C) (hl2 : Cond.methodLink own ic y ∈ tb) (hi : Cond.instanceMethod y ∈ tb) (hyn : y.name = "<init>")
    (hy : y.cls ≠ "java/lang/invoke/MethodHandle" ∧ y.cls ≠ "java/lang/invoke/VarHandle" ∧ (parseMethodDescriptor y.desc).map (fun d => d.parameters.length) = some 0) (hR : d' + 1 ≤ d ∧ mL ≤ 13) (hn : pc + 7 = n) : vh_Snd tb nw cl tyl cc nL own ret d Rc Rs ini pc (hi_newc Rc Rs N mc ms cs n) := by
  subst hn
  refine ⟨hs_m1 fun K K' h lv st σ g => ?_, ?_⟩
  · cases hb : Nat.ble (vg_wd st) 6 with
    | false => rw [hb] at g; exact g.elim
    | true => rw [hb] at g; exact ⟨g.1, h _ _ _ _ g.2⟩
  intro p l e R s m args below meth c D tys n0 ad0 A P Z C0 E0 lv st σ h ad H locs ls hag hl ho hs hwf hP hD hS
  unfold hi_newc at h
  cases hb : Nat.ble (vg_wd st) 6 with
  | false => rw [hb] at h; exact h.elim
  | true =>
    rw [hb] at h
    have hwd : vg_wd st ≤ 6 := Nat.le_of_ble_eq_true hb
    obtain ⟨⟨h1, h2⟩, hk⟩ := h
    obtain ⟨hx, hcb, hml, hown, hts, hK, hty, hr, hlocks, hRR, hA, hRc, hini2, hnx⟩ := C0
    refine va_new (ci := ci) (fs := fs) (C := C) (T := T) (N := N) hx hcb hts hin ty hty0 hown (hts _ hk0) (hts _ hinst) (hts _ hini) hK hP hD hS hA hc hfs (by omega) (by omega) hd0 (fun q H1 hP1 hD1 hS1 => ?_)
    refine lv_dup hx hcb hd3 rfl ?_
    have hL : (vh_ws ad tys σ.1).length = σ.1.length := by unfold vh_ws; rw [List.length_mapIdx]
    have hat : (vh_ws ad tys σ.1 ++ [(q, (Sum.inr (ci, fs) : va_E))])[σ.1.length]? = some (q, .inr (ci, fs)) := by
      rw [List.getElem?_append_right (by omega), hL, Nat.sub_self]
      rfl
    have hPc : va_P D cl [(q, .inr (ci, fs))] H1 := by
      intro k x hkx
      have h9 : k < 1 := (List.getElem?_eq_some_iff.mp hkx).1
      have h8 : k = 0 := by omega
      subst h8
      cases hkx
      exact hP1 _ _ hat
    have hold : ∀ (k : Nat) (x : Nat × va_E), (vh_ws ad tys σ.1)[k]? = some x → x.1 < H1.size ∧ ¬ va_A [(q, (Sum.inr (ci, fs) : va_E))] H1.size x.1 := by
      intro k x hkx
      have hkl : k < σ.1.length := by rw [← hL]; exact (List.getElem?_eq_some_iff.mp hkx).1
      have hka : (vh_ws ad tys σ.1 ++ [(q, (Sum.inr (ci, fs) : va_E))])[k]? = some x := by
        rw [List.getElem?_append_left (by rw [hL]; exact hkl)]
        exact hkx
      have hlt := (hP1 k x hka).lt
      refine ⟨hlt, fun z => ?_⟩
      rcases z with ⟨k2, e2, z⟩ | z
      · have h9 : k2 < 1 := (List.getElem?_eq_some_iff.mp z).1
        have h8 : k2 = 0 := by omega
        subst h8
        have h7 : q = x.1 := congrArg Prod.fst (Option.some.inj z)
        have := hD1.1 k σ.1.length x _ hka hat h7.symm
        omega
      · omega
    have hFree : ∀ z, va_A [(q, (Sum.inr (ci, fs) : va_E))] H1.size z → A z := by
      intro z hz
      rcases hz with ⟨k2, e2, hz⟩ | hz
      · have h9 : k2 < 1 := (List.getElem?_eq_some_iff.mp hz).1
        have h8 : k2 = 0 := by omega
        subst h8
        have h7 : q = z := congrArg Prod.fst (Option.some.inj hz)
        rw [← h7]
        exact hD1.2 _ _ hat
      · exact hA z (Nat.le_trans hS1.1 hz)
    have hg : ∀ w ∈ tb, goodWord w = true := fun w h => List.all_eq_true.mp hG w h
    have cw : CallB R s args own ic y bytes mL none (.code y bytes mL none :: tb) { frames := d', cells := mc, slots := ms, locals := 32 * d' } mc ms 0 := by
      refine callB_of 0 hts (fun w hw => ?_) rfl rfl rfl (hts _ (by rw [hyC]; exact hini)) (hts _ hl2) hy ⟨Nat.le_trans hR.1 hRR.1, ?_⟩
      · rcases List.mem_cons.mp hw with rfl | hw
        · exact ⟨hcw, good_of_word (hg _ hcw)⟩
        · exact ⟨hw, good_of_word (hg _ hw)⟩
      · show 8 + (mL + 11) + 32 * d' ≤ R.locals
        omega
    have hr2 := va_runI (As := []) (rest := .ref q :: st.map (vg_cv ad)) (locs := locs) (cells := σ.2.1 + 1) (slots := σ.2.2 + N) (below := below) (meth := meth) (e := e) (g := F0 m (pc + 4) ls (.ref q :: .ref q :: st.map (vg_cv ad))) ⟨hx, hcb, hml, hown, hts⟩ (hI.2 l D tys q H1.size hty) ⟨cw, hyn, hts _ hi⟩ ⟨fun a U g mk z => by
        obtain ⟨q0, q1, qP, qK, qN⟩ := z
        exact ⟨q0, q1, qP, va_K.moved (u := U) (U := U.calling g mk a) (Vm.Alike.refl U.vm) qK, vh_nx.blind qN⟩, fun U hU hW => ⟨rfl, by rw [hU], by rw [hU]; exact hPc, va_K.moved hW.alike hK, vh_nx.warm hW hnx⟩⟩ rfl rfl hl.1 rfl (lv_room (by
        show 1 + ((st.map (vg_cv ad)).map fun v => v.category).sum ≤ 8
        rw [vg_wd_sum]
        omega)) hd4 ⟨by omega, by omega⟩
    intro T9 hT X
    obtain ⟨v, st₀, t, T', L, h0, X', hLf, e1, e2, ⟨⟨hv, ad1, hP2, hD2, had1⟩, hF⟩, stp⟩ := hr2 T9 hT X
    cases hv
    obtain ⟨hz, hkp⟩ := hF
    rw [h0] at hz hkp
    have hS2 : va_S A s.heap T'.heap (locs ++ L) := ⟨Nat.le_trans hS1.1 (by rw [e1]; exact hz), fun q h1 h2 => by rw [e1, hkp q (Nat.lt_of_lt_of_le h1 hS1.1) (fun z => h2 (hFree q z))]; exact hS1.2.1 q h1 h2, fun q hq => by
      rcases List.mem_append.mp hq with h | h
      · exact hS1.2.2 q h
      · exact hFree _ (hLf q h)⟩
    have hPn : va_P D cl (vh_ws ad tys σ.1 ++ vh_ws ad1 tys cs) T'.heap := by
      refine va_P.app (fun k x hkx => ?_) (by rw [e1]; exact hP2)
      obtain ⟨g1, g2⟩ := hold k x hkx
      have hka : (vh_ws ad tys σ.1 ++ [(q, (Sum.inr (ci, fs) : va_E))])[k]? = some x := by
        rw [List.getElem?_append_left (List.getElem?_eq_some_iff.mp hkx).1]
        exact hkx
      exact (hP1 k x hka).kept (by rw [e1]; exact hkp x.1 g1 g2)
    have hDn : va_D A (vh_ws ad tys σ.1 ++ vh_ws ad1 tys cs) := va_D.app hD (hD2.weaken (fun k x _ hx => hFree x.1 hx)) (fun i j x y hx' hy' hxy => (hold i x hx').2 (by rw [hxy]; exact hD2.2 j y hy'))
    obtain ⟨t2, a1, b1⟩ := vh_grow hk hag hl ho hs hwf hI.1 hc0 had1 hPn hDn hS2 T' rfl X'
    exact ⟨t2, stp t2 a1, b1⟩
theorem ht_newcN {ci ix ic N : Nat} {C : String} {T : u_T} (ty : Nat → FieldType) {fs : List Value} {y : MethodName} {bytes : ByteArray} {mL d' mc ms : Nat} {cs : vhS} {host : String} (hI : vh_Ini tb nw cl tyl y bytes mL d' mc ms ci fs cs) (hc0 : 0 < cs.length)
    (hd0 : decode cc pc = .ok (.new ix, 3)) (hd3 : decode cc (pc + 3) = .ok (.dup, 1)) (hd4 : decode cc (pc + 4) = .ok (.invokespecial ic, 3)) (hc : cl[ci]? = some (C, T, N)) (hin : ∀ w ∈ u_ws C T N, w ∈ tb) (hty0 : ∀ k, k < N → parseFieldDescriptor (T k).2.2.1 = some (ty k))
    (hk0 : Cond.classLink own ix C ∈ tb) (hinst : Cond.instantiable C N ∈ tb) (hini : Cond.initialized C ∈ tb) (hfs : ∀ j, j < N → defaultValue (ty j) = vp_V fs j) (hG : tb.all goodWord = true) (hcw : Cond.code y bytes mL none ∈ tb) (hyC : y.cls = C) (hl2 : (own, ic, y, host) ∈ nw.1) (hi : Cond.instanceMethod y ∈ tb) (hyn : y.name = "<init>")
    (hy : y.cls ≠ "java/lang/invoke/MethodHandle" ∧ y.cls ≠ "java/lang/invoke/VarHandle" ∧ (parseMethodDescriptor y.desc).map (fun d => d.parameters.length) = some 0) (hR : d' + 1 ≤ d ∧ mL ≤ 13) (hn : pc + 7 = n) : vh_Snd tb nw cl tyl cc nL own ret d Rc Rs ini pc (hi_newc Rc Rs N mc ms cs n) := by
  subst hn
  refine ⟨hs_m1 fun K K' h lv st σ g => ?_, ?_⟩
  · cases hb : Nat.ble (vg_wd st) 6 with
    | false => rw [hb] at g; exact g.elim
    | true => rw [hb] at g; exact ⟨g.1, h _ _ _ _ g.2⟩
  intro p l e R s m args below meth c D tys n0 ad0 A P Z C0 E0 lv st σ h ad H locs ls hag hl ho hs hwf hP hD hS
  unfold hi_newc at h
  cases hb : Nat.ble (vg_wd st) 6 with
  | false => rw [hb] at h; exact h.elim
  | true =>
    rw [hb] at h
    have hwd : vg_wd st ≤ 6 := Nat.le_of_ble_eq_true hb
    obtain ⟨⟨h1, h2⟩, hk⟩ := h
    obtain ⟨hx, hcb, hml, hown, hts, hK, hty, hr, hlocks, hRR, hA, hRc, hini2, hnx⟩ := C0
    refine va_new (ci := ci) (fs := fs) (C := C) (T := T) (N := N) hx hcb hts hin ty hty0 hown (hts _ hk0) (hts _ hinst) (hts _ hini) hK hP hD hS hA hc hfs (by omega) (by omega) hd0 (fun q H1 hP1 hD1 hS1 => ?_)
    refine lv_dup hx hcb hd3 rfl ?_
    have hL : (vh_ws ad tys σ.1).length = σ.1.length := by unfold vh_ws; rw [List.length_mapIdx]
    have hat : (vh_ws ad tys σ.1 ++ [(q, (Sum.inr (ci, fs) : va_E))])[σ.1.length]? = some (q, .inr (ci, fs)) := by
      rw [List.getElem?_append_right (by omega), hL, Nat.sub_self]
      rfl
    have hPc : va_P D cl [(q, .inr (ci, fs))] H1 := by
      intro k x hkx
      have h9 : k < 1 := (List.getElem?_eq_some_iff.mp hkx).1
      have h8 : k = 0 := by omega
      subst h8
      cases hkx
      exact hP1 _ _ hat
    have hold : ∀ (k : Nat) (x : Nat × va_E), (vh_ws ad tys σ.1)[k]? = some x → x.1 < H1.size ∧ ¬ va_A [(q, (Sum.inr (ci, fs) : va_E))] H1.size x.1 := by
      intro k x hkx
      have hkl : k < σ.1.length := by rw [← hL]; exact (List.getElem?_eq_some_iff.mp hkx).1
      have hka : (vh_ws ad tys σ.1 ++ [(q, (Sum.inr (ci, fs) : va_E))])[k]? = some x := by
        rw [List.getElem?_append_left (by rw [hL]; exact hkl)]
        exact hkx
      have hlt := (hP1 k x hka).lt
      refine ⟨hlt, fun z => ?_⟩
      rcases z with ⟨k2, e2, z⟩ | z
      · have h9 : k2 < 1 := (List.getElem?_eq_some_iff.mp z).1
        have h8 : k2 = 0 := by omega
        subst h8
        have h7 : q = x.1 := congrArg Prod.fst (Option.some.inj z)
        have := hD1.1 k σ.1.length x _ hka hat h7.symm
        omega
      · omega
    have hFree : ∀ z, va_A [(q, (Sum.inr (ci, fs) : va_E))] H1.size z → A z := by
      intro z hz
      rcases hz with ⟨k2, e2, hz⟩ | hz
      · have h9 : k2 < 1 := (List.getElem?_eq_some_iff.mp hz).1
        have h8 : k2 = 0 := by omega
        subst h8
        have h7 : q = z := congrArg Prod.fst (Option.some.inj hz)
        rw [← h7]
        exact hD1.2 _ _ hat
      · exact hA z (Nat.le_trans hS1.1 hz)
    have hg : ∀ w ∈ tb, goodWord w = true := fun w h => List.all_eq_true.mp hG w h
    have cw : va_CN R s args own ic y host bytes mL none (.code y bytes mL none :: tb) { frames := d', cells := mc, slots := ms, locals := 32 * d' } mc ms 0 := by
      refine va_cnB 0 hts (fun w hw => ?_) rfl rfl rfl (hnx.1 _ hl2) (hts _ (by rw [hyC]; exact hini)) hy ⟨Nat.le_trans hR.1 hRR.1, ?_⟩
      · rcases List.mem_cons.mp hw with rfl | hw
        · exact ⟨hcw, good_of_word (hg _ hcw)⟩
        · exact ⟨hw, good_of_word (hg _ hw)⟩
      · show 8 + (mL + 11) + 32 * d' ≤ R.locals
        omega
    have hr2 := va_runIN (As := []) (rest := .ref q :: st.map (vg_cv ad)) (locs := locs) (cells := σ.2.1 + 1) (slots := σ.2.2 + N) (below := below) (meth := meth) (e := e) (g := F0 m (pc + 4) ls (.ref q :: .ref q :: st.map (vg_cv ad))) ⟨hx, hcb, hml, hown, hts⟩ (hI.2 l D tys q H1.size hty) ⟨cw, hyn, hts _ hi⟩ ⟨fun a U g mk z => by
        obtain ⟨q0, q1, qP, qK, qN⟩ := z
        exact ⟨q0, q1, qP, va_K.moved (u := U) (U := U.calling g mk a) (Vm.Alike.refl U.vm) qK, vh_nx.blind qN⟩, fun U hU hW => ⟨rfl, by rw [hU], by rw [hU]; exact hPc, va_K.moved hW.alike hK, vh_nx.warm hW hnx⟩⟩ rfl rfl hl.1 rfl (lv_room (by
        show 1 + ((st.map (vg_cv ad)).map fun v => v.category).sum ≤ 8
        rw [vg_wd_sum]
        omega)) hd4 ⟨by omega, by omega⟩
    intro T9 hT X
    obtain ⟨v, st₀, t, T', L, h0, X', hLf, e1, e2, ⟨⟨hv, ad1, hP2, hD2, had1⟩, hF⟩, stp⟩ := hr2 T9 hT X
    cases hv
    obtain ⟨hz, hkp⟩ := hF
    rw [h0] at hz hkp
    have hS2 : va_S A s.heap T'.heap (locs ++ L) := ⟨Nat.le_trans hS1.1 (by rw [e1]; exact hz), fun q h1 h2 => by rw [e1, hkp q (Nat.lt_of_lt_of_le h1 hS1.1) (fun z => h2 (hFree q z))]; exact hS1.2.1 q h1 h2, fun q hq => by
      rcases List.mem_append.mp hq with h | h
      · exact hS1.2.2 q h
      · exact hFree _ (hLf q h)⟩
    have hPn : va_P D cl (vh_ws ad tys σ.1 ++ vh_ws ad1 tys cs) T'.heap := by
      refine va_P.app (fun k x hkx => ?_) (by rw [e1]; exact hP2)
      obtain ⟨g1, g2⟩ := hold k x hkx
      have hka : (vh_ws ad tys σ.1 ++ [(q, (Sum.inr (ci, fs) : va_E))])[k]? = some x := by
        rw [List.getElem?_append_left (List.getElem?_eq_some_iff.mp hkx).1]
        exact hkx
      exact (hP1 k x hka).kept (by rw [e1]; exact hkp x.1 g1 g2)
    have hDn : va_D A (vh_ws ad tys σ.1 ++ vh_ws ad1 tys cs) := va_D.app hD (hD2.weaken (fun k x _ hx => hFree x.1 hx)) (fun i j x y hx' hy' hxy => (hold i x hx').2 (by rw [hxy]; exact hD2.2 j y hy'))
    obtain ⟨t2, a1, b1⟩ := vh_grow hk hag hl ho hs hwf hI.1 hc0 had1 hPn hDn hS2 T' rfl X'
    exact ⟨t2, stp t2 a1, b1⟩
end HN
