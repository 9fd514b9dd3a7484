/-! calls by contract -/
section VC
variable {p : Program} {l : Launch} {e : Env} {R : Room} {s : State} {m : MethodId} {args : Array Value} {below : List Frame} {meth : Method} {c : Code} {H : Heap} {locs : List Loc} {Q : State → Prop}
variable {tb : List Cond} {nw : List (String × Nat × MethodName × String)} {shp : vgN → vgH} {nm : List vgN} {cl : List vw_C} {tyl : List FieldType} {cc : ByteArray} {nL : Nat} {own : String} {ret : Option FieldType} {d pc n : Nat}
theorem vg_callK {D : va_G} {tys : List (ClassId × FieldType)} {ad : vgN → Nat} {A A1 : Nat → Prop} {P : vgO} {a : Array Value} {ls : Array Slot} {st0 rest : List Value}
    (hr : va_Run p l e R s m args below meth c H locs 0 0 0 0 (F0 m pc ls st0) rest (vg_Q shp nm cl D tys ad A1 P a) A1) (hS : va_S A s.heap H locs) (hA : ∀ q, A1 q → A q)
    (kk : ∀ (r : Option vgV) (σ : vgS) (H1 : Heap) (locs1 : List Loc), P r σ → (∀ v, r = some v → vg_ok nm v) → va_P D cl (vg_ws shp nm ad tys σ) H1 → va_S A s.heap H1 locs1 → W p l e R s m args below meth c H1 locs1 0 0 Q (F0 m (pc + 3) ls ((r.map (vg_cv ad)).toList ++ rest))) : W p l e R s m args below meth c H locs 0 0 Q (F0 m pc ls st0) := by
  intro T hT X
  obtain ⟨v, st₀, t, T', L, h0, X', hL, e1, e2, ⟨⟨r, σ', hv, hp, hok, hP1⟩, hz, hk⟩, st⟩ := hr T hT X
  cases hv
  rw [h0] at hz hk
  obtain ⟨t2, a1, b1⟩ := kk r σ' T'.heap (locs ++ L) hp hok (by rw [e1]; exact hP1)
    ⟨Nat.le_trans hS.1 (by rw [e1]; exact hz), fun q h1 h2 => by rw [e1, hk q (Nat.lt_of_lt_of_le h1 hS.1) (fun z => h2 (hA q z))]; exact hS.2.1 q h1 h2, fun q hq => by
      rcases List.mem_append.mp hq with h | h
      · exact hS.2.2 q h
      · exact hA _ (hL q h)⟩ T' rfl X'
  exact ⟨t2, st t2 a1, b1⟩
theorem vg_pop_eq : ∀ (k : Nat) (acc st a t : vgT), vg_pop k acc st = some (a, t) → a.reverse ++ t = acc.reverse ++ st ∧ a.length = k + acc.length
  | 0, acc, st, a, t, h => by
    cases h
    exact ⟨rfl, (Nat.zero_add _).symm⟩
  | k + 1, acc, [], a, t, h => by cases h
  | k + 1, acc, v :: st, a, t, h => by
    obtain ⟨h1, h2⟩ := vg_pop_eq k (v :: acc) st a t h
    refine ⟨by rw [h1]; simp, by rw [h2]; simp; omega⟩
theorem vg_in_A {σ : vgS} {ad : vgN → Nat} {tys : List (ClassId × FieldType)} {A : Nat → Prop} {H0 H : Heap} (hD : va_D A (vg_ws shp nm ad tys σ)) (hA : ∀ q, H0.size ≤ q → A q) (hz : H0.size ≤ H.size) : ∀ q, vg_A nm ad H.size q → A q := by
  intro q h
  rcases h with ⟨n, hn, rfl⟩ | h
  · obtain ⟨k, _, hk⟩ := vg_ws_get (shp := shp) (ad := ad) (tys := tys) (σ := σ) hn
    exact hD.2 k _ hk
  · exact hA q (Nat.le_trans hz h)
theorem vg_k_mono {K K' : vgK} (h : ∀ pc lv st σ, K pc lv st σ → K' pc lv st σ) {n : Nat} {lv : vgL} {st : vgT} {r : Option vgV} {σ : vgS} (g : vg_k K n lv st r σ) : vg_k K' n lv st r σ := by
  cases r with
  | none => exact h _ _ _ _ g
  | some v => exact h _ _ _ _ g
abbrev vg_MetF (tb : List Cond) (nw : List (String × Nat × MethodName × String)) (shp : vgN → vgH) (nm : List vgN) (cl : List vw_C) (tyl : List FieldType) (y : MethodName) (cc : ByteArray) (nL : Nat) (ret : Option FieldType) (d : Nat) (sp : vgC) : Prop :=
  vg_Met tb nw shp nm cl tyl y cc nL ret d (fun av σ => (sp av σ).1) (fun av σ r σ' => r = (sp av σ).2.1 ∧ σ' = (sp av σ).2.2)
theorem vg_callB {y : MethodName} {bytes : ByteArray} {mL k ix d' : Nat} {rt : Option FieldType} (hts : ∀ w ∈ tb, w.before args s = true) (hG : tb.all goodWord = true) (hcw : Cond.code y bytes mL rt ∈ tb) (hini : Cond.initialized y.cls ∈ tb) (hl : Cond.methodLink own ix y ∈ tb)
    (hd : y.cls ≠ "java/lang/invoke/MethodHandle" ∧ y.cls ≠ "java/lang/invoke/VarHandle" ∧ (parseMethodDescriptor y.desc).map (fun d => d.parameters.length) = some k) (hR : d' + 1 ≤ d ∧ mL ≤ 13) : CallB (vg_rm d) s args own ix y bytes mL rt (.code y bytes mL rt :: tb) (vg_rm d') 0 0 k := by
  have hg : ∀ w ∈ tb, goodWord w = true := fun w h => List.all_eq_true.mp hG w h
  refine callB_of k hts (fun w hw => ?_) rfl rfl rfl (hts _ hini) (hts _ hl) hd ⟨hR.1, ?_⟩
  · rcases List.mem_cons.mp hw with rfl | hw
    · exact ⟨hcw, good_of_word (hg _ hcw)⟩
    · exact ⟨hw, good_of_word (hg _ hw)⟩
  · show 8 + (mL + 11) + 32 * d' ≤ 32 * d
    omega
theorem vs_callV {ci k ix : Nat} {C : String} {T : u_T} {N : Nat} {y : MethodName} {bytes : ByteArray} {mL d' : Nat} {rt : Option FieldType} {sp : vgC} (hM : vg_MetF tb nw shp nm cl tyl y bytes mL rt d' sp) (hd : decode cc pc = .ok (.invokevirtual ix, 3)) (hc : cl[ci]? = some (C, T, N))
    (hG : tb.all goodWord = true) (hcw : Cond.code y bytes mL rt ∈ tb) (hini : Cond.initialized C ∈ tb) (hl : Cond.methodLink own ix y ∈ tb) (hi : Cond.instanceMethod y ∈ tb) (hse : Cond.selects C y y ∈ tb)
    (hy : y.cls = C ∧ y.cls ≠ "java/lang/invoke/MethodHandle" ∧ y.cls ≠ "java/lang/invoke/VarHandle" ∧ (parseMethodDescriptor y.desc).map (fun d => d.parameters.length) = some k) (hR : d' + 1 ≤ d ∧ mL ≤ 13) (hn : pc + 3 = n) : vg_Snd tb nw shp nm cl tyl cc nL own ret d pc (vi_callV shp ci sp k n) := by
  subst hn
  refine ⟨vs_m1 fun K K' h lv st σ g => ?_, ?_⟩
  · split at g
    · split at g
      next o _ =>
        cases hb : Nat.beq o.1 ci && Nat.ble (vg_wd _) 8 with
        | false => rw [hb] at g; exact g.elim
        | true =>
          rw [hb] at g
          have g2 : (sp _ σ).1 ∧ vg_k K (pc + 3) lv _ (sp _ σ).2.1 (sp _ σ).2.2 := g
          show (sp _ σ).1 ∧ vg_k K' (pc + 3) lv _ (sp _ σ).2.1 (sp _ σ).2.2
          exact ⟨g2.1, vg_k_mono h g2.2⟩
      next => exact g
    · exact g
  intro p l e R s m args below meth c D tys ad A P C0 lv st σ h H locs ls hl0 ho hs hP hS
  unfold vi_callV at h
  split at h
  next m0 as t hpop =>
    split at h
    next o ho0 =>
      cases hb : Nat.beq o.1 ci && Nat.ble (vg_wd t) 8 with
      | false => rw [hb] at h; exact h.elim
      | true =>
        rw [hb] at h
        simp only [Bool.and_eq_true] at hb
        have e : o.1 = ci := Nat.eq_of_beq_eq_true hb.1
        have hwd : vg_wd t ≤ 8 := Nat.le_of_ble_eq_true hb.2
        have h2 : (sp (.inr m0 :: as) σ).1 ∧ vg_k _ (pc + 3) lv t (sp (.inr m0 :: as) σ).2.1 (sp (.inr m0 :: as) σ).2.2 := h
        obtain ⟨hpre, hk⟩ := h2
        obtain ⟨hx, hcb, hml, hown, hts, hK, hty, hr, hlocks, hRR, hA, hDA, hclo, hnw⟩ := C0
        subst hRR
        obtain ⟨e1, e2⟩ := vg_pop_eq _ _ _ _ _ hpop
        have hst : st = (Sum.inr m0 :: as : vgT).reverse ++ t := by rw [e1]; rfl
        have hav : ∀ v ∈ (Sum.inr m0 :: as : vgT), vg_ok nm v := fun v hv => hs v (by rw [hst]; exact List.mem_append_left _ (List.mem_reverse.mpr hv))
        have ht : ∀ v ∈ t, vg_ok nm v := fun v hv => hs v (by rw [hst]; exact List.mem_append_right _ hv)
        have hlen : as.length = k := by simp at e2; omega
        have hm0 : m0 ∈ nm := hav _ List.mem_cons_self
        obtain ⟨q0, hq0, hws⟩ := vg_ws_get (shp := shp) (ad := ad) (tys := tys) (σ := σ) hm0
        rw [ho0] at hws
        have hws2 : (vg_ws shp nm ad tys σ)[q0]? = some (ad m0, .inr (ci, vg_fs ad (σ m0) 0 o.2)) := by rw [hws]; show some (ad m0, Sum.inr (o.1, _)) = _; rw [e]
        have hstk : st.map (vg_cv ad) = (as.map (vg_cv ad)).reverse ++ .ref (ad m0) :: t.map (vg_cv ad) := by rw [hst]; simp [vg_cv]
        have cw : CallW (vg_rm d) s args own C ix y bytes mL rt (.code y bytes mL rt :: tb) (vg_rm d') 0 0 k := ⟨vg_callB hts hG hcw (by rw [hy.1]; exact hini) hl hy.2 hR, hts _ hi, hts _ hse⟩
        refine vg_callK (va_runV (As := as.map (vg_cv ad)) (b := ad m0) (rest := t.map (vg_cv ad)) ⟨hx, hcb, hml, hown, hts⟩ (hM l D tys ad H.size (.inr m0 :: as) σ hty hav hpre) cw ⟨fun a U g mk q => ?_, va_recv hK hP (ci := ci) (q0 := q0) hc hws2, fun U hU hW => ⟨?_, ?_, ?_, ?_, ?_, fun z hz => va_Nw.warmM hW (hnw z hz)⟩⟩ rfl (by rw [List.length_map]; exact hlen) hl0.1 hstk (lv_room (by rw [vg_wd_sum]; exact hwd)) hd ⟨Nat.le_refl _, Nat.le_refl _⟩) hS (vg_in_A (hDA σ) hA hS.1) (fun r σ1 H1 locs1 hp hok hP1 hS1 => ?_)
        · obtain ⟨q0, q1, qP, qK, qD, qN⟩ := q
          exact ⟨q0, q1, qP, va_K.moved (u := U) (U := U.calling g mk a) (Vm.Alike.refl U.vm) qK, qD, fun z hz => va_Nw.same (u := U) (U := U.calling g mk a) rfl rfl (qN z hz)⟩
        · rfl
        · rw [hU]
        · rw [hU]; exact hP
        · exact va_K.moved hW.alike hK
        · exact (hDA σ).weaken (fun _ _ _ _ => trivial)
        · obtain ⟨rfl, rfl⟩ := hp
          unfold vg_k at hk
          cases hre : (sp (.inr m0 :: as) σ).2.1 with
          | none => rw [hre] at hk; exact hk H1 locs1 ls hl0 ho ht hP1 hS1
          | some v => rw [hre] at hk; exact hk H1 locs1 ls hl0 ho (vg_okc (hok v hre) ht) hP1 hS1
    next => exact h.elim
  next => exact h.elim
/-- a static method of the class itself -/
theorem vs_callS {k ix : Nat} {y : MethodName} {bytes : ByteArray} {mL d' : Nat} {rt : Option FieldType} {sp : vgC} (hM : vg_MetF tb nw shp nm cl tyl y bytes mL rt d' sp) (hd : decode cc pc = .ok (.invokestatic ix, 3))
    (hG : tb.all goodWord = true) (hcw : Cond.code y bytes mL rt ∈ tb) (hini : Cond.initialized y.cls ∈ tb) (hl : Cond.methodLink own ix y ∈ tb) (hi : Cond.static y ∈ tb)
    (hy : y.cls ≠ "java/lang/invoke/MethodHandle" ∧ y.cls ≠ "java/lang/invoke/VarHandle" ∧ (parseMethodDescriptor y.desc).map (fun d => d.parameters.length) = some k) (hR : d' + 1 ≤ d ∧ mL ≤ 13) (hn : pc + 3 = n) : vg_Snd tb nw shp nm cl tyl cc nL own ret d pc (vi_callS sp k n) := by
  subst hn
  refine ⟨vs_m1 fun K K' h lv st σ g => ?_, ?_⟩
  · split at g
    next q _ =>
      cases hb : Nat.ble (vg_wd q.2) 8 with
      | false => rw [hb] at g; exact g.elim
      | true =>
        rw [hb] at g
        have g2 : (sp q.1 σ).1 ∧ vg_k K (pc + 3) lv q.2 (sp q.1 σ).2.1 (sp q.1 σ).2.2 := g
        show (sp q.1 σ).1 ∧ vg_k K' (pc + 3) lv q.2 (sp q.1 σ).2.1 (sp q.1 σ).2.2
        exact ⟨g2.1, vg_k_mono h g2.2⟩
    next => exact g
  intro p l e R s m args below meth c D tys ad A P C0 lv st σ h H locs ls hl0 ho hs hP hS
  unfold vi_callS at h
  split at h
  next q hpop =>
    cases hb : Nat.ble (vg_wd q.2) 8 with
    | false => rw [hb] at h; exact h.elim
    | true =>
      rw [hb] at h
      obtain ⟨as, t⟩ := q
      have hwd : vg_wd t ≤ 8 := Nat.le_of_ble_eq_true hb
      have h2 : (sp as σ).1 ∧ vg_k _ (pc + 3) lv t (sp as σ).2.1 (sp as σ).2.2 := h
      obtain ⟨hpre, hk⟩ := h2
      obtain ⟨hx, hcb, hml, hown, hts, hK, hty, hr, hlocks, hRR, hA, hDA, hclo, hnw⟩ := C0
      subst hRR
      obtain ⟨e1, e2⟩ := vg_pop_eq _ _ _ _ _ hpop
      have hst : st = as.reverse ++ t := by rw [e1]; rfl
      have hav : ∀ v ∈ as, vg_ok nm v := fun v hv => hs v (by rw [hst]; exact List.mem_append_left _ (List.mem_reverse.mpr hv))
      have ht : ∀ v ∈ t, vg_ok nm v := fun v hv => hs v (by rw [hst]; exact List.mem_append_right _ hv)
      have hlen : as.length = k := by simp at e2; omega
      have hstk : st.map (vg_cv ad) = (as.map (vg_cv ad)).reverse ++ t.map (vg_cv ad) := by rw [hst]; simp
      refine vg_callK (va_runS (As := as.map (vg_cv ad)) (rest := t.map (vg_cv ad)) ⟨hx, hcb, hml, hown, hts⟩ (hM l D tys ad H.size as σ hty hav hpre) ⟨vg_callB hts hG hcw hini hl hy hR, hts _ hi⟩ ⟨fun a U g mk q => ?_, fun U hU hW => ⟨rfl, ?_, ?_, ?_, ?_, fun z hz => va_Nw.warmM hW (hnw z hz)⟩⟩ rfl (by rw [List.length_map]; exact hlen) hl0.1 hstk (lv_room (by rw [vg_wd_sum]; exact hwd)) hd ⟨Nat.le_refl _, Nat.le_refl _⟩) hS (vg_in_A (hDA σ) hA hS.1) (fun r σ1 H1 locs1 hp hok hP1 hS1 => ?_)
      · obtain ⟨q0, q1, qP, qK, qD, qN⟩ := q
        exact ⟨q0, q1, qP, va_K.moved (u := U) (U := U.calling g mk a) (Vm.Alike.refl U.vm) qK, qD, fun z hz => va_Nw.same (u := U) (U := U.calling g mk a) rfl rfl (qN z hz)⟩
      · rw [hU]
      · rw [hU]; exact hP
      · exact va_K.moved hW.alike hK
      · exact (hDA σ).weaken (fun _ _ _ _ => trivial)
      · obtain ⟨rfl, rfl⟩ := hp
        unfold vg_k at hk
        cases hre : (sp as σ).2.1 with
        | none => rw [hre] at hk; exact hk H1 locs1 ls hl0 ho ht hP1 hS1
        | some v => rw [hre] at hk; exact hk H1 locs1 ls hl0 ho (vg_okc (hok v hre) ht) hP1 hS1
  next => exact h.elim
/-- a private static method of a nest mate -/
theorem vs_callSN {k ix : Nat} {host : String} {y : MethodName} {bytes : ByteArray} {mL d' : Nat} {rt : Option FieldType} {sp : vgC} (hM : vg_MetF tb nw shp nm cl tyl y bytes mL rt d' sp) (hd : decode cc pc = .ok (.invokestatic ix, 3))
    (hG : tb.all goodWord = true) (hcw : Cond.code y bytes mL rt ∈ tb) (hini : Cond.initialized y.cls ∈ tb) (hl : (own, ix, y, host) ∈ nw) (hi : Cond.static y ∈ tb)
    (hy : y.cls ≠ "java/lang/invoke/MethodHandle" ∧ y.cls ≠ "java/lang/invoke/VarHandle" ∧ (parseMethodDescriptor y.desc).map (fun d => d.parameters.length) = some k) (hR : d' + 1 ≤ d ∧ mL ≤ 13) (hn : pc + 3 = n) : vg_Snd tb nw shp nm cl tyl cc nL own ret d pc (vi_callS sp k n) := by
  subst hn
  refine ⟨vs_m1 fun K K' h lv st σ g => ?_, ?_⟩
  · split at g
    next q _ =>
      cases hb : Nat.ble (vg_wd q.2) 8 with
      | false => rw [hb] at g; exact g.elim
      | true =>
        rw [hb] at g
        have g2 : (sp q.1 σ).1 ∧ vg_k K (pc + 3) lv q.2 (sp q.1 σ).2.1 (sp q.1 σ).2.2 := g
        show (sp q.1 σ).1 ∧ vg_k K' (pc + 3) lv q.2 (sp q.1 σ).2.1 (sp q.1 σ).2.2
        exact ⟨g2.1, vg_k_mono h g2.2⟩
    next => exact g
  intro p l e R s m args below meth c D tys ad A P C0 lv st σ h H locs ls hl0 ho hs hP hS
  unfold vi_callS at h
  split at h
  next q hpop =>
    cases hb : Nat.ble (vg_wd q.2) 8 with
    | false => rw [hb] at h; exact h.elim
    | true =>
      rw [hb] at h
      obtain ⟨as, t⟩ := q
      have hwd : vg_wd t ≤ 8 := Nat.le_of_ble_eq_true hb
      have h2 : (sp as σ).1 ∧ vg_k _ (pc + 3) lv t (sp as σ).2.1 (sp as σ).2.2 := h
      obtain ⟨hpre, hk⟩ := h2
      obtain ⟨hx, hcb, hml, hown, hts, hK, hty, hr, hlocks, hRR, hA, hDA, hclo, hnw⟩ := C0
      subst hRR
      have hg : ∀ w ∈ tb, goodWord w = true := fun w h => List.all_eq_true.mp hG w h
      obtain ⟨e1, e2⟩ := vg_pop_eq _ _ _ _ _ hpop
      have hst : st = as.reverse ++ t := by rw [e1]; rfl
      have hav : ∀ v ∈ as, vg_ok nm v := fun v hv => hs v (by rw [hst]; exact List.mem_append_left _ (List.mem_reverse.mpr hv))
      have ht : ∀ v ∈ t, vg_ok nm v := fun v hv => hs v (by rw [hst]; exact List.mem_append_right _ hv)
      have hlen : as.length = k := by simp at e2; omega
      have hstk : st.map (vg_cv ad) = (as.map (vg_cv ad)).reverse ++ t.map (vg_cv ad) := by rw [hst]; simp
      have cw : va_CN (vg_rm d) s args own ix y host bytes mL rt (.code y bytes mL rt :: tb) (vg_rm d') 0 0 k := by
        refine va_cnB k hts (fun w hw => ?_) rfl rfl rfl (hnw _ hl) (hts _ hini) hy ⟨hR.1, ?_⟩
        · rcases List.mem_cons.mp hw with rfl | hw
          · exact ⟨hcw, good_of_word (hg _ hcw)⟩
          · exact ⟨hw, good_of_word (hg _ hw)⟩
        · show 8 + (mL + 11) + 32 * d' ≤ 32 * d
          omega
      refine vg_callK (va_runSN (As := as.map (vg_cv ad)) (rest := t.map (vg_cv ad)) ⟨hx, hcb, hml, hown, hts⟩ (hM l D tys ad H.size as σ hty hav hpre) ⟨cw, hts _ hi, trivial⟩ ⟨fun a U g mk q => ?_, fun U hU hW => ⟨rfl, ?_, ?_, ?_, ?_, fun z hz => va_Nw.warmM hW (hnw z hz)⟩⟩ rfl (by rw [List.length_map]; exact hlen) hl0.1 hstk (lv_room (by rw [vg_wd_sum]; exact hwd)) hd ⟨Nat.le_refl _, Nat.le_refl _⟩) hS (vg_in_A (hDA σ) hA hS.1) (fun r σ1 H1 locs1 hp hok hP1 hS1 => ?_)
      · obtain ⟨q0, q1, qP, qK, qD, qN⟩ := q
        exact ⟨q0, q1, qP, va_K.moved (u := U) (U := U.calling g mk a) (Vm.Alike.refl U.vm) qK, qD, fun z hz => va_Nw.same (u := U) (U := U.calling g mk a) rfl rfl (qN z hz)⟩
      · rw [hU]
      · rw [hU]; exact hP
      · exact va_K.moved hW.alike hK
      · exact (hDA σ).weaken (fun _ _ _ _ => trivial)
      · obtain ⟨rfl, rfl⟩ := hp
        unfold vg_k at hk
        cases hre : (sp as σ).2.1 with
        | none => rw [hre] at hk; exact hk H1 locs1 ls hl0 ho ht hP1 hS1
        | some v => rw [hre] at hk; exact hk H1 locs1 ls hl0 ho (vg_okc (hok v hre) ht) hP1 hS1
  next => exact h.elim
theorem vs_max {ix : Nat} (hd : decode cc pc = .ok (.invokestatic ix, 3)) (h1 : Cond.methodLink own ix Lib.Math.max.name ∈ tb) (h2 : Cond.static Lib.Math.max.name ∈ tb) (h3 : Cond.initialized "java/lang/Math" ∈ tb) (h4 : Cond.code Lib.Math.max.name Lib.Math.max.code 2 (some .int) ∈ tb) (hdd : 1 ≤ d) (hn : pc + 3 = n) : vg_Snd tb nw shp nm cl tyl cc nL own ret d pc (vi_max n) := by
  subst hn
  refine ⟨vs_m1 fun K K' h lv st σ g => ?_, ?_⟩
  · split at g
    next =>
      cases hb : Nat.ble (vg_wd _) 8 with
      | false => rw [hb] at g; exact g.elim
      | true => rw [hb] at g; exact h _ _ _ _ g
    next => exact g
  intro p l e R s m args below meth c D tys ad A P C0 lv st σ h H locs ls hl ho hs hP hS
  have hts := C0.2.2.2.2.1
  unfold vi_max at h
  split at h
  next y x t =>
    cases hb : Nat.ble (vg_wd t) 8 with
    | false => rw [hb] at h; exact h.elim
    | true =>
      rw [hb] at h
      have hwd : vg_wd t ≤ 8 := Nat.le_of_ble_eq_true hb
      have hR := C0.2.2.2.2.2.2.2.2.2.1
      exact va_mmax C0.1 C0.2.1 (C0.2.2.1.trans hl.1.symm) C0.2.2.2.1 (hts _ h1) (hts _ h2) (hts _ h3) (hts _ h4) (by rw [hR]; exact hdd) (by rw [vg_wd_sum, hR]; show vg_wd t + 13 ≤ 32 * d; omega) (Nat.zero_le _) (Nat.zero_le _) hd (h H locs ls hl ho (vg_okc trivial (vg_okt (vg_okt hs))) hP hS)
  next => exact h.elim
theorem vs_min {ix : Nat} (hd : decode cc pc = .ok (.invokestatic ix, 3)) (h1 : Cond.methodLink own ix Lib.Math.min.name ∈ tb) (h2 : Cond.static Lib.Math.min.name ∈ tb) (h3 : Cond.initialized "java/lang/Math" ∈ tb) (h4 : Cond.code Lib.Math.min.name Lib.Math.min.code 2 (some .int) ∈ tb) (hdd : 1 ≤ d) (hn : pc + 3 = n) : vg_Snd tb nw shp nm cl tyl cc nL own ret d pc (vi_min n) := by
  subst hn
  refine ⟨vs_m1 fun K K' h lv st σ g => ?_, ?_⟩
  · split at g
    next =>
      cases hb : Nat.ble (vg_wd _) 8 with
      | false => rw [hb] at g; exact g.elim
      | true => rw [hb] at g; exact h _ _ _ _ g
    next => exact g
  intro p l e R s m args below meth c D tys ad A P C0 lv st σ h H locs ls hl ho hs hP hS
  have hts := C0.2.2.2.2.1
  unfold vi_min at h
  split at h
  next y x t =>
    cases hb : Nat.ble (vg_wd t) 8 with
    | false => rw [hb] at h; exact h.elim
    | true =>
      rw [hb] at h
      have hwd : vg_wd t ≤ 8 := Nat.le_of_ble_eq_true hb
      have hR := C0.2.2.2.2.2.2.2.2.2.1
      exact va_mmin C0.1 C0.2.1 (C0.2.2.1.trans hl.1.symm) C0.2.2.2.1 (hts _ h1) (hts _ h2) (hts _ h3) (hts _ h4) (by rw [hR]; exact hdd) (by rw [vg_wd_sum, hR]; show vg_wd t + 13 ≤ 32 * d; omega) (Nat.zero_le _) (Nat.zero_le _) hd (h H locs ls hl ho (vg_okc trivial (vg_okt (vg_okt hs))) hP hS)
  next => exact h.elim
theorem vs_abs {ix : Nat} (hd : decode cc pc = .ok (.invokestatic ix, 3)) (h1 : Cond.methodLink own ix Lib.Math.abs.name ∈ tb) (h2 : Cond.static Lib.Math.abs.name ∈ tb) (h3 : Cond.initialized "java/lang/Math" ∈ tb) (h4 : Cond.code Lib.Math.abs.name Lib.Math.abs.code 1 (some .int) ∈ tb) (hdd : 1 ≤ d) (hn : pc + 3 = n) : vg_Snd tb nw shp nm cl tyl cc nL own ret d pc (vi_abs n) := by
  subst hn
  refine ⟨vs_m1 fun K K' h lv st σ g => ?_, ?_⟩
  · split at g
    next =>
      cases hb : Nat.ble (vg_wd _) 8 with
      | false => rw [hb] at g; exact g.elim
      | true => rw [hb] at g; exact h _ _ _ _ g
    next => exact g
  intro p l e R s m args below meth c D tys ad A P C0 lv st σ h H locs ls hl ho hs hP hS
  have hts := C0.2.2.2.2.1
  unfold vi_abs at h
  split at h
  next x t =>
    cases hb : Nat.ble (vg_wd t) 8 with
    | false => rw [hb] at h; exact h.elim
    | true =>
      rw [hb] at h
      have hwd : vg_wd t ≤ 8 := Nat.le_of_ble_eq_true hb
      have hR := C0.2.2.2.2.2.2.2.2.2.1
      exact va_mabs C0.1 C0.2.1 (C0.2.2.1.trans hl.1.symm) C0.2.2.2.1 (hts _ h1) (hts _ h2) (hts _ h3) (hts _ h4) (by rw [hR]; exact hdd) (by rw [vg_wd_sum, hR]; show vg_wd t + 13 ≤ 32 * d; omega) (Nat.zero_le _) (Nat.zero_le _) hd (h H locs ls hl ho (vg_okc trivial (vg_okt hs)) hP hS)
  next => exact h.elim
end VC
