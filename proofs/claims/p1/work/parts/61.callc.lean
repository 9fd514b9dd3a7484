-- words of the tables, and what stands at each place of the methods' code (laid by program)
theorem u_301 : Cond.code yX6_copy cX6_copy 4 (some (.object "WarnWaveModel$Land")) ∈ ww_tb := by decide +kernel
theorem u_302 : Cond.instanceMethod yX6_copy ∈ ww_tb := by decide +kernel
theorem u_303 : Cond.selects RX6 yX6_copy yX6_copy ∈ ww_tb := by decide +kernel
/-! methods that make lands: the array of arrays among what is asked -/
def vn_Met (tb : List Cond) (nx : vhW) (shp : vgN → vgH) (nm : List vgN) (cl : List vw_C) (tyl : List FieldType) (y : MethodName) (cc : ByteArray) (nL : Nat) (ret : Option FieldType) (d mc ms : Nat) (pre : vgT → vgS → Prop) (post : vgT → vgS → vgO) : Prop :=
  ∀ (l : Launch) (D : va_G) (tys : List (ClassId × FieldType)) (ad : vgN → Nat) (sz : Nat) (av : vgT) (σ : vgS), tys.map (fun q => q.2) = tyl → (∀ v ∈ av, vg_ok nm v) → pre av σ →
    Met l y (.code y cc nL ret :: tb) { frames := d, cells := mc, slots := ms, locals := 32 * d } (va_Pc (av.map (vg_cv ad)) (fun U => U.heap.size = sz ∧ va_P D cl (vg_ws shp nm ad tys σ) U.heap ∧ va_K D cl tys U ∧ va_D (fun _ => True) (vg_ws shp nm ad tys σ) ∧ vh_nx nx U)) (vg_Q shp nm cl D tys ad (vg_A nm ad sz) (post av σ)) mc ms (vg_A nm ad sz)
theorem vn_met {tb : List Cond} {nx : vhW} {shp : vgN → vgH} {nm : List vgN} {cl : List vw_C} {tyl : List FieldType} {y : MethodName} {cc : ByteArray} {nL : Nat} {own : String} {ret : Option FieldType} {d mc ms : Nat} {pre : vgT → vgS → Prop} {post : vgT → vgS → vgO}
    (hcl : vg_closed shp nm) (hy : plainName y.cls = true) (hown : y.cls = own) (hw : ∀ av σ, pre av σ → vg_wd av ≤ nL)
    (go : ∀ (p : Program) (l : Launch) (e : Env) (R : Room) (s : State) (m : MethodId) (args : Array Value) (below : List Frame) (meth : Method) (c : Code) (D : va_G) (tys : List (ClassId × FieldType)) (ad : vgN → Nat) (A : Nat → Prop) (Z : State → Prop) (av : vgT) (σ : vgS), pre av σ → vh_nx nx s → R.cells = mc → R.slots = ms →
      vm_C tb [] shp nm cl tyl cc nL own ret d p R s m args meth c D tys ad A → (∀ k n, k ≤ mc → n ≤ ms → vm_E false tb [] [] shp nm cl cc own ret p l e R s m args below meth c D tys ad A (post av σ) k n Z) → vm_X shp nm cl nL p l e R s m args below meth c D tys ad A 0 0 Z 0 (vg_args 0 av) [] σ) : vn_Met tb nx shp nm cl tyl y cc nL ret d mc ms pre post := by
  intro l D tys ad sz av σ hty hok hpre
  refine Met.ofW (cc := cc) (maxL := nL) (ret := ret) hy rfl ?_
  intro p e s m args below meth c s₁ B hml hv
  obtain ⟨rfl, hsz, hP, hK, hD, hnw⟩ := hv
  have hx := B.exec
  have hb := B.bytes
  have hr := B.returns
  have hts : ∀ w ∈ tb, w.before (av.map (vg_cv ad)).toArray s = true := fun w h => atoms_spec (ws := .code y cc nL ret :: tb) B.pre w (List.mem_cons_of_mem _ h)
  have ho : s.vm.findClass own = some m.cls := by rw [← hown]; exact findClass_of_methodNamed B.named
  have hlocks := B.notSynchronized
  subst hsz
  have hDA : ∀ σ', va_D (vg_A nm ad s.heap.size) (vg_ws shp nm ad tys σ') := fun σ' => (vg_ws_D hD σ').weaken (fun k q hk _ => by
    unfold vg_ws at hk
    rw [List.getElem?_map] at hk
    cases hn : nm[k]? with
    | none => rw [hn] at hk; cases hk
    | some n => rw [hn] at hk; cases hk; exact Or.inl ⟨n, List.mem_of_getElem? hn, rfl⟩)
  have C0 : vm_C tb [] shp nm cl tyl cc nL own ret d p { frames := d, cells := mc, slots := ms, locals := 32 * d } s m (av.map (vg_cv ad)).toArray meth c D tys ad (vg_A nm ad s.heap.size) := ⟨hx, hb, hml, ho, hts, hK, hty, hr, hlocks, ⟨Nat.le_refl _, Nat.le_refl _⟩, fun q h => Or.inr h, hDA, hcl, fun z hz => nomatch hz⟩
  have E0 : ∀ k n, k ≤ mc → n ≤ ms → vm_E false tb [] [] shp nm cl cc own ret p l e { frames := d, cells := mc, slots := ms, locals := 32 * d } s m (av.map (vg_cv ad)).toArray below meth c D tys ad (vg_A nm ad s.heap.size) (post av σ) k n (MQ below (vg_Q shp nm cl D tys ad (vg_A nm ad s.heap.size) (post av σ)) (av.map (vg_cv ad)).toArray s mc ms (vg_A nm ad s.heap.size)) := by
    intro k n hk hn
    refine ⟨⟨hk, hn⟩, ?_, fun h => Bool.noConfusion h⟩
    intro r σ' pc ls H locs hp hP' hS hrk
    refine W.widen (k := mc) (n := ms) hk hn ?_
    exact vm_leave hx hb hr hlocks hrk hS.2.2 (fun t ht => ⟨⟨r, σ', rfl, hp, vm_rkN hrk, by rw [ht]; exact hP'⟩, hS.F ht⟩)
  have hl := lv_entry (av.map (vg_cv ad)) (n := nL) (by rw [vg_wd_eq]; exact hw av σ hpre)
  rw [vg_args_eq] at hl
  rw [lg_entry_eq]
  exact go p l e _ s m _ below meth c D tys ad _ _ av σ hpre hnw rfl rfl C0 E0 s.heap [] _ hl (vg_args_ok av 0 hok) (fun v h => by cases h) hP va_S.rf
section VNA
variable {p : Program} {l : Launch} {e : Env} {R : Room} {s : State} {m : MethodId} {args : Array Value} {below : List Frame} {meth : Method} {c : Code}
variable {tb : List Cond} {nw : List (String × Nat × MethodName × String)} {shp : vgN → vgH} {nm : List vgN} {cl : List vw_C} {tyl : List FieldType} {cc : ByteArray} {nL : Nat} {own : String} {ret : Option FieldType} {d pc : Nat}
variable {D : va_G} {tys : List (ClassId × FieldType)} {ad : vgN → Nat} {A : Nat → Prop} {Z : State → Prop} {ck cn : Nat}
/-- a call of an object's method that may make cells -/
theorem vn_callM {nx : vhW} {ci kk ix : Nat} {C : String} {T : u_T} {N : Nat} {y : MethodName} {bytes : ByteArray} {mL d' mc ms : Nat} {rt : Option FieldType} {pre : vgT → vgS → Prop} {post : vgT → vgS → vgO} {lv : vgL} {st : vgT} {σ : vgS} {m0 : vgN} {as t : vgT} {o : Nat × List (Option vgN)} (C0 : vm_C tb nw shp nm cl tyl cc nL own ret d p R s m args meth c D tys ad A)
    (hnx : vh_nx nx s) (hM : vn_Met tb nx shp nm cl tyl y bytes mL rt d' mc ms pre post) (hd : decode cc pc = .ok (.invokevirtual ix, 3)) (hc : cl[ci]? = some (C, T, N))
    (hG : tb.all goodWord = true) (hcw : Cond.code y bytes mL rt ∈ tb) (hini : Cond.initialized C ∈ tb) (hl : Cond.methodLink own ix y ∈ tb) (hi : Cond.instanceMethod y ∈ tb) (hse : Cond.selects C y y ∈ tb)
    (hy : y.cls = C ∧ y.cls ≠ "java/lang/invoke/MethodHandle" ∧ y.cls ≠ "java/lang/invoke/VarHandle" ∧ (parseMethodDescriptor y.desc).map (fun d => d.parameters.length) = some kk) (hR : d' + 1 ≤ d ∧ mL ≤ 13) (hst : st = as.reverse ++ .inr m0 :: t) (hal : as.length = kk) (ho0 : shp m0 = .inl o) (hoc : o.1 = ci) (hwd : vg_wd t ≤ 8) (hpre : pre (.inr m0 :: as) σ) (hcc : ck + mc ≤ R.cells) (hcs : cn + ms ≤ R.slots)
    (k : ∀ (r : Option vgV) (σ' : vgS), post (.inr m0 :: as) σ r σ' → vm_X shp nm cl nL p l e R s m args below meth c D tys ad A (ck + mc) (cn + ms) Z (pc + 3) lv (r.toList ++ t) σ') :
    vm_X shp nm cl nL p l e R s m args below meth c D tys ad A ck cn Z pc lv st σ := by
  intro H locs ls hl0 ho hs hP hS
  obtain ⟨hx, hcb, hml, hown, hts, hK, hty, hr, hlocks, hRR, hA, hDA, hclo, hnw⟩ := C0
  have hav : ∀ v ∈ (Sum.inr m0 :: as : vgT), vg_ok nm v := fun v hv => hs v (by
    rw [hst]
    rcases List.mem_cons.mp hv with rfl | hv
    · exact List.mem_append_right _ List.mem_cons_self
    · exact List.mem_append_left _ (List.mem_reverse.mpr hv))
  have ht : ∀ v ∈ t, vg_ok nm v := fun v hv => hs v (by rw [hst]; exact List.mem_append_right _ (List.mem_cons_of_mem _ hv))
  have hm0 : m0 ∈ nm := hav _ List.mem_cons_self
  obtain ⟨q0, hq0, hws⟩ := vg_ws_get (shp := shp) (ad := ad) (tys := tys) (σ := σ) hm0
  rw [ho0] at hws
  have hws2 : (vg_ws shp nm ad tys σ)[q0]? = some (ad m0, .inr (ci, vg_fs ad (σ m0) 0 o.2)) := by rw [hws, ← hoc]; rfl
  have hstk : st.map (vg_cv ad) = (as.map (vg_cv ad)).reverse ++ .ref (ad m0) :: t.map (vg_cv ad) := by rw [hst]; simp [vg_cv]
  have hg : ∀ w ∈ tb, goodWord w = true := fun w h => List.all_eq_true.mp hG w h
  have cb : CallB R s args own ix y bytes mL rt (.code y bytes mL rt :: tb) { frames := d', cells := mc, slots := ms, locals := 32 * d' } mc ms kk := by
    refine callB_of kk hts (fun w hw => ?_) rfl rfl rfl (hts _ (by rw [hy.1]; exact hini)) (hts _ hl) hy.2 ⟨Nat.le_trans hR.1 hRR.1, ?_⟩
    · rcases List.mem_cons.mp hw with rfl | hw
      · exact ⟨hcw, good_of_word (hg _ hcw)⟩
      · exact ⟨hw, good_of_word (hg _ hw)⟩
    · show 8 + (mL + 11) + 32 * d' ≤ R.locals
      omega
  have hr2 := va_runV (As := as.map (vg_cv ad)) (b := ad m0) (rest := t.map (vg_cv ad)) (C := C) (below := below) (meth := meth) (e := e) (locs := locs) (cells := ck) (slots := cn) (g := F0 m pc ls (st.map (vg_cv ad))) ⟨hx, hcb, hml, hown, hts⟩ (hM l D tys ad H.size (.inr m0 :: as) σ hty hav hpre) ⟨cb, hts _ hi, hts _ hse⟩ ⟨fun a U g mk q => by
      obtain ⟨q0, q1, qP, qK, qD, qN⟩ := q
      exact ⟨q0, q1, qP, va_K.moved (u := U) (U := U.calling g mk a) (Vm.Alike.refl U.vm) qK, qD, vh_nx.blind qN⟩, va_recv hK hP (ci := ci) (q0 := q0) hc hws2, fun U hU hW => ⟨rfl, by rw [hU], by rw [hU]; exact hP, va_K.moved hW.alike hK, (hDA σ).weaken (fun _ _ _ _ => trivial), vh_nx.warm hW hnx⟩⟩ rfl (by rw [List.length_map]; exact hal) hl0.1 hstk (lv_room (by rw [vg_wd_sum]; exact hwd)) hd ⟨hcc, hcs⟩
  intro T9 hT X
  obtain ⟨v, st₀, t9, T', L, h0, X', hLf, e1, e2, ⟨⟨r, σ', hv, hp, hok, hP1⟩, hz, hkp⟩, stp⟩ := hr2 T9 hT X
  cases hv
  rw [h0] at hz hkp
  have hA1 := vg_in_A (hDA σ) hA hS.1
  have hr3 : (r.toList ++ t).map (vg_cv ad) = (r.map (vg_cv ad)).toList ++ t.map (vg_cv ad) := by
    cases r <;> rfl
  have h9 := k r σ' hp T'.heap (locs ++ L) ls hl0 ho (fun v hv => by
    rcases List.mem_append.mp hv with hv | hv
    · cases r with
      | none => cases hv
      | some w =>
        rw [List.mem_singleton.mp hv]
        exact hok w rfl
    · exact ht v hv) (by rw [e1]; exact hP1) ⟨Nat.le_trans hS.1 (by rw [e1]; exact hz), fun q h1 h2 => by rw [e1, hkp q (Nat.lt_of_lt_of_le h1 hS.1) (fun z => h2 (hA1 q z))]; exact hS.2.1 q h1 h2, fun q hq => by
      rcases List.mem_append.mp hq with h | h
      · exact hS.2.2 q h
      · exact hA1 _ (hLf q h)⟩
  rw [hr3] at h9
  obtain ⟨t2, a1, b1⟩ := h9 T' rfl X'
  exact ⟨t2, stp t2 a1, b1⟩
end VNA
def mm_sl (b : Nat) : List (Option vgN) := [some (42, b, 0), some (43, b, 0), some (44, b, 0), some (45, b, 0), some (46, b, 0), some (47, b, 0), some (48, b, 0), some (49, b, 0), none, none, none, none, none, none, none, none]
section VNB
variable {p : Program} {l : Launch} {e : Env} {R : Room} {s : State} {m : MethodId} {args : Array Value} {below : List Frame} {meth : Method} {c : Code} {D : va_G} {tys : List (ClassId × FieldType)} {A : Nat → Prop} {Z : State → Prop}
set_option maxHeartbeats 1000000 in
theorem vm_callC {b ix ck cn : Nat} {cc : ByteArray} {nL pc d : Nat} {own : String} {ret : Option FieldType} {nm : List vgN} {ad : vgN → Nat} {lv : vgL} {t : vgT} {σ : vgS} (C0 : vm_C ww_tb [] mm_shp nm mm_cl mm_tyl cc nL own ret d p R s m args meth c D tys ad A)
    (hnx : vh_nx wh_nx s) (hM : mm_Cp nm b) (hd : decode cc pc = .ok (.invokevirtual ix, 3)) (hl : Cond.methodLink own ix yX6_copy ∈ ww_tb) (hR : 2 + 1 ≤ d) (h41 : (41, 0, 0) ∈ nm) (hclL : vg_closed mm_shp (mm_nm1 b)) (hwd : vg_wd t ≤ 8) (hpre : mm_c0 0 σ) (hcc : ck + 137 ≤ R.cells) (hcs : cn + 929 ≤ R.slots)
    (k : ∀ (ad' : vgN → Nat) (σ' : vgS), vm_C ww_tb [] mm_shp (nm ++ mm_nm1 b) mm_cl mm_tyl cc nL own ret d p R s m args meth c D tys ad' A → (∀ n ∈ nm, ad' n = ad n) → mm_cp b σ σ' → vm_X mm_shp (nm ++ mm_nm1 b) mm_cl nL p l e R s m args below meth c D tys ad' A (ck + 137) (cn + 929) Z (pc + 3) lv (.inr (41, b, 0) :: t) σ') :
    vm_X mm_shp nm mm_cl nL p l e R s m args below meth c D tys ad A ck cn Z pc lv (.inr (41, 0, 0) :: t) σ := by
  intro H locs ls hl0 ho hs hP hS
  obtain ⟨hx, hcb, hml, hown, hts, hK, hty, hr, hlocks, hRR, hA, hDA, hclo, hnw⟩ := C0
  have ht : ∀ v ∈ t, vg_ok nm v := fun v hv => hs v (List.mem_cons_of_mem _ hv)
  obtain ⟨q0, hq0, hws⟩ := vg_ws_get (shp := mm_shp) (ad := ad) (tys := tys) (σ := σ) h41
  have hws2 : (vg_ws mm_shp nm ad tys σ)[q0]? = some (ad (41, 0, 0), .inr (1, vg_fs ad (σ (41, 0, 0)) 0 (mm_sl 0))) := hws
  have hg : ∀ w ∈ ww_tb, goodWord w = true := fun w h => List.all_eq_true.mp ww_good w h
  have cb : CallB R s args own ix yX6_copy cX6_copy 4 (some (.object "WarnWaveModel$Land")) (.code yX6_copy cX6_copy 4 (some (.object "WarnWaveModel$Land")) :: ww_tb) { frames := 2, cells := 137, slots := 929, locals := 32 * 2 } 137 929 0 := by
    refine callB_of 0 hts (fun w hw => ?_) rfl rfl rfl (hts _ u_267) (hts _ hl) (by decide +kernel) ⟨Nat.le_trans hR hRR.1, ?_⟩
    · rcases List.mem_cons.mp hw with rfl | hw
      · exact ⟨u_301, good_of_word (hg _ u_301)⟩
      · exact ⟨hw, good_of_word (hg _ hw)⟩
    · show 8 + (4 + 11) + 32 * 2 ≤ R.locals
      omega
  have hr2 := va_runV (As := []) (b := ad (41, 0, 0)) (rest := t.map (vg_cv ad)) (C := RX6) (below := below) (meth := meth) (e := e) (locs := locs) (cells := ck) (slots := cn) (g := F0 m pc ls (.ref (ad (41, 0, 0)) :: t.map (vg_cv ad))) ⟨hx, hcb, hml, hown, hts⟩ (hM l D tys ad H.size σ hty hpre) ⟨cb, hts _ u_302, hts _ u_303⟩ ⟨fun a U g mk q => by
      obtain ⟨q0, q1, qP, qK, qD, qN⟩ := q
      exact ⟨q0, q1, qP, va_K.moved (u := U) (U := U.calling g mk a) (Vm.Alike.refl U.vm) qK, qD, vh_nx.blind qN⟩, va_recv hK hP (ci := 1) (q0 := q0) (show mm_cl[1]? = some (RX6, TX6, 16) from rfl) hws2, fun U hU hW => ⟨rfl, by rw [hU], by rw [hU]; exact hP, va_K.moved hW.alike hK, (hDA σ).weaken (fun _ _ _ _ => trivial), vh_nx.warm hW hnx⟩⟩ rfl rfl hl0.1 rfl (lv_room (by rw [vg_wd_sum]; exact hwd)) hd ⟨hcc, hcs⟩
  intro T9 hT X
  obtain ⟨v, st₀, t9, T', L, h0, X', hLf, e1, e2, ⟨⟨ad', σ', hv, hag, hcp, hP1, hD1⟩, hz, hkp⟩, stp⟩ := hr2 T9 hT X
  cases hv
  rw [h0] at hz hkp
  have hA1 := vg_in_A (hDA σ) hA hS.1
  have h9 := k ad' σ' ⟨hx, hcb, hml, hown, hts, hK, hty, hr, hlocks, hRR, hA, fun σ2 => (hD1 σ2).weaken (fun _ q _ hq => hA1 q.1 hq), vm_closed2 hclo hclL, hnw⟩ hag hcp T'.heap (locs ++ L) ls (by rw [vm_lm_eq hag ho]; exact hl0) (fun z hz => vm_okl (ho z hz)) (fun v hv => by
    rcases List.mem_cons.mp hv with rfl | hv
    · exact List.mem_append_right _ List.mem_cons_self
    · exact vm_okl (ht v hv)) (by rw [e1]; exact hP1) ⟨Nat.le_trans hS.1 (by rw [e1]; exact hz), fun q h1 h2 => by rw [e1, hkp q (Nat.lt_of_lt_of_le h1 hS.1) (fun z => h2 (hA1 q z))]; exact hS.2.1 q h1 h2, fun q hq => by
      rcases List.mem_append.mp hq with h | h
      · exact hS.2.2 q h
      · exact hA1 _ (hLf q h)⟩
  have e3 : (Sum.inr (41, b, 0) :: t : vgT).map (vg_cv ad') = .ref (ad' (41, b, 0)) :: t.map (vg_cv ad) := by
    rw [List.map_cons, List.map_congr_left (fun v hv => vm_cv_eq hag (ht v hv))]
    rfl
  rw [e3] at h9
  obtain ⟨t2, a1, b1⟩ := h9 T' rfl X'
  exact ⟨t2, stp t2 a1, b1⟩
end VNB
