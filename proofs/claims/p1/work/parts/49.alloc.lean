-- words of the tables, and what stands at each place of the methods' code (laid by program)
/-! between two stretches: a row is made; a method is called that makes cells -/
def vm_z (σ : vgS) (t : vgN) : vgS := fun n j => if n = t then 0 else σ n j
theorem vm_z_ne {σ : vgS} {t n : vgN} (h : ¬ n = t) : vm_z σ t n = σ n := by
  funext j
  exact if_neg h
theorem vm_cv_eq {ad ad' : vgN → Nat} {nm : List vgN} (h : ∀ n ∈ nm, ad' n = ad n) : ∀ {v : vgV}, vg_ok nm v → vg_cv ad' v = vg_cv ad v
  | .inl v, _ => rfl
  | .inr z, hz => congrArg Value.ref (h z hz)
theorem vm_fs_eq {ad ad' : vgN → Nat} {f : Nat → Int32} : ∀ (sl : List (Option vgN)) (k : Nat), (∀ n, some n ∈ sl → ad' n = ad n) → vg_fs ad' f k sl = vg_fs ad f k sl
  | [], _, _ => rfl
  | none :: t, k, h => by
    show Value.int (f k) :: vg_fs ad' f (k + 1) t = Value.int (f k) :: vg_fs ad f (k + 1) t
    rw [vm_fs_eq t (k + 1) (fun n hn => h n (List.mem_cons_of_mem _ hn))]
  | some z :: t, k, h => by
    show Value.ref (ad' z) :: vg_fs ad' f (k + 1) t = Value.ref (ad z) :: vg_fs ad f (k + 1) t
    rw [vm_fs_eq t (k + 1) (fun n hn => h n (List.mem_cons_of_mem _ hn)), h z List.mem_cons_self]
/-- the cells that a world's names have, where addresses and ints agree on them -/
theorem vm_ws_at {D : va_G} {cl : List vw_C} {shp : vgN → vgH} {nm : List vgN} {tys : List (ClassId × FieldType)} {ad ad' : vgN → Nat} {σ σ' : vgS} {H : Heap} (hcl : vg_closed shp nm) (ha : ∀ n ∈ nm, ad' n = ad n) (hσ : ∀ n ∈ nm, σ' n = σ n) (hP : va_P D cl (vg_ws shp nm ad tys σ) H) : va_P D cl (vg_ws shp nm ad' tys σ') H := by
  intro k q hk
  unfold vg_ws at hk
  rw [List.getElem?_map] at hk
  cases hn : nm[k]? with
  | none => rw [hn] at hk; cases hk
  | some n =>
    rw [hn] at hk
    cases hk
    have hm := List.mem_of_getElem? hn
    have h0 : va_at D cl (ad n, vg_e ad tys (shp n) (σ n)) H := hP k _ (by unfold vg_ws; rw [List.getElem?_map, hn]; rfl)
    show va_at D cl (ad' n, vg_e ad' tys (shp n) (σ' n)) H
    rw [ha n hm, hσ n hm]
    have hc := hcl n hm
    rcases hs : shp n with q | q | q
    · rw [hs] at h0 hc
      show va_at D cl (ad n, Sum.inr (q.1, vg_fs ad' (σ n) 0 q.2)) H
      rw [vm_fs_eq q.2 0 (fun z hz => ha z (hc z hz))]
      exact h0
    · rw [hs] at h0
      exact h0
    · rw [hs] at h0 hc
      have h1 : H[ad n]? = some (vp_cell (vg_ty tys q.1) (q.2.1, .inr (.inr (.inr (.inr (fun i => some (ad (q.2.2 i)))))))) := h0
      show H[ad n]? = some (vp_cell (vg_ty tys q.1) (q.2.1, .inr (.inr (.inr (.inr (fun i => some (ad' (q.2.2 i))))))))
      rw [h1, vh_arrV (fun i hi => ?_)]
      rw [ha _ (hc i hi)]
theorem vm_lm_eq {ad ad' : vgN → Nat} {nm : List vgN} (h : ∀ n ∈ nm, ad' n = ad n) {lv : vgL} (ho : ∀ q ∈ lv, vg_ok nm q.2) : vg_lm ad' lv = vg_lm ad lv := by
  unfold vg_lm
  exact List.map_congr_left (fun q hq => by rw [vm_cv_eq h (ho q hq)])
section VMA
variable {p : Program} {l : Launch} {e : Env} {R : Room} {s : State} {m : MethodId} {args : Array Value} {below : List Frame} {meth : Method} {c : Code}
variable {tb : List Cond} {nw : List (String × Nat × MethodName × String)} {shp : vgN → vgH} {nm : List vgN} {cl : List vw_C} {tyl : List FieldType} {cc : ByteArray} {nL : Nat} {own : String} {ret : Option FieldType} {d pc : Nat}
variable {D : va_G} {tys : List (ClassId × FieldType)} {ad : vgN → Nat} {A : Nat → Prop} {Z : State → Prop} {ck cn : Nat}
theorem vm_alloc {t1 : vgN} {ti len : Nat} {ty : FieldType} {x : Int32} {atype : ArrayType} {lv : vgL} {t : vgT} {σ : vgS} (C0 : vm_C tb nw shp nm cl tyl cc nL own ret d p R s m args meth c D tys ad A) (hf : t1 ∉ nm) (hsh : shp t1 = .inr (.inl (ti, len))) (hti : tyl[ti]? = some ty)
    (hty : newarray.typeOf atype = ty) (hcell : ∀ (cA : ClassId) (N : Nat), vp_cell cA (N, .inl (fun _ => 0)) = arrV cA N (fun _ => defaultValue ty)) (hcb : componentBytes ty ≤ 8) (hw : Cond.arrayClass (newarray.typeOf atype) ∈ tb) (hd : decode cc pc = .ok (.newarray atype, 2))
    (hx0 : ¬ x < 0) (hxl : x.toNatClampNeg = len) (hl1 : len ≤ 1000) (hc : ck + 1 ≤ R.cells) (hs : cn + len ≤ R.slots)
    (k : ∀ ad' : vgN → Nat, vm_C tb nw shp (t1 :: nm) cl tyl cc nL own ret d p R s m args meth c D tys ad' A → (∀ n ∈ nm, ad' n = ad n) → vm_X shp (t1 :: nm) cl nL p l e R s m args below meth c D tys ad' A (ck + 1) (cn + len) Z (pc + 2) lv (.inr t1 :: t) (vm_z σ t1)) :
    vm_X shp nm cl nL p l e R s m args below meth c D tys ad A ck cn Z pc lv (.inl (.int x) :: t) σ := by
  intro H locs ls hl ho hst hP hS
  obtain ⟨hx, hcb2, hml, hown, hts, hK, htyl, hr, hlocks, hRR, hA, hDA, hclo, hnw⟩ := C0
  have hbytes : len * componentBytes ty ≤ 536870912 := Nat.le_trans (Nat.mul_le_mul hl1 hcb) (by decide)
  refine va_newa (D := D) (A := A) (ty := ty) (a0 := (len, .inl (fun _ => 0))) hx hcb2 (atype := atype) (hts _ hw) hty hK hP (hDA σ) hS hA (fun cA => hcell cA _) hx0 hxl hbytes hc hs hd (fun q cA H1 hK1 hP1 hD1 hS1 => ?_)
  have hcA : cA = vg_ty tys ti := vh_ty hK (vg_tys htyl hti) hK1
  subst hcA
  have hag : ∀ n ∈ nm, (fun n => if n = t1 then q else ad n) n = ad n := fun n hn => if_neg (fun (z : n = t1) => hf (by rw [← z]; exact hn))
  have hat1 : (fun n => if n = t1 then q else ad n) t1 = q := if_pos rfl
  have hlen : (vg_ws shp nm ad tys σ).length = nm.length := by unfold vg_ws; rw [List.length_map]
  have hDn : ∀ σ', va_D A (vg_ws shp (t1 :: nm) (fun n => if n = t1 then q else ad n) tys σ') := by
    intro σ'
    have h1 : va_D A ((q, (Sum.inl (vg_ty tys ti, (len, .inl (fun _ => 0))) : va_E)) :: vg_ws shp nm ad tys σ) := by
      refine ⟨fun i j x y hi hj hxy => ?_, fun i x hi => ?_⟩
      · have key : ∀ (i : Nat) (x : Nat × va_E), ((q, (Sum.inl (vg_ty tys ti, (len, .inl (fun _ => 0))) : va_E)) :: vg_ws shp nm ad tys σ)[i]? = some x → (vg_ws shp nm ad tys σ ++ [(q, (Sum.inl (vg_ty tys ti, (len, .inl (fun _ => 0))) : va_E))])[if i = 0 then nm.length else i - 1]? = some x := by
          intro i x hi
          cases i with
          | zero =>
            cases hi
            rw [if_pos rfl, List.getElem?_append_right (by omega), hlen, Nat.sub_self]
            rfl
          | succ i =>
            have hi' : (vg_ws shp nm ad tys σ)[i]? = some x := hi
            rw [if_neg (by omega), Nat.add_sub_cancel, List.getElem?_append_left (List.getElem?_eq_some_iff.mp hi').1]
            exact hi'
        have h2 := hD1.1 _ _ x y (key i x hi) (key j y hj) hxy
        have bi : i < nm.length + 1 := by
          have := (List.getElem?_eq_some_iff.mp hi).1
          rw [List.length_cons, hlen] at this
          exact this
        have bj : j < nm.length + 1 := by
          have := (List.getElem?_eq_some_iff.mp hj).1
          rw [List.length_cons, hlen] at this
          exact this
        split at h2 <;> split at h2 <;> omega
      · cases i with
        | zero =>
          cases hi
          exact hD1.2 nm.length _ (by rw [List.getElem?_append_right (by omega), hlen, Nat.sub_self]; rfl)
        | succ i => exact (hDA σ).2 i x hi
    refine vh_addr h1 ?_
    unfold vg_ws
    rw [List.map_map, List.map_cons, List.map_cons, List.map_map]
    show (if t1 = t1 then q else ad t1) :: _ = q :: _
    rw [if_pos rfl]
    congr 1
    exact List.map_congr_left (fun n hn => if_neg (fun (z : n = t1) => hf (by rw [← z]; exact hn)))
  have hcl2 : vg_closed shp (t1 :: nm) := by
    intro n hn
    rcases List.mem_cons.mp hn with rfl | hn
    · rw [hsh]
      trivial
    · have := hclo n hn
      rcases hq : shp n with z | z | z
      · rw [hq] at this
        exact fun w hw => List.mem_cons_of_mem _ (this w hw)
      · trivial
      · rw [hq] at this
        exact fun i hi => List.mem_cons_of_mem _ (this i hi)
  have hkk := k (fun n => if n = t1 then q else ad n) ⟨hx, hcb2, hml, hown, hts, hK, htyl, hr, hlocks, hRR, hA, hDn, hcl2, hnw⟩ hag H1 locs ls (by rw [vm_lm_eq hag ho]; exact hl) (fun z hz => by
    have := ho z hz
    rcases hv : z.2 with v | v
    · trivial
    · rw [hv] at this; exact List.mem_cons_of_mem _ this) (fun v hv => by
    rcases List.mem_cons.mp hv with rfl | hv
    · exact List.mem_cons_self
    · have := hst v (List.mem_cons_of_mem _ hv)
      rcases v with v | v
      · trivial
      · exact List.mem_cons_of_mem _ this) ?_ hS1
  · have e1 : (Sum.inr t1 :: t : vgT).map (vg_cv (fun n => if n = t1 then q else ad n)) = .ref q :: t.map (vg_cv ad) := by
      rw [List.map_cons, List.map_congr_left (fun v hv => vm_cv_eq hag (hst v (List.mem_cons_of_mem _ hv)))]
      show Value.ref (if t1 = t1 then q else ad t1) :: _ = _
      rw [if_pos rfl]
    rw [e1] at hkk
    exact hkk
  · have h3 : va_P D cl (vg_ws shp nm (fun n => if n = t1 then q else ad n) tys (vm_z σ t1)) H1 := by
      refine vm_ws_at (σ := σ) hclo hag (fun n hn => vm_z_ne (fun (z : n = t1) => hf (by rw [← z]; exact hn))) (fun i x hi => hP1 i x ?_)
      rw [List.getElem?_append_left (List.getElem?_eq_some_iff.mp hi).1]
      exact hi
    intro i x hi
    cases i with
    | zero =>
      have h4 : x = ((if t1 = t1 then q else ad t1), vg_e (fun n => if n = t1 then q else ad n) tys (shp t1) (vm_z σ t1 t1)) := (Option.some.inj hi).symm
      rw [h4, if_pos rfl, hsh]
      have h5 : vm_z σ t1 t1 = fun _ => 0 := by funext j; exact if_pos rfl
      rw [h5]
      exact hP1 nm.length _ (by rw [List.getElem?_append_right (by omega), hlen, Nat.sub_self]; rfl)
    | succ i => exact h3 i x hi
theorem vm_E_up {tbx : List Cond} {strs : List (String × Nat × String)} {P : vgO} {t1 : vgN} {ad' : vgN → Nat} (hcl : vg_closed shp nm) (ha : ∀ n ∈ nm, ad' n = ad n) (E0 : vm_E false tb tbx strs shp nm cl cc own ret p l e R s m args below meth c D tys ad A P ck cn Z) : vm_E false tb tbx strs shp (t1 :: nm) cl cc own ret p l e R s m args below meth c D tys ad' A P ck cn Z := by
  refine ⟨E0.1, ?_, fun h => Bool.noConfusion h⟩
  intro r σ pc ls H locs hp hP hS hk
  have h1 := E0.2.1 r σ pc ls H locs hp (vm_ws_at (ad := ad') (σ := σ) hcl (fun n hn => (ha n hn).symm) (fun _ _ => rfl) (fun i x hi => hP (i + 1) x hi)) hS hk
  have e : r.map (vg_cv ad') = r.map (vg_cv ad) := by
    cases r with
    | none => rfl
    | some v =>
      cases v with
      | inl v => rfl
      | inr z => exact hk.elim
  rw [e]
  exact h1
/-- a call of an object's method that may make cells -/
theorem vm_callM {ci kk ix : Nat} {C : String} {T : u_T} {N : Nat} {y : MethodName} {bytes : ByteArray} {mL d' mc ms : Nat} {rt : Option FieldType} {pre : vgT → vgS → Prop} {post : vgT → vgS → vgO} {lv : vgL} {st : vgT} {σ : vgS} {m0 : vgN} {as t : vgT} {o : Nat × List (Option vgN)} (C0 : vm_C tb nw shp nm cl tyl cc nL own ret d p R s m args meth c D tys ad A)
    (hM : vm_Met tb nw shp nm cl tyl y bytes mL rt d' mc ms pre post) (hd : decode cc pc = .ok (.invokevirtual ix, 3)) (hc : cl[ci]? = some (C, T, N))
    (hG : tb.all goodWord = true) (hcw : Cond.code y bytes mL rt ∈ tb) (hini : Cond.initialized C ∈ tb) (hl : Cond.methodLink own ix y ∈ tb) (hi : Cond.instanceMethod y ∈ tb) (hse : Cond.selects C y y ∈ tb)
    (hy : y.cls = C ∧ y.cls ≠ "java/lang/invoke/MethodHandle" ∧ y.cls ≠ "java/lang/invoke/VarHandle" ∧ (parseMethodDescriptor y.desc).map (fun d => d.parameters.length) = some kk) (hR : d' + 1 ≤ d ∧ mL ≤ 13) (hst : st = as.reverse ++ .inr m0 :: t) (hal : as.length = kk) (ho0 : shp m0 = .inl o) (hoc : o.1 = ci) (hwd : vg_wd t ≤ 8) (hpre : pre (.inr m0 :: as) σ) (hcc : ck + mc ≤ R.cells) (hcs : cn + ms ≤ R.slots)
    (k : ∀ (r : Option vgV) (σ' : vgS), post (.inr m0 :: as) σ r σ' → vm_X shp nm cl nL p l e R s m args below meth c D tys ad A (ck + mc) (cn + ms) Z (pc + 3) lv (r.toList ++ t) σ') :
    vm_X shp nm cl nL p l e R s m args below meth c D tys ad A ck cn Z pc lv st σ := by
  intro H locs ls hl0 ho hs hP hS
  obtain ⟨hx, hcb, hml, hown, hts, hK, hty, hr, hlocks, hRR, hA, hDA, hclo, hnw⟩ := C0
  have hav : ∀ v ∈ (Sum.inr m0 :: as : vgT), vg_ok nm v := fun v hv => hs v (by
    rw [hst]
    rcases List.mem_cons.mp hv with rfl | hv
    · exact List.mem_append_right _ List.mem_cons_self
    · exact List.mem_append_left _ (List.mem_reverse.mpr hv))
  have ht : ∀ v ∈ t, vg_ok nm v := fun v hv => hs v (by rw [hst]; exact List.mem_append_right _ (List.mem_cons_of_mem _ hv))
  have hm0 : m0 ∈ nm := hav _ List.mem_cons_self
  obtain ⟨q0, hq0, hws⟩ := vg_ws_get (shp := shp) (ad := ad) (tys := tys) (σ := σ) hm0
  rw [ho0] at hws
  have hws2 : (vg_ws shp nm ad tys σ)[q0]? = some (ad m0, .inr (ci, vg_fs ad (σ m0) 0 o.2)) := by rw [hws, ← hoc]; rfl
  have hstk : st.map (vg_cv ad) = (as.map (vg_cv ad)).reverse ++ .ref (ad m0) :: t.map (vg_cv ad) := by rw [hst]; simp [vg_cv]
  have hg : ∀ w ∈ tb, goodWord w = true := fun w h => List.all_eq_true.mp hG w h
  have cb : CallB R s args own ix y bytes mL rt (.code y bytes mL rt :: tb) { frames := d', cells := mc, slots := ms, locals := 32 * d' } mc ms kk := by
    refine callB_of kk hts (fun w hw => ?_) rfl rfl rfl (hts _ (by rw [hy.1]; exact hini)) (hts _ hl) hy.2 ⟨Nat.le_trans hR.1 hRR.1, ?_⟩
    · rcases List.mem_cons.mp hw with rfl | hw
      · exact ⟨hcw, good_of_word (hg _ hcw)⟩
      · exact ⟨hw, good_of_word (hg _ hw)⟩
    · show 8 + (mL + 11) + 32 * d' ≤ R.locals
      omega
  have hr2 := va_runV (As := as.map (vg_cv ad)) (b := ad m0) (rest := t.map (vg_cv ad)) (C := C) (below := below) (meth := meth) (e := e) (locs := locs) (cells := ck) (slots := cn) (g := F0 m pc ls (st.map (vg_cv ad))) ⟨hx, hcb, hml, hown, hts⟩ (hM l D tys ad H.size (.inr m0 :: as) σ hty hav hpre) ⟨cb, hts _ hi, hts _ hse⟩ ⟨fun a U g mk q => by
      obtain ⟨q0, q1, qP, qK, qD, qN⟩ := q
      exact ⟨q0, q1, qP, va_K.moved (u := U) (U := U.calling g mk a) (Vm.Alike.refl U.vm) qK, qD, fun z hz => va_Nw.same (u := U) (U := U.calling g mk a) rfl rfl (qN z hz)⟩, va_recv hK hP (ci := ci) (q0 := q0) hc hws2, fun U hU hW => ⟨rfl, by rw [hU], by rw [hU]; exact hP, va_K.moved hW.alike hK, (hDA σ).weaken (fun _ _ _ _ => trivial), fun z hz => va_Nw.warmM hW (hnw z hz)⟩⟩ rfl (by rw [List.length_map]; exact hal) hl0.1 hstk (lv_room (by rw [vg_wd_sum]; exact hwd)) hd ⟨hcc, hcs⟩
  intro T9 hT X
  obtain ⟨v, st₀, t9, T', L, h0, X', hLf, e1, e2, ⟨⟨r, σ', hv, hp, hok, hP1⟩, hz, hkp⟩, stp⟩ := hr2 T9 hT X
  cases hv
  rw [h0] at hz hkp
  have hA1 := vg_in_A (hDA σ) hA hS.1
  have hr3 : (r.toList ++ t).map (vg_cv ad) = (r.map (vg_cv ad)).toList ++ t.map (vg_cv ad) := by
    cases r <;> rfl
  have h9 := k r σ' hp T'.heap (locs ++ L) ls hl0 ho (fun v hv => by
    rcases List.mem_append.mp hv with hv | hv
    · cases r with
      | none => cases hv
      | some w =>
        rw [List.mem_singleton.mp hv]
        exact hok w rfl
    · exact ht v hv) (by rw [e1]; exact hP1) ⟨Nat.le_trans hS.1 (by rw [e1]; exact hz), fun q h1 h2 => by rw [e1, hkp q (Nat.lt_of_lt_of_le h1 hS.1) (fun z => h2 (hA1 q z))]; exact hS.2.1 q h1 h2, fun q hq => by
      rcases List.mem_append.mp hq with h | h
      · exact hS.2.2 q h
      · exact hA1 _ (hLf q h)⟩
  rw [hr3] at h9
  obtain ⟨t2, a1, b1⟩ := h9 T' rfl X'
  exact ⟨t2, stp t2 a1, b1⟩
end VMA
