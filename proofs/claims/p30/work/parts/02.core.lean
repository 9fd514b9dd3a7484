/-! A small machine over names: what a method does to a world of fixed shape, as a pure predicate (vg_Go), and that the machine does it (vg_met). A name stands for a cell; a world is the ints of all cells. -/
abbrev vgN : Type := Nat × Nat × Nat
abbrev vgV : Type := Value ⊕ vgN
abbrev vgL : Type := List (Nat × vgV)
abbrev vgT : Type := List vgV
abbrev vgS : Type := vgN → Nat → Int32
abbrev vgH : Type := (Nat × List (Option vgN)) ⊕ ((Nat × Nat) ⊕ (Nat × Nat × (Nat → vgN)))
abbrev vgK : Type := Nat → vgL → vgT → vgS → Prop
abbrev vgO : Type := Option vgV → vgS → Prop
abbrev vgF : Type := vgO → vgK → vgL → vgT → vgS → Prop
def vg_look {α : Type} : List (Nat × α) → Nat → Option α
  | [], _ => none
  | q :: t, i => bif Nat.beq q.1 i then some q.2 else vg_look t i
theorem vg_look_mem {α : Type} {i : Nat} {a : α} : ∀ {l : List (Nat × α)}, vg_look l i = some a → (i, a) ∈ l
  | [], h => by cases h
  | q :: t, h => by
    unfold vg_look at h
    cases hq : Nat.beq q.1 i with
    | true =>
      rw [hq] at h
      cases h
      have e : q.1 = i := Nat.eq_of_beq_eq_true hq
      rw [← e]
      exact List.mem_cons_self
    | false =>
      rw [hq] at h
      exact List.mem_cons_of_mem _ (vg_look_mem h)
/-- a name's address, a value's -/
def vg_cv (ad : vgN → Nat) : vgV → Value
  | .inl v => v
  | .inr n => .ref (ad n)
def vg_ok (nm : List vgN) : vgV → Prop
  | .inl _ => True
  | .inr n => n ∈ nm
def vg_c2 : vgV → Bool
  | .inl (.long _) => true
  | .inl (.double _) => true
  | _ => false
theorem vg_c2_eq (ad : vgN → Nat) (v : vgV) : ((vg_cv ad v).category == 2) = vg_c2 v := by
  cases v with
  | inl v => cases v <;> rfl
  | inr n => rfl
def vg_put (lv : vgL) (i : Nat) (v : vgV) : vgL := (i, v) :: lv.filter (fun q => !(q.1 == i) && !(q.1 + 1 == i && vg_c2 q.2))
def vg_put2 (lv : vgL) (i : Nat) (v : vgV) : vgL := (i, v) :: lv.filter (fun q => !(q.1 == i) && (!(q.1 == i + 1) && !(q.1 + 1 == i && vg_c2 q.2)))
def vg_lm (ad : vgN → Nat) (lv : vgL) : List (Nat × Value) := lv.map (fun q => (q.1, vg_cv ad q.2))
theorem vg_lm_put (ad : vgN → Nat) (lv : vgL) (i : Nat) (v : vgV) : (i, vg_cv ad v) :: (vg_lm ad lv).filter (fun q => !(q.1 == i) && !(q.1 + 1 == i && q.2.category == 2)) = vg_lm ad (vg_put lv i v) := by
  unfold vg_lm vg_put
  rw [List.map_cons, List.filter_map]
  congr 2
  apply List.filter_congr
  intro q _
  show (!(q.1 == i) && !(q.1 + 1 == i && (vg_cv ad q.2).category == 2)) = _
  rw [vg_c2_eq]
theorem vg_lm_put2 (ad : vgN → Nat) (lv : vgL) (i : Nat) (v : vgV) : (i, vg_cv ad v) :: (vg_lm ad lv).filter (fun q => !(q.1 == i) && (!(q.1 == i + 1) && !(q.1 + 1 == i && q.2.category == 2))) = vg_lm ad (vg_put2 lv i v) := by
  unfold vg_lm vg_put2
  rw [List.map_cons, List.filter_map]
  congr 2
  apply List.filter_congr
  intro q _
  show (!(q.1 == i) && (!(q.1 == i + 1) && !(q.1 + 1 == i && (vg_cv ad q.2).category == 2))) = _
  rw [vg_c2_eq]
theorem vg_ok_put {nm : List vgN} {lv : vgL} {i : Nat} {v : vgV} (h : ∀ q ∈ lv, vg_ok nm q.2) (hv : vg_ok nm v) : ∀ q ∈ vg_put lv i v, vg_ok nm q.2 := by
  intro q hq
  rcases List.mem_cons.mp hq with rfl | hq
  · exact hv
  · exact h q (List.mem_filter.mp hq).1
theorem vg_ok_put2 {nm : List vgN} {lv : vgL} {i : Nat} {v : vgV} (h : ∀ q ∈ lv, vg_ok nm q.2) (hv : vg_ok nm v) : ∀ q ∈ vg_put2 lv i v, vg_ok nm q.2 := by
  intro q hq
  rcases List.mem_cons.mp hq with rfl | hq
  · exact hv
  · exact h q (List.mem_filter.mp hq).1
theorem vg_lm_at {ad : vgN → Nat} {lv : vgL} {ls : Array Slot} {nL i : Nat} {v : vgV} (h : lv_has ls nL (vg_lm ad lv)) (hv : vg_look lv i = some v) : ls[i]? = some (.val (vg_cv ad v)) :=
  h.2.2 (i, vg_cv ad v) (List.mem_map.mpr ⟨(i, v), vg_look_mem hv, rfl⟩)
/-- the cells of a world -/
def vg_fs (ad : vgN → Nat) (f : Nat → Int32) : Nat → List (Option vgN) → List Value
  | _, [] => []
  | k, none :: t => .int (f k) :: vg_fs ad f (k + 1) t
  | k, some n :: t => .ref (ad n) :: vg_fs ad f (k + 1) t
def vg_ty (tys : List (ClassId × FieldType)) (t : Nat) : ClassId := match tys[t]? with
  | some q => q.1
  | none => 0
def vg_e (ad : vgN → Nat) (tys : List (ClassId × FieldType)) (h : vgH) (f : Nat → Int32) : va_E := match h with
  | .inl q => .inr (q.1, vg_fs ad f 0 q.2)
  | .inr (.inl q) => .inl (vg_ty tys q.1, q.2, .inl f)
  | .inr (.inr q) => .inl (vg_ty tys q.1, q.2.1, .inr (.inr (.inr (.inr (fun i => some (ad (q.2.2 i)))))))
def vg_ws (shp : vgN → vgH) (nm : List vgN) (ad : vgN → Nat) (tys : List (ClassId × FieldType)) (σ : vgS) : va_W := nm.map (fun n => (ad n, vg_e ad tys (shp n) (σ n)))
def vg_st (σ : vgS) (n : vgN) (k : Nat) (x : Int32) : vgS := fun n' j => if n' = n ∧ j = k then x else σ n' j
def vg_cp (σ : vgS) (m d : vgN) (len : Nat) : vgS := fun n' j => if n' = d ∧ j < len then σ m j else σ n' j
theorem vg_fs_get (ad : vgN → Nat) (f : Nat → Int32) : ∀ (sl : List (Option vgN)) (b k : Nat), (vg_fs ad f b sl)[k]? = (sl[k]?).map (fun o => match o with | none => Value.int (f (b + k)) | some n => .ref (ad n))
  | [], b, k => by simp [vg_fs]
  | none :: t, b, 0 => by simp [vg_fs]
  | some n :: t, b, 0 => by simp [vg_fs]
  | none :: t, b, k + 1 => by
    show (vg_fs ad f (b + 1) t)[k]? = _
    rw [vg_fs_get ad f t (b + 1) k, show b + 1 + k = b + (k + 1) by omega]
    rfl
  | some n :: t, b, k + 1 => by
    show (vg_fs ad f (b + 1) t)[k]? = _
    rw [vg_fs_get ad f t (b + 1) k, show b + 1 + k = b + (k + 1) by omega]
    rfl
theorem vg_fs_len (ad : vgN → Nat) (f : Nat → Int32) : ∀ (sl : List (Option vgN)) (b : Nat), (vg_fs ad f b sl).length = sl.length
  | [], b => rfl
  | none :: t, b => by simp [vg_fs, vg_fs_len ad f t]
  | some n :: t, b => by simp [vg_fs, vg_fs_len ad f t]
theorem vg_fs_set (ad : vgN → Nat) (f : Nat → Int32) (x : Int32) (sl : List (Option vgN)) (k : Nat) (h : sl[k]? = some none) : (vg_fs ad f 0 sl).set k (.int x) = vg_fs ad (fun j => if j = k then x else f j) 0 sl := by
  apply List.ext_getElem?
  intro j
  rw [List.getElem?_set, vg_fs_get, vg_fs_len, vg_fs_get]
  have hl : k < sl.length := (List.getElem?_eq_some_iff.mp h).1
  by_cases hj : k = j
  · subst hj
    rw [if_pos rfl, if_pos hl, h]
    simp
  · rw [if_neg hj]
    cases hs : sl[j]? with
    | none => rfl
    | some o =>
      cases o with
      | none => simp [Ne.symm hj]
      | some n => rfl
theorem vg_ws_get {shp : vgN → vgH} {nm : List vgN} {ad : vgN → Nat} {tys : List (ClassId × FieldType)} {σ : vgS} {n : vgN} (h : n ∈ nm) : ∃ q : Nat, nm[q]? = some n ∧ (vg_ws shp nm ad tys σ)[q]? = some (ad n, vg_e ad tys (shp n) (σ n)) := by
  obtain ⟨q, hq⟩ := List.getElem?_of_mem h
  exact ⟨q, hq, by unfold vg_ws; rw [List.getElem?_map, hq]; rfl⟩
theorem vg_ws_set {shp : vgN → vgH} {nm : List vgN} {ad : vgN → Nat} {tys : List (ClassId × FieldType)} {σ σ' : vgS} {A : Nat → Prop} {n : vgN} {q : Nat} {e : va_E} (hD : va_D A (vg_ws shp nm ad tys σ)) (hq : nm[q]? = some n) (he : e = vg_e ad tys (shp n) (σ' n)) (ho : ∀ n', n' ≠ n → σ' n' = σ n') : (vg_ws shp nm ad tys σ).set q (ad n, e) = vg_ws shp nm ad tys σ' := by
  apply List.ext_getElem?
  intro j
  have hl : q < nm.length := (List.getElem?_eq_some_iff.mp hq).1
  have hw : ∀ (σ : vgS) (j : Nat), (vg_ws shp nm ad tys σ)[j]? = (nm[j]?).map (fun n => (ad n, vg_e ad tys (shp n) (σ n))) := fun σ j => by unfold vg_ws; rw [List.getElem?_map]
  rw [List.getElem?_set]
  by_cases hj : q = j
  · subst hj
    rw [if_pos rfl, if_pos (by unfold vg_ws; rw [List.length_map]; exact hl), hw, hq, he]
    rfl
  · rw [if_neg hj, hw, hw]
    cases hn : nm[j]? with
    | none => rfl
    | some n' =>
      have hne : n' ≠ n := fun z => by
        subst z
        exact hj (hD.1 q j (ad n', vg_e ad tys (shp n') (σ n')) (ad n', vg_e ad tys (shp n') (σ n')) (by rw [hw, hq]; rfl) (by rw [hw, hn]; rfl) rfl)
      show some (ad n', vg_e ad tys (shp n') (σ n')) = some (ad n', vg_e ad tys (shp n') (σ' n'))
      rw [ho n' hne]
theorem vg_ws_D {shp : vgN → vgH} {nm : List vgN} {ad : vgN → Nat} {tys : List (ClassId × FieldType)} {σ : vgS} {A : Nat → Prop} (hD : va_D A (vg_ws shp nm ad tys σ)) (σ' : vgS) : va_D A (vg_ws shp nm ad tys σ') := by
  have key : ∀ (k : Nat) (q : Nat × va_E), (vg_ws shp nm ad tys σ')[k]? = some q → ∃ q', (vg_ws shp nm ad tys σ)[k]? = some q' ∧ q'.1 = q.1 := by
    intro k q hk
    unfold vg_ws at hk ⊢
    rw [List.getElem?_map] at hk ⊢
    cases hn : nm[k]? with
    | none => rw [hn] at hk; cases hk
    | some n => rw [hn] at hk; cases hk; exact ⟨_, rfl, rfl⟩
  refine ⟨fun i j p q hi hj he => ?_, fun k q hk => ?_⟩
  · obtain ⟨p', h1, h2⟩ := key i p hi
    obtain ⟨q', h3, h4⟩ := key j q hj
    exact hD.1 i j p' q' h1 h3 (h2.trans (he.trans h4.symm))
  · obtain ⟨q', h1, h2⟩ := key k q hk
    rw [← h2]
    exact hD.2 k q' h1
/-- the names in a shape are names of the world -/
def vg_closed (shp : vgN → vgH) (nm : List vgN) : Prop := ∀ n ∈ nm, match shp n with
  | .inl q => ∀ m, some m ∈ q.2 → m ∈ nm
  | .inr (.inl _) => True
  | .inr (.inr q) => ∀ i, i < q.2.1 → q.2.2 i ∈ nm
def vg_nw (nw : List (String × Nat × MethodName × String)) (s : State) : Prop := ∀ q ∈ nw, va_Nw (.methodLinkNest q.1 q.2.1 q.2.2.1 q.2.2.2) s
def vg_rm (d : Nat) : Room := { frames := d, cells := 0, slots := 0, locals := 32 * d }
/-- which cells a method may change -/
def vg_A (nm : List vgN) (ad : vgN → Nat) (sz : Nat) : Nat → Prop := fun q => (∃ n, n ∈ nm ∧ ad n = q) ∨ sz ≤ q
/-- a method's end -/
def vg_Q (shp : vgN → vgH) (nm : List vgN) (cl : List vw_C) (D : va_G) (tys : List (ClassId × FieldType)) (ad : vgN → Nat) (A : Nat → Prop) (P : vgO) : Array Value → State → Outcome → State → Prop := fun _ st oc t =>
  (∃ (r : Option vgV) (σ : vgS), oc = .returned (r.map (vg_cv ad)) ∧ P r σ ∧ (∀ v, r = some v → vg_ok nm v) ∧ va_P D cl (vg_ws shp nm ad tys σ) t.heap) ∧ va_F A st t
/-- what stands fast in a method's walk -/
def vg_C (tb : List Cond) (nw : List (String × Nat × MethodName × String)) (shp : vgN → vgH) (nm : List vgN) (cl : List vw_C) (tyl : List FieldType) (cc : ByteArray) (nL : Nat) (own : String) (ret : Option FieldType) (d : Nat) (p : Program) (R : Room) (s : State) (m : MethodId) (args : Array Value) (meth : Method) (c : Code) (D : va_G) (tys : List (ClassId × FieldType)) (ad : vgN → Nat) (A : Nat → Prop) : Prop :=
  p.tables.exec = Jvm.exec ∧ c.code = cc ∧ c.maxLocals = nL ∧ s.vm.findClass own = some m.cls ∧ (∀ w ∈ tb, w.before args s = true) ∧ va_K D cl tys s ∧ tys.map (fun q => q.2) = tyl ∧ meth.sig.returnType = ret ∧ meth.locks = false ∧ R = vg_rm d ∧ (∀ q, s.heap.size ≤ q → A q) ∧ (∀ σ, va_D A (vg_ws shp nm ad tys σ)) ∧ vg_closed shp nm ∧ vg_nw nw s
/-- the machine, from here on -/
def vg_X (shp : vgN → vgH) (nm : List vgN) (cl : List vw_C) (nL : Nat) (p : Program) (l : Launch) (e : Env) (R : Room) (s : State) (m : MethodId) (args : Array Value) (below : List Frame) (meth : Method) (c : Code) (D : va_G) (tys : List (ClassId × FieldType)) (ad : vgN → Nat) (A : Nat → Prop) (P : vgO) : vgK := fun pc lv st σ =>
  ∀ (H : Heap) (locs : List Loc) (ls : Array Slot), lv_has ls nL (vg_lm ad lv) → (∀ q ∈ lv, vg_ok nm q.2) → (∀ v ∈ st, vg_ok nm v) → va_P D cl (vg_ws shp nm ad tys σ) H → va_S A s.heap H locs →
    W p l e R s m args below meth c H locs 0 0 (MQ below (vg_Q shp nm cl D tys ad A P) args s 0 0 A) (F0 m pc ls (st.map (vg_cv ad)))
def vg_Mono (F : vgF) : Prop := ∀ (P : vgO) (K K' : vgK), (∀ pc lv st σ, K pc lv st σ → K' pc lv st σ) → ∀ lv st σ, F P K lv st σ → F P K' lv st σ
/-- an instruction's row -/
def vg_Snd (tb : List Cond) (nw : List (String × Nat × MethodName × String)) (shp : vgN → vgH) (nm : List vgN) (cl : List vw_C) (tyl : List FieldType) (cc : ByteArray) (nL : Nat) (own : String) (ret : Option FieldType) (d : Nat) (pc : Nat) (F : vgF) : Prop :=
  vg_Mono F ∧ ∀ (p : Program) (l : Launch) (e : Env) (R : Room) (s : State) (m : MethodId) (args : Array Value) (below : List Frame) (meth : Method) (c : Code) (D : va_G) (tys : List (ClassId × FieldType)) (ad : vgN → Nat) (A : Nat → Prop) (P : vgO),
    vg_C tb nw shp nm cl tyl cc nL own ret d p R s m args meth c D tys ad A → ∀ lv st σ, F P (vg_X shp nm cl nL p l e R s m args below meth c D tys ad A P) lv st σ → vg_X shp nm cl nL p l e R s m args below meth c D tys ad A P pc lv st σ
/-- the locals of some numbers alone -/
def vg_sel (ks : List Nat) (lv : vgL) : vgL := match ks with
  | [] => []
  | i :: r => match vg_look lv i with
    | some v => (i, v) :: vg_sel r lv
    | none => vg_sel r lv
theorem vg_sel_in {lv : vgL} : ∀ (ks : List Nat) (q : Nat × vgV), q ∈ vg_sel ks lv → q ∈ lv
  | [], q, h => by cases h
  | i :: r, q, h => by
    unfold vg_sel at h
    split at h
    next v hv =>
      rcases List.mem_cons.mp h with rfl | h
      · exact vg_look_mem hv
      · exact vg_sel_in r q h
    next => exact vg_sel_in r q h
/-- from here the method comes to an end with P: the least such predicate -/
def vg_Go (code : List (Nat × vgF)) (P : vgO) : vgK := fun pc lv st σ =>
  ∀ X : vgK, (∀ pc lv st σ, (match vg_look code pc with | some F => F P X lv st σ | none => False) → X pc lv st σ) → (∀ pc lv lv' st σ, (∀ q : Nat × vgV, q ∈ lv' → q ∈ lv) → X pc lv' st σ → X pc lv st σ) → X pc lv st σ
def vg_Code (code : List (Nat × vgF)) : Prop := ∀ q ∈ code, vg_Mono q.2
theorem vg_step {code : List (Nat × vgF)} (hm : vg_Code code) {P : vgO} {pc : Nat} {lv : vgL} {st : vgT} {σ : vgS} (h : match vg_look code pc with | some F => F P (vg_Go code P) lv st σ | none => False) : vg_Go code P pc lv st σ := by
  intro X hX hW
  refine hX pc lv st σ ?_
  cases hF : vg_look code pc with
  | none => rw [hF] at h; exact h
  | some F =>
    rw [hF] at h
    exact hm _ (vg_look_mem hF) P _ _ (fun pc lv st σ g => g X hX hW) lv st σ h
theorem vg_weak {code : List (Nat × vgF)} {P : vgO} {pc : Nat} {lv lv' : vgL} {st : vgT} {σ : vgS} (hs : ∀ q : Nat × vgV, q ∈ lv' → q ∈ lv) (h : vg_Go code P pc lv' st σ) : vg_Go code P pc lv st σ :=
  fun X hX hW => hW pc lv lv' st σ hs (h X hX hW)
/-- some steps on end; at a cut the walk stops, with the locals named there -/
def vg_R (cuts : List (Nat × List Nat)) (code : List (Nat × vgF)) (P : vgO) : Nat → vgK
  | 0 => vg_Go code P
  | n + 1 => fun pc lv st σ => match vg_look code pc with
    | some F => F P (fun pc' lv' st' σ' => match vg_look cuts pc' with
      | some ks => vg_Go code P pc' (vg_sel ks lv') st' σ'
      | none => vg_R cuts code P n pc' lv' st' σ') lv st σ
    | none => False
theorem vg_run {cuts : List (Nat × List Nat)} {code : List (Nat × vgF)} (hm : vg_Code code) {P : vgO} : ∀ (n : Nat) {pc : Nat} {lv : vgL} {st : vgT} {σ : vgS}, vg_R cuts code P n pc lv st σ → vg_Go code P pc lv st σ
  | 0, _, _, _, _, h => h
  | n + 1, pc, lv, st, σ, h => by
    refine vg_step hm ?_
    unfold vg_R at h
    cases hF : vg_look code pc with
    | none => rw [hF] at h; exact h
    | some F =>
      rw [hF] at h
      refine hm _ (vg_look_mem hF) P _ _ (fun pc' lv' st' σ' g => ?_) lv st σ h
      cases hc : vg_look cuts pc' with
      | some ks => rw [hc] at g; exact vg_weak (fun q hq => vg_sel_in ks q hq) g
      | none => rw [hc] at g; exact vg_run hm n g
/-- the machine does it -/
theorem vg_sound {tb : List Cond} {nw : List (String × Nat × MethodName × String)} {shp : vgN → vgH} {nm : List vgN} {cl : List vw_C} {tyl : List FieldType} {cc : ByteArray} {nL : Nat} {own : String} {ret : Option FieldType} {d : Nat} {code : List (Nat × vgF)} (hs : ∀ q ∈ code, vg_Snd tb nw shp nm cl tyl cc nL own ret d q.1 q.2)
    {p : Program} {l : Launch} {e : Env} {R : Room} {s : State} {m : MethodId} {args : Array Value} {below : List Frame} {meth : Method} {c : Code} {D : va_G} {tys : List (ClassId × FieldType)} {ad : vgN → Nat} {A : Nat → Prop} {P : vgO}
    (C0 : vg_C tb nw shp nm cl tyl cc nL own ret d p R s m args meth c D tys ad A) {pc : Nat} {lv : vgL} {st : vgT} {σ : vgS} (h : vg_Go code P pc lv st σ) : vg_X shp nm cl nL p l e R s m args below meth c D tys ad A P pc lv st σ := by
  refine h _ (fun pc lv st σ g => ?_) (fun pc lv lv' st σ hsub g H locs ls hl ho hs hP hS => g H locs ls ⟨hl.1, hl.2.1, fun q hq => ?_⟩ (fun q hq => ho q (hsub q hq)) hs hP hS)
  · cases hL : vg_look code pc with
    | none => rw [hL] at g; exact g.elim
    | some F =>
      rw [hL] at g
      exact (hs _ (vg_look_mem hL)).2 p l e R s m args below meth c D tys ad A P C0 lv st σ g
  · obtain ⟨q', hq', rfl⟩ := List.mem_map.mp hq
    exact hl.2.2 _ (List.mem_map.mpr ⟨q', hsub q' hq', rfl⟩)
/-- a contract: from every world of the shape, with arguments for which 'pre' holds, the method ends with 'post' -/
def vg_Met (tb : List Cond) (nw : List (String × Nat × MethodName × String)) (shp : vgN → vgH) (nm : List vgN) (cl : List vw_C) (tyl : List FieldType) (y : MethodName) (cc : ByteArray) (nL : Nat) (ret : Option FieldType) (d : Nat) (pre : vgT → vgS → Prop) (post : vgT → vgS → vgO) : Prop :=
  ∀ (l : Launch) (D : va_G) (tys : List (ClassId × FieldType)) (ad : vgN → Nat) (sz : Nat) (av : vgT) (σ : vgS), tys.map (fun q => q.2) = tyl → (∀ v ∈ av, vg_ok nm v) → pre av σ →
    Met l y (.code y cc nL ret :: tb) (vg_rm d) (va_Pc (av.map (vg_cv ad)) (fun U => U.heap.size = sz ∧ va_P D cl (vg_ws shp nm ad tys σ) U.heap ∧ va_K D cl tys U ∧ va_D (fun _ => True) (vg_ws shp nm ad tys σ) ∧ vg_nw nw U)) (vg_Q shp nm cl D tys ad (vg_A nm ad sz) (post av σ)) 0 0 (vg_A nm ad sz)
def vg_args : Nat → vgT → vgL
  | _, [] => []
  | i, v :: vs => (i, v) :: vg_args (if vg_c2 v then i + 2 else i + 1) vs
theorem vg_args_eq (ad : vgN → Nat) : ∀ (vs : vgT) (i : Nat), lv_args i (vs.map (vg_cv ad)) = vg_lm ad (vg_args i vs)
  | [], i => rfl
  | v :: vs, i => by
    show (i, vg_cv ad v) :: lv_args (if (vg_cv ad v).category = 2 then i + 2 else i + 1) (vs.map (vg_cv ad)) = (i, vg_cv ad v) :: vg_lm ad (vg_args (if vg_c2 v then i + 2 else i + 1) vs)
    have e : (if (vg_cv ad v).category = 2 then i + 2 else i + 1) = (if vg_c2 v then i + 2 else i + 1) := by
      have h := vg_c2_eq ad v
      cases hc : vg_c2 v with
      | true =>
        rw [hc] at h
        simp [beq_iff_eq.mp h]
      | false =>
        rw [hc] at h
        have h2 : ¬ (vg_cv ad v).category = 2 := fun z => by rw [z] at h; cases h
        simp [h2]
    rw [e, vg_args_eq ad vs]
theorem vg_args_ok {nm : List vgN} : ∀ (vs : vgT) (i : Nat), (∀ v ∈ vs, vg_ok nm v) → ∀ q ∈ vg_args i vs, vg_ok nm q.2
  | [], i, _, q, hq => by cases hq
  | v :: vs, i, h, q, hq => by
    rcases List.mem_cons.mp hq with rfl | hq
    · exact h v List.mem_cons_self
    · exact vg_args_ok vs _ (fun w hw => h w (List.mem_cons_of_mem _ hw)) q hq
def vg_wd (vs : vgT) : Nat := (vs.map (fun v => if vg_c2 v then 2 else 1)).sum
theorem vg_wd_eq (ad : vgN → Nat) : ∀ vs : vgT, (lg_sl (vs.map (vg_cv ad))).length = vg_wd vs
  | [] => rfl
  | v :: vs => by
    have ih := vg_wd_eq ad vs
    have e : (lg_sl ((v :: vs).map (vg_cv ad))).length = (if (vg_cv ad v).category = 2 then 2 else 1) + (lg_sl (vs.map (vg_cv ad))).length := by
      by_cases hc : (vg_cv ad v).category = 2 <;> simp [lg_sl, hc] <;> omega
    have h := vg_c2_eq ad v
    rw [e, ih]
    show _ = (if vg_c2 v then 2 else 1) + vg_wd vs
    cases hc : vg_c2 v with
    | true => rw [hc] at h; simp [beq_iff_eq.mp h]
    | false =>
      rw [hc] at h
      have h2 : ¬ (vg_cv ad v).category = 2 := fun z => by rw [z] at h; cases h
      simp [h2]
theorem vg_met {tb : List Cond} {nw : List (String × Nat × MethodName × String)} {shp : vgN → vgH} {nm : List vgN} {cl : List vw_C} {tyl : List FieldType} {y : MethodName} {cc : ByteArray} {nL : Nat} {own : String} {ret : Option FieldType} {d : Nat} {pre : vgT → vgS → Prop} {post : vgT → vgS → vgO} {code : List (Nat × vgF)}
    (hcl : vg_closed shp nm) (hy : plainName y.cls = true) (hown : y.cls = own) (hs : ∀ q ∈ code, vg_Snd tb nw shp nm cl tyl cc nL own ret d q.1 q.2)
    (hw : ∀ av σ, pre av σ → vg_wd av ≤ nL) (go : ∀ av σ, pre av σ → vg_Go code (post av σ) 0 (vg_args 0 av) [] σ) : vg_Met tb nw shp nm cl tyl y cc nL ret d pre post := by
  intro l D tys ad sz av σ hty hok hpre
  refine Met.ofW (cc := cc) (maxL := nL) (ret := ret) hy rfl ?_
  intro p e s m args below meth c s₁ B hml hv
  obtain ⟨rfl, hsz, hP, hK, hD, hnw⟩ := hv
  have hx := B.exec
  have hb := B.bytes
  have hr := B.returns
  have hts : ∀ w ∈ tb, w.before (av.map (vg_cv ad)).toArray s = true := fun w h => atoms_spec (ws := .code y cc nL ret :: tb) B.pre w (List.mem_cons_of_mem _ h)
  have ho : s.vm.findClass own = some m.cls := by rw [← hown]; exact findClass_of_methodNamed B.named
  have hlocks := B.notSynchronized
  subst hsz
  have hDA : ∀ σ', va_D (vg_A nm ad s.heap.size) (vg_ws shp nm ad tys σ') := fun σ' => (vg_ws_D hD σ').weaken (fun k q hk _ => by
    unfold vg_ws at hk
    rw [List.getElem?_map] at hk
    cases hn : nm[k]? with
    | none => rw [hn] at hk; cases hk
    | some n => rw [hn] at hk; cases hk; exact Or.inl ⟨n, List.mem_of_getElem? hn, rfl⟩)
  have C0 : vg_C tb nw shp nm cl tyl cc nL own ret d p (vg_rm d) s m (av.map (vg_cv ad)).toArray meth c D tys ad (vg_A nm ad s.heap.size) := ⟨hx, hb, hml, ho, hts, hK, hty, hr, hlocks, rfl, fun q h => Or.inr h, hDA, hcl, hnw⟩
  have hl := lv_entry (av.map (vg_cv ad)) (n := nL) (by rw [vg_wd_eq]; exact hw av σ hpre)
  rw [vg_args_eq] at hl
  rw [lg_entry_eq]
  exact vg_sound hs C0 (go av σ hpre) s.heap [] _ hl (vg_args_ok av 0 hok) (fun v h => by cases h) hP va_S.rf
