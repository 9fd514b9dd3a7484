/-! a third machine, for cells that are made: the world is a list of cells; the name (i, 0, 0) is the cell at place i there -/
theorem vq_AOA.moved {ty : FieldType} {u U : State} (hvm : u.vm.Alike U.vm) (h : vq_AOA ty u) : vq_AOA ty U := by
  have hidx : ∀ comp : ClassId, (U.vm.classes.findIdx? fun (x : Class) => match x.kind with | .array component _ => component == comp | _ => false) = (u.vm.classes.findIdx? fun (x : Class) => match x.kind with | .array component _ => component == comp | _ => false) := by
    intro comp
    have hb : U.vm.bare = u.vm.bare := by first | exact hvm.bare_eq | exact hvm.bare_eq.symm
    have h1 := va_idx_bare U.vm comp
    have h2 := va_idx_bare u.vm comp
    rw [hb] at h1
    exact h1.symm.trans h2
  unfold vq_AOA Cond.before Cond.holds at h ⊢
  simp only [Cond.value, hvm.findClass] at h ⊢
  cases hc : u.vm.findClass (FieldType.array ty).toString with
  | none => rw [hc] at h; simp at h
  | some comp =>
    rw [hc, Option.bind_some] at h
    rw [Option.bind_some]
    have h' := hidx comp
    cases hi : (u.vm.classes.findIdx? fun (x : Class) => match x.kind with | .array component _ => component == comp | _ => false) with
    | none =>
      exfalso
      refine Bool.false_ne_true (Eq.trans ?_ h)
      refine (congrArg (fun o : Option Nat => (o.bind (fun c => (u.vm.classes[c]?).map fun (k : Class) => match k.kind with | .array _ ty9 => decide (ty9 = FieldType.array ty) && decide (u.vm.findClass ("[" ++ (FieldType.array ty).toString) = some c) | _ => false) == some true)) hi).symm
    | some c =>
      have h2 := (congrArg (fun o : Option Nat => (o.bind (fun c => (u.vm.classes[c]?).map fun (k : Class) => match k.kind with | .array _ ty9 => decide (ty9 = FieldType.array ty) && decide (u.vm.findClass ("[" ++ (FieldType.array ty).toString) = some c) | _ => false) == some true)) hi).symm.trans h
      refine (congrArg (fun o : Option Nat => (o.bind (fun c => (U.vm.classes[c]?).map fun (k : Class) => match k.kind with | .array _ ty9 => decide (ty9 = FieldType.array ty) && decide (u.vm.findClass ("[" ++ (FieldType.array ty).toString) = some c) | _ => false) == some true)) (h'.trans hi)).trans ?_
      cases hk : u.vm.classes[c]? with
      | none => simp [hk] at h2
      | some k =>
        obtain ⟨k', hk', he⟩ := hvm.2.2 _ _ hk
        have hkind : k'.kind = k.kind := by rw [he]
        simp only [hk, Option.bind_some, Option.map_some] at h2
        simp only [hk', Option.bind_some, Option.map_some, hkind]
        exact h2
/-- facts of the tables that no word keeps: links to private members of nest mates; arrays over a class; arrays of int rows -/
abbrev vhW : Type := List (String × Nat × MethodName × String) × (List String × Bool)
def vh_nx (nx : vhW) (s : State) : Prop := vg_nw nx.1 s ∧ (∀ C ∈ nx.2.1, va_AO C s) ∧ (nx.2.2 = true → vq_AOA .int s)
theorem vh_nx.warm {nx : vhW} {s U : State} (hW : s.WarmedH U.vm) (h : vh_nx nx s) : vh_nx nx U := ⟨fun z hz => va_Nw.warmM hW (h.1 z hz), fun C hC => va_AO.moved hW.alike (h.2.1 C hC), fun hb => vq_AOA.moved hW.alike (h.2.2 hb)⟩
theorem vh_nx.blind {nx : vhW} {a : Array Value} {U : State} {g : JFrame} {mk : MethodId} (h : vh_nx nx U) : vh_nx nx (U.calling g mk a) := ⟨fun z hz => va_Nw.same (u := U) (U := U.calling g mk a) rfl rfl (h.1 z hz), fun C hC => va_AO.moved (u := U) (U := U.calling g mk a) (Vm.Alike.refl U.vm) (h.2.1 C hC), fun hb => vq_AOA.moved (u := U) (U := U.calling g mk a) (Vm.Alike.refl U.vm) (h.2.2 hb)⟩
abbrev vhX : Type := (Nat → Int32) ⊕ ((Nat → Int64) ⊕ (Nat → Option Nat))
abbrev vhC : Type := (Nat × List vgV) ⊕ (Nat × (Nat × vhX))
abbrev vhS : Type := List vhC
abbrev vhT : Type := vhS × (Nat × Nat)
abbrev vhK : Type := Nat → vgL → vgT → vhT → Prop
abbrev vhO : Type := Option vgV → vhT → Prop
abbrev vhF : Type := vhO → vhK → vgL → vgT → vhT → Prop
def vh_n (i : Nat) : vgN := (i, 0, 0)
def vh_N (n : Nat) : List vgN := (List.range n).map vh_n
theorem vh_N_in {n i : Nat} (h : i < n) : vh_n i ∈ vh_N n := List.mem_map.mpr ⟨i, List.mem_range.mpr h, rfl⟩
theorem vh_N_of {n : Nat} {z : vgN} (h : z ∈ vh_N n) : ∃ i, i < n ∧ z = vh_n i := by
  obtain ⟨i, h1, h2⟩ := List.mem_map.mp h
  exact ⟨i, List.mem_range.mp h1, h2.symm⟩
theorem vh_N_le {n k : Nat} (hnk : n ≤ k) {v : vgV} (h : vg_ok (vh_N n) v) : vg_ok (vh_N k) v := by
  cases v with
  | inl v => trivial
  | inr z =>
    obtain ⟨i, h1, rfl⟩ := vh_N_of h
    exact vh_N_in (Nat.lt_of_lt_of_le h1 hnk)
def vh_x (ad : vgN → Nat) : vhX → ((Nat → Int32) ⊕ (Nat → Int64) ⊕ (Nat → UInt32) ⊕ (Nat → UInt64) ⊕ (Nat → Option Nat))
  | .inl f => .inl f
  | .inr (.inl f) => .inr (.inl f)
  | .inr (.inr f) => .inr (.inr (.inr (.inr (fun i => (f i).map (fun j => ad (vh_n j))))))
def vh_e (ad : vgN → Nat) (tys : List (ClassId × FieldType)) : vhC → va_E
  | .inl q => .inr (q.1, q.2.map (vg_cv ad))
  | .inr q => .inl (vg_ty tys q.1, q.2.1, vh_x ad q.2.2)
def vh_ws (ad : vgN → Nat) (tys : List (ClassId × FieldType)) (S : vhS) : va_W := S.mapIdx (fun i c => (ad (vh_n i), vh_e ad tys c))
def vh_okC (n : Nat) : vhC → Prop
  | .inl q => ∀ v ∈ q.2, vg_ok (vh_N n) v
  | .inr q => match q.2.2 with
    | .inr (.inr f) => ∀ i j, f i = some j → j < n
    | _ => True
def vh_wf (S : vhS) : Prop := ∀ c ∈ S, vh_okC S.length c
theorem vh_okC_le {n k : Nat} (hnk : n ≤ k) : ∀ {c : vhC}, vh_okC n c → vh_okC k c
  | .inl q, h => fun v hv => vh_N_le hnk (h v hv)
  | .inr (t, m, .inl f), _ => trivial
  | .inr (t, m, .inr (.inl f)), _ => trivial
  | .inr (t, m, .inr (.inr f)), h => fun i j hij => Nat.lt_of_lt_of_le (h i j hij) hnk
theorem vh_cv_eq {ad ad' : vgN → Nat} {n : Nat} (h : ∀ i, i < n → ad' (vh_n i) = ad (vh_n i)) : ∀ {v : vgV}, vg_ok (vh_N n) v → vg_cv ad' v = vg_cv ad v
  | .inl v, _ => rfl
  | .inr z, hz => by
    obtain ⟨i, h1, rfl⟩ := vh_N_of hz
    show Value.ref _ = Value.ref _
    rw [h i h1]
theorem vh_e_eq {ad ad' : vgN → Nat} {tys : List (ClassId × FieldType)} {n : Nat} (h : ∀ i, i < n → ad' (vh_n i) = ad (vh_n i)) : ∀ {c : vhC}, vh_okC n c → vh_e ad' tys c = vh_e ad tys c
  | .inl q, hc => by
    show Sum.inr (q.1, q.2.map (vg_cv ad')) = Sum.inr (q.1, q.2.map (vg_cv ad))
    rw [List.map_congr_left (fun v hv => vh_cv_eq h (hc v hv))]
  | .inr (t, m, .inl f), _ => rfl
  | .inr (t, m, .inr (.inl f)), _ => rfl
  | .inr (t, m, .inr (.inr f)), hc => by
    show Sum.inl (_, m, Sum.inr (Sum.inr (Sum.inr (Sum.inr _)))) = Sum.inl (_, m, Sum.inr (Sum.inr (Sum.inr (Sum.inr _))))
    congr 7
    funext i
    cases hf : f i with
    | none => rfl
    | some j =>
      show some (ad' (vh_n j)) = some (ad (vh_n j))
      rw [h j (hc i j hf)]
theorem vh_ws_at (ad : vgN → Nat) (tys : List (ClassId × FieldType)) (S : vhS) (i : Nat) : (vh_ws ad tys S)[i]? = (S[i]?).map (fun c => (ad (vh_n i), vh_e ad tys c)) := by
  unfold vh_ws
  rw [List.getElem?_mapIdx]
theorem vh_ws_eq {ad ad' : vgN → Nat} {tys : List (ClassId × FieldType)} {S : vhS} {n : Nat} (hn : S.length ≤ n) (hw : ∀ c ∈ S, vh_okC n c) (h : ∀ i, i < n → ad' (vh_n i) = ad (vh_n i)) : vh_ws ad' tys S = vh_ws ad tys S := by
  apply List.ext_getElem?
  intro i
  rw [vh_ws_at, vh_ws_at]
  cases hs : S[i]? with
  | none => rfl
  | some c =>
    have hi : i < S.length := (List.getElem?_eq_some_iff.mp hs).1
    show some (ad' (vh_n i), vh_e ad' tys c) = some (ad (vh_n i), vh_e ad tys c)
    rw [h i (Nat.lt_of_lt_of_le hi hn), vh_e_eq h (hw c (List.mem_of_getElem? hs))]
theorem vh_ws_app (ad : vgN → Nat) (tys : List (ClassId × FieldType)) (S : vhS) (c : vhC) : vh_ws ad tys (S ++ [c]) = vh_ws ad tys S ++ [(ad (vh_n S.length), vh_e ad tys c)] := by
  unfold vh_ws
  rw [List.mapIdx_append]
  simp
theorem vh_ws_set {ad : vgN → Nat} {tys : List (ClassId × FieldType)} {S : vhS} {i : Nat} {c : vhC} : (vh_ws ad tys S).set i (ad (vh_n i), vh_e ad tys c) = vh_ws ad tys (S.set i c) := by
  apply List.ext_getElem?
  intro j
  rw [List.getElem?_set, vh_ws_at, vh_ws_at, List.getElem?_set]
  have hl : (vh_ws ad tys S).length = S.length := by unfold vh_ws; rw [List.length_mapIdx]
  rw [hl]
  by_cases hj : i = j
  · subst hj
    rw [if_pos rfl, if_pos rfl]
    by_cases hi : i < S.length
    · rw [if_pos hi, if_pos hi]; rfl
    · rw [if_neg hi, if_neg hi]; rfl
  · rw [if_neg hj, if_neg hj]
theorem vh_wf_set {S : vhS} {i : Nat} {c : vhC} (hw : vh_wf S) (hc : vh_okC S.length c) : vh_wf (S.set i c) := by
  intro d hd
  rw [List.length_set]
  rcases List.mem_or_eq_of_mem_set hd with h | h
  · exact hw d h
  · rw [h]; exact hc
theorem vh_wf_app {S : vhS} {c : vhC} (hw : vh_wf S) (hc : vh_okC (S.length + 1) c) : vh_wf (S ++ [c]) := by
  intro d hd
  rw [List.length_append]
  rcases List.mem_append.mp hd with h | h
  · exact vh_okC_le (Nat.le_add_right _ _) (hw d h)
  · rw [List.mem_singleton.mp h]; exact hc
/-- a new address at place k -/
def vh_ad (ad : vgN → Nat) (k q : Nat) : vgN → Nat := fun z => if z = vh_n k then q else ad z
theorem vh_ad_lt {ad : vgN → Nat} {k q i : Nat} (h : i < k) : vh_ad ad k q (vh_n i) = ad (vh_n i) := by
  unfold vh_ad
  rw [if_neg (fun z => ?_)]
  have : i = k := congrArg Prod.fst z
  omega
theorem vh_ad_at {ad : vgN → Nat} {k q : Nat} : vh_ad ad k q (vh_n k) = q := by
  unfold vh_ad
  rw [if_pos rfl]
def vh_rk (cc : ByteArray) (ret : Option FieldType) (pc : Nat) (r : Option vgV) : Prop := match r with
  | some (.inr _) => decode cc pc = .ok (.areturn, 1) ∧ ∃ ty, ret = some ty ∧ refKind ty = true
  | r => vm_rk cc ret pc r
def vh_C (tb : List Cond) (nw : vhW) (cl : List vw_C) (tyl : List FieldType) (cc : ByteArray) (nL : Nat) (own : String) (ret : Option FieldType) (d Rc Rs : Nat) (ini : Bool) (p : Program) (R : Room) (s : State) (m : MethodId) (args : Array Value) (meth : Method) (c : Code) (D : va_G) (tys : List (ClassId × FieldType)) (A : Nat → Prop) : Prop :=
  p.tables.exec = Jvm.exec ∧ c.code = cc ∧ c.maxLocals = nL ∧ s.vm.findClass own = some m.cls ∧ (∀ w ∈ tb, w.before args s = true) ∧ va_K D cl tys s ∧ tys.map (fun q => q.2) = tyl ∧ meth.sig.returnType = ret ∧ meth.locks = false ∧ (d ≤ R.frames ∧ 32 * d ≤ R.locals) ∧ (∀ q, s.heap.size ≤ q → A q) ∧ (Rc ≤ R.cells ∧ Rs ≤ R.slots) ∧ (ini = true → meth.name = "<init>") ∧ vh_nx nw s
def vh_X (cl : List vw_C) (nL : Nat) (p : Program) (l : Launch) (e : Env) (R : Room) (s : State) (m : MethodId) (args : Array Value) (below : List Frame) (meth : Method) (c : Code) (D : va_G) (tys : List (ClassId × FieldType)) (n0 : Nat) (ad0 : vgN → Nat) (A : Nat → Prop) (Z : State → Prop) : vhK := fun pc lv st σ =>
  ∀ (ad : vgN → Nat) (H : Heap) (locs : List Loc) (ls : Array Slot), (∀ i, i < n0 → ad (vh_n i) = ad0 (vh_n i)) → lv_has ls nL (vg_lm ad lv) → (∀ q ∈ lv, vg_ok (vh_N σ.1.length) q.2) → (∀ v ∈ st, vg_ok (vh_N σ.1.length) v) → (n0 ≤ σ.1.length ∧ vh_wf σ.1) → va_P D cl (vh_ws ad tys σ.1) H → va_D A (vh_ws ad tys σ.1) → va_S A s.heap H locs →
    W p l e R s m args below meth c H locs σ.2.1 σ.2.2 Z (F0 m pc ls (st.map (vg_cv ad)))
def vh_E (cl : List vw_C) (cc : ByteArray) (ret : Option FieldType) (p : Program) (l : Launch) (e : Env) (R : Room) (s : State) (m : MethodId) (args : Array Value) (below : List Frame) (meth : Method) (c : Code) (D : va_G) (tys : List (ClassId × FieldType)) (n0 : Nat) (ad0 : vgN → Nat) (A : Nat → Prop) (P : vhO) (Z : State → Prop) : Prop :=
  ∀ (r : Option vgV) (σ : vhT) (pc : Nat) (ad : vgN → Nat) (ls : Array Slot) (H : Heap) (locs : List Loc), P r σ → (∀ v, r = some v → vg_ok (vh_N σ.1.length) v) → (∀ i, i < n0 → ad (vh_n i) = ad0 (vh_n i)) → vh_wf σ.1 → va_P D cl (vh_ws ad tys σ.1) H → va_D A (vh_ws ad tys σ.1) → va_S A s.heap H locs → vh_rk cc ret pc r → W p l e R s m args below meth c H locs σ.2.1 σ.2.2 Z (F0 m pc ls ((r.map (vg_cv ad)).toList))
def vh_Mono (F : vhF) : Prop := ∀ (P : vhO) (K K' : vhK), (∀ pc lv st σ, K pc lv st σ → K' pc lv st σ) → ∀ lv st σ, F P K lv st σ → F P K' lv st σ
def vh_Snd (tb : List Cond) (nw : vhW) (cl : List vw_C) (tyl : List FieldType) (cc : ByteArray) (nL : Nat) (own : String) (ret : Option FieldType) (d Rc Rs : Nat) (ini : Bool) (pc : Nat) (F : vhF) : Prop :=
  vh_Mono F ∧ ∀ (p : Program) (l : Launch) (e : Env) (R : Room) (s : State) (m : MethodId) (args : Array Value) (below : List Frame) (meth : Method) (c : Code) (D : va_G) (tys : List (ClassId × FieldType)) (n0 : Nat) (ad0 : vgN → Nat) (A : Nat → Prop) (P : vhO) (Z : State → Prop),
    vh_C tb nw cl tyl cc nL own ret d Rc Rs ini p R s m args meth c D tys A → vh_E cl cc ret p l e R s m args below meth c D tys n0 ad0 A P Z → ∀ lv st σ, F P (vh_X cl nL p l e R s m args below meth c D tys n0 ad0 A Z) lv st σ → vh_X cl nL p l e R s m args below meth c D tys n0 ad0 A Z pc lv st σ
def vh_Go (code : List (Nat × vhF)) (P : vhO) : vhK := fun pc lv st σ =>
  ∀ X : vhK, (∀ pc lv st σ, (match vg_look code pc with | some F => F P X lv st σ | none => False) → X pc lv st σ) → (∀ pc lv lv' st σ, (∀ q : Nat × vgV, q ∈ lv' → q ∈ lv) → X pc lv' st σ → X pc lv st σ) → X pc lv st σ
def vh_Code (code : List (Nat × vhF)) : Prop := ∀ q ∈ code, vh_Mono q.2
theorem vh_step {code : List (Nat × vhF)} (hm : vh_Code code) {P : vhO} {pc : Nat} {lv : vgL} {st : vgT} {σ : vhT} (h : match vg_look code pc with | some F => F P (vh_Go code P) lv st σ | none => False) : vh_Go code P pc lv st σ := by
  intro X hX hW
  refine hX pc lv st σ ?_
  cases hF : vg_look code pc with
  | none => rw [hF] at h; exact h
  | some F =>
    rw [hF] at h
    exact hm _ (vg_look_mem hF) P _ _ (fun pc lv st σ g => g X hX hW) lv st σ h
theorem vh_weak {code : List (Nat × vhF)} {P : vhO} {pc : Nat} {lv lv' : vgL} {st : vgT} {σ : vhT} (hs : ∀ q : Nat × vgV, q ∈ lv' → q ∈ lv) (h : vh_Go code P pc lv' st σ) : vh_Go code P pc lv st σ :=
  fun X hX hW => hW pc lv lv' st σ hs (h X hX hW)
def vh_R (cuts : List (Nat × List Nat)) (code : List (Nat × vhF)) (P : vhO) : Nat → vhK
  | 0 => vh_Go code P
  | n + 1 => fun pc lv st σ => match vg_look code pc with
    | some F => F P (fun pc' lv' st' σ' => match vg_look cuts pc' with
      | some ks => vh_Go code P pc' (vg_sel ks lv') st' σ'
      | none => vh_R cuts code P n pc' lv' st' σ') lv st σ
    | none => False
theorem vh_run {cuts : List (Nat × List Nat)} {code : List (Nat × vhF)} (hm : vh_Code code) {P : vhO} : ∀ (n : Nat) {pc : Nat} {lv : vgL} {st : vgT} {σ : vhT}, vh_R cuts code P n pc lv st σ → vh_Go code P pc lv st σ
  | 0, _, _, _, _, h => h
  | n + 1, pc, lv, st, σ, h => by
    refine vh_step hm ?_
    unfold vh_R at h
    cases hF : vg_look code pc with
    | none => rw [hF] at h; exact h
    | some F =>
      rw [hF] at h
      refine hm _ (vg_look_mem hF) P _ _ (fun pc' lv' st' σ' g => ?_) lv st σ h
      cases hc : vg_look cuts pc' with
      | some ks => rw [hc] at g; exact vh_weak (fun q hq => vg_sel_in ks q hq) g
      | none => rw [hc] at g; exact vh_run hm n g
theorem vh_sound {tb : List Cond} {nw : vhW} {cl : List vw_C} {tyl : List FieldType} {cc : ByteArray} {nL : Nat} {own : String} {ret : Option FieldType} {d Rc Rs : Nat} {ini : Bool} {code : List (Nat × vhF)} (hs : ∀ q ∈ code, vh_Snd tb nw cl tyl cc nL own ret d Rc Rs ini q.1 q.2)
    {p : Program} {l : Launch} {e : Env} {R : Room} {s : State} {m : MethodId} {args : Array Value} {below : List Frame} {meth : Method} {c : Code} {D : va_G} {tys : List (ClassId × FieldType)} {n0 : Nat} {ad0 : vgN → Nat} {A : Nat → Prop} {P : vhO} {Z : State → Prop}
    (C0 : vh_C tb nw cl tyl cc nL own ret d Rc Rs ini p R s m args meth c D tys A) (E0 : vh_E cl cc ret p l e R s m args below meth c D tys n0 ad0 A P Z) {pc : Nat} {lv : vgL} {st : vgT} {σ : vhT} (h : vh_Go code P pc lv st σ) : vh_X cl nL p l e R s m args below meth c D tys n0 ad0 A Z pc lv st σ := by
  refine h _ (fun pc lv st σ g => ?_) (fun pc lv lv' st σ hsub g ad H locs ls hag hl ho hs hw hP hD hS => g ad H locs ls hag ⟨hl.1, hl.2.1, fun q hq => ?_⟩ (fun q hq => ho q (hsub q hq)) hs hw hP hD hS)
  · cases hL : vg_look code pc with
    | none => rw [hL] at g; exact g.elim
    | some F =>
      rw [hL] at g
      exact (hs _ (vg_look_mem hL)).2 p l e R s m args below meth c D tys n0 ad0 A P Z C0 E0 lv st σ g
  · obtain ⟨q', hq', rfl⟩ := List.mem_map.mp hq
    exact hl.2.2 _ (List.mem_map.mpr ⟨q', hsub q' hq', rfl⟩)
/-! a constructor without arguments: it is begun with one blank cell (class no. ci, fields fs), and leaves the cells cs, the object first -/
def vh_sv (k : Nat) : vgV → vgV
  | .inl v => .inl v
  | .inr z => .inr (vh_n (z.1 + k))
def vh_sx (k : Nat) : vhX → vhX
  | .inl f => .inl f
  | .inr (.inl f) => .inr (.inl f)
  | .inr (.inr f) => .inr (.inr (fun i => (f i).map (fun j => j + k)))
/-- a cell, its places counted from k -/
def vh_sh (k : Nat) : vhC → vhC
  | .inl q => .inl (q.1, q.2.map (vh_sv k))
  | .inr q => .inr (q.1, q.2.1, vh_sx k q.2.2)
def vh_Ini (tb : List Cond) (nw : vhW) (cl : List vw_C) (tyl : List FieldType) (y : MethodName) (cc : ByteArray) (nL d mc ms ci : Nat) (fs : List Value) (cs : vhS) : Prop :=
  vh_wf cs ∧ ∀ (l : Launch) (D : va_G) (tys : List (ClassId × FieldType)) (a sz : Nat), tys.map (fun q => q.2) = tyl →
    Met l y (.code y cc nL none :: tb) { frames := d, cells := mc, slots := ms, locals := 32 * d } (va_Pc [.ref a] (fun U => U.heap.size = sz ∧ va_P D cl [(a, .inr (ci, fs))] U.heap ∧ va_K D cl tys U ∧ vh_nx nw U))
      (fun _ st oc t => (oc = .returned none ∧ ∃ ad : vgN → Nat, va_P D cl (vh_ws ad tys cs) t.heap ∧ va_D (va_A [(a, .inr (ci, fs))] sz) (vh_ws ad tys cs) ∧ ad (vh_n 0) = a) ∧ va_F (va_A [(a, .inr (ci, fs))] sz) st t) mc ms (va_A [(a, .inr (ci, fs))] sz)
theorem vh_ini {tb : List Cond} {nw : vhW} {cl : List vw_C} {tyl : List FieldType} {y : MethodName} {cc : ByteArray} {nL : Nat} {own : String} {d mc ms ci : Nat} {fs : List Value} {cs : vhS} {code : List (Nat × vhF)} (hwf : vh_wf cs)
    (hy : plainName y.cls = true) (hown : y.cls = own) (hyn : y.name = "<init>") (hnL : 1 ≤ nL) (hs : ∀ q ∈ code, vh_Snd tb nw cl tyl cc nL own none d mc ms true q.1 q.2)
    (go : vh_Go code (fun r σ => r = none ∧ σ.1 = cs ∧ σ.2.1 ≤ mc ∧ σ.2.2 ≤ ms) 0 [(0, .inr (vh_n 0))] [] ([.inl (ci, fs.map .inl)], 0, 0)) : vh_Ini tb nw cl tyl y cc nL d mc ms ci fs cs := by
  refine ⟨hwf, fun l D tys a sz hty => ?_⟩
  refine Met.ofW (cc := cc) (maxL := nL) (ret := none) hy rfl ?_
  intro p e s m args below meth c s₁ B hml hv
  obtain ⟨rfl, hsz, hP, hK, hnw⟩ := hv
  have hx := B.exec
  have hb := B.bytes
  have hr := B.returns
  have hts : ∀ w ∈ tb, w.before ([Value.ref a] : List Value).toArray s = true := fun w h => atoms_spec (ws := .code y cc nL none :: tb) B.pre w (List.mem_cons_of_mem _ h)
  have ho : s.vm.findClass own = some m.cls := by rw [← hown]; exact findClass_of_methodNamed B.named
  have hlocks := B.notSynchronized
  have hin : meth.name = "<init>" := (name_of_methodNamed B.named B.method).1.trans hyn
  subst hsz
  have C0 : vh_C tb nw cl tyl cc nL own none d mc ms true p { frames := d, cells := mc, slots := ms, locals := 32 * d } s m ([Value.ref a] : List Value).toArray meth c D tys (va_A [(a, .inr (ci, fs))] s.heap.size) := ⟨hx, hb, hml, ho, hts, hK, hty, hr, hlocks, ⟨Nat.le_refl _, Nat.le_refl _⟩, fun q h => Or.inr h, ⟨Nat.le_refl _, Nat.le_refl _⟩, fun _ => hin, hnw⟩
  have E0 : vh_E cl cc none p l e { frames := d, cells := mc, slots := ms, locals := 32 * d } s m ([Value.ref a] : List Value).toArray below meth c D tys 1 (fun _ => a) (va_A [(a, .inr (ci, fs))] s.heap.size) (fun r σ => r = none ∧ σ.1 = cs ∧ σ.2.1 ≤ mc ∧ σ.2.2 ≤ ms) (MQ below (fun _ st oc t => (oc = .returned none ∧ ∃ ad : vgN → Nat, va_P D cl (vh_ws ad tys cs) t.heap ∧ va_D (va_A [(a, .inr (ci, fs))] s.heap.size) (vh_ws ad tys cs) ∧ ad (vh_n 0) = a) ∧ va_F (va_A [(a, .inr (ci, fs))] s.heap.size) st t) ([Value.ref a] : List Value).toArray s mc ms (va_A [(a, .inr (ci, fs))] s.heap.size)) := by
    intro r σ pc ad ls H locs hp hok hag hw hP' hD' hS hk
    obtain ⟨rfl, h1, h2, h3⟩ := hp
    refine W.widen (k := mc) (n := ms) h2 h3 ?_
    exact vm_leave (r := none) (ad := ad) hx hb hr hlocks hk hS.2.2 (fun t ht => ⟨⟨rfl, ad, by rw [ht, ← h1]; exact hP', by rw [← h1]; exact hD', hag 0 (by decide)⟩, hS.F ht⟩)
  have hl := lv_entry ([.ref a] : List Value) (n := nL) (by show 1 ≤ nL; exact hnL)
  rw [lg_entry_eq]
  have hwe : vh_ws (fun _ => a) tys [.inl (ci, fs.map .inl)] = [(a, .inr (ci, fs))] := by
    show [(a, Sum.inr (ci, (fs.map Sum.inl).map (vg_cv _)))] = _
    rw [List.map_map]
    have e : (vg_cv (fun _ => a) ∘ (Sum.inl : Value → vgV)) = id := by funext v; rfl
    rw [e, List.map_id]
  refine vh_sound hs C0 E0 go (fun _ => a) s.heap [] _ (fun _ _ => rfl) hl (fun q hq => ?_) (fun v h => by cases h) ⟨Nat.le_refl _, fun c hc => ?_⟩ (by rw [hwe]; exact hP) ?_ va_S.rf
  · rw [List.mem_singleton.mp hq]
    exact vh_N_in (Nat.zero_lt_one)
  · rw [List.mem_singleton.mp hc]
    intro v hv
    obtain ⟨w, -, rfl⟩ := List.mem_map.mp hv
    exact trivial
  · rw [hwe]
    refine ⟨fun i j p q hi hj _ => ?_, fun k q hk => ?_⟩
    · have h1 : i < 1 := (List.getElem?_eq_some_iff.mp hi).1
      have h2 : j < 1 := (List.getElem?_eq_some_iff.mp hj).1
      omega
    · have h1 : k < 1 := (List.getElem?_eq_some_iff.mp hk).1
      have h2 : k = 0 := by omega
      subst h2
      cases hk
      exact Or.inl ⟨0, _, rfl⟩
