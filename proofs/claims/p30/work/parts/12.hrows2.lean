/-! instructions that read, write and make cells, in the machine vh -/
def vh_at {α : Type} : List α → Nat → Option α
  | [], _ => none
  | a :: _, 0 => some a
  | _ :: t, k + 1 => vh_at t k
theorem vh_at_eq {α : Type} : ∀ (l : List α) (k : Nat), vh_at l k = l[k]?
  | [], k => by simp [vh_at]
  | a :: t, 0 => by simp [vh_at]
  | a :: t, k + 1 => by simp [vh_at, vh_at_eq t k]
def vh_put {α : Type} : List α → Nat → α → List α
  | [], _, _ => []
  | _ :: t, 0, x => x :: t
  | a :: t, k + 1, x => a :: vh_put t k x
theorem vh_put_eq {α : Type} : ∀ (l : List α) (k : Nat) (x : α), vh_put l k x = l.set k x
  | [], k, x => by simp [vh_put]
  | a :: t, 0, x => by simp [vh_put]
  | a :: t, k + 1, x => by simp [vh_put, vh_put_eq t k x]
def hi_get (ci k n : Nat) : vhF := fun _ K lv st σ => match st with
  | .inr m :: t => (match vh_at σ.1 m.1 with
    | some (.inl q) => bif Nat.beq q.1 ci then (match vh_at q.2 k with
      | some v => K n lv (v :: t) σ
      | none => False) else False
    | _ => False)
  | _ => False
def hi_putI (ci k n : Nat) : vhF := fun _ K lv st σ => match st with
  | .inl (.int x) :: .inr m :: t => (match vh_at σ.1 m.1 with
    | some (.inl q) => bif Nat.beq q.1 ci && Nat.blt k q.2.length then K n lv t (vh_put σ.1 m.1 (.inl (ci, vh_put q.2 k (.inl (.int x)))), σ.2) else False
    | _ => False)
  | _ => False
def hi_putR (ci k n : Nat) : vhF := fun _ K lv st σ => match st with
  | .inr z :: .inr m :: t => (match vh_at σ.1 m.1 with
    | some (.inl q) => bif Nat.beq q.1 ci && Nat.blt k q.2.length then K n lv t (vh_put σ.1 m.1 (.inl (ci, vh_put q.2 k (.inr z))), σ.2) else False
    | _ => False)
  | _ => False
def hi_newa (t0 Rc Rs n : Nat) : vhF := fun _ K lv st σ => match st with
  | .inl (.int len) :: t => (¬ len < 0 ∧ len.toNatClampNeg ≤ 1000 ∧ σ.2.1 + 1 ≤ Rc ∧ σ.2.2 + len.toNatClampNeg ≤ Rs) ∧ K n lv (.inr (vh_n σ.1.length) :: t) (σ.1 ++ [.inr (t0, len.toNatClampNeg, .inl (fun _ => 0))], σ.2.1 + 1, σ.2.2 + len.toNatClampNeg)
  | _ => False
def hi_newq (t0 Rc Rs n : Nat) : vhF := fun _ K lv st σ => match st with
  | .inl (.int len) :: t => (¬ len < 0 ∧ len.toNatClampNeg ≤ 1000 ∧ σ.2.1 + 1 ≤ Rc ∧ σ.2.2 + len.toNatClampNeg ≤ Rs) ∧ K n lv (.inr (vh_n σ.1.length) :: t) (σ.1 ++ [.inr (t0, len.toNatClampNeg, .inr (.inr (fun _ => none)))], σ.2.1 + 1, σ.2.2 + len.toNatClampNeg)
  | _ => False
/-- new; dup; invokespecial of a constructor without arguments -/
def hi_newc (Rc Rs nf mc ms : Nat) (cs : vhS) (n : Nat) : vhF := fun _ K lv st σ => bif Nat.ble (vg_wd st) 6 then ((σ.2.1 + 1 + mc ≤ Rc ∧ σ.2.2 + nf + ms ≤ Rs) ∧ K n lv (.inr (vh_n σ.1.length) :: st) (σ.1 ++ cs.map (vh_sh σ.1.length), σ.2.1 + 1 + mc, σ.2.2 + nf + ms)) else False
def hi_iast (t0 n : Nat) : vhF := fun _ K lv st σ => match st with
  | .inl (.int x) :: .inl (.int i) :: .inr m :: t => (match vh_at σ.1 m.1 with
    | some (.inr (t1, len, .inl f)) => bif Nat.beq t1 t0 then (vp_in i len ∧ K n lv t (vh_put σ.1 m.1 (.inr (t0, len, .inl (upd f i.toNatClampNeg x))), σ.2)) else False
    | _ => False)
  | _ => False
def hi_aast (t0 ci n : Nat) : vhF := fun _ K lv st σ => match st with
  | .inr v :: .inl (.int i) :: .inr m :: t => (match vh_at σ.1 m.1 with
    | some (.inr (t1, len, .inr (.inr f))) => bif Nat.beq t1 t0 then ((vp_in i len ∧ ∃ fs, vh_at σ.1 v.1 = some (.inl (ci, fs))) ∧ K n lv t (vh_put σ.1 m.1 (.inr (t0, len, .inr (.inr (va_up f i.toNatClampNeg (some v.1))))), σ.2)) else False
    | _ => False)
  | _ => False
def hi_oinit (n : Nat) : vhF := fun _ K lv st σ => match st with
  | .inr _ :: t => bif Nat.ble (vg_wd t) 8 then K n lv t σ else False
  | _ => False
section HG
variable {p : Program} {l : Launch} {e : Env} {R : Room} {s : State} {m : MethodId} {args : Array Value} {below : List Frame} {meth : Method} {c : Code}
theorem vh_sh_e {ad ad1 : vgN → Nat} {tys : List (ClassId × FieldType)} {k n : Nat} (h : ∀ i, i < n → ad (vh_n (i + k)) = ad1 (vh_n i)) : ∀ {x : vhC}, vh_okC n x → vh_e ad tys (vh_sh k x) = vh_e ad1 tys x
  | .inl q, hc => by
    show Sum.inr (q.1, (q.2.map (vh_sv k)).map (vg_cv ad)) = Sum.inr (q.1, q.2.map (vg_cv ad1))
    rw [List.map_map, List.map_congr_left (fun v hv => ?_)]
    cases v with
    | inl v => rfl
    | inr z =>
      obtain ⟨i, h1, rfl⟩ := vh_N_of (hc _ hv)
      show Value.ref (ad (vh_n (i + k))) = Value.ref (ad1 (vh_n i))
      rw [h i h1]
  | .inr (t, m, .inl f), _ => rfl
  | .inr (t, m, .inr (.inl f)), _ => rfl
  | .inr (t, m, .inr (.inr f)), hc => by
    show Sum.inl (_, m, Sum.inr (Sum.inr (Sum.inr (Sum.inr _)))) = Sum.inl (_, m, Sum.inr (Sum.inr (Sum.inr (Sum.inr _))))
    congr 7
    funext i
    show Option.map _ (Option.map _ (f i)) = _
    cases hf : f i with
    | none => rfl
    | some j =>
      show some (ad (vh_n (j + k))) = some (ad1 (vh_n j))
      rw [h j (hc i j hf)]
theorem vh_sh_ok {k n : Nat} : ∀ {x : vhC}, vh_okC n x → vh_okC (k + n) (vh_sh k x)
  | .inl q, hc => by
    intro v hv
    obtain ⟨w, hw, rfl⟩ := List.mem_map.mp hv
    cases w with
    | inl w => trivial
    | inr z =>
      obtain ⟨i, h1, rfl⟩ := vh_N_of (hc _ hw)
      exact vh_N_in (by show i + k < k + n; omega)
  | .inr (t, m, .inl f), _ => trivial
  | .inr (t, m, .inr (.inl f)), _ => trivial
  | .inr (t, m, .inr (.inr f)), hc => by
    intro i j hij
    have h2 : (f i).map (fun j => j + k) = some j := hij
    cases hf : f i with
    | none => rw [hf] at h2; cases h2
    | some j0 =>
      rw [hf] at h2
      cases h2
      have := hc i j0 hf
      show j0 + k < k + n
      omega
def vh_j (ad : vgN → Nat) (k : Nat) (ad1 : vgN → Nat) : vgN → Nat := fun z => if z.1 < k then ad z else ad1 (vh_n (z.1 - k))
theorem vh_j_lt {ad ad1 : vgN → Nat} {k i : Nat} (h : i < k) : vh_j ad k ad1 (vh_n i) = ad (vh_n i) := if_pos h
theorem vh_j_ge {ad ad1 : vgN → Nat} {k i : Nat} : vh_j ad k ad1 (vh_n (i + k)) = ad1 (vh_n i) := by
  unfold vh_j
  rw [if_neg (by show ¬ i + k < k; omega)]
  show ad1 (vh_n (i + k - k)) = _
  rw [Nat.add_sub_cancel]
theorem vh_j_ws {ad ad1 : vgN → Nat} {tys : List (ClassId × FieldType)} {S cs : vhS} (hS : vh_wf S) (hc : vh_wf cs) : vh_ws (vh_j ad S.length ad1) tys (S ++ cs.map (vh_sh S.length)) = vh_ws ad tys S ++ vh_ws ad1 tys cs := by
  apply List.ext_getElem?
  intro i
  have hl : (vh_ws ad tys S).length = S.length := by unfold vh_ws; rw [List.length_mapIdx]
  rw [vh_ws_at]
  by_cases hi : i < S.length
  · rw [List.getElem?_append_left hi, List.getElem?_append_left (by rw [hl]; exact hi), vh_ws_at]
    have hx : S[i]? = some S[i] := List.getElem?_eq_getElem hi
    rw [hx]
    show some (_, _) = some (_, _)
    rw [vh_j_lt hi, vh_e_eq (n := S.length) (fun j hj => vh_j_lt hj) (hS _ (List.getElem_mem hi))]
  · rw [List.getElem?_append_right (by omega), List.getElem?_append_right (by rw [hl]; omega), hl, vh_ws_at, List.getElem?_map]
    cases hx : cs[i - S.length]? with
    | none => rfl
    | some x =>
      show some (vh_j ad S.length ad1 (vh_n i), _) = some (ad1 (vh_n (i - S.length)), _)
      have e1 : vh_j ad S.length ad1 (vh_n i) = ad1 (vh_n (i - S.length)) := by
        have h2 := vh_j_ge (ad := ad) (ad1 := ad1) (k := S.length) (i := i - S.length)
        rw [Nat.sub_add_cancel (by omega)] at h2
        exact h2
      rw [e1, vh_sh_e (n := cs.length) (fun j _ => vh_j_ge) (hc _ (List.mem_of_getElem? hx))]
theorem vh_wf_app2 {S cs : vhS} (hS : vh_wf S) (hc : vh_wf cs) : vh_wf (S ++ cs.map (vh_sh S.length)) := by
  intro d hd
  rw [List.length_append, List.length_map]
  rcases List.mem_append.mp hd with h | h
  · exact vh_okC_le (Nat.le_add_right _ _) (hS d h)
  · obtain ⟨x, hx, rfl⟩ := List.mem_map.mp h
    exact vh_sh_ok (hc x hx)
theorem vh_lm_eq {ad ad' : vgN → Nat} {n : Nat} (h : ∀ i, i < n → ad' (vh_n i) = ad (vh_n i)) {lv : vgL} (ho : ∀ q ∈ lv, vg_ok (vh_N n) q.2) : vg_lm ad' lv = vg_lm ad lv := by
  unfold vg_lm
  exact List.map_congr_left (fun q hq => by rw [vh_cv_eq h (ho q hq)])
/-- the machine goes on with new cells at the list's end -/
theorem vh_grow {cl : List vw_C} {nL : Nat} {D : va_G} {tys : List (ClassId × FieldType)} {n0 : Nat} {ad0 ad ad1 : vgN → Nat} {A : Nat → Prop} {Z : State → Prop} {pc : Nat} {lv : vgL} {t : vgT} {S cs : vhS} {k n q : Nat} {H1 : Heap} {locs : List Loc} {ls : Array Slot}
    (h : vh_X cl nL p l e R s m args below meth c D tys n0 ad0 A Z pc lv (.inr (vh_n S.length) :: t) (S ++ cs.map (vh_sh S.length), k, n)) (hag : ∀ i, i < n0 → ad (vh_n i) = ad0 (vh_n i)) (hl : lv_has ls nL (vg_lm ad lv)) (ho : ∀ q ∈ lv, vg_ok (vh_N S.length) q.2) (ht : ∀ v ∈ t, vg_ok (vh_N S.length) v) (hwf : n0 ≤ S.length ∧ vh_wf S) (hc : vh_wf cs) (hc0 : 0 < cs.length) (hq : ad1 (vh_n 0) = q)
    (hP : va_P D cl (vh_ws ad tys S ++ vh_ws ad1 tys cs) H1) (hD : va_D A (vh_ws ad tys S ++ vh_ws ad1 tys cs)) (hS : va_S A s.heap H1 locs) : W p l e R s m args below meth c H1 locs k n Z (F0 m pc ls (.ref q :: t.map (vg_cv ad))) := by
  have hj : ∀ i, i < S.length → vh_j ad S.length ad1 (vh_n i) = ad (vh_n i) := fun i hi => vh_j_lt hi
  have hlen : (S ++ cs.map (vh_sh S.length)).length = S.length + cs.length := by rw [List.length_append, List.length_map]
  have hle : S.length ≤ (S ++ cs.map (vh_sh S.length)).length := by rw [hlen]; omega
  have h2 := h (vh_j ad S.length ad1) H1 locs ls (fun i hi => (hj i (Nat.lt_of_lt_of_le hi hwf.1)).trans (hag i hi)) (by rw [vh_lm_eq hj ho]; exact hl) (fun z hz => vh_N_le hle (ho z hz)) (fun v hv => by
    rcases List.mem_cons.mp hv with rfl | hv
    · exact vh_N_in (by rw [hlen]; omega)
    · exact vh_N_le hle (ht v hv)) ⟨Nat.le_trans hwf.1 hle, vh_wf_app2 hwf.2 hc⟩ (by rw [vh_j_ws hwf.2 hc]; exact hP) (by rw [vh_j_ws hwf.2 hc]; exact hD) hS
  have e1 : (Sum.inr (vh_n S.length) :: t : vgT).map (vg_cv (vh_j ad S.length ad1)) = .ref q :: t.map (vg_cv ad) := by
    rw [List.map_cons, List.map_congr_left (fun v hv => vh_cv_eq hj (ht v hv))]
    have h3 := vh_j_ge (ad := ad) (ad1 := ad1) (k := S.length) (i := 0)
    rw [Nat.zero_add, hq] at h3
    show Value.ref _ :: _ = _
    rw [h3]
  rw [e1] at h2
  exact h2
/-- the machine goes on with a cell changed -/
theorem vh_goput {cl : List vw_C} {nL : Nat} {D : va_G} {tys : List (ClassId × FieldType)} {n0 : Nat} {ad0 ad : vgN → Nat} {A : Nat → Prop} {Z : State → Prop} {pc : Nat} {lv : vgL} {t : vgT} {S : vhS} {i : Nat} {ce : vhC} {σ2 : Nat × Nat} {H1 : Heap} {locs : List Loc} {ls : Array Slot}
    (h : vh_X cl nL p l e R s m args below meth c D tys n0 ad0 A Z pc lv t (vh_put S i ce, σ2)) (hag : ∀ i, i < n0 → ad (vh_n i) = ad0 (vh_n i)) (hl : lv_has ls nL (vg_lm ad lv)) (ho : ∀ q ∈ lv, vg_ok (vh_N S.length) q.2) (ht : ∀ v ∈ t, vg_ok (vh_N S.length) v) (hwf : n0 ≤ S.length ∧ vh_wf S) (hce : vh_okC S.length ce)
    (hP : va_P D cl (vh_ws ad tys (vh_put S i ce)) H1) (hD : va_D A (vh_ws ad tys (vh_put S i ce))) (hS : va_S A s.heap H1 locs) : W p l e R s m args below meth c H1 locs σ2.1 σ2.2 Z (F0 m pc ls (t.map (vg_cv ad))) := by
  have hlen : (vh_put S i ce).length = S.length := by rw [vh_put_eq, List.length_set]
  exact h ad H1 locs ls hag hl (fun y hy => by show vg_ok (vh_N (vh_put S i ce).length) _; rw [hlen]; exact ho y hy) (fun v hv => by show vg_ok (vh_N (vh_put S i ce).length) _; rw [hlen]; exact ht v hv) ⟨by show n0 ≤ (vh_put S i ce).length; rw [hlen]; exact hwf.1, by show vh_wf (vh_put S i ce); rw [vh_put_eq]; exact vh_wf_set hwf.2 hce⟩ hP hD hS
theorem vh_ty {D : va_G} {cl : List vw_C} {tys : List (ClassId × FieldType)} {t0 : Nat} {c0 cA : ClassId} {ty : FieldType} (hK : va_K D cl tys s) (ht : tys[t0]? = some (c0, ty)) (hK1 : va_K D cl (tys ++ [(cA, ty)]) s) : cA = c0 := by
  have h1 := (hK.2 t0 _ ht).2
  have h2 := (hK1.2 tys.length (cA, ty) (by rw [List.getElem?_append_right (Nat.le_refl _), Nat.sub_self]; rfl)).2
  unfold va_RA at h1 h2
  cases ty with
  | object C =>
    obtain ⟨_, _, _, _, _, a⟩ := h1
    obtain ⟨_, _, _, _, _, b⟩ := h2
    exact Option.some.inj (b.symm.trans a)
  | _ => exact Option.some.inj (Eq.trans (Eq.symm h2) h1)
end HG
section HT2
variable {tb : List Cond} {nw : vhW} {cl : List vw_C} {tyl : List FieldType} {cc : ByteArray} {nL : Nat} {own : String} {ret : Option FieldType} {d Rc Rs : Nat} {ini : Bool} {pc n : Nat}
theorem vh_len {S : vhS} {k : Nat} {x : vhC} : (vh_put S k x).length = S.length := by rw [vh_put_eq, List.length_set]
theorem ht_getfield {ci k ix : Nat} {C : String} {T : u_T} {N : Nat} (hd : decode cc pc = .ok (.getfield ix, 3)) (hc : cl[ci]? = some (C, T, N)) (hk : k < N) (hin : ∀ w ∈ u_ws C T N, w ∈ tb) (hw : Cond.fieldLink own ix (T k).1 (T k).2.1 (T k).2.2.1 ∈ tb) (hn : pc + 3 = n) : vh_Snd tb nw cl tyl cc nL own ret d Rc Rs ini pc (hi_get ci k n) := by
  subst hn
  refine ⟨hs_m1 fun K K' h lv st σ g => ?_, ?_⟩
  · split at g
    next m0 t =>
      split at g
      next q hq =>
        cases hb : Nat.beq q.1 ci with
        | false => rw [hb] at g; exact g.elim
        | true =>
          rw [hb] at g
          have g' : (match vh_at q.2 k with | some v => _ | none => False) := g
          show (match vh_at q.2 k with | some v => _ | none => False)
          split at g'
          next v hv => exact h _ _ _ _ g'
          next => exact g'.elim
      next => exact g
    next => exact g
  intro p l e R s m args below meth c D tys n0 ad0 A P Z C0 E0 lv st σ h ad H locs ls hag hl ho hs hwf hP hD hS
  unfold hi_get at h
  split at h
  next m0 t =>
    split at h
    next q hq =>
      cases hb : Nat.beq q.1 ci with
      | false => rw [hb] at h; exact h.elim
      | true =>
        rw [hb] at h
        have e : q.1 = ci := Nat.eq_of_beq_eq_true hb
        obtain ⟨i, hi, rfl⟩ := vh_N_of (show m0 ∈ vh_N σ.1.length from vg_okh hs)
        have h' : (match vh_at q.2 k with | some v => _ | none => False) := h
        split at h'
        next v hv =>
          rw [vh_at_eq] at hq hv
          have hq' : σ.1[i]? = some (.inl q) := hq
          have hws : (vh_ws ad tys σ.1)[i]? = some (ad (vh_n i), .inr (ci, q.2.map (vg_cv ad))) := by
            rw [vh_ws_at, hq', ← e]
            rfl
          have hvk : (q.2.map (vg_cv ad))[k]? = some (vg_cv ad v) := by rw [List.getElem?_map, hv]; rfl
          have hok : vg_ok (vh_N σ.1.length) v := hwf.2 _ (List.mem_of_getElem? hq') v (List.mem_of_getElem? hv)
          exact va_get (D := D) C0.1 C0.2.1 C0.2.2.2.2.1 hin C0.2.2.2.1 C0.2.2.2.2.2.1 hP i hws hc k hk (C0.2.2.2.2.1 _ hw) (fun _ z => z) hvk hd (h' ad H locs ls hag hl ho (vg_okc hok (vg_okt hs)) hwf hP hD hS)
        next => exact h'.elim
    next => exact h.elim
  next => exact h.elim
theorem ht_putI {ci k ix : Nat} {C : String} {T : u_T} {N : Nat} (ty0 : Nat → FieldType) (hd : decode cc pc = .ok (.putfield ix, 3)) (hc : cl[ci]? = some (C, T, N)) (hk : k < N) (hin : ∀ w ∈ u_ws C T N, w ∈ tb) (hty : ∀ k, k < N → parseFieldDescriptor (T k).2.2.1 = some (ty0 k)) (hnm : ∀ a, a < N → ∀ b, b < N → a ≠ b → (T a).2.1 ≠ (T b).2.1) (hfin : (T k).2.2.2 = false) (hti : ty0 k = .int)
    (hw : Cond.fieldLink own ix (T k).1 (T k).2.1 (T k).2.2.1 ∈ tb) (hn : pc + 3 = n) : vh_Snd tb nw cl tyl cc nL own ret d Rc Rs ini pc (hi_putI ci k n) := by
  subst hn
  refine ⟨hs_m1 fun K K' h lv st σ g => ?_, ?_⟩
  · split at g
    next x m0 t =>
      split at g
      next q hq =>
        cases hb : Nat.beq q.1 ci && Nat.blt k q.2.length with
        | false => rw [hb] at g; exact g.elim
        | true => rw [hb] at g; exact h _ _ _ _ g
      next => exact g
    next => exact g
  intro p l e R s m args below meth c D tys n0 ad0 A P Z C0 E0 lv st σ h ad H locs ls hag hl ho hs hwf hP hD hS
  unfold hi_putI at h
  split at h
  next x m0 t =>
    split at h
    next q hq =>
      cases hb : Nat.beq q.1 ci && Nat.blt k q.2.length with
      | false => rw [hb] at h; exact h.elim
      | true =>
        rw [hb] at h
        simp only [Bool.and_eq_true] at hb
        have e : q.1 = ci := Nat.eq_of_beq_eq_true hb.1
        have hkl : k < q.2.length := Nat.le_of_ble_eq_true hb.2
        obtain ⟨i, hi, rfl⟩ := vh_N_of (show m0 ∈ vh_N σ.1.length from vg_okh (vg_okt hs))
        rw [vh_at_eq] at hq
        have hq' : σ.1[i]? = some (.inl q) := hq
        have hws : (vh_ws ad tys σ.1)[i]? = some (ad (vh_n i), .inr (ci, q.2.map (vg_cv ad))) := by
          rw [vh_ws_at, hq', ← e]
          rfl
        have hokC : vh_okC σ.1.length (.inl (ci, q.2.set k (.inl (.int x)))) := by
          intro v hv
          rcases List.mem_or_eq_of_mem_set hv with z | z
          · exact hwf.2 _ (List.mem_of_getElem? hq') v z
          · rw [z]; trivial
        have hset : (vh_ws ad tys σ.1).set i (ad (vh_n i), .inr (ci, (q.2.map (vg_cv ad)).set k (.int x))) = vh_ws ad tys (vh_put σ.1 i (.inl (ci, vh_put q.2 k (.inl (.int x))))) := by
          rw [vh_put_eq, vh_put_eq, ← vh_ws_set]
          show _ = (vh_ws ad tys σ.1).set i (ad (vh_n i), .inr (ci, (q.2.set k (.inl (.int x))).map (vg_cv ad)))
          rw [List.map_set]
          rfl
        refine va_put (D := D) (A := A) C0.1 C0.2.1 C0.2.2.2.2.1 hin ty0 hty hnm C0.2.2.2.1 C0.2.2.2.2.2.1 hP hD hS i hws hc k hk (C0.2.2.2.2.1 _ hw) (fun _ z => z) hfin (ty := .int) (v := .int x) (by rw [hty k hk, hti]) rfl rfl (by rw [List.length_map]; exact hkl) hd (fun H1 locs1 hP1 hD1 hS1 => ?_)
        rw [hset] at hP1 hD1
        exact vh_goput (S := σ.1) (σ2 := σ.2) h hag hl ho (vg_okt (vg_okt hs)) hwf (by rw [vh_put_eq]; exact hokC) hP1 hD1 hS1
    next => exact h.elim
  next => exact h.elim
/-- a final field of references, in a constructor -/
theorem ht_putF {ci k ix : Nat} {C : String} {T : u_T} {N : Nat} (ty0 : Nat → FieldType) (hi2 : ini = true) (hd : decode cc pc = .ok (.putfield ix, 3)) (hc : cl[ci]? = some (C, T, N)) (hk : k < N) (hin : ∀ w ∈ u_ws C T N, w ∈ tb) (hty : ∀ k, k < N → parseFieldDescriptor (T k).2.2.1 = some (ty0 k)) (hnm : ∀ a, a < N → ∀ b, b < N → a ≠ b → (T a).2.1 ≠ (T b).2.1) (hfin : (T k).2.2.2 = true) (hdc : (T k).1 = own) (hti : ∀ a, fits (ty0 k) (.ref a) = true ∧ narrow (ty0 k) (.ref a) = .ref a)
    (hw : Cond.fieldLink own ix (T k).1 (T k).2.1 (T k).2.2.1 ∈ tb) (hn : pc + 3 = n) : vh_Snd tb nw cl tyl cc nL own ret d Rc Rs ini pc (hi_putR ci k n) := by
  subst hn
  refine ⟨hs_m1 fun K K' h lv st σ g => ?_, ?_⟩
  · split at g
    next z m0 t =>
      split at g
      next q hq =>
        cases hb : Nat.beq q.1 ci && Nat.blt k q.2.length with
        | false => rw [hb] at g; exact g.elim
        | true => rw [hb] at g; exact h _ _ _ _ g
      next => exact g
    next => exact g
  intro p l e R s m args below meth c D tys n0 ad0 A P Z C0 E0 lv st σ h ad H locs ls hag hl ho hs hwf hP hD hS
  unfold hi_putR at h
  split at h
  next z m0 t =>
    split at h
    next q hq =>
      cases hb : Nat.beq q.1 ci && Nat.blt k q.2.length with
      | false => rw [hb] at h; exact h.elim
      | true =>
        rw [hb] at h
        simp only [Bool.and_eq_true] at hb
        have e : q.1 = ci := Nat.eq_of_beq_eq_true hb.1
        have hkl : k < q.2.length := Nat.le_of_ble_eq_true hb.2
        have hz : vg_ok (vh_N σ.1.length) (.inr z) := vg_okh hs
        obtain ⟨i, hi, rfl⟩ := vh_N_of (show m0 ∈ vh_N σ.1.length from vg_okh (vg_okt hs))
        rw [vh_at_eq] at hq
        have hq' : σ.1[i]? = some (.inl q) := hq
        have hws : (vh_ws ad tys σ.1)[i]? = some (ad (vh_n i), .inr (ci, q.2.map (vg_cv ad))) := by
          rw [vh_ws_at, hq', ← e]
          rfl
        have hokC : vh_okC σ.1.length (.inl (ci, q.2.set k (.inr z))) := by
          intro v hv
          rcases List.mem_or_eq_of_mem_set hv with y | y
          · exact hwf.2 _ (List.mem_of_getElem? hq') v y
          · rw [y]; exact hz
        have hset : (vh_ws ad tys σ.1).set i (ad (vh_n i), .inr (ci, (q.2.map (vg_cv ad)).set k (.ref (ad z)))) = vh_ws ad tys (vh_put σ.1 i (.inl (ci, vh_put q.2 k (.inr z)))) := by
          rw [vh_put_eq, vh_put_eq, ← vh_ws_set]
          show _ = (vh_ws ad tys σ.1).set i (ad (vh_n i), .inr (ci, (q.2.set k (.inr z)).map (vg_cv ad)))
          rw [List.map_set]
          rfl
        refine va_putF (D := D) (A := A) C0.1 C0.2.1 C0.2.2.2.2.1 hin ty0 hty hnm C0.2.2.2.1 C0.2.2.2.2.2.1 hP hD hS i hws hc k hk (C0.2.2.2.2.1 _ hw) (fun _ z => z) hfin (C0.2.2.2.2.2.2.2.2.2.2.2.2.1 hi2) hdc (ty := ty0 k) (v := .ref (ad z)) (hty k hk) (hti _).2 (hti _).1 (by rw [List.length_map]; exact hkl) hd (fun H1 locs1 hP1 hD1 hS1 => ?_)
        rw [hset] at hP1 hD1
        exact vh_goput (S := σ.1) (σ2 := σ.2) h hag hl ho (vg_okt (vg_okt hs)) hwf (by rw [vh_put_eq]; exact hokC) hP1 hD1 hS1
    next => exact h.elim
  next => exact h.elim
theorem ht_newa {t0 : Nat} {atype : ArrayType} {ty : FieldType} (hty : newarray.typeOf atype = ty) (hcell : ∀ (cA : ClassId) (N : Nat), vp_cell cA (N, .inl (fun _ => 0)) = arrV cA N (fun _ => defaultValue ty)) (hcb : componentBytes ty ≤ 8) (ht : tyl[t0]? = some ty) (hw : Cond.arrayClass (newarray.typeOf atype) ∈ tb) (hd : decode cc pc = .ok (.newarray atype, 2)) (hn : pc + 2 = n) : vh_Snd tb nw cl tyl cc nL own ret d Rc Rs ini pc (hi_newa t0 Rc Rs n) := by
  subst hn
  refine ⟨hs_m1 fun K K' h lv st σ g => ?_, ?_⟩
  · split at g
    next len t => exact ⟨g.1, h _ _ _ _ g.2⟩
    next => exact g
  intro p l e R s m args below meth c D tys n0 ad0 A P Z C0 E0 lv st σ h ad H locs ls hag hl ho hs hwf hP hD hS
  unfold hi_newa at h
  split at h
  next len t =>
    obtain ⟨⟨h1, h2, h3, h4⟩, hk⟩ := h
    have hRR := C0.2.2.2.2.2.2.2.2.2.2.2.1
    have hK := C0.2.2.2.2.2.1
    have hbytes : len.toNatClampNeg * componentBytes ty ≤ 536870912 := Nat.le_trans (Nat.mul_le_mul h2 hcb) (by decide)
    refine va_newa (D := D) (A := A) (ty := ty) (a0 := (len.toNatClampNeg, .inl (fun _ => 0))) C0.1 C0.2.1 (atype := atype) (C0.2.2.2.2.1 _ hw) hty hK hP hD hS C0.2.2.2.2.2.2.2.2.2.2.1 (fun cA => hcell cA _) h1 rfl hbytes (Nat.le_trans h3 hRR.1) (Nat.le_trans h4 hRR.2) hd (fun q cA H1 hK1 hP1 hD1 hS1 => ?_)
    have hcA : cA = vg_ty tys t0 := vh_ty hK (vg_tys C0.2.2.2.2.2.2.1 ht) hK1
    subst hcA
    exact vh_grow (cs := [.inr (t0, len.toNatClampNeg, .inl (fun _ => 0))]) (ad1 := fun _ => q) hk hag hl ho (vg_okt hs) hwf (fun x hx => by rw [List.mem_singleton.mp hx]; trivial) (Nat.zero_lt_one) rfl hP1 hD1 hS1
  next => exact h.elim
theorem ht_newq {t0 ix : Nat} {C : String} (ht : tyl[t0]? = some (.object C)) (hw : Cond.classLink own ix C ∈ tb) (hC : C ∈ nw.2.1) (hd : decode cc pc = .ok (.anewarray ix, 3)) (hn : pc + 3 = n) : vh_Snd tb nw cl tyl cc nL own ret d Rc Rs ini pc (hi_newq t0 Rc Rs n) := by
  subst hn
  refine ⟨hs_m1 fun K K' h lv st σ g => ?_, ?_⟩
  · split at g
    next len t => exact ⟨g.1, h _ _ _ _ g.2⟩
    next => exact g
  intro p l e R s m args below meth c D tys n0 ad0 A P Z C0 E0 lv st σ h ad H locs ls hag hl ho hs hwf hP hD hS
  unfold hi_newq at h
  split at h
  next len t =>
    obtain ⟨⟨h1, h2, h3, h4⟩, hk⟩ := h
    have hRR := C0.2.2.2.2.2.2.2.2.2.2.2.1
    have hK := C0.2.2.2.2.2.1
    have hnx := C0.2.2.2.2.2.2.2.2.2.2.2.2.2
    have hbytes : len.toNatClampNeg * 4 ≤ 536870912 := Nat.le_trans (Nat.mul_le_mul h2 (Nat.le_refl 4)) (by decide)
    refine va_newq (D := D) (A := A) C0.1 C0.2.1 C0.2.2.2.1 (C0.2.2.2.2.1 _ hw) (hnx.2.1 C hC) hK hP hD hS C0.2.2.2.2.2.2.2.2.2.2.1 h1 rfl hbytes (Nat.le_trans h3 hRR.1) (Nat.le_trans h4 hRR.2) hd (fun q cA H1 hK1 hP1 hD1 hS1 => ?_)
    have hcA : cA = vg_ty tys t0 := vh_ty hK (vg_tys C0.2.2.2.2.2.2.1 ht) hK1
    subst hcA
    exact vh_grow (cs := [.inr (t0, len.toNatClampNeg, .inr (.inr (fun _ => none)))]) (ad1 := fun _ => q) hk hag hl ho (vg_okt hs) hwf (fun x hx => by rw [List.mem_singleton.mp hx]; exact fun i j z => by cases z) (Nat.zero_lt_one) rfl hP1 hD1 hS1
  next => exact h.elim
theorem ht_iast {t0 : Nat} (hd : decode cc pc = .ok (.iastore, 1)) (ht : tyl[t0]? = some .int) (hn : pc + 1 = n) : vh_Snd tb nw cl tyl cc nL own ret d Rc Rs ini pc (hi_iast t0 n) := by
  subst hn
  refine ⟨hs_m1 fun K K' h lv st σ g => ?_, ?_⟩
  · split at g
    next x i m0 t =>
      split at g
      next t1 len f hq =>
        cases hb : Nat.beq t1 t0 with
        | false => rw [hb] at g; exact g.elim
        | true => rw [hb] at g; exact ⟨g.1, h _ _ _ _ g.2⟩
      next => exact g
    next => exact g
  intro p l e R s m args below meth c D tys n0 ad0 A P Z C0 E0 lv st σ h ad H locs ls hag hl ho hs hwf hP hD hS
  unfold hi_iast at h
  split at h
  next x i m0 t =>
    split at h
    next t1 len f hq =>
      cases hb : Nat.beq t1 t0 with
      | false => rw [hb] at h; exact h.elim
      | true =>
        rw [hb] at h
        have e : t1 = t0 := Nat.eq_of_beq_eq_true hb
        subst e
        obtain ⟨j, hj, rfl⟩ := vh_N_of (show m0 ∈ vh_N σ.1.length from vg_okh (vg_okt (vg_okt hs)))
        rw [vh_at_eq] at hq
        have hq' : σ.1[j]? = some (.inr (t1, len, .inl f)) := hq
        have hws : (vh_ws ad tys σ.1)[j]? = some (ad (vh_n j), .inl (vg_ty tys t1, len, .inl f)) := by
          rw [vh_ws_at, hq']
          rfl
        have hset : (vh_ws ad tys σ.1).set j (ad (vh_n j), .inl (vg_ty tys t1, len, .inl (upd f i.toNatClampNeg x))) = vh_ws ad tys (vh_put σ.1 j (.inr (t1, len, .inl (upd f i.toNatClampNeg x)))) := by
          rw [vh_put_eq, ← vh_ws_set]
          rfl
        refine va_iast (D := D) (A := A) C0.1 C0.2.1 C0.2.2.2.2.2.1 hP hD hS j t1 hws (vg_tys C0.2.2.2.2.2.2.1 ht) h.1 hd (fun H1 locs1 hP1 hD1 hS1 => ?_)
        rw [hset] at hP1 hD1
        exact vh_goput (S := σ.1) (σ2 := σ.2) h.2 hag hl ho (vg_okt (vg_okt (vg_okt hs))) hwf (ce := .inr (t1, len, .inl (upd f i.toNatClampNeg x))) trivial hP1 hD1 hS1
    next => exact h.elim
  next => exact h.elim
theorem ht_aast {t0 ci : Nat} {C : String} {T : u_T} {N : Nat} (hd : decode cc pc = .ok (.aastore, 1)) (ht : tyl[t0]? = some (.object C)) (hc : cl[ci]? = some (C, T, N)) (hn : pc + 1 = n) : vh_Snd tb nw cl tyl cc nL own ret d Rc Rs ini pc (hi_aast t0 ci n) := by
  subst hn
  refine ⟨hs_m1 fun K K' h lv st σ g => ?_, ?_⟩
  · split at g
    next v i m0 t =>
      split at g
      next t1 len f hq =>
        cases hb : Nat.beq t1 t0 with
        | false => rw [hb] at g; exact g.elim
        | true => rw [hb] at g; exact ⟨g.1, h _ _ _ _ g.2⟩
      next => exact g
    next => exact g
  intro p l e R s m args below meth c D tys n0 ad0 A P Z C0 E0 lv st σ h ad H locs ls hag hl ho hs hwf hP hD hS
  unfold hi_aast at h
  split at h
  next v i m0 t =>
    split at h
    next t1 len f hq =>
      cases hb : Nat.beq t1 t0 with
      | false => rw [hb] at h; exact h.elim
      | true =>
        rw [hb] at h
        have e : t1 = t0 := Nat.eq_of_beq_eq_true hb
        subst e
        obtain ⟨⟨hin, fs, hfs⟩, hk⟩ := h
        obtain ⟨z, hz, rfl⟩ := vh_N_of (show v ∈ vh_N σ.1.length from vg_okh hs)
        obtain ⟨j, hj, rfl⟩ := vh_N_of (show m0 ∈ vh_N σ.1.length from vg_okh (vg_okt (vg_okt hs)))
        rw [vh_at_eq] at hq hfs
        have hq' : σ.1[j]? = some (.inr (t1, len, .inr (.inr f))) := hq
        have hfs' : σ.1[z]? = some (.inl (ci, fs)) := hfs
        have hws : (vh_ws ad tys σ.1)[j]? = some (ad (vh_n j), .inl (vg_ty tys t1, len, .inr (.inr (.inr (.inr (fun i => (f i).map (fun j => ad (vh_n j)))))))) := by
          rw [vh_ws_at, hq']
          rfl
        have hwv : (vh_ws ad tys σ.1)[z]? = some (ad (vh_n z), .inr (ci, fs.map (vg_cv ad))) := by
          rw [vh_ws_at, hfs']
          rfl
        have hokC : vh_okC σ.1.length (.inr (t1, len, .inr (.inr (va_up f i.toNatClampNeg (some z))))) := by
          intro a b hab
          have hab' : va_up f i.toNatClampNeg (some z) a = some b := hab
          unfold va_up at hab'
          split at hab'
          · cases hab'; exact hz
          · exact hwf.2 _ (List.mem_of_getElem? hq') a b hab'
        have hset : (vh_ws ad tys σ.1).set j (ad (vh_n j), .inl (vg_ty tys t1, len, .inr (.inr (.inr (.inr (va_up (fun i => (f i).map (fun j => ad (vh_n j))) i.toNatClampNeg (some (ad (vh_n z))))))))) = vh_ws ad tys (vh_put σ.1 j (.inr (t1, len, .inr (.inr (va_up f i.toNatClampNeg (some z)))))) := by
          rw [vh_put_eq, ← vh_ws_set]
          have e9 : va_up (fun i => (f i).map (fun j => ad (vh_n j))) i.toNatClampNeg (some (ad (vh_n z))) = (fun a => (va_up f i.toNatClampNeg (some z) a).map (fun j => ad (vh_n j))) := by
            funext a
            unfold va_up
            split
            · rfl
            · rfl
          rw [e9]
          rfl
        refine va_astq (D := D) (A := A) C0.1 C0.2.1 C0.2.2.2.2.2.1 hP hD hS j t1 z ci hws (vg_tys C0.2.2.2.2.2.2.1 ht) hwv hc hin hd (fun H1 locs1 hP1 hD1 hS1 => ?_)
        rw [hset] at hP1 hD1
        exact vh_goput (S := σ.1) (σ2 := σ.2) hk hag hl ho (vg_okt (vg_okt (vg_okt hs))) hwf hokC hP1 hD1 hS1
    next => exact h.elim
  next => exact h.elim
theorem ht_oinit {ix : Nat} (hd : decode cc pc = .ok (.invokespecial ix, 3)) (h1 : Cond.methodLink own ix Lib.objectInit ∈ tb) (h2 : Cond.instanceMethod Lib.objectInit ∈ tb) (h3 : Cond.code Lib.objectInit ⟨#[0xb1]⟩ 1 none ∈ tb) (hdd : 1 ≤ d) (hn : pc + 3 = n) : vh_Snd tb nw cl tyl cc nL own ret d Rc Rs ini pc (hi_oinit n) := by
  subst hn
  refine ⟨hs_m1 fun K K' h lv st σ g => ?_, ?_⟩
  · split at g
    next m0 t =>
      cases hb : Nat.ble (vg_wd t) 8 with
      | false => rw [hb] at g; exact g.elim
      | true => rw [hb] at g; exact h _ _ _ _ g
    next => exact g
  intro p l e R s m args below meth c D tys n0 ad0 A P Z C0 E0 lv st σ h ad H locs ls hag hl ho hs hwf hP hD hS
  unfold hi_oinit at h
  split at h
  next m0 t =>
    cases hb : Nat.ble (vg_wd t) 8 with
    | false => rw [hb] at h; exact h.elim
    | true =>
      rw [hb] at h
      have hwd : vg_wd t ≤ 8 := Nat.le_of_ble_eq_true hb
      have hR := C0.2.2.2.2.2.2.2.2.2.1
      have hts := C0.2.2.2.2.1
      refine W.objInit C0.1 C0.2.1 C0.2.2.2.1 (hts _ h1) (hts _ h2) (hts _ h3) rfl (by rw [C0.2.2.1]; exact hl.1) rfl hd (Nat.le_trans hdd hR.1) ?_ ?_
      · show 2 * 0 + ((t.map (vg_cv ad)).map fun v => v.category).sum + 12 ≤ R.locals
        rw [vg_wd_sum]
        omega
      · exact h ad H locs ls hag hl ho (vg_okt hs) hwf hP hD hS
  next => exact h.elim
end HT2
