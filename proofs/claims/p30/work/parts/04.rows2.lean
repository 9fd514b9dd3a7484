/-! rows that read and write cells, and calls -/
section VS2
variable {tb : List Cond} {nw : List (String × Nat × MethodName × String)} {shp : vgN → vgH} {nm : List vgN} {cl : List vw_C} {tyl : List FieldType} {cc : ByteArray} {nL : Nat} {own : String} {ret : Option FieldType} {d pc n : Nat}
theorem vg_tys {tys : List (ClassId × FieldType)} {tyl : List FieldType} {t : Nat} {ty : FieldType} (h : tys.map (fun q => q.2) = tyl) (ht : tyl[t]? = some ty) : tys[t]? = some (vg_ty tys t, ty) := by
  subst h
  rw [List.getElem?_map] at ht
  unfold vg_ty
  cases hq : tys[t]? with
  | none => rw [hq] at ht; cases ht
  | some q => rw [hq] at ht; cases ht; rfl
theorem vs_getfield {ci k ix : Nat} {C : String} {T : u_T} {N : Nat} (hd : decode cc pc = .ok (.getfield ix, 3)) (hc : cl[ci]? = some (C, T, N)) (hk : k < N) (hin : ∀ w ∈ u_ws C T N, w ∈ tb) (hw : Cond.fieldLink own ix (T k).1 (T k).2.1 (T k).2.2.1 ∈ tb) (hn : pc + 3 = n) : vg_Snd tb nw shp nm cl tyl cc nL own ret d pc (vi_get shp ci k n) := by
  subst hn
  refine ⟨vs_m1 fun K K' h lv st σ g => ?_, ?_⟩
  · split at g
    · split at g
      next q _ =>
        cases hb : Nat.beq q.1 ci with
        | false => rw [hb] at g; exact g.elim
        | true =>
          rw [hb] at g
          show (match vg_nth q.2 k with | some none => _ | some (some z) => _ | none => False)
          have g' : (match vg_nth q.2 k with | some none => _ | some (some z) => _ | none => False) := g
          split at g'
          · exact h _ _ _ _ g'
          · exact h _ _ _ _ g'
          · exact g'
      next => exact g
    · exact g
  intro p l e R s m args below meth c D tys ad A P C0 lv st σ h H locs ls hl ho hs hP hS
  unfold vi_get at h
  split at h
  next m0 t =>
    split at h
    next q hq =>
      cases hb : Nat.beq q.1 ci with
      | false => rw [hb] at h; exact h.elim
      | true =>
        rw [hb] at h
        have e : q.1 = ci := Nat.eq_of_beq_eq_true hb
        have h' : (match vg_nth q.2 k with | some none => _ | some (some z) => _ | none => False) := h
        obtain ⟨q0, hq0, hws⟩ := vg_ws_get (shp := shp) (ad := ad) (tys := tys) (σ := σ) (show m0 ∈ nm from vg_okh hs)
        rw [hq] at hws
        have hws2 : (vg_ws shp nm ad tys σ)[q0]? = some (ad m0, .inr (ci, vg_fs ad (σ m0) 0 q.2)) := by rw [hws]; show some (ad m0, Sum.inr (q.1, _)) = _; rw [e]
        have hg := vg_fs_get ad (σ m0) q.2 0 k
        rw [← vg_nth_eq, Nat.zero_add] at hg
        split at h'
        next hz =>
          rw [hz] at hg
          exact va_get (D := D) C0.1 C0.2.1 C0.2.2.2.2.1 hin C0.2.2.2.1 C0.2.2.2.2.2.1 hP q0 hws2 hc k hk (C0.2.2.2.2.1 _ hw) (fun _ z => z) hg hd (h' H locs ls hl ho (vg_okc trivial (vg_okt hs)) hP hS)
        next z hz =>
          rw [hz] at hg
          have hcl := C0.2.2.2.2.2.2.2.2.2.2.2.2.1 m0 (vg_okh hs)
          rw [hq] at hcl
          have hm : z ∈ nm := hcl z (by rw [vg_nth_eq] at hz; exact List.mem_of_getElem? hz)
          exact va_get (D := D) C0.1 C0.2.1 C0.2.2.2.2.1 hin C0.2.2.2.1 C0.2.2.2.2.2.1 hP q0 hws2 hc k hk (C0.2.2.2.2.1 _ hw) (fun _ z => z) hg hd (h' H locs ls hl ho (vg_okc hm (vg_okt hs)) hP hS)
        next => exact h'.elim
    next => exact h.elim
  next => exact h.elim
theorem vg_put_ws {σ : vgS} {ad : vgN → Nat} {tys : List (ClassId × FieldType)} {A : Nat → Prop} {m0 : vgN} {q0 ci k : Nat} {sl : List (Option vgN)} {x : Int32} (hD : va_D A (vg_ws shp nm ad tys σ)) (hq0 : nm[q0]? = some m0) (hq : shp m0 = .inl (ci, sl)) (hz : sl[k]? = some none) : (vg_ws shp nm ad tys σ).set q0 (ad m0, .inr (ci, (vg_fs ad (σ m0) 0 sl).set k (.int x))) = vg_ws shp nm ad tys (vg_st σ m0 k x) := by
  refine vg_ws_set hD hq0 ?_ (fun n' hn' => ?_)
  · rw [hq, vg_fs_set ad (σ m0) x sl k hz]
    show _ = Sum.inr (ci, vg_fs ad (vg_st σ m0 k x m0) 0 sl)
    congr 3
    funext j
    unfold vg_st
    simp
  · funext j
    unfold vg_st
    simp [hn']
theorem vs_putfield {ci k ix : Nat} {C : String} {T : u_T} {N : Nat} (ty0 : Nat → FieldType) (hd : decode cc pc = .ok (.putfield ix, 3)) (hc : cl[ci]? = some (C, T, N)) (hk : k < N) (hin : ∀ w ∈ u_ws C T N, w ∈ tb) (hty : ∀ k, k < N → parseFieldDescriptor (T k).2.2.1 = some (ty0 k)) (hnm : ∀ a, a < N → ∀ b, b < N → a ≠ b → (T a).2.1 ≠ (T b).2.1) (hfin : (T k).2.2.2 = false) (hti : ty0 k = .int)
    (hw : Cond.fieldLink own ix (T k).1 (T k).2.1 (T k).2.2.1 ∈ tb) (hn : pc + 3 = n) : vg_Snd tb nw shp nm cl tyl cc nL own ret d pc (vi_put shp ci k n) := by
  subst hn
  refine ⟨vs_m1 fun K K' h lv st σ g => ?_, ?_⟩
  · split at g
    · split at g
      next q _ =>
        cases hb : Nat.beq q.1 ci with
        | false => rw [hb] at g; exact g.elim
        | true =>
          rw [hb] at g
          show (match vg_nth q.2 k with | some none => _ | _ => False)
          have g' : (match vg_nth q.2 k with | some none => _ | _ => False) := g
          split at g'
          · exact h _ _ _ _ g'
          · exact g'
      next => exact g
    · exact g
  intro p l e R s m args below meth c D tys ad A P C0 lv st σ h H locs ls hl ho hs hP hS
  unfold vi_put at h
  split at h
  next x m0 t =>
    split at h
    next q hq =>
      cases hb : Nat.beq q.1 ci with
      | false => rw [hb] at h; exact h.elim
      | true =>
        rw [hb] at h
        have e : q.1 = ci := Nat.eq_of_beq_eq_true hb
        have h' : (match vg_nth q.2 k with | some none => _ | _ => False) := h
        obtain ⟨q0, hq0, hws⟩ := vg_ws_get (shp := shp) (ad := ad) (tys := tys) (σ := σ) (show m0 ∈ nm from vg_okh (vg_okt hs))
        rw [hq] at hws
        have hws2 : (vg_ws shp nm ad tys σ)[q0]? = some (ad m0, .inr (ci, vg_fs ad (σ m0) 0 q.2)) := by rw [hws]; show some (ad m0, Sum.inr (q.1, _)) = _; rw [e]
        have hDA := C0.2.2.2.2.2.2.2.2.2.2.2.1
        split at h'
        next hz =>
          rw [vg_nth_eq] at hz
          have hl2 : k < q.2.length := (List.getElem?_eq_some_iff.mp hz).1
          refine va_put (D := D) (A := A) C0.1 C0.2.1 C0.2.2.2.2.1 hin ty0 hty hnm C0.2.2.2.1 C0.2.2.2.2.2.1 hP (hDA σ) hS q0 hws2 hc k hk (C0.2.2.2.2.1 _ hw) (fun _ z => z) hfin (ty := .int) (v := .int x) (by rw [hty k hk, hti]) rfl rfl (by rw [vg_fs_len]; exact hl2) hd (fun H1 locs1 hP1 _ hS1 => ?_)
          rw [vg_put_ws (hDA σ) hq0 (by rw [hq, ← e]) hz] at hP1
          exact h' H1 locs1 ls hl ho (vg_okt (vg_okt hs)) hP1 hS1
        next => exact h'.elim
    next => exact h.elim
  next => exact h.elim
theorem vs_putfieldZ {ci k ix : Nat} {C : String} {T : u_T} {N : Nat} (ty0 : Nat → FieldType) (hd : decode cc pc = .ok (.putfield ix, 3)) (hc : cl[ci]? = some (C, T, N)) (hk : k < N) (hin : ∀ w ∈ u_ws C T N, w ∈ tb) (hty : ∀ k, k < N → parseFieldDescriptor (T k).2.2.1 = some (ty0 k)) (hnm : ∀ a, a < N → ∀ b, b < N → a ≠ b → (T a).2.1 ≠ (T b).2.1) (hfin : (T k).2.2.2 = false) (hti : ty0 k = .boolean)
    (hw : Cond.fieldLink own ix (T k).1 (T k).2.1 (T k).2.2.1 ∈ tb) (hn : pc + 3 = n) : vg_Snd tb nw shp nm cl tyl cc nL own ret d pc (vi_putZ shp ci k n) := by
  subst hn
  refine ⟨vs_m1 fun K K' h lv st σ g => ?_, ?_⟩
  · split at g
    · split at g
      next q _ =>
        cases hb : Nat.beq q.1 ci with
        | false => rw [hb] at g; exact g.elim
        | true =>
          rw [hb] at g
          show (match vg_nth q.2 k with | some none => _ | _ => False)
          have g' : (match vg_nth q.2 k with | some none => _ | _ => False) := g
          split at g'
          · exact ⟨g'.1, h _ _ _ _ g'.2⟩
          · exact g'
      next => exact g
    · exact g
  intro p l e R s m args below meth c D tys ad A P C0 lv st σ h H locs ls hl ho hs hP hS
  unfold vi_putZ at h
  split at h
  next x m0 t =>
    split at h
    next q hq =>
      cases hb : Nat.beq q.1 ci with
      | false => rw [hb] at h; exact h.elim
      | true =>
        rw [hb] at h
        have e : q.1 = ci := Nat.eq_of_beq_eq_true hb
        have h' : (match vg_nth q.2 k with | some none => _ | _ => False) := h
        obtain ⟨q0, hq0, hws⟩ := vg_ws_get (shp := shp) (ad := ad) (tys := tys) (σ := σ) (show m0 ∈ nm from vg_okh (vg_okt hs))
        rw [hq] at hws
        have hws2 : (vg_ws shp nm ad tys σ)[q0]? = some (ad m0, .inr (ci, vg_fs ad (σ m0) 0 q.2)) := by rw [hws]; show some (ad m0, Sum.inr (q.1, _)) = _; rw [e]
        have hDA := C0.2.2.2.2.2.2.2.2.2.2.2.1
        split at h'
        next hz =>
          rw [vg_nth_eq] at hz
          have hl2 : k < q.2.length := (List.getElem?_eq_some_iff.mp hz).1
          refine va_put (D := D) (A := A) C0.1 C0.2.1 C0.2.2.2.2.1 hin ty0 hty hnm C0.2.2.2.1 C0.2.2.2.2.2.1 hP (hDA σ) hS q0 hws2 hc k hk (C0.2.2.2.2.1 _ hw) (fun _ z => z) hfin (ty := .boolean) (v := .int x) (by rw [hty k hk, hti]) (by rcases h'.1 with rfl | rfl <;> rfl) (by rcases h'.1 with rfl | rfl <;> rfl) (by rw [vg_fs_len]; exact hl2) hd (fun H1 locs1 hP1 _ hS1 => ?_)
          rw [vg_put_ws (hDA σ) hq0 (by rw [hq, ← e]) hz] at hP1
          exact h'.2 H1 locs1 ls hl ho (vg_okt (vg_okt hs)) hP1 hS1
        next => exact h'.elim
    next => exact h.elim
  next => exact h.elim
theorem vs_iaload {t0 : Nat} (hd : decode cc pc = .ok (.iaload, 1)) (ht : tyl[t0]? = some .int) (hn : pc + 1 = n) : vg_Snd tb nw shp nm cl tyl cc nL own ret d pc (vi_ald shp t0 n) := by
  subst hn
  refine ⟨vs_m1 fun K K' h lv st σ g => ?_, ?_⟩
  · split at g
    · split at g
      next q _ =>
        cases hb : Nat.beq q.1 t0 with
        | false => rw [hb] at g; exact g.elim
        | true =>
          rw [hb] at g
          exact ⟨g.1, h _ _ _ _ g.2⟩
      next => exact g
    · exact g
  intro p l e R s m args below meth c D tys ad A P C0 lv st σ h H locs ls hl ho hs hP hS
  unfold vi_ald at h
  split at h
  next i m0 t =>
    split at h
    next q hq =>
      cases hb : Nat.beq q.1 t0 with
      | false => rw [hb] at h; exact h.elim
      | true =>
        rw [hb] at h
        have e : q.1 = t0 := Nat.eq_of_beq_eq_true hb
        obtain ⟨q0, hq0, hws⟩ := vg_ws_get (shp := shp) (ad := ad) (tys := tys) (σ := σ) (show m0 ∈ nm from vg_okh (vg_okt hs))
        rw [hq] at hws
        exact va_iald (D := D) C0.1 C0.2.1 C0.2.2.2.2.2.1 hP q0 t0 (by rw [← e]; exact hws) (vg_tys C0.2.2.2.2.2.2.1 ht) h.1 hd (h.2 H locs ls hl ho (vg_okc trivial (vg_okt (vg_okt hs))) hP hS)
    next => exact h.elim
  next => exact h.elim
theorem vs_zaload {t0 : Nat} (hd : decode cc pc = .ok (.baload, 1)) (ht : tyl[t0]? = some .boolean) (hn : pc + 1 = n) : vg_Snd tb nw shp nm cl tyl cc nL own ret d pc (vi_ald shp t0 n) := by
  subst hn
  refine ⟨vs_m1 fun K K' h lv st σ g => ?_, ?_⟩
  · split at g
    · split at g
      next q _ =>
        cases hb : Nat.beq q.1 t0 with
        | false => rw [hb] at g; exact g.elim
        | true =>
          rw [hb] at g
          exact ⟨g.1, h _ _ _ _ g.2⟩
      next => exact g
    · exact g
  intro p l e R s m args below meth c D tys ad A P C0 lv st σ h H locs ls hl ho hs hP hS
  unfold vi_ald at h
  split at h
  next i m0 t =>
    split at h
    next q hq =>
      cases hb : Nat.beq q.1 t0 with
      | false => rw [hb] at h; exact h.elim
      | true =>
        rw [hb] at h
        have e : q.1 = t0 := Nat.eq_of_beq_eq_true hb
        obtain ⟨q0, hq0, hws⟩ := vg_ws_get (shp := shp) (ad := ad) (tys := tys) (σ := σ) (show m0 ∈ nm from vg_okh (vg_okt hs))
        rw [hq] at hws
        exact va_zald (D := D) C0.1 C0.2.1 C0.2.2.2.2.2.1 hP q0 t0 (by rw [← e]; exact hws) (vg_tys C0.2.2.2.2.2.2.1 ht) h.1 hd (h.2 H locs ls hl ho (vg_okc trivial (vg_okt (vg_okt hs))) hP hS)
    next => exact h.elim
  next => exact h.elim
theorem vg_ast_ws {σ : vgS} {ad : vgN → Nat} {tys : List (ClassId × FieldType)} {A : Nat → Prop} {m0 : vgN} {q0 t0 len k : Nat} {x : Int32} (hD : va_D A (vg_ws shp nm ad tys σ)) (hq0 : nm[q0]? = some m0) (hq : shp m0 = .inr (.inl (t0, len))) : (vg_ws shp nm ad tys σ).set q0 (ad m0, .inl (vg_ty tys t0, len, .inl (upd (σ m0) k x))) = vg_ws shp nm ad tys (vg_st σ m0 k x) := by
  refine vg_ws_set hD hq0 ?_ (fun n' hn' => ?_)
  · rw [hq]
    show _ = Sum.inl (vg_ty tys t0, len, Sum.inl (vg_st σ m0 k x m0))
    congr 4
    funext j
    unfold vg_st upd
    simp
  · funext j
    unfold vg_st
    simp [hn']
theorem vs_iastore {t0 : Nat} (hd : decode cc pc = .ok (.iastore, 1)) (ht : tyl[t0]? = some .int) (hn : pc + 1 = n) : vg_Snd tb nw shp nm cl tyl cc nL own ret d pc (vi_ast shp t0 n) := by
  subst hn
  refine ⟨vs_m1 fun K K' h lv st σ g => ?_, ?_⟩
  · split at g
    · split at g
      next q _ =>
        cases hb : Nat.beq q.1 t0 with
        | false => rw [hb] at g; exact g.elim
        | true =>
          rw [hb] at g
          exact ⟨g.1, h _ _ _ _ g.2⟩
      next => exact g
    · exact g
  intro p l e R s m args below meth c D tys ad A P C0 lv st σ h H locs ls hl ho hs hP hS
  unfold vi_ast at h
  split at h
  next x i m0 t =>
    split at h
    next q hq =>
      cases hb : Nat.beq q.1 t0 with
      | false => rw [hb] at h; exact h.elim
      | true =>
        rw [hb] at h
        have e : q.1 = t0 := Nat.eq_of_beq_eq_true hb
        obtain ⟨q0, hq0, hws⟩ := vg_ws_get (shp := shp) (ad := ad) (tys := tys) (σ := σ) (show m0 ∈ nm from vg_okh (vg_okt (vg_okt hs)))
        rw [hq] at hws
        have hDA := C0.2.2.2.2.2.2.2.2.2.2.2.1
        refine va_iast (D := D) (A := A) C0.1 C0.2.1 C0.2.2.2.2.2.1 hP (hDA σ) hS q0 t0 (by rw [← e]; exact hws) (vg_tys C0.2.2.2.2.2.2.1 ht) h.1 hd (fun H1 locs1 hP1 _ hS1 => ?_)
        rw [vg_ast_ws (hDA σ) hq0 (by rw [hq, ← e])] at hP1
        exact h.2 H1 locs1 ls hl ho (vg_okt (vg_okt (vg_okt hs))) hP1 hS1
    next => exact h.elim
  next => exact h.elim
theorem vs_zastore {t0 : Nat} (hd : decode cc pc = .ok (.bastore, 1)) (ht : tyl[t0]? = some .boolean) (hn : pc + 1 = n) : vg_Snd tb nw shp nm cl tyl cc nL own ret d pc (vi_astZ shp t0 n) := by
  subst hn
  refine ⟨vs_m1 fun K K' h lv st σ g => ?_, ?_⟩
  · split at g
    · split at g
      next q _ =>
        cases hb : Nat.beq q.1 t0 with
        | false => rw [hb] at g; exact g.elim
        | true =>
          rw [hb] at g
          exact ⟨g.1, h _ _ _ _ g.2⟩
      next => exact g
    · exact g
  intro p l e R s m args below meth c D tys ad A P C0 lv st σ h H locs ls hl ho hs hP hS
  unfold vi_astZ at h
  split at h
  next x i m0 t =>
    split at h
    next q hq =>
      cases hb : Nat.beq q.1 t0 with
      | false => rw [hb] at h; exact h.elim
      | true =>
        rw [hb] at h
        have e : q.1 = t0 := Nat.eq_of_beq_eq_true hb
        obtain ⟨q0, hq0, hws⟩ := vg_ws_get (shp := shp) (ad := ad) (tys := tys) (σ := σ) (show m0 ∈ nm from vg_okh (vg_okt (vg_okt hs)))
        rw [hq] at hws
        have hDA := C0.2.2.2.2.2.2.2.2.2.2.2.1
        refine va_zast (D := D) (A := A) C0.1 C0.2.1 C0.2.2.2.2.2.1 hP (hDA σ) hS q0 t0 (by rw [← e]; exact hws) (vg_tys C0.2.2.2.2.2.2.1 ht) h.1.1 hd (fun H1 locs1 hP1 _ hS1 => ?_)
        have hx : vp_nar .boolean x = x := by rcases h.1.2 with rfl | rfl <;> rfl
        rw [hx, vg_ast_ws (hDA σ) hq0 (by rw [hq, ← e])] at hP1
        exact h.2 H1 locs1 ls hl ho (vg_okt (vg_okt (vg_okt hs))) hP1 hS1
    next => exact h.elim
  next => exact h.elim
theorem vs_aaload {t0 : Nat} {C : String} (hd : decode cc pc = .ok (.aaload, 1)) (ht : tyl[t0]? = some (.object C)) (hn : pc + 1 = n) : vg_Snd tb nw shp nm cl tyl cc nL own ret d pc (vi_aald shp t0 n) := by
  subst hn
  refine ⟨vs_m1 fun K K' h lv st σ g => ?_, ?_⟩
  · split at g
    · split at g
      next q _ =>
        cases hb : Nat.beq q.1 t0 with
        | false => rw [hb] at g; exact g.elim
        | true =>
          rw [hb] at g
          exact ⟨g.1, h _ _ _ _ g.2⟩
      next => exact g
    · exact g
  intro p l e R s m args below meth c D tys ad A P C0 lv st σ h H locs ls hl ho hs hP hS
  unfold vi_aald at h
  split at h
  next i m0 t =>
    split at h
    next q hq =>
      cases hb : Nat.beq q.1 t0 with
      | false => rw [hb] at h; exact h.elim
      | true =>
        rw [hb] at h
        have e : q.1 = t0 := Nat.eq_of_beq_eq_true hb
        obtain ⟨q0, hq0, hws⟩ := vg_ws_get (shp := shp) (ad := ad) (tys := tys) (σ := σ) (show m0 ∈ nm from vg_okh (vg_okt hs))
        rw [hq] at hws
        have hcl := C0.2.2.2.2.2.2.2.2.2.2.2.2.1 m0 (vg_okh (vg_okt hs))
        rw [hq] at hcl
        have hm : q.2.2 i.toNatClampNeg ∈ nm := hcl _ (Nat.not_le.mp fun z => h.1 (Or.inr z))
        exact va_aldq (D := D) C0.1 C0.2.1 C0.2.2.2.2.2.1 hP q0 t0 (f := fun i => some (ad (q.2.2 i))) (by rw [← e]; exact hws) (vg_tys C0.2.2.2.2.2.2.1 ht) h.1 hd (h.2 H locs ls hl ho (vg_okc hm (vg_okt (vg_okt hs))) hP hS)
    next => exact h.elim
  next => exact h.elim
theorem vs_acopy {t0 ix : Nat} (hd : decode cc pc = .ok (.invokestatic ix, 3)) (ht : tyl[t0]? = some .int) (h1 : Cond.methodLink own ix arraycopyName ∈ tb) (h2 : Cond.native arraycopyName ∈ tb) (h3 : Cond.static arraycopyName ∈ tb) (h4 : Cond.initialized "java/lang/System" ∈ tb) (hdd : 1 ≤ d) (hn : pc + 3 = n) : vg_Snd tb nw shp nm cl tyl cc nL own ret d pc (vi_cpy shp t0 n) := by
  subst hn
  refine ⟨vs_m1 fun K K' h lv st σ g => ?_, ?_⟩
  · split at g
    · split at g
      next q r _ _ =>
        cases hb : Nat.beq q.1 t0 && Nat.beq r.1 t0 && Nat.ble (vg_wd _) 8 with
        | false => rw [hb] at g; exact g.elim
        | true =>
          rw [hb] at g
          exact ⟨g.1, h _ _ _ _ g.2⟩
      next => exact g
    · exact g
  intro p l e R s m args below meth c D tys ad A P C0 lv st σ h H locs ls hl ho hs hP hS
  have hts := C0.2.2.2.2.1
  unfold vi_cpy at h
  split at h
  next len dp dn sp mn t =>
    split at h
    next q r hq hr =>
      cases hb : Nat.beq q.1 t0 && Nat.beq r.1 t0 && Nat.ble (vg_wd t) 8 with
      | false => rw [hb] at h; exact h.elim
      | true =>
        rw [hb] at h
        simp only [Bool.and_eq_true] at hb
        have e : q.1 = t0 := Nat.eq_of_beq_eq_true hb.1.1
        have e' : r.1 = t0 := Nat.eq_of_beq_eq_true hb.1.2
        have hwd : vg_wd t ≤ 8 := Nat.le_of_ble_eq_true hb.2
        obtain ⟨⟨rfl, rfl, hlen, hl1, hl2⟩, hk⟩ := h
        obtain ⟨q0, hq0, hws⟩ := vg_ws_get (shp := shp) (ad := ad) (tys := tys) (σ := σ) (show mn ∈ nm from vg_okh (vg_okt (vg_okt (vg_okt (vg_okt hs)))))
        obtain ⟨q1, hq1, hws1⟩ := vg_ws_get (shp := shp) (ad := ad) (tys := tys) (σ := σ) (show dn ∈ nm from vg_okh (vg_okt (vg_okt hs)))
        rw [hq] at hws
        rw [hr] at hws1
        have hDA := C0.2.2.2.2.2.2.2.2.2.2.2.1
        have hR := C0.2.2.2.2.2.2.2.2.2.1
        have z0 : (0 : Int32).toNatClampNeg = 0 := by decide
        refine va_copyi (D := D) (A := A) C0.1 C0.2.1 (C0.2.2.1.trans hl.1.symm) C0.2.2.2.1 (hts _ h1) (hts _ h2) (hts _ h3) (hts _ h4) C0.2.2.2.2.2.1 hP (hDA σ) hS q0 q1 t0 t0 (by rw [← e]; exact hws) (by rw [← e']; exact hws1) (vg_tys C0.2.2.2.2.2.2.1 ht) (vg_tys C0.2.2.2.2.2.2.1 ht) rfl (by decide) (by decide) hlen (by rw [z0, Nat.zero_add]; exact hl1) (by rw [z0, Nat.zero_add]; exact hl2) (fun _ _ => rfl) (by rw [hR]; exact hdd) ?_ hd (fun H1 locs1 hP1 _ hS1 => ?_)
        · rw [vg_wd_sum, hR]
          have : nativeFrameWords "java/lang/System" "arraycopy" 5 + 11 ≤ 24 := by decide
          show vg_wd t + _ ≤ 32 * d
          omega
        · have e9 : (vg_ws shp nm ad tys σ).set q1 (ad dn, .inl (vg_ty tys t0, r.2, .inl (va_cpy (σ mn) (σ dn) (0 : Int32).toNatClampNeg (0 : Int32).toNatClampNeg len.toNatClampNeg))) = vg_ws shp nm ad tys (vg_cp σ mn dn len.toNatClampNeg) := by
            refine vg_ws_set (hDA σ) hq1 ?_ (fun n' hn' => ?_)
            · rw [hr]
              show _ = Sum.inl (vg_ty tys r.1, r.2, Sum.inl (vg_cp σ mn dn len.toNatClampNeg dn))
              rw [e', z0]
              congr 4
              funext j
              unfold va_cpy vg_cp
              simp
            · funext j
              unfold vg_cp
              simp [hn']
          rw [e9] at hP1
          exact hk H1 locs1 ls hl ho (vg_okt (vg_okt (vg_okt (vg_okt (vg_okt hs))))) hP1 hS1
    next => exact h.elim
  next => exact h.elim
end VS2
