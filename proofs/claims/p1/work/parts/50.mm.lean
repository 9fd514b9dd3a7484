-- words of the tables, and what stands at each place of the methods' code (laid by program)
/-! the world of the reference: the model, its land b, and what hangs on it; (60, 0, n) and (61, 0, n): rows made in a method -/
def mm_cl : List vw_C := [(RX7, TX7, 3), (RX6, TX6, 16)]
def mm_tyl : List FieldType := [.int, .boolean, .array .int]
def mm_shl : List (Nat × (Nat → Nat → vgH)) := [
  (41, fun b _ => .inl (1, [some (42, b, 0), some (43, b, 0), some (44, b, 0), some (45, b, 0), some (46, b, 0), some (47, b, 0), some (48, b, 0), some (49, b, 0), none, none, none, none, none, none, none, none])),
  (40, fun _ _ => .inl (0, [none, some (41, 0, 0), none])),
  (48, fun _ _ => .inr (.inl (0, 16))), (49, fun _ _ => .inr (.inl (1, 96))),
  (42, fun b _ => .inr (.inr (2, 8, fun i => (52, b, i)))), (43, fun b _ => .inr (.inr (2, 12, fun i => (53, b, i)))), (44, fun b _ => .inr (.inr (2, 96, fun i => (54, b, i)))),
  (45, fun b _ => .inr (.inr (2, 3, fun i => (55, b, i)))), (46, fun b _ => .inr (.inr (2, 5, fun i => (56, b, i)))), (47, fun b _ => .inr (.inr (2, 4, fun i => (57, b, i)))),
  (52, fun _ _ => .inr (.inl (0, 8))), (53, fun _ _ => .inr (.inl (0, 8))), (54, fun _ _ => .inr (.inl (0, 5))), (55, fun _ _ => .inr (.inl (0, 2))), (56, fun _ _ => .inr (.inl (0, 3))), (57, fun _ _ => .inr (.inl (0, 3))),
  (60, fun _ n => .inr (.inl (0, n))), (61, fun _ n => .inr (.inl (1, n)))]
def mm_shp : vgN → vgH := fun n => match vg_look mm_shl n.1 with
  | some f => f n.2.1 n.2.2
  | none => .inr (.inl (0, 0))
def mm_nm1 (b : Nat) : List vgN := [(41, b, 0), (42, b, 0), (43, b, 0), (44, b, 0), (45, b, 0), (46, b, 0), (47, b, 0), (48, b, 0), (49, b, 0)] ++ ((List.range 8).map (fun i => (52, b, i)) ++ ((List.range 12).map (fun i => (53, b, i)) ++ ((List.range 96).map (fun i => (54, b, i)) ++ ((List.range 3).map (fun i => (55, b, i)) ++ ((List.range 5).map (fun i => (56, b, i)) ++ (List.range 4).map (fun i => (57, b, i)))))))
def mm_nm : List vgN := (40, 0, 0) :: mm_nm1 0
theorem mm_closed : vg_closed mm_shp mm_nm := vg_closed_of (by decide +kernel)
theorem mm_inX7 : ∀ w ∈ u_ws RX7 TX7 3, w ∈ ww_tb := ww_in _ (by decide +kernel)
theorem mm_inX6 : ∀ w ∈ u_ws RX6 TX6 16, w ∈ ww_tb := ww_in _ (by decide +kernel)
section MAA
variable {p : Program} {l : Launch} {e : Env} {R : Room} {s : State} {m : MethodId} {args : Array Value} {below : List Frame} {meth : Method} {c : Code} {H : Heap} {locs : List Loc} {cells slots : Nat} {Q : State → Prop}
variable {cc : ByteArray} {pc : Nat} {ls : Array Slot} {rest : List Value} {D : va_G} {cl : List vw_C} {A : Nat → Prop} {a : Nat} {tys : List (ClassId × FieldType)} {ws : va_W} {H0 : Heap}
theorem vm_aldr (hexec : p.tables.exec = Jvm.exec) (hb : c.code = cc) (hK : va_K D cl tys s) (hP : va_P D cl ws H) (q0 t0 : Nat) {cA : ClassId} {ty : FieldType} (hr : ty.isReference = true) {n : Nat} {f : Nat → Option Nat} (ha : ws[q0]? = some (a, .inl (cA, n, .inr (.inr (.inr (.inr f)))))) (ht : tys[t0]? = some (cA, ty)) {i : Int32} (hin : vp_in i n) (hdg : decode cc pc = .ok (.aaload, 1))
    (kk : W p l e R s m args below meth c H locs cells slots Q (F0 m (pc + 1) ls (va_rf (f i.toNatClampNeg) :: rest))) : W p l e R s m args below meth c H locs cells slots Q (F0 m pc ls (.int i :: .ref a :: rest)) := by
  have hlt : i.toNatClampNeg < n := Nat.not_le.mp fun q => hin (Or.inr q)
  exact W.aald (v := va_rf (f i.toNatClampNeg)) (ty := ty) hexec hb (hP q0 _ ha) ((hK.2 t0 _ ht).1 n (fun j => va_rf (f j))) hr (fun q => by cases q) (by show ¬ (i < 0 ∨ (arrV _ _ _).slots.size ≤ _); rw [arrV_size]; exact hin) (by show (arrV _ _ _).slots[_]? = _; rw [arrV_read _ _ hlt]) rfl rfl hdg kk
end MAA
section MAB
variable {tb : List Cond} {nw : List (String × Nat × MethodName × String)} {shp : vgN → vgH} {nm : List vgN} {cl : List vw_C} {tyl : List FieldType} {cc : ByteArray} {nL : Nat} {own : String} {ret : Option FieldType} {d pc n : Nat}
theorem vs_aaloadA {t0 : Nat} {ty : FieldType} (hd : decode cc pc = .ok (.aaload, 1)) (ht : tyl[t0]? = some ty) (hrr : ty.isReference = true) (hn : pc + 1 = n) : vg_Snd tb nw shp nm cl tyl cc nL own ret d pc (vi_aald shp t0 n) := by
  subst hn
  refine ⟨vs_m1 fun K K' h lv st σ g => ?_, ?_⟩
  · split at g
    · split at g
      next q _ =>
        cases hb : Nat.beq q.1 t0 with
        | false => rw [hb] at g; exact g.elim
        | true =>
          rw [hb] at g
          exact ⟨g.1, h _ _ _ _ g.2⟩
      next => exact g
    · exact g
  intro p l e R s m args below meth c D tys ad A P C0 lv st σ h H locs ls hl ho hs hP hS
  unfold vi_aald at h
  split at h
  next i m0 t =>
    split at h
    next q hq =>
      cases hb : Nat.beq q.1 t0 with
      | false => rw [hb] at h; exact h.elim
      | true =>
        rw [hb] at h
        have e : q.1 = t0 := Nat.eq_of_beq_eq_true hb
        obtain ⟨q0, hq0, hws⟩ := vg_ws_get (shp := shp) (ad := ad) (tys := tys) (σ := σ) (show m0 ∈ nm from vg_okh (vg_okt hs))
        rw [hq] at hws
        have hcl := C0.2.2.2.2.2.2.2.2.2.2.2.2.1 m0 (vg_okh (vg_okt hs))
        rw [hq] at hcl
        have hm : q.2.2 i.toNatClampNeg ∈ nm := hcl _ (Nat.not_le.mp fun z => h.1 (Or.inr z))
        exact vm_aldr (D := D) C0.1 C0.2.1 C0.2.2.2.2.2.1 hP q0 t0 hrr (f := fun i => some (ad (q.2.2 i))) (by rw [← e]; exact hws) (vg_tys C0.2.2.2.2.2.2.1 ht) h.1 hd (h.2 H locs ls hl ho (vg_okc hm (vg_okt (vg_okt hs))) hP hS)
    next => exact h.elim
  next => exact h.elim
variable {bf : Bool} {tbx : List Cond} {strs : List (String × Nat × String)}
theorem vt_aaloadA {t0 : Nat} {ty : FieldType} (hd : decode cc pc = .ok (.aaload, 1)) (ht : tyl[t0]? = some ty) (hrr : ty.isReference = true) (hn : pc + 1 = n) : vm_Snd bf tb tbx strs nw shp nm cl tyl cc nL own ret d pc (vi_aald shp t0 n) := by
  subst hn
  refine ⟨vs_m1 fun K K' h lv st σ g => ?_, ?_⟩
  · split at g
    · split at g
      next q _ =>
        cases hb : Nat.beq q.1 t0 with
        | false => rw [hb] at g; exact g.elim
        | true =>
          rw [hb] at g
          exact ⟨g.1, h _ _ _ _ g.2⟩
      next => exact g
    · exact g
  intro p l e R s m args below meth c D tys ad A P ck cn Z C0 E0 lv st σ h H locs ls hl ho hs hP hS
  unfold vi_aald at h
  split at h
  next i m0 t =>
    split at h
    next q hq =>
      cases hb : Nat.beq q.1 t0 with
      | false => rw [hb] at h; exact h.elim
      | true =>
        rw [hb] at h
        have e : q.1 = t0 := Nat.eq_of_beq_eq_true hb
        obtain ⟨q0, hq0, hws⟩ := vg_ws_get (shp := shp) (ad := ad) (tys := tys) (σ := σ) (show m0 ∈ nm from vg_okh (vg_okt hs))
        rw [hq] at hws
        have hcl := C0.2.2.2.2.2.2.2.2.2.2.2.2.1 m0 (vg_okh (vg_okt hs))
        rw [hq] at hcl
        have hm : q.2.2 i.toNatClampNeg ∈ nm := hcl _ (Nat.not_le.mp fun z => h.1 (Or.inr z))
        exact vm_aldr (D := D) C0.1 C0.2.1 C0.2.2.2.2.2.1 hP q0 t0 hrr (f := fun i => some (ad (q.2.2 i))) (by rw [← e]; exact hws) (vg_tys C0.2.2.2.2.2.2.1 ht) h.1 hd (h.2 H locs ls hl ho (vg_okc hm (vg_okt (vg_okt hs))) hP hS)
    next => exact h.elim
  next => exact h.elim
end MAB
