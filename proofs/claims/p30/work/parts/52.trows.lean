-- words of the tables, and what stands at each place of the methods' code (laid by program)
/-! .. its steps -/
theorem tt_inX6 : ∀ w ∈ u_ws RX6 TX6 15, w ∈ ww_tb := ww_in _ (by decide +kernel)
theorem va_rf_inj {x y : Option Nat} (h : va_rf x = va_rf y) : x = y := by
  cases x <;> cases y <;> first | rfl | (cases h; done) | (cases h; rfl)
section TRW
variable {p : Program} {l : Launch} {e : Env} {R : Room} {s : State} {m : MethodId} {args : Array Value} {below : List Frame} {meth : Method} {c : Code} {H H0 : Heap} {locs : List Loc} {Q : State → Prop} {ck cn : Nat}
variable {cc : ByteArray} {pc : Nat} {ls : Array Slot} {rest : List Value} {D : va_G} {cI cG cH : ClassId} {A F : Nat → Prop} {own : String} {a : Nat} {fs : List Value}
theorem lt_get {k index : Nat} {v : Value} (hx : p.tables.exec = Jvm.exec) (hcb : c.code = cc) (hts : ∀ w ∈ ww_tb, w.before args s = true) (hown : s.vm.findClass own = some m.cls) (hK : tK D cI cG cH s) (hT : va_P D tClT [(a, .inr (0, fs))] H) (hd : decode cc pc = .ok (.getfield index, 3)) (hl : Cond.fieldLink own index RX6 (TX6 k).2.1 (TX6 k).2.2.1 ∈ ww_tb) (hk : k < 15) (h1 : (TX6 k).1 = RX6) (hv : fs[k]? = some v)
    (kk : W p l e R s m args below meth c H locs ck cn Q (F0 m (pc + 3) ls (v :: rest))) : W p l e R s m args below meth c H locs ck cn Q (F0 m pc ls (.ref a :: rest)) :=
  va_get (C := RX6) (T := TX6) (N := 15) (ref := RX6) hx hcb hts tt_inX6 hown hK.1 hT 0 rfl rfl k hk (hts _ hl) (fun x z => by rw [h1] at z; exact z) hv hd kk
theorem lt_put {k index : Nat} {v : Value} (hx : p.tables.exec = Jvm.exec) (hcb : c.code = cc) (hts : ∀ w ∈ ww_tb, w.before args s = true) (hown : s.vm.findClass own = some m.cls) (hK : tK D cI cG cH s) (hT : va_P D tClT [(a, .inr (0, fs))] H) (hS0 : va_S F H0 H locs) (ha : F a) (hdg : decode cc pc = .ok (.putfield index, 3)) (hl : Cond.fieldLink own index RX6 (TX6 k).2.1 (TX6 k).2.2.1 ∈ ww_tb) (hk : k < 15) (h1 : (TX6 k).1 = RX6) (hfin : (TX6 k).2.2.2 = false) (hn : narrow (tyX6 k) v = v) (hfit : fits (tyX6 k) v = true) (hlen : k < fs.length)
    (kk : ∀ (H1 : Heap) (locs1 : List Loc), va_P D tClT [(a, .inr (0, fs.set k v))] H1 → H1.size = H.size → (∀ q, q ≠ a → H1[q]? = H[q]?) → tE cI cG cH A H H1 → va_S F H0 H1 locs1 → W p l e R s m args below meth c H1 locs1 ck cn Q (F0 m (pc + 3) ls rest)) : W p l e R s m args below meth c H locs ck cn Q (F0 m pc ls (v :: .ref a :: rest)) := by
  have hD : va_D (fun _ => True) ([(a, .inr (0, fs))] : va_W) := ⟨fun i j x y hi hj _ => by
    have h1 : i < 1 := (List.getElem?_eq_some_iff.mp hi).1
    have h2 : j < 1 := (List.getElem?_eq_some_iff.mp hj).1
    omega, fun _ _ _ => trivial⟩
  have he : ([(a, .inr (0, fs))] : va_W)[0]? = some (a, .inr (0, fs)) := rfl
  have hap := va_apart (own := own) hts tt_inX6 tyX6 tyX6_ok nmX6 hK.1 (ci := 0) rfl
  obtain ⟨r, h1', cell, q1, q2, q3, q4⟩ := hT 0 _ he
  have hr : r = (RX6, TX6, 15) := (Option.some.inj h1').symm
  subst hr
  obtain ⟨hS, hfc, kC, hkC, hkind⟩ := hK.1.1 0 _ rfl
  obtain ⟨cf, kf, fi, f, hi, hsl⟩ := hS k hk
  have hlay := hts _ (tt_inX6 _ (u_in_lay hk))
  unfold u_lay at hlay
  rw [if_neg (by rw [hfin]; decide)] at hlay
  have hst := (u_facts hfc hkC (u_lays hts tt_inX6 hk) hi).1
  have h6 := u_store hfc hkC hkind hlay hi (tyX6_ok k hk) hn hfit
  refine W.putK hx hcb (f := f) (ref := RX6) ⟨hown, hts _ hl, ⟨_, _, _, by rw [h1] at hi; exact hi⟩, hst⟩ (by rw [q2]; exact h6) q1 q3 (by rw [hsl]; exact k2_hasslot (q4 k hk)) rfl rfl hdg fun H' e1 e2 e3 => ?_
  rw [hsl] at e1 ⊢
  have hne := hK.ne
  have hcl : ∀ (c1 : ClassId) (x : vp_A), H[a]? = some (vp_cell c1 x) → D.1 0 = c1 := fun c1 x z => by
    have e := Option.some.inj (q1.symm.trans z)
    rw [← q2, e]
    obtain ⟨n, f | f | f | f | f⟩ := x <;> rfl
  refine kk H' _ (hT.set hD he ⟨_, rfl, t_OB.to (V := updV (vp_V fs) k v) ⟨_, e1, q2, q3, t_set q4 hap hk v⟩ (fun j _ => vp_updV_set hlen v j)⟩ e3) e2 e3 ?_ (hS0.put e2 e3 ha)
  exact tE.one e2 e3 (fun n f z => absurd (hcl _ _ z) hne.2.2.2.1) (fun n f z => absurd (hcl _ _ z) hne.2.2.2.2.1) (fun f z => absurd (hcl _ _ z) hne.2.2.2.2.2)
theorem lt_iast {w n : Nat} {i x : Int32} (hx : p.tables.exec = Jvm.exec) (hcb : c.code = cc) (hK : tK D cI cG cH s) (hw : tR cI A n H w) (hF : F w) (hS : va_S F H0 H locs) (hin : vp_in i n) (hdg : decode cc pc = .ok (.iastore, 1))
    (kk : ∀ (H1 : Heap) (locs1 : List Loc), tR cI A n H1 w → H1.size = H.size → (∀ q, q ≠ w → H1[q]? = H[q]?) → tE cI cG cH A H H1 → va_S F H0 H1 locs1 → W p l e R s m args below meth c H1 locs1 ck cn Q (F0 m (pc + 1) ls rest)) : W p l e R s m args below meth c H locs ck cn Q (F0 m pc ls (.int x :: .int i :: .ref w :: rest)) := by
  obtain ⟨hA, f, hw1⟩ := hw
  have hne := hK.ne
  refine W.iast hx hcb hw1 ((hK.1.2 0 _ rfl).1 n (fun j => .int (f j))) (fun q => by cases q) (by show ¬ (i < 0 ∨ (arrV _ _ _).slots.size ≤ _); rw [arrV_size]; exact hin) rfl rfl hdg fun H1 e z oq => ?_
  have e1 : H1[w]? = some (vp_cell cI (n, .inl (upd f i.toNatClampNeg x))) := by
    rw [e]
    rw [vp_cell_i, vp_cell_i, arrV_store]
    congr 2
    funext q
    by_cases hq : q = i.toNatClampNeg
    · subst hq
      simp [updV, upd]
    · simp [updV, upd, hq]
  refine kk H1 _ ⟨hA, _, e1⟩ z oq ?_ (hS.put z oq hF)
  refine tE.one z oq (fun n2 f2 y => ?_) (fun n2 f2 y => absurd (tcls hw1 y) hne.1) (fun f2 y => absurd (tcls hw1 y) hne.2.1)
  rw [← tlenI hw1 y]
  exact ⟨_, e1⟩
theorem lt_aald {q n : Nat} {cX : ClassId} {ty : FieldType} {f : Nat → Option Nat} {i : Int32} (hx : p.tables.exec = Jvm.exec) (hcb : c.code = cc) (hA : ArrOfT s cX ty) (hr : ty.isReference = true) (hq : H[q]? = some (vp_cell cX (n, tq f))) (hin : vp_in i n) (hdg : decode cc pc = .ok (.aaload, 1))
    (kk : W p l e R s m args below meth c H locs ck cn Q (F0 m (pc + 1) ls (va_rf (f i.toNatClampNeg) :: rest))) : W p l e R s m args below meth c H locs ck cn Q (F0 m pc ls (.int i :: .ref q :: rest)) := by
  have hlt : i.toNatClampNeg < n := Nat.not_le.mp fun q => hin (Or.inr q)
  exact W.aald (v := va_rf (f i.toNatClampNeg)) (ty := ty) hx hcb hq (hA n (fun j => va_rf (f j))) hr (fun q => by cases q) (by show ¬ (i < 0 ∨ (arrV _ _ _).slots.size ≤ _); rw [arrV_size]; exact hin) (by show (arrV _ _ _).slots[_]? = _; rw [arrV_read _ _ hlt]) rfl rfl hdg kk
theorem lt_alen {q n : Nat} {cX : ClassId} {ty : FieldType} {f : Nat → Option Nat} (hx : p.tables.exec = Jvm.exec) (hcb : c.code = cc) (hA : ArrOfT s cX ty) (hq : H[q]? = some (vp_cell cX (n, tq f))) (hdg : decode cc pc = .ok (.arraylength, 1))
    (kk : W p l e R s m args below meth c H locs ck cn Q (F0 m (pc + 1) ls (.int (nI n) :: rest))) : W p l e R s m args below meth c H locs ck cn Q (F0 m pc ls (.ref q :: rest)) :=
  W.alen (n := Int32.ofNat n) hx hcb hq (hA n (fun j => va_rf (f j))) (by rw [vp_cell_q, arrV_size] <;> rfl) rfl rfl hdg kk
theorem lt_aast {w n y k9 : Nat} {f : Nat → Option Nat} {i : Int32} (hx : p.tables.exec = Jvm.exec) (hcb : c.code = cc) (hK : tK D cI cG cH s) (hw : H[w]? = some (vp_cell cG (n, tq f))) (hy : tR cI A k9 H y) (hF : F w) (hS : va_S F H0 H locs) (hin : vp_in i n) (hdg : decode cc pc = .ok (.aastore, 1))
    (kk : ∀ (H1 : Heap) (locs1 : List Loc), H1[w]? = some (vp_cell cG (n, tq (va_up f i.toNatClampNeg (some y)))) → H1.size = H.size → (∀ q, q ≠ w → H1[q]? = H[q]?) → (¬ n = 3 → tE cI cG cH A H H1) → va_S F H0 H1 locs1 → W p l e R s m args below meth c H1 locs1 ck cn Q (F0 m (pc + 1) ls rest)) : W p l e R s m args below meth c H locs ck cn Q (F0 m pc ls (.ref y :: .int i :: .ref w :: rest)) := by
  have hlt : i.toNatClampNeg < n := Nat.not_le.mp fun q => hin (Or.inr q)
  have h0 : ¬ i < 0 := fun q => hin (Or.inl q)
  obtain ⟨hyA, fy, hy1⟩ := hy
  have hne := hK.ne
  obtain ⟨kG, k1, k2⟩ := hK.2.1
  obtain ⟨-, kI, hkI, -⟩ := (hK.1.2 0 _ rfl).1 0 (fun _ => .null)
  have hkI' : s.vm.classes[cI]? = some kI := hkI
  refine W.aast hx hcb hw (fun q h => by cases h) (fun h => by cases h) k1 k2 rfl hkI' ⟨h0, by show _ < (arrV _ _ _).slots.size; rw [arrV_size]; exact hlt⟩ hy1 (fun q h => by cases h) hkI' (va_asg _ _) rfl rfl hdg fun H1 e z oq => ?_
  have e1 : H1[w]? = some (vp_cell cG (n, tq (va_up f i.toNatClampNeg (some y)))) := by
    rw [e]
    rw [vp_cell_q, vp_cell_q, arrV_store]
    congr 2
    funext q
    by_cases hq : q = i.toNatClampNeg
    · subst hq
      simp [updV, va_up, va_rf]
    · simp [updV, va_up, hq]
  refine kk H1 _ e1 z oq (fun h3 => ?_) (hS.put z oq hF)
  refine tE.one z oq (fun n2 f2 g => absurd (tcls hw g).symm hne.1) (fun n2 f2 g => ?_) (fun f2 g => absurd (tcls hw g) hne.2.2.1)
  have en := tlen hw g
  subst en
  have ef : ∀ j, j < n → f2 j = f j := fun j hj => by
    have e2 := Option.some.inj (hw.symm.trans g)
    have e3 := congrArg (fun z => z.slots[j]?) e2
    rw [vp_cell_q, vp_cell_q] at e3
    rw [arrV_read _ _ hj, arrV_read _ _ hj] at e3
    exact (va_rf_inj (Option.some.inj e3)).symm
  refine ⟨fun j => if j < n then va_up f i.toNatClampNeg (some y) j else f2 j, ?_, fun _ z3 => absurd z3 h3, fun j y2 hj => ?_⟩
  · rw [e1]
    refine congrArg some (vh_arrV (fun j hj => ?_))
    exact (if_pos hj).symm
  · dsimp only at hj
    by_cases hjn : j < n
    · rw [if_pos hjn] at hj
      unfold va_up at hj
      by_cases hji : j = i.toNatClampNeg
      · rw [if_pos hji] at hj
        cases hj
        exact Or.inr ⟨k9, hyA, fy, hy1⟩
      · rw [if_neg hji] at hj
        exact Or.inl ((ef j hjn).trans hj)
    · rw [if_neg hjn] at hj
      exact Or.inl hj
theorem lt_newI {N : Nat} {n : Int32} (hx : p.tables.exec = Jvm.exec) (hcb : c.code = cc) (hts : ∀ w ∈ ww_tb, w.before args s = true) (hK : tK D cI cG cH s) (hS : va_S F H0 H locs) (hN : n = nI N) (hN2 : N < 1000) (hcc : ck + 1 ≤ R.cells) (hcs : cn + N ≤ R.slots) (hdg : decode cc pc = .ok (.newarray .int, 2))
    (kk : ∀ (q : Nat) (H1 : Heap), H.size ≤ q → H1[q]? = some (vp_cell cI (N, .inl (fun _ => 0))) → H.size ≤ H1.size → (∀ z, z < H.size → H1[z]? = H[z]?) → tE cI cG cH A H H1 → va_S F H0 H1 locs → W p l e R s m args below meth c H1 locs (ck + 1) (cn + N) Q (F0 m (pc + 2) ls (.ref q :: rest))) : W p l e R s m args below meth c H locs ck cn Q (F0 m pc ls (.int n :: rest)) := by
  have h0 : n.toNatClampNeg = N := jcl hN hN2
  refine va_newaK (atype := .int) (N := N) hx hcb (hts _ (ww_in [Cond.arrayClass (newarray.typeOf .int)] (by decide +kernel) _ List.mem_cons_self)) rfl hdg rfl (by rw [hN]; exact nI_pos (by omega)) h0 (by show N * 4 ≤ 536870912; omega) hcc hcs rfl (fun H1 cA e1 z1 o1 hAr hNm => ?_)
  have ec : cA = cI := Option.some.inj (hNm.symm.trans hK.2.2.2.1)
  subst ec
  exact kk H.size H1 (Nat.le_refl _) e1 (by omega) o1 (tE.old (by omega) (fun q hq _ => o1 q hq)) ⟨Nat.le_trans hS.1 (by omega), fun x h1 h2 => (o1 x (Nat.lt_of_lt_of_le h1 hS.1)).trans (hS.2.1 x h1 h2), hS.2.2⟩
theorem lt_newG {N index : Nat} {n : Int32} (hx : p.tables.exec = Jvm.exec) (hcb : c.code = cc) (hts : ∀ w ∈ ww_tb, w.before args s = true) (hown : s.vm.findClass own = some m.cls) (hK : tK D cI cG cH s) (hS : va_S F H0 H locs) (hN : n = nI N) (hN2 : N < 1000) (hcl : Cond.classLink own index (FieldType.array .int).toString ∈ ww_tb) (hcc : ck + 1 ≤ R.cells) (hcs : cn + N ≤ R.slots) (hdg : decode cc pc = .ok (.anewarray index, 3))
    (kk : ∀ (q : Nat) (H1 : Heap), H.size ≤ q → H1[q]? = some (vp_cell cG (N, tq (fun _ => none))) → H.size ≤ H1.size → (∀ z, z < H.size → H1[z]? = H[z]?) → tE cI cG cH A H H1 → va_S F H0 H1 locs → W p l e R s m args below meth c H1 locs (ck + 1) (cn + N) Q (F0 m (pc + 3) ls (.ref q :: rest))) : W p l e R s m args below meth c H locs ck cn Q (F0 m pc ls (.int n :: rest)) := by
  have h0 : n.toNatClampNeg = N := jcl hN hN2
  refine W.anewA (t := .int) hx hcb hown (hts _ hcl) (vq_AOA.use hK.2.2.2.2.2.1) rfl hdg rfl (by rw [hN]; exact nI_pos (by omega)) (by omega) hcc (by omega) (fun cA kA comp f1 f2 f3 f4 => ?_)
  have f1' : s.vm.findClass (FieldType.array (.array .int)).toString = some cA := f1
  have ec : cA = cG := Option.some.inj (f1'.symm.trans hK.2.2.2.2.1)
  subst ec
  rw [h0]
  generalize hH1 : H.push ({ cls := cA, slots := Array.replicate N .null, vm := .none } : Cell) = H1
  have z1 : H1.size = H.size + 1 := by rw [← hH1, Array.size_push]
  have e1 : H1[H.size]? = some (arrV cA N (fun _ => .null)) := by rw [← hH1, Array.getElem?_push_size, ← arrV_new]
  have o1 : ∀ q : Nat, q < H.size → H1[q]? = H[q]? := fun q hq => by rw [← hH1, Array.getElem?_push, if_neg (Nat.ne_of_lt hq)]
  exact kk H.size H1 (Nat.le_refl _) e1 (by omega) o1 (tE.old (by omega) (fun q hq _ => o1 q hq)) ⟨Nat.le_trans hS.1 (by omega), fun x h1 h2 => (o1 x (Nat.lt_of_lt_of_le h1 hS.1)).trans (hS.2.1 x h1 h2), hS.2.2⟩
end TRW
