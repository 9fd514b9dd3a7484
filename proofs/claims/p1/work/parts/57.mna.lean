-- words of the tables, and what stands at each place of the methods' code (laid by program)
/-! new int[n][m], in the machine vh -/
def vh_mna (t0 N M : Nat) : vhS := .inr (t0, N, .inr (.inr (fun i => if i < N then some (i + 1) else none))) :: List.replicate N (.inr (0, M, .inl (fun _ => 0)))
def hi_mna (t0 Rc Rs n : Nat) : vhF := fun _ K lv st σ => match st with
  | .inl (.int k) :: .inl (.int x) :: t => (¬ x < 0 ∧ ¬ k < 0 ∧ x.toNatClampNeg ≤ 1000 ∧ k.toNatClampNeg ≤ 1000 ∧ σ.2.1 + (1 + x.toNatClampNeg) ≤ Rc ∧ σ.2.2 + (x.toNatClampNeg + x.toNatClampNeg * k.toNatClampNeg) ≤ Rs) ∧ K n lv (.inr (vh_n σ.1.length) :: t) (σ.1 ++ (vh_mna t0 x.toNatClampNeg k.toNatClampNeg).map (vh_sh σ.1.length), σ.2.1 + 1 + x.toNatClampNeg, σ.2.2 + x.toNatClampNeg + x.toNatClampNeg * k.toNatClampNeg)
  | _ => False
theorem vh_mna_len {t0 N M : Nat} : (vh_mna t0 N M).length = N + 1 := by
  unfold vh_mna
  rw [List.length_cons, List.length_replicate]
theorem vh_mna_wf {t0 N M : Nat} : vh_wf (vh_mna t0 N M) := by
  intro c hc
  rw [vh_mna_len]
  rcases List.mem_cons.mp hc with rfl | hc
  · intro i j hij
    have h : (if i < N then some (i + 1) else none) = some j := hij
    split at h
    · cases h; omega
    · cases h
  · rw [(List.mem_replicate.mp hc).2]
    trivial
def vh_ma (q : Nat) (r : Nat → Nat) : vgN → Nat := fun z => if z.1 = 0 then q else r (z.1 - 1)
theorem vh_mna_ws {t0 N M q : Nat} {r : Nat → Nat} {tys : List (ClassId × FieldType)} : vh_ws (vh_ma q r) tys (vh_mna t0 N M) = (q, .inl (vg_ty tys t0, N, .inr (.inr (.inr (.inr (fun i => if i < N then some (r i) else none)))))) :: (List.range N).map (fun i => (r i, .inl (vg_ty tys 0, M, .inl (fun _ => 0)))) := by
  apply List.ext_getElem?
  intro i
  rw [vh_ws_at]
  cases i with
  | zero =>
    show some (q, _) = some (q, _)
    congr 2
    show Sum.inl (_, N, Sum.inr (Sum.inr (Sum.inr (Sum.inr _)))) = Sum.inl (_, N, Sum.inr (Sum.inr (Sum.inr (Sum.inr _))))
    congr 7
    funext i
    show Option.map _ (if i < N then some (i + 1) else none) = (if i < N then some (r i) else none)
    by_cases hi : i < N
    · rw [if_pos hi, if_pos hi]
      rfl
    · rw [if_neg hi, if_neg hi]
      rfl
  | succ i =>
    show ((List.replicate N (Sum.inr (0, M, .inl (fun _ => 0)) : vhC))[i]?).map _ = ((List.range N).map _)[i]?
    rw [List.getElem?_map]
    by_cases hi : i < N
    · rw [List.getElem?_replicate, if_pos hi, List.getElem?_range hi]
      rfl
    · rw [List.getElem?_replicate, if_neg hi, List.getElem?_eq_none (by rw [List.length_range]; omega)]
      rfl
section HM
variable {tb : List Cond} {nw : vhW} {cl : List vw_C} {tyl : List FieldType} {cc : ByteArray} {nL : Nat} {own : String} {ret : Option FieldType} {d Rc Rs : Nat} {ini : Bool} {pc n : Nat}
theorem ht_mna {t0 ix : Nat} (ht : tyl[t0]? = some (.array .int)) (ht0 : tyl[0]? = some .int) (hnw : nw.2.2 = true) (hw1 : Cond.classLink own ix ("[" ++ (FieldType.array FieldType.int).toString) ∈ tb) (hw2 : Cond.arrayClass FieldType.int ∈ tb) (hd : decode cc pc = .ok (.multianewarray ix 2, 4)) (hn : pc + 4 = n) : vh_Snd tb nw cl tyl cc nL own ret d Rc Rs ini pc (hi_mna t0 Rc Rs n) := by
  subst hn
  refine ⟨hs_m1 fun K K' h lv st σ g => ?_, ?_⟩
  · split at g
    next k x t => exact ⟨g.1, h _ _ _ _ g.2⟩
    next => exact g
  intro p l e R s m args below meth c D tys n0 ad0 A P Z C0 E0 lv st σ h ad H locs ls hag hl ho hs hwf hP hD hS
  unfold hi_mna at h
  split at h
  next k x t =>
    obtain ⟨⟨h1, h2, h3, h4, h5, h6⟩, hk⟩ := h
    obtain ⟨hx, hcb, hml, hown, hts, hK, hty, hr, hlocks, hRR, hA, hRc, hini2, hnx⟩ := C0
    have hK0 := (hK.2 0 _ (vg_tys hty ht0)).2
    have hcy : s.vm.findClass (FieldType.array FieldType.int).toString = some (vg_ty tys 0) := hK0
    have hnil : vh_ws ad tys σ.1 ++ va_pl [] (fun _ => (Sum.inr (0, []) : va_E)) = vh_ws ad tys σ.1 := List.append_nil _
    refine va_mna (D := D) (A := A) (X := vh_ws ad tys σ.1) (L := []) (f := fun _ => .inr (0, [])) (ty := .int) (cy := vg_ty tys 0) (z := (k.toNatClampNeg, .inl (fun _ => 0))) hx hcb hown (hts _ hw1) (hnx.2.2 hnw) (hts _ hw2) hcy hK (by rw [hnil]; exact hP) (by rw [hnil]; exact hD) hS hA h1 h2 rfl rfl (by omega) (by show _ * 4 ≤ _; omega) (by omega) rfl rfl (by omega) (by omega) (fun c => by
      show _ = arrV c k.toNatClampNeg (fun j => .int 0)
      exact (arrV_new ..)) hd (fun q r cA H1 hinj _ hK1 hP1 hD1 hS1 => ?_)
    have hcA : cA = vg_ty tys t0 := vh_ty hK (vg_tys hty ht) hK1
    subst hcA
    have e9 : (vh_ws ad tys σ.1 ++ [(q, (Sum.inl (vg_ty tys t0, x.toNatClampNeg, Sum.inr (Sum.inr (Sum.inr (Sum.inr (fun i => if i < x.toNatClampNeg then some (r i) else none))))) : va_E))]) ++ va_pl ([] ++ (List.range x.toNatClampNeg).map r) (vr_up (fun _ => (Sum.inr (0, []) : va_E)) ((List.range x.toNatClampNeg).map r) (.inl (vg_ty tys 0, (k.toNatClampNeg, .inl (fun _ => 0))))) = vh_ws ad tys σ.1 ++ vh_ws (vh_ma q r) tys (vh_mna t0 x.toNatClampNeg k.toNatClampNeg) := by
      rw [vh_mna_ws, List.append_assoc]
      congr 1
      show (q, _) :: va_pl _ _ = (q, _) :: _
      congr 1
      unfold va_pl
      rw [List.nil_append, List.map_map]
      refine List.map_congr_left (fun i hi => ?_)
      show (r i, vr_up _ _ _ (r i)) = _
      rw [vr_up_in (List.mem_map.mpr ⟨i, hi, rfl⟩)]
    rw [e9] at hP1 hD1
    exact vh_grow (cs := vh_mna t0 x.toNatClampNeg k.toNatClampNeg) (ad1 := vh_ma q r) hk hag hl ho (vg_okt (vg_okt hs)) hwf vh_mna_wf (by rw [vh_mna_len]; omega) rfl hP1 hD1 hS1
  next => exact h.elim
end HM
