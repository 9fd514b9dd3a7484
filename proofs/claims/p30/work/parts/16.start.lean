-- words of the tables, and what stands at each place of the methods' code (laid by program)
/-! the world that WarnWave() leaves, in the names of part 06 -/
def wx_pos (n : vgN) : Nat := match n.1 with
  | 0 => 0
  | t => 1 + 77 * n.2.1 + (match t with
    | 1 => 0 | 2 => 1 | 3 => 2 | 4 => 3 | 5 => 4 + 4 * n.2.2 | 7 => 5 + 4 * n.2.2 | 13 => 6 + 4 * n.2.2 | 8 => 7 + 4 * n.2.2 | 6 => 12 | 12 => 13
    | 9 => 14 + 6 * n.2.2 | 14 => 15 + 6 * n.2.2 | 15 => 16 + 6 * n.2.2 | 16 => 17 + 6 * n.2.2 | 17 => 18 + 6 * n.2.2 | 18 => 19 + 6 * n.2.2 | 10 => 62 + n.2.2 | _ => 65 + n.2.2)
/-- the ints of a cell -/
def vh_f : vhC → Nat → Int32
  | .inl q => fun k => match vh_at q.2 k with
    | some (.inl (.int x)) => x
    | _ => 0
  | .inr (_, _, .inl f) => f
  | .inr _ => fun _ => 0
def vh_slB (pos : vgN → Nat) : List (Option vgN) → List vgV → Bool
  | [], [] => true
  | none :: t, .inl (.int _) :: u => vh_slB pos t u
  | some z :: t, .inr y :: u => decide (y = vh_n (pos z)) && vh_slB pos t u
  | _, _ => false
/-- a cell of a list is what a shape says -/
def vh_shB (pos : vgN → Nat) : vgH → vhC → Bool
  | .inl q, .inl r => Nat.beq q.1 r.1 && vh_slB pos q.2 r.2
  | .inr (.inl q), .inr (t, n, .inl _) => Nat.beq q.1 t && Nat.beq q.2 n
  | .inr (.inr q), .inr (t, n, .inr (.inr f)) => Nat.beq q.1 t && (Nat.beq q.2.1 n && (List.range n).all (fun i => decide (f i = some (pos (q.2.2 i)))))
  | _, _ => false
theorem vh_slB_eq {pos : vgN → Nat} {ad1 : vgN → Nat} {f : Nat → Int32} : ∀ (sl : List (Option vgN)) (l : List vgV) (k : Nat), vh_slB pos sl l = true → (∀ j x, l[j]? = some (.inl (.int x)) → f (k + j) = x) → vg_fs (fun z => ad1 (vh_n (pos z))) f k sl = l.map (vg_cv ad1)
  | [], [], k, _, _ => rfl
  | [], _ :: _, k, h, _ => by cases h
  | none :: t, [], k, h, _ => by cases h
  | some z :: t, [], k, h, _ => by cases h
  | none :: t, .inr y :: u, k, h, _ => by cases h
  | some z :: t, .inl v :: u, k, h, _ => by cases h
  | none :: t, .inl v :: u, k, h, hf => by
    cases v with
    | int x =>
      have h0 := hf 0 x rfl
      show Value.int (f k) :: vg_fs _ f (k + 1) t = Value.int x :: u.map (vg_cv ad1)
      rw [vh_slB_eq t u (k + 1) h (fun j x hj => by
        have := hf (j + 1) x hj
        rw [show k + 1 + j = k + (j + 1) by omega]
        exact this)]
      rw [show k + 0 = k from rfl] at h0
      rw [h0]
    | _ => cases h
  | some z :: t, .inr y :: u, k, h, hf => by
    have h' : (decide (y = vh_n (pos z)) && vh_slB pos t u) = true := h
    simp only [Bool.and_eq_true, decide_eq_true_eq] at h'
    show Value.ref (ad1 (vh_n (pos z))) :: vg_fs _ f (k + 1) t = Value.ref (ad1 y) :: u.map (vg_cv ad1)
    rw [vh_slB_eq t u (k + 1) h'.2 (fun j x hj => by
      have := hf (j + 1) x hj
      rw [show k + 1 + j = k + (j + 1) by omega]
      exact this), h'.1]
theorem vh_arrV {cA : ClassId} {n : Nat} {f g : Nat → Option Nat} (h : ∀ i, i < n → f i = g i) : vp_cell cA (n, .inr (.inr (.inr (.inr f)))) = vp_cell cA (n, .inr (.inr (.inr (.inr g)))) := by
  rw [vp_cell_q, vp_cell_q]
  unfold arrV
  congr 1
  apply Array.ext
  · simp
  · intro i h1 h2
    have hi : i < n := by simpa using h1
    simp [h i hi]
theorem vh_shB_at {D : va_G} {cl : List vw_C} {tys : List (ClassId × FieldType)} {pos : vgN → Nat} {ad1 : vgN → Nat} {a : Nat} {H : Heap} {h : vgH} {c : vhC} (hok : vh_shB pos h c = true) (hP : va_at D cl (a, vh_e ad1 tys c) H) : va_at D cl (a, vg_e (fun z => ad1 (vh_n (pos z))) tys h (vh_f c)) H := by
  rcases h with q | q | q
  · rcases c with r | r
    · have h' : (Nat.beq q.1 r.1 && vh_slB pos q.2 r.2) = true := hok
      simp only [Bool.and_eq_true] at h'
      have e1 : q.1 = r.1 := Nat.eq_of_beq_eq_true h'.1
      have e2 := vh_slB_eq (ad1 := ad1) (f := vh_f (.inl r)) q.2 r.2 0 h'.2 (fun j x hj => by
        show (match vh_at r.2 (0 + j) with | some (.inl (.int x)) => x | _ => 0) = x
        rw [Nat.zero_add, vh_at_eq, hj])
      have e3 : vg_e (fun z => ad1 (vh_n (pos z))) tys (.inl q) (vh_f (.inl r)) = vh_e ad1 tys (.inl r) := by
        show Sum.inr (q.1, _) = Sum.inr (r.1, _)
        rw [e1, e2]
      rw [e3]
      exact hP
    · cases hok
  · rcases c with r | ⟨t, n, f | f | f⟩
    · cases hok
    · have h' : (Nat.beq q.1 t && Nat.beq q.2 n) = true := hok
      simp only [Bool.and_eq_true] at h'
      have e1 : q.1 = t := Nat.eq_of_beq_eq_true h'.1
      have e2 : q.2 = n := Nat.eq_of_beq_eq_true h'.2
      obtain ⟨q1, q2⟩ := q
      dsimp only at e1 e2
      subst e1
      subst e2
      exact hP
    · cases hok
    · cases hok
  · rcases c with r | ⟨t, n, f | f | f⟩
    · cases hok
    · cases hok
    · cases hok
    · have h' : (Nat.beq q.1 t && (Nat.beq q.2.1 n && (List.range n).all (fun i => decide (f i = some (pos (q.2.2 i)))))) = true := hok
      simp only [Bool.and_eq_true] at h'
      have e1 : q.1 = t := Nat.eq_of_beq_eq_true h'.1
      have e2 : q.2.1 = n := Nat.eq_of_beq_eq_true h'.2.1
      obtain ⟨q1, q2, q3⟩ := q
      dsimp only at e1 e2
      subst e1
      subst e2
      have hP' : H[a]? = some (vp_cell (vg_ty tys q1) (q2, .inr (.inr (.inr (.inr (fun i => (f i).map (fun j => ad1 (vh_n j)))))))) := hP
      show H[a]? = some (vp_cell (vg_ty tys q1) (q2, .inr (.inr (.inr (.inr (fun i => some (ad1 (vh_n (pos (q3 i))))))))))
      rw [hP', vh_arrV (fun i hi => ?_)]
      have h3 := of_decide_eq_true (List.all_eq_true.mp h'.2.2 i (List.mem_range.mpr hi))
      show (f i).map _ = _
      rw [h3]
      rfl
def vh_allB (shp : vgN → vgH) (nm : List vgN) (pos : vgN → Nat) (S : vhS) : Bool := nm.all (fun n => match vh_at S (pos n) with
  | some c => vh_shB pos (shp n) c
  | none => false)
def vh_σ (pos : vgN → Nat) (S : vhS) : vgS := fun n => match vh_at S (pos n) with
  | some c => vh_f c
  | none => fun _ => 0
theorem vh_addr {A : Nat → Prop} {w1 w2 : va_W} (h : va_D A w1) (he : w2.map (fun q => q.1) = w1.map (fun q => q.1)) : va_D A w2 := by
  have key : ∀ (k : Nat) (q : Nat × va_E), w2[k]? = some q → ∃ q', w1[k]? = some q' ∧ q'.1 = q.1 := by
    intro k q hk
    have h2 : (w1.map (fun q => q.1))[k]? = some q.1 := by rw [← he, List.getElem?_map, hk]; rfl
    rw [List.getElem?_map] at h2
    cases h3 : w1[k]? with
    | none => rw [h3] at h2; cases h2
    | some q' => rw [h3] at h2; exact ⟨q', rfl, Option.some.inj h2⟩
  refine ⟨fun i j p q hi hj hpq => ?_, fun k q hk => ?_⟩
  · obtain ⟨p', h1, h2⟩ := key i p hi
    obtain ⟨q', h3, h4⟩ := key j q hj
    exact h.1 i j p' q' h1 h3 (h2.trans (hpq.trans h4.symm))
  · obtain ⟨q', h1, h2⟩ := key k q hk
    rw [← h2]
    exact h.2 k q' h1
/-- a world as a list of cells is one by names -/
theorem vh_vg {D : va_G} {cl : List vw_C} {tys : List (ClassId × FieldType)} {shp : vgN → vgH} {nm : List vgN} {pos : vgN → Nat} {S : vhS} {ad1 : vgN → Nat} {A : Nat → Prop} {H : Heap} (hB : vh_allB shp nm pos S = true) (hnd : va_nd (nm.map pos) = true) (hP : va_P D cl (vh_ws ad1 tys S) H) (hD : va_D A (vh_ws ad1 tys S)) :
    va_P D cl (vg_ws shp nm (fun z => ad1 (vh_n (pos z))) tys (vh_σ pos S)) H ∧ va_D A (vg_ws shp nm (fun z => ad1 (vh_n (pos z))) tys (vh_σ pos S)) := by
  have hcell : ∀ n ∈ nm, ∃ c, vh_at S (pos n) = some c ∧ vh_shB pos (shp n) c = true := by
    intro n hn
    have h := List.all_eq_true.mp hB n hn
    cases hc : vh_at S (pos n) with
    | none => rw [hc] at h; cases h
    | some c => rw [hc] at h; exact ⟨c, rfl, h⟩
  constructor
  · intro k q hk
    unfold vg_ws at hk
    rw [List.getElem?_map] at hk
    cases hn : nm[k]? with
    | none => rw [hn] at hk; cases hk
    | some n =>
      rw [hn] at hk
      cases hk
      obtain ⟨c, hc, hok⟩ := hcell n (List.mem_of_getElem? hn)
      have hσ : vh_σ pos S n = vh_f c := by unfold vh_σ; rw [hc]
      show va_at D cl (ad1 (vh_n (pos n)), vg_e _ tys (shp n) (vh_σ pos S n)) H
      rw [hσ]
      refine vh_shB_at hok (hP (pos n) _ ?_)
      rw [vh_ws_at, ← vh_at_eq, hc]
      rfl
  · refine vh_addr (w1 := nm.map (fun n => (ad1 (vh_n (pos n)), match vh_at S (pos n) with | some c => vh_e ad1 tys c | none => .inr (0, [])))) ?_ ?_
    · refine va_D.sub hD (nm.map pos) hnd ?_
      rw [List.map_map, List.map_map]
      refine List.map_congr_left (fun n hn => ?_)
      obtain ⟨c, hc, hok⟩ := hcell n hn
      show (vh_ws ad1 tys S)[pos n]? = some (ad1 (vh_n (pos n)), match vh_at S (pos n) with | some c => vh_e ad1 tys c | none => .inr (0, []))
      rw [vh_ws_at, ← vh_at_eq, hc]
      rfl
    · unfold vg_ws
      rw [List.map_map, List.map_map]
      rfl
theorem wx_B : vh_allB ww_shp ww_nm wx_pos cs_X5 = true := by decide +kernel
theorem wx_nd : va_nd (ww_nm.map wx_pos) = true := by decide +kernel
def wx_σ : vgS := vh_σ wx_pos cs_X5
