-- words of the tables, and what stands at each place of the methods' code (laid by program)
/-! what the law tells beside the class: rows by kinds of cells alone -/
abbrev tClT : List vw_C := [(RX6, TX6, 15)]
abbrev tTys (cI cG cH : ClassId) : List (ClassId × FieldType) := [(cI, .int), (cG, .array .int), (cH, .array (.array .int))]
abbrev tq (f : Nat → Option Nat) : (Nat → Int32) ⊕ (Nat → Int64) ⊕ (Nat → UInt32) ⊕ (Nat → UInt64) ⊕ (Nat → Option Nat) := .inr (.inr (.inr (.inr f)))
def tR (cI : ClassId) (A : Nat → Prop) (n : Nat) (H : Heap) (q : Nat) : Prop := A q ∧ ∃ f : Nat → Int32, H[q]? = some (vp_cell cI (n, .inl f))
def tG (cI cG : ClassId) (A : Nat → Prop) (n : Nat) (H : Heap) (q : Nat) : Prop := A q ∧ ∃ f : Nat → Option Nat, H[q]? = some (vp_cell cG (n, tq f)) ∧ ∀ i y, i < n → f i = some y → ∃ k, tR cI A k H y
def tL (cI cG cH : ClassId) (A : Nat → Prop) (H : Heap) (q : Nat) : Prop := A q ∧ ∃ f : Nat → Option Nat, H[q]? = some (vp_cell cH (8, tq f)) ∧ ∀ i, i < 8 → ∃ y, f i = some y ∧ tG cI cG A 12 H y
def tS (cI cG : ClassId) (A : Nat → Prop) (H : Heap) (q : Nat) : Prop := A q ∧ ∃ f : Nat → Option Nat, H[q]? = some (vp_cell cG (3, tq f)) ∧ ∀ i, i < 3 → ∃ y, f i = some y ∧ tR cI A 2 H y
def tE (cI cG cH : ClassId) (A : Nat → Prop) (H H1 : Heap) : Prop := H.size ≤ H1.size ∧ (∀ n q, tR cI A n H q → tR cI A n H1 q) ∧ (∀ n q, tG cI cG A n H q → tG cI cG A n H1 q) ∧ (∀ q, tL cI cG cH A H q → tL cI cG cH A H1 q) ∧ ∀ q, tS cI cG A H q → tS cI cG A H1 q
theorem tlt {H : Heap} {q : Nat} {c : Cell} (h : H[q]? = some c) : q < H.size := (Array.getElem?_eq_some_iff.mp h).1
section TE
variable {cI cG cH : ClassId} {A : Nat → Prop} {H H1 H2 : Heap}
theorem tE.rf : tE cI cG cH A H H := ⟨Nat.le_refl _, fun _ _ h => h, fun _ _ h => h, fun _ h => h, fun _ h => h⟩
theorem tE.tr (h : tE cI cG cH A H H1) (h' : tE cI cG cH A H1 H2) : tE cI cG cH A H H2 := ⟨Nat.le_trans h.1 h'.1, fun n q z => h'.2.1 n q (h.2.1 n q z), fun n q z => h'.2.2.1 n q (h.2.2.1 n q z), fun q z => h'.2.2.2.1 q (h.2.2.2.1 q z), fun q z => h'.2.2.2.2 q (h.2.2.2.2 q z)⟩
theorem tE.of (hz : H.size ≤ H1.size) (hR : ∀ n q, tR cI A n H q → tR cI A n H1 q)
    (hG : ∀ n q f, A q → H[q]? = some (vp_cell cG (n, tq f)) → ∃ f', H1[q]? = some (vp_cell cG (n, tq f')) ∧ (∀ i, n = 3 → f' i = f i) ∧ ∀ i y, f' i = some y → f i = some y ∨ ∃ k, tR cI A k H y)
    (hL : ∀ q f, A q → H[q]? = some (vp_cell cH (8, tq f)) → H1[q]? = some (vp_cell cH (8, tq f))) : tE cI cG cH A H H1 := by
  have g : ∀ n q, tG cI cG A n H q → tG cI cG A n H1 q := by
    rintro n q ⟨hA, f, h1, h2⟩
    obtain ⟨f', e1, -, e3⟩ := hG n q f hA h1
    refine ⟨hA, f', e1, fun i y hi hy => ?_⟩
    rcases e3 i y hy with z | ⟨k, z⟩
    · obtain ⟨k, w⟩ := h2 i y hi z
      exact ⟨k, hR k y w⟩
    · exact ⟨k, hR k y z⟩
  refine ⟨hz, hR, g, ?_, ?_⟩
  · rintro q ⟨hA, f, h1, h2⟩
    refine ⟨hA, f, hL q f hA h1, fun i hi => ?_⟩
    obtain ⟨y, e, w⟩ := h2 i hi
    exact ⟨y, e, g 12 y w⟩
  · rintro q ⟨hA, f, h1, h2⟩
    obtain ⟨f', e1, e2, -⟩ := hG 3 q f hA h1
    refine ⟨hA, f', e1, fun i hi => ?_⟩
    obtain ⟨y, e, w⟩ := h2 i hi
    exact ⟨y, (e2 i rfl).trans e, hR 2 y w⟩
/-- what the places of A bear is the same -/
theorem tE.old (hz : H.size ≤ H1.size) (hk : ∀ q, q < H.size → A q → H1[q]? = H[q]?) : tE cI cG cH A H H1 :=
  tE.of hz (fun n q ⟨hA, f, h⟩ => ⟨hA, f, (hk q (tlt h) hA).trans h⟩) (fun n q f hA h => ⟨f, (hk q (tlt h) hA).trans h, fun _ _ => rfl, fun _ _ z => Or.inl z⟩) (fun q f hA h => (hk q (tlt h) hA).trans h)
/-- one place of A changes -/
theorem tE.one {w : Nat} (hz : H1.size = H.size) (hk : ∀ q, q ≠ w → H1[q]? = H[q]?) (hR : ∀ n f, H[w]? = some (vp_cell cI (n, .inl f)) → ∃ f', H1[w]? = some (vp_cell cI (n, .inl f')))
    (hG : ∀ n f, H[w]? = some (vp_cell cG (n, tq f)) → ∃ f', H1[w]? = some (vp_cell cG (n, tq f')) ∧ (∀ i, n = 3 → f' i = f i) ∧ ∀ i y, f' i = some y → f i = some y ∨ ∃ k, tR cI A k H y) (hL : ∀ f, ¬ H[w]? = some (vp_cell cH (8, tq f))) : tE cI cG cH A H H1 := by
  refine tE.of (Nat.le_of_eq hz.symm) ?_ ?_ ?_
  · rintro n q ⟨hA, f, h⟩
    by_cases e : q = w
    · subst e
      obtain ⟨f', h'⟩ := hR n f h
      exact ⟨hA, f', h'⟩
    · exact ⟨hA, f, (hk q e).trans h⟩
  · intro n q f hA h
    by_cases e : q = w
    · subst e
      exact hG n f h
    · exact ⟨f, (hk q e).trans h, fun _ _ => rfl, fun _ _ z => Or.inl z⟩
  · intro q f hA h
    by_cases e : q = w
    · subst e
      exact absurd h (hL f)
    · exact (hk q e).trans h
theorem tcls {c1 c2 : ClassId} {a1 a2 : vp_A} {q : Nat} (h1 : H[q]? = some (vp_cell c1 a1)) (h2 : H[q]? = some (vp_cell c2 a2)) : c1 = c2 := by
  have e := Option.some.inj (h1.symm.trans h2)
  have k : ∀ (c : ClassId) (a : vp_A), (vp_cell c a).cls = c := fun c a => by
    obtain ⟨n, f | f | f | f | f⟩ := a <;> rfl
  have e2 := congrArg Cell.cls e
  rwa [k, k] at e2
theorem tlen {c : ClassId} {n1 n2 : Nat} {f1 f2 : Nat → Option Nat} {q : Nat} (h1 : H[q]? = some (vp_cell c (n1, tq f1))) (h2 : H[q]? = some (vp_cell c (n2, tq f2))) : n1 = n2 := by
  have e := congrArg (fun z => z.slots.size) (Option.some.inj (h1.symm.trans h2))
  rw [vp_cell_q, vp_cell_q, arrV_size, arrV_size] at e
  exact e
theorem tlenI {c : ClassId} {n1 n2 : Nat} {f1 f2 : Nat → Int32} {q : Nat} (h1 : H[q]? = some (vp_cell c (n1, .inl f1))) (h2 : H[q]? = some (vp_cell c (n2, .inl f2))) : n1 = n2 := by
  have e := congrArg (fun z => z.slots.size) (Option.some.inj (h1.symm.trans h2))
  rw [vp_cell_i, vp_cell_i, arrV_size, arrV_size] at e
  exact e
end TE
/-- what is known of the classes -/
def tK (D : va_G) (cI cG cH : ClassId) (s : State) : Prop := va_K D tClT (tTys cI cG cH) s ∧ (∃ k : Class, s.vm.classes[cG]? = some k ∧ k.kind = .array cI (.array .int)) ∧ (∃ k : Class, s.vm.classes[cH]? = some k ∧ k.kind = .array cG (.array (.array .int))) ∧ s.vm.findClass (FieldType.array .int).toString = some cI ∧ s.vm.findClass (FieldType.array (.array .int)).toString = some cG ∧ vq_AOA .int s ∧ vq_AOA (.array .int) s
theorem tK.moved {D : va_G} {cI cG cH : ClassId} {u U : State} (hal : u.vm.Alike U.vm) (h : tK D cI cG cH u) : tK D cI cG cH U := by
  obtain ⟨h1, ⟨k, h2, h3⟩, ⟨k', h4, h5⟩, h6, h7, h8, h9⟩ := h
  obtain ⟨z, z1, z2⟩ := hal.2.2 _ _ h2
  obtain ⟨y, y1, y2⟩ := hal.2.2 _ _ h4
  exact ⟨va_K.moved hal h1, ⟨z, z1, by rw [z2]; exact h3⟩, ⟨y, y1, by rw [y2]; exact h5⟩, by rw [hal.findClass]; exact h6, by rw [hal.findClass]; exact h7, vq_AOA.moved hal h8, vq_AOA.moved hal h9⟩
theorem tK.ne {D : va_G} {cI cG cH : ClassId} {s : State} (h : tK D cI cG cH s) : ¬ cI = cG ∧ ¬ cI = cH ∧ ¬ cG = cH ∧ ¬ D.1 0 = cI ∧ ¬ D.1 0 = cG ∧ ¬ D.1 0 = cH := by
  obtain ⟨h1, ⟨k, h2, h3⟩, ⟨k', h4, h5⟩, -⟩ := h
  obtain ⟨-, k0, h6, cm, h7⟩ := (h1.2 0 _ rfl).1 0 (fun _ => .null)
  have h6' : s.vm.classes[cI]? = some k0 := h6
  obtain ⟨-, -, kC, hkC, hkind⟩ := h1.1 0 _ rfl
  refine ⟨fun e => ?_, fun e => ?_, fun e => ?_, fun e => ?_, fun e => ?_, fun e => ?_⟩
  · subst e
    cases h6'.symm.trans h2
    rw [h3] at h7
    cases h7
  · subst e
    cases h6'.symm.trans h4
    rw [h5] at h7
    cases h7
  · subst e
    cases h2.symm.trans h4
    rw [h5] at h3
    cases h3
  · rw [e] at hkC
    cases h6'.symm.trans hkC
    rw [h7] at hkind
    cases hkind
  · rw [e] at hkC
    cases h2.symm.trans hkC
    rw [h3] at hkind
    cases hkind
  · rw [e] at hkC
    cases h4.symm.trans hkC
    rw [h5] at hkind
    cases hkind
