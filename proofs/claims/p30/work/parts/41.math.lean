-- words of the tables, and what stands at each place of the methods' code (laid by program)
/-! what follows of it: what would be is what comes -/
theorem jRL_of {a c d e f k i s : Nat} (h : jLv a c d e f 0 k i s) : jRL a c d e f k i s = true := by
  unfold jRL jRA jRS
  simp only [Bool.or_eq_true, Bool.and_eq_true, beq_iff_eq, decide_eq_true_eq]
  rcases h with q | q | q | q | q | q | q | q
  · exact Or.inl (Or.inl (Or.inl (Or.inl (Or.inl (Or.inl ⟨⟨q.1, q.2.1⟩, q.2.2⟩)))))
  · refine Or.inl (Or.inl (Or.inl (Or.inl (Or.inl (Or.inr ⟨q.1, ?_⟩)))))
    rcases q.2 with z | z
    · exact Or.inl z
    · exact Or.inr ⟨⟨z.1, z.2.1⟩, z.2.2⟩
  · exact Or.inl (Or.inl (Or.inl (Or.inl (Or.inr ⟨⟨q.1, q.2.1⟩, q.2.2⟩))))
  · exact Or.inl (Or.inl (Or.inl (Or.inr ⟨⟨q.1, q.2.1⟩, q.2.2⟩)))
  · have h2 : i = 0 ∨ i = 1 := by omega
    rcases h2 with z | z
    · exact Or.inl (Or.inl (Or.inr ⟨z, Or.inl ⟨q.1, q.2.2⟩⟩))
    · exact Or.inl (Or.inr ⟨z, Or.inl ⟨q.1, q.2.2⟩⟩)
  · have hk : (k = 7 ∨ k = 13) ∨ k = 8 := by omega
    rcases q.2 with z | z
    · exact Or.inl (Or.inl (Or.inr ⟨z.1, Or.inr ⟨hk, z.2⟩⟩))
    · exact Or.inl (Or.inr ⟨z.1, Or.inr ⟨hk, z.2⟩⟩)
  · exact Or.inr ⟨⟨q.1, q.2.1⟩, q.2.2⟩
  · exact absurd q.2.2 (Nat.not_lt_zero _)
abbrev jQw (w v v' : jN) : Prop := jQ (jGc w) (jSc w) (jWc w) (jNc w 0) (jNc w 1) 0 v v'
theorem jQw.rf {w : jN} (hw : jWf w) : jQw w w w := ⟨⟨hw.1.2, hw.2.1.2, hw.2.2.1.2⟩, ⟨rfl, rfl, rfl, rfl, rfl⟩, fun _ _ _ _ => rfl⟩
theorem jLike_q {w v : jN} (hw : jWf w) : jQw w (jLike w v) w := by
  have cnt : ∀ k i s, ((k = 1 ∧ i = 0 ∧ s < 7) ∨ (k = 5 ∧ i < 2 ∧ s = 3)) → jLike w v k i s = w k i s := fun k i s h => jLike_c h
  refine ⟨⟨hw.1.2, hw.2.1.2, hw.2.2.1.2⟩, ⟨?_, ?_, ?_, ?_, ?_⟩, fun k i s h => ?_⟩
  · exact congrArg Int32.toNatClampNeg (cnt 1 0 4 (by omega))
  · exact congrArg Int32.toNatClampNeg (cnt 1 0 5 (by omega))
  · exact congrArg Int32.toNatClampNeg (cnt 1 0 6 (by omega))
  · exact congrArg Int32.toNatClampNeg (cnt 5 0 3 (by omega))
  · exact congrArg Int32.toNatClampNeg (cnt 5 1 3 (by omega))
  · unfold jLike
    exact jCp_t (jRL_of h)
/-! n minutes -/
theorem jMs_s (v : jN) (n : Nat) : jMs v (n + 1) = jMin (jMs v n) := rfl
theorem itr_1 {F : jN → jN} {M : jN → Nat → jN} (h0 : ∀ t, M t 0 = t) (hs : ∀ t n, M t (n + 1) = F (M t n)) (v : jN) : ∀ n, M (F v) n = M v (n + 1)
  | 0 => by rw [hs, h0, h0]
  | n + 1 => by rw [hs, itr_1 h0 hs v n, hs v (n + 1)]
theorem itr_add {F : jN → jN} {M : jN → Nat → jN} (h0 : ∀ t, M t 0 = t) (hs : ∀ t n, M t (n + 1) = F (M t n)) (v : jN) (n : Nat) : ∀ m, M (M v n) m = M v (n + m)
  | 0 => by rw [h0, Nat.add_zero]
  | m + 1 => by rw [hs, itr_add h0 hs v n m, ← hs, Nat.add_assoc]
theorem jMs_0 (v : jN) : jMs v 0 = v := rfl
theorem jMs_1 (v : jN) (n : Nat) : jMs (jMin v) n = jMs v (n + 1) := itr_1 jMs_0 jMs_s v n
theorem jMs_add (v : jN) (n m : Nat) : jMs (jMs v n) m = jMs v (n + m) := itr_add jMs_0 jMs_s v n m
theorem jSum_s (f : Nat → Int32) (n : Nat) : jSum f (n + 1) = jSum f n + f n := rfl
theorem itr_pl {P : jN → Nat → jN × Int32} {F : jN → jN} {T : jN → Int32} {M : jN → Nat → jN} (h0 : ∀ t, M t 0 = t) (hs : ∀ t n, M t (n + 1) = F (M t n)) (p0 : ∀ v, P v 0 = (v, 0)) (ps : ∀ v n, P v (n + 1) = (F (P v n).1, (P v n).2 + T (P v n).1)) (v : jN) : ∀ n, P v n = (M v n, jSum (fun i => T (M v i)) n)
  | 0 => by rw [p0, h0]; rfl
  | n + 1 => by
    rw [ps, itr_pl h0 hs p0 ps v n, jSum_s, hs]
theorem jPlay_ms (v : jN) (n : Nat) : jPlay v n = (jMs v n, jSum (fun i => jMinT (jMs v i)) n) := itr_pl jMs_0 jMs_s (P := jPlay) (fun _ => rfl) (fun v n => by rw [jPlay_e, jPlay_s, ← jPlay_e]) v n
theorem jMs_keep (v : jN) : ∀ n, jKeep v (jMs v n)
  | 0 => jKeep.rf
  | n + 1 => (jMs_keep v n).tr (jMin_keep _)
theorem jMs_pl {v : jN} (hs : jSc v ≤ 3) (h : jPl v) : ∀ n, jPl (jMs v n)
  | 0 => h
  | n + 1 => jMin_pl (by rw [(jMs_keep v n).sc]; exact hs) (jMs_pl hs h n)
theorem jQ.ms {a c d e f : Nat} {v v' : jN} (h : jQ a c d e f 0 v v') (hp : jPl v) : ∀ n, jQ a c d e f 0 (jMs v n) (jMs v' n)
  | 0 => h
  | n + 1 => ((jQ.ms h hp n).min (jMs_pl (by rw [h.2.1.2.1]; exact h.1.2.1) hp n)).1
theorem jQ.belv {a c d e f t : Nat} {v v' : jN} (h : jQ a c d e f t v v') : jBelv v = jBelv v' := by
  unfold jBelv
  rw [h.2.1.1, h.gc']
  refine jSum_cg a (fun g hg => ?_)
  rw [h.lt hg, h.g hg (by omega)]
/-! in how many minutes a group is safe -/
def jSfi (v : jN) (g : Nat) : Nat → Nat → Int32
  | _, 0 => -1
  | n, m + 1 => if jSafe (jMs v (n + 1)) g then nI (n + 1) else jSfi v g (n + 1) m
theorem jSft_i {a c d e f : Nat} {v : jN} (g : Nat) (hg : g < a) (hs : jSc v ≤ 3) (hp : jPl v) : ∀ (m n : Nat) (t : jN), jPl t → jQ a c d e f 0 t (jMs v n) → (jSft t g n m).1 = jSfi v g n m
  | 0, _, _, _, _ => rfl
  | m + 1, n, t, ht, h => by
    have h2 := (h.min ht).1
    have p2 : jPl (jMin t) := jMin_pl (by rw [h.2.1.2.1]; exact h.1.2.1) ht
    have ih := jSft_i g hg hs hp m (n + 1) (jMin t) p2 h2
    unfold jSft jSfi
    have e := h2.safe hg
    rw [← jMs_s] at e
    by_cases z : jSafe (jMin t) g
    · rw [if_pos z, if_pos (e.mp z)]
    · rw [if_neg z, if_neg (fun y => z (e.mpr y))]
      exact ih
def jSafeN (w : jN) (g m : Nat) : Int32 := if jSafe w g then 0 else jSfi w g 0 m
theorem jSafeIn_n {w v : jN} (hw : jWf w) (hp : jPl w) (hp1 : jPl v) {g m : Nat} (hg : g < jGc w) : (jSafeIn w v g m).1 = jSafeN w g m := by
  unfold jSafeIn jSafeN
  by_cases z : jSafe w g
  · rw [if_pos z, if_pos z]
  · rw [if_neg z, if_neg z]
    exact jSft_i g hg hw.2.1.2 hp m 0 _ (jLike_pl hp hp1) (jLike_q hw)
theorem jSft_pl {g : Nat} : ∀ (m n : Nat) (t : jN), jSc t ≤ 3 → jPl t → jPl (jSft t g n m).2
  | 0, _, _, _, h => h
  | m + 1, n, t, hs, h => by
    have p2 : jPl (jMin t) := jMin_pl hs h
    by_cases z : jSafe (jMin t) g
    · rw [jSft_t z]
      dsimp only
      exact p2
    · rw [jSft_f z]
      exact jSft_pl m (n + 1) (jMin t) (by rw [(jMin_keep t).sc]; exact hs) p2
theorem jSafeIn_pl {w v : jN} (hw : jWf w) (hp : jPl w) (hp1 : jPl v) (g m : Nat) : jPl (jSafeIn w v g m).2 := by
  unfold jSafeIn
  split
  · exact hp1
  · exact jSft_pl m 0 _ (jLike_wf (v := v) hw).2.1.2 (jLike_pl hp hp1)
/-- what safeIn answers, as a minute -/
theorem jSfi_or (v : jN) (g : Nat) : ∀ m n, (jSfi v g n m = -1 ∧ ∀ x, n < x → x ≤ n + m → ¬ jSafe (jMs v x) g) ∨ ∃ y, n < y ∧ y ≤ n + m ∧ jSfi v g n m = nI y ∧ jSafe (jMs v y) g ∧ ∀ x, n < x → x < y → ¬ jSafe (jMs v x) g
  | 0, n => Or.inl ⟨rfl, fun x h1 h2 => by omega⟩
  | m + 1, n => by
    unfold jSfi
    by_cases z : jSafe (jMs v (n + 1)) g
    · rw [if_pos z]
      exact Or.inr ⟨n + 1, by omega, by omega, rfl, z, fun x h1 h2 => by omega⟩
    · rw [if_neg z]
      rcases jSfi_or v g m (n + 1) with ⟨e, h⟩ | ⟨y, h1, h2, e, h3, h4⟩
      · refine Or.inl ⟨e, fun x hx1 hx2 => ?_⟩
        by_cases q : x = n + 1
        · rw [q]; exact z
        · exact h x (by omega) (by omega)
      · refine Or.inr ⟨y, by omega, by omega, e, h3, fun x hx1 hx2 => ?_⟩
        by_cases q : x = n + 1
        · rw [q]; exact z
        · exact h4 x (by omega) hx2
/-! what a minute leaves: who is safe stays so, and how many a group's people are -/
def jSk (v v' : jN) : Prop := (∀ g, jSafe v g → jSafe v' g) ∧ ∀ g, v' 9 g 1 = v 9 g 1
theorem jSk.rf {v : jN} : jSk v v := ⟨fun _ h => h, fun _ => rfl⟩
theorem jSk.tr {v v' v'' : jN} (h : jSk v v') (h' : jSk v' v'') : jSk v v'' := ⟨fun g z => h'.1 g (h.1 g z), fun g => (h'.2 g).trans (h.2 g)⟩
theorem jSk.up {v v' : jN} {k i s : Nat} {x : Int32} (h : jSk v v') (hk : ¬ k = 9 ∨ (¬ s = 1 ∧ (¬ s = 6 ∨ ¬ x = -1))) : jSk v (jUp v' k i s x) := by
  refine ⟨fun g z => ?_, fun g => ?_⟩
  · have z' := h.1 g z
    show ¬ (if 9 = k ∧ g = i ∧ 6 = s then x else v' 9 g 6) = -1
    by_cases q : 9 = k ∧ g = i ∧ 6 = s
    · rw [if_pos q]
      rcases hk with hk | ⟨_, hk | hk⟩
      · exact absurd q.1.symm hk
      · exact absurd q.2.2.symm hk
      · exact hk
    · rw [if_neg q]
      exact z'
  · rw [← h.2 g]
    exact if_neg (fun q => by
      rcases hk with hk | hk
      · exact hk q.1.symm
      · exact hk.1 q.2.2.symm)
theorem jSk.it {F : Nat → jN → jN} (hF : ∀ i v, jSk v (F i v)) (v : jN) : ∀ n, jSk v (jIt F n v)
  | 0 => jSk.rf
  | n + 1 => (jSk.it hF v n).tr (hF n _)
theorem jSk.it2 {F : Nat → jN × Int32 → jN × Int32} (hF : ∀ i v, jSk v.1 (F i v).1) (v : jN × Int32) : ∀ n, jSk v.1 (jIt F n v).1
  | 0 => jSk.rf
  | n + 1 => (jSk.it2 hF v n).tr (hF n _)
theorem jNote_sk (v : jN) (g w : Nat) (x y z : Int32) : jSk v (jNote v g w x y z) := by
  unfold jNote
  refine jSk.up ?_ (by omega)
  unfold jNote0
  split
  · exact ((jSk.rf.up (by omega)).up (by omega)).up (by omega)
  · exact jSk.rf
theorem jHearAll_sk (v : jN) : jSk v (jHearAll v) := by
  refine jSk.it (fun g u => ?_) v _
  unfold jHearG
  split
  · exact jSk.rf
  · refine jSk.it (fun w y => ?_) u _
    unfold jHearW
    split
    · exact jSk.rf
    · exact jNote_sk _ _ _ _ _ _
theorem jChooseAll_sk (v : jN) : jSk v (jChooseAll v) := by
  refine jSk.it2 (fun w q => ?_) (v, v 1 0 1) _
  unfold jChoose
  split
  · exact jSk.rf.up (by omega)
  · exact (jSk.rf.up (by omega)).up (by omega)
theorem jBelAll_sk (v : jN) : jSk v (jBelAll v).1 := by
  refine jSk.it2 (fun g q => ?_) (v, 0) _
  unfold jBelG
  split
  · exact jSk.rf
  · refine jSk.it2 (fun w u => ?_) (q.1, 0) _
    unfold jBel1
    split
    · exact jSk.rf
    · split
      · split
        · exact jSk.rf
        · exact jSk.rf.up (by omega)
      · exact jSk.rf
theorem jGoAll_sk (v : jN) : jSk v (jGoAll v) := by
  refine jSk.it (fun g u => ?_) v _
  unfold jGoG
  split
  · exact jSk.rf
  · split
    · exact jSk.rf
    · split
      · unfold jGoOne
        by_cases z : jGoal u g < 0
        · rw [if_pos z]
          exact jSk.rf
        · rw [if_neg z]
          split
          · split
            · exact (jSk.rf.up (by omega)).up (Or.inr ⟨by omega, Or.inr (fun y => z (by rw [y]; decide))⟩)
            · exact jSk.rf.up (by omega)
          · exact jSk.rf
      · exact jSk.rf
theorem jHarmAll_sk (v : jN) : jSk v (jHarmAll v) := by
  refine jSk.it (fun g u => ?_) v _
  unfold jHarm
  split
  · exact jSk.rf.up (by omega)
  · exact jSk.rf
theorem jMin_sk (v : jN) : jSk v (jMin v) := by
  unfold jMin jM5 jM4 jM3
  exact ((((jSk.rf.up (by omega)).tr (jChooseAll_sk _)).tr (jHearAll_sk _)).tr (jBelAll_sk _)).tr ((jGoAll_sk _).tr (jHarmAll_sk _))
theorem jMs_sk (v : jN) : ∀ n, jSk v (jMs v n)
  | 0 => jSk.rf
  | n + 1 => (jMs_sk v n).tr (jMin_sk _)
theorem jMs_safe {v : jN} {g x y : Nat} (h : jSafe (jMs v x) g) (hxy : x ≤ y) : jSafe (jMs v y) g := by
  obtain ⟨m, rfl⟩ := Nat.le.dest hxy
  rw [← jMs_add]
  exact (jMs_sk _ m).1 g h
/-- the law's words: not safe now: safe in x minutes just where safeIn's answer is a minute up to x -/
theorem jSafeN_is {v : jN} {g m x : Nat} (hm : m ≤ 60) (hn : ¬ jSafe v g) (hx : 1 ≤ x ∧ x ≤ m) : jSafe (jMs v x) g ↔ (0 < jSafeN v g m ∧ jSafeN v g m ≤ nI x) := by
  have e0 : jSafeN v g m = jSfi v g 0 m := if_neg hn
  rw [e0]
  rcases jSfi_or v g m 0 with ⟨e, h⟩ | ⟨y, h1, h2, e, h3, h4⟩
  · rw [e]
    exact ⟨fun z => absurd z (h x (by omega) (by omega)), fun z => absurd z.1 (by decide)⟩
  · rw [e]
    have hy0 : (0 : Int32) < nI y := by
      rw [← nI_0]
      exact nI_lt h1 (by omega)
    constructor
    · intro z
      refine ⟨hy0, ?_⟩
      by_cases q : x < y
      · exact absurd z (h4 x (by omega) q)
      · exact nI_le (by omega) (by omega)
    · rintro ⟨_, z⟩
      refine jMs_safe h3 ?_
      by_cases q : x < y
      · exact absurd z (nI_ge q (by omega))
      · omega
theorem jSafeN_le {v : jN} {g m : Nat} (hm : m ≤ 60) : jSafeN v g m ≤ nI m := by
  unfold jSafeN
  split
  · rw [← nI_0]
    exact nI_le (by omega) (by omega)
  · rcases jSfi_or v g m 0 with ⟨e, h⟩ | ⟨y, h1, h2, e, h3, h4⟩
    · rw [e]
      exact Int32.le_trans (show (-1 : Int32) ≤ 0 by decide) (by rw [← nI_0]; exact nI_le (by omega) (by omega))
    · rw [e]
      exact nI_le (by omega) (by omega)
/-! one more siren -/
def jWouldN (w : jN) (c r : Int32) (n : Nat) : Int32 := jBelv (jMs (jAddS w 0 c r) n) - jBelv (jMs w n)
theorem jQ.addS {a c d e f : Nat} {v v' : jN} (h : jQ a c d e f 0 v v') (h4 : e ≤ 4) (hv : v 5 0 3 = nI e) (x y : Int32) : jQ a c d (e + 1) f 0 (jAddS v 0 x y) (jAddS v' 0 x y) := by
  have e0 : jNc v 0 = e := h.2.1.2.2.2.1
  have e1 : jNc v' 0 = e := h.nc'.1
  have e5 : v 5 0 3 = v' 5 0 3 := h.2.2 5 0 3 (Or.inr (Or.inr (Or.inr (Or.inr (Or.inl ⟨rfl, by omega, rfl⟩)))))
  have c5 : jAddS v 0 x y 5 0 3 = nI (e + 1) := by
    unfold jAddS
    rw [jUp_at]
    exact jinc hv
  have cn : ∀ i s, jAddS v 0 x y 1 i s = v 1 i s := fun i s => by
    unfold jAddS
    rw [jUp_k (by omega), jUp_k (by omega), jUp_k (by omega), jUp_k (by omega)]
  have cf : jAddS v 0 x y 5 1 3 = v 5 1 3 := by
    unfold jAddS
    rw [jUp_i (by omega), jUp_k (by omega), jUp_k (by omega), jUp_k (by omega)]
  refine ⟨h.1, ⟨?_, ?_, ?_, ?_, ?_⟩, fun k i s q => ?_⟩
  · exact (congrArg Int32.toNatClampNeg (cn 0 4)).trans h.2.1.1
  · exact (congrArg Int32.toNatClampNeg (cn 0 5)).trans h.2.1.2.1
  · exact (congrArg Int32.toNatClampNeg (cn 0 6)).trans h.2.1.2.2.1
  · exact (congrArg Int32.toNatClampNeg c5).trans (jcl rfl (by omega))
  · exact (congrArg Int32.toNatClampNeg cf).trans h.2.1.2.2.2.2
  · unfold jAddS
    rw [e0, e1, e5]
    unfold jUp
    by_cases z1 : k = 5 ∧ i = 0 ∧ s = 3
    · rw [if_pos z1, if_pos z1]
    · rw [if_neg z1, if_neg z1]
      by_cases z2 : k = 8 ∧ i = 0 ∧ s = e
      · rw [if_pos z2, if_pos z2]
      · rw [if_neg z2, if_neg z2]
        by_cases z3 : k = 13 ∧ i = 0 ∧ s = e
        · rw [if_pos z3, if_pos z3]
        · rw [if_neg z3, if_neg z3]
          by_cases z4 : k = 7 ∧ i = 0 ∧ s = e
          · rw [if_pos z4, if_pos z4]
          · rw [if_neg z4, if_neg z4]
            refine h.2.2 k i s ?_
            rcases q with q | q | q | q | q | q | q | q
            · exact Or.inl q
            · exact Or.inr (Or.inl q)
            · exact Or.inr (Or.inr (Or.inl q))
            · exact Or.inr (Or.inr (Or.inr (Or.inl q)))
            · exact Or.inr (Or.inr (Or.inr (Or.inr (Or.inl q))))
            · refine Or.inr (Or.inr (Or.inr (Or.inr (Or.inr (Or.inl ⟨q.1, ?_⟩)))))
              rcases q.2 with y | y
              · refine Or.inl ⟨y.1, ?_⟩
                have h9 : ¬ s = e := fun w => by
                  rcases q.1 with x | x | x
                  · exact z4 ⟨x, y.1, w⟩
                  · exact z3 ⟨x, y.1, w⟩
                  · exact z2 ⟨x, y.1, w⟩
                omega
              · exact Or.inr y
            · exact Or.inr (Or.inr (Or.inr (Or.inr (Or.inr (Or.inr (Or.inl q))))))
            · exact absurd q.2.2 (Nat.not_lt_zero _)
theorem jWould_n {w v : jN} (hw : jWf w) (hp : jPl w) (hp1 : jPl v) (h4 : jNc w 0 ≤ 4) (c r : Int32) (n : Nat) : jBelv (jW2 w v c r n) - jBelv (jW1 w v n) = jWouldN w c r n := by
  have p1 : jPl (jLike w v) := jLike_pl hp hp1
  have q1 : jQw w (jLike w v) w := jLike_q hw
  have e1 : jW1 w v n = jMs (jLike w v) n := by
    unfold jW1
    rw [jPlay_ms]
  have b1 : jBelv (jW1 w v n) = jBelv (jMs w n) := by
    rw [e1]
    exact (q1.ms p1 n).belv
  have pw : jPl (jW1 w v n) := by
    rw [e1]
    exact jMs_pl (jLike_wf hw).2.1.2 p1 n
  have p2 : jPl (jLike w (jW1 w v n)) := jLike_pl hp pw
  have q2 : jQw w (jLike w (jW1 w v n)) w := jLike_q hw
  have e2 : jW2 w v c r n = jMs (jAddS (jLike w (jW1 w v n)) 0 c r) n := by
    unfold jW2
    rw [jPlay_ms]
  have b2 : jBelv (jW2 w v c r n) = jBelv (jMs (jAddS w 0 c r) n) := by
    rw [e2]
    refine ((q2.addS h4 ?_ c r).ms (jAddS_pl p2) n).belv
    rw [jLike_c (by omega)]
    exact hw.2.2.2.1.1
  rw [b1, b2]
  rfl
theorem jW2_pl {w v : jN} (hw : jWf w) (hp : jPl w) (hp1 : jPl v) (h4 : jNc w 0 ≤ 4) (c r : Int32) (n : Nat) : jPl (jW2 w v c r n) := by
  have p1 : jPl (jLike w v) := jLike_pl hp hp1
  have pw : jPl (jW1 w v n) := by
    unfold jW1
    rw [jPlay_ms]
    exact jMs_pl (jLike_wf hw).2.1.2 p1 n
  have wl := jLike_wf (v := jW1 w v n) hw
  have n2 : jNc (jLike w (jW1 w v n)) 0 ≤ 4 := by
    unfold jNc
    rw [jLike_c (by omega)]
    exact h4
  unfold jW2
  rw [jPlay_ms]
  exact jMs_pl (jAddS_wf wl n2).2.1.2 (jAddS_pl (jLike_pl hp pw)) n
/-! sums of people -/
theorem jSum_le {f h : Nat → Int32} : ∀ n, n ≤ 8 → (∀ j, j < n → 0 ≤ (f j).toInt ∧ (f j).toInt ≤ (h j).toInt ∧ (h j).toInt ≤ 99) → 0 ≤ (jSum f n).toInt ∧ (jSum f n).toInt ≤ (jSum h n).toInt ∧ (jSum h n).toInt ≤ 99 * n
  | 0, _, _ => ⟨by show (0 : Int) ≤ (0 : Int32).toInt; decide, by show (0 : Int32).toInt ≤ (0 : Int32).toInt; decide, by show (0 : Int32).toInt ≤ 99 * ((0 : Nat) : Int); decide⟩
  | n + 1, hn, H => by
    obtain ⟨a1, a2, a3⟩ := jSum_le n (by omega) (fun j hj => H j (by omega))
    obtain ⟨b1, b2, b3⟩ := H n (by omega)
    have e1 : (jSum f (n + 1)).toInt = (jSum f n).toInt + (f n).toInt := by
      show (jSum f n + f n).toInt = _
      rw [Int32.toInt_add]
      exact Int.bmod_eq_of_le (by omega) (by omega)
    have e2 : (jSum h (n + 1)).toInt = (jSum h n).toInt + (h n).toInt := by
      show (jSum h n + h n).toInt = _
      rw [Int32.toInt_add]
      exact Int.bmod_eq_of_le (by omega) (by omega)
    omega
/-- how many a group's people may be -/
def jPp (v : jN) : Prop := ∀ g, g < jGc v → 0 ≤ (v 9 g 1).toInt ∧ (v 9 g 1).toInt ≤ 99
theorem jBelv_le {w v : jN} (hw : jWf w) (hp : jPp w) (hc : jGc v = jGc w) (hv : ∀ g, v 9 g 1 = w 9 g 1) : 0 ≤ (jBelv v).toInt ∧ (jBelv v).toInt ≤ (jSum (fun g => w 9 g 1) (jGc w)).toInt ∧ (jSum (fun g => w 9 g 1) (jGc w)).toInt ≤ 99 * 8 := by
  have h8 := hw.1.2
  have := jSum_le (f := fun g => if jLt v g = -1 then 0 else v 9 g 1) (h := fun g => w 9 g 1) (jGc w) h8 (fun j hj => by
    have h1 := hp j hj
    split
    · exact ⟨by decide, by rw [show (0 : Int32).toInt = 0 from by decide]; exact h1.1, h1.2⟩
    · rw [hv j]
      exact ⟨h1.1, Int.le_refl _, h1.2⟩)
  unfold jBelv
  rw [hc]
  omega
theorem jAddS_p (v : jN) (c r : Int32) (g s : Nat) : jAddS v 0 c r 9 g s = v 9 g s := by
  unfold jAddS
  rw [jUp_k (by omega), jUp_k (by omega), jUp_k (by omega), jUp_k (by omega)]
theorem jAddS_gc (v : jN) (c r : Int32) : jGc (jAddS v 0 c r) = jGc v := by
  refine congrArg Int32.toNatClampNeg ?_
  unfold jAddS
  rw [jUp_k (by omega), jUp_k (by omega), jUp_k (by omega), jUp_k (by omega)]
theorem jWouldN_le {w : jN} (hw : jWf w) (hp : jPp w) (c r : Int32) (n : Nat) : jWouldN w c r n ≤ jMany w 3 := by
  have h1 := jBelv_le hw hp (v := jMs (jAddS w 0 c r) n) (by rw [(jMs_keep _ n).gc, jAddS_gc]) (fun g => by rw [(jMs_sk _ n).2 g, jAddS_p])
  have h2 := jBelv_le hw hp (v := jMs w n) (by rw [(jMs_keep _ n).gc]) (fun g => (jMs_sk _ n).2 g)
  have e3 : jMany w 3 = jSum (fun g => w 9 g 1) (jGc w) := by
    unfold jMany
    rw [if_neg (by decide), if_neg (by decide), if_neg (by decide), if_pos rfl]
  rw [e3]
  refine Int32.le_iff_toInt_le.mpr ?_
  unfold jWouldN
  rw [Int32.toInt_sub, Int.bmod_eq_of_le (by omega) (by omega)]
  omega
