-- words of the tables, and what stands at each place of the methods' code (laid by program)
/-! where a group is, is no shelter or the number of one -/
def jS6 (v : jN) : Prop := ∀ g, ¬ v 9 g 6 = -1 → 0 ≤ v 9 g 6
def j6 (v v' : jN) : Prop := jS6 v → jS6 v'
theorem j6.rf {v : jN} : j6 v v := fun h => h
theorem j6.tr {v v' v'' : jN} (h : j6 v v') (h' : j6 v' v'') : j6 v v'' := fun z => h' (h z)
theorem j6.up {v v' : jN} {k i s : Nat} {x : Int32} (h : j6 v v') (hk : ¬ k = 9 ∨ ¬ s = 6 ∨ 0 ≤ x) : j6 v (jUp v' k i s x) := by
  intro z g
  have z' := h z g
  show ¬ (if 9 = k ∧ g = i ∧ 6 = s then x else v' 9 g 6) = -1 → 0 ≤ (if 9 = k ∧ g = i ∧ 6 = s then x else v' 9 g 6)
  by_cases q : 9 = k ∧ g = i ∧ 6 = s
  · rw [if_pos q]
    rcases hk with hk | hk | hk
    · exact absurd q.1.symm hk
    · exact absurd q.2.2.symm hk
    · exact fun _ => hk
  · rw [if_neg q]
    exact z'
theorem j6.it {F : Nat → jN → jN} (hF : ∀ i v, j6 v (F i v)) (v : jN) : ∀ n, j6 v (jIt F n v)
  | 0 => j6.rf
  | n + 1 => (j6.it hF v n).tr (hF n _)
theorem j6.it2 {F : Nat → jN × Int32 → jN × Int32} (hF : ∀ i v, j6 v.1 (F i v).1) (v : jN × Int32) : ∀ n, j6 v.1 (jIt F n v).1
  | 0 => j6.rf
  | n + 1 => (j6.it2 hF v n).tr (hF n _)
theorem jNote_j6 (v : jN) (g w : Nat) (x y z : Int32) : j6 v (jNote v g w x y z) := by
  unfold jNote
  refine j6.up ?_ (by omega)
  unfold jNote0
  split
  · exact ((j6.rf.up (by omega)).up (by omega)).up (by omega)
  · exact j6.rf
theorem jHearAll_j6 (v : jN) : j6 v (jHearAll v) := by
  refine j6.it (fun g u => ?_) v _
  unfold jHearG
  split
  · exact j6.rf
  · refine j6.it (fun w y => ?_) u _
    unfold jHearW
    split
    · exact j6.rf
    · exact jNote_j6 _ _ _ _ _ _
theorem jChooseAll_j6 (v : jN) : j6 v (jChooseAll v) := by
  refine j6.it2 (fun w q => ?_) (v, v 1 0 1) _
  unfold jChoose
  split
  · exact j6.rf.up (by omega)
  · exact (j6.rf.up (by omega)).up (by omega)
theorem jBelAll_j6 (v : jN) : j6 v (jBelAll v).1 := by
  refine j6.it2 (fun g q => ?_) (v, 0) _
  unfold jBelG
  split
  · exact j6.rf
  · refine j6.it2 (fun w u => ?_) (q.1, 0) _
    unfold jBel1
    split
    · exact j6.rf
    · split
      · split
        · exact j6.rf
        · exact j6.rf.up (by omega)
      · exact j6.rf
theorem jGoAll_j6 (v : jN) : j6 v (jGoAll v) := by
  refine j6.it (fun g u => ?_) v _
  unfold jGoG
  split
  · exact j6.rf
  · split
    · exact j6.rf
    · split
      · unfold jGoOne
        by_cases z : jGoal u g < 0
        · rw [if_pos z]
          exact j6.rf
        · rw [if_neg z]
          split
          · split
            · exact (j6.rf.up (by omega)).up (Or.inr (Or.inr (Int32.not_lt.mp z)))
            · exact j6.rf.up (by omega)
          · exact j6.rf
      · exact j6.rf
theorem jHarmAll_j6 (v : jN) : j6 v (jHarmAll v) := by
  refine j6.it (fun g u => ?_) v _
  unfold jHarm
  split
  · exact j6.rf.up (by omega)
  · exact j6.rf
theorem jMin_j6 (v : jN) : j6 v (jMin v) := by
  unfold jMin jM5 jM4 jM3
  exact ((((j6.rf.up (by omega)).tr (jChooseAll_j6 _)).tr (jHearAll_j6 _)).tr (jBelAll_j6 _)).tr ((jGoAll_j6 _).tr (jHarmAll_j6 _))
theorem jMs_j6 (v : jN) : ∀ n, j6 v (jMs v n)
  | 0 => j6.rf
  | n + 1 => (jMs_j6 v n).tr (jMin_j6 _)
theorem jGroup_j6 (v : jN) (c p t d r : Int32) : j6 v (jGroup v c p t d r) := by
  unfold jGroup
  exact (((((j6.rf.up (by omega)).up (by omega)).up (by omega)).up (by omega)).up (by omega)).up (by omega)
theorem jShel_j6 (v : jN) (c r : Int32) : j6 v (jShel v c r) := by
  unfold jShel
  exact ((j6.rf.up (by omega)).up (by omega)).up (by omega)
theorem jAddS_j6 (v : jN) (j : Nat) (c r : Int32) : j6 v (jAddS v j c r) := by
  unfold jAddS
  exact (((j6.rf.up (by omega)).up (by omega)).up (by omega)).up (by omega)
theorem jSendV_j6 (v : jN) (a d : Int32) : j6 v (jSendV v a d) := by
  unfold jSendV jSend jAppr jDraft
  exact (((((((((j6.rf.up (by omega)).up (by omega)).up (by omega)).up (by omega)).up (by omega)).up (by omega)).up (by omega)).up (by omega)).up (by omega)).up (by omega)
theorem jFG_j6 (xs : Nat → Int32) (L : Nat) (q : jN × Nat) : j6 q.1 (jFG xs L q).1 := jGroup_j6 _ _ _ _ _ _
theorem jFS_j6 (xs : Nat → Int32) (L : Nat) (q : jN × Nat) : j6 q.1 (jFS xs L q).1 := ((jShel_j6 _ _ _).tr (jAddS_j6 _ _ _ _)).tr (jAddS_j6 _ _ _ _)
theorem jIt_j6 {α : Type} {F : Nat → jN × α → jN × α} (hF : ∀ i q, j6 q.1 (F i q).1) (q : jN × α) : ∀ n, j6 q.1 (jIt F n q).1
  | 0 => j6.rf
  | n + 1 => (jIt_j6 hF q n).tr (hF n _)
theorem jFound_j6 (xs : Nat → Int32) (L : Nat) (q : jN × Nat) : j6 q.1 (jFound xs L q).1 := (jIt_j6 (fun _ q => jFG_j6 xs L q) q 5).tr (jIt_j6 (fun _ q => jFS_j6 xs L q) _ 2)
theorem wy_9l : ∀ n ∈ ww_nm, n.1 = 9 → n.2.2 < 8 := by decide +kernel
theorem wy_9m : ∀ g, g < 8 → wy_σ (9, 0, g) 6 = -1 := by decide +kernel
theorem wy_s6 : jS6 (jV wy_σ 0) := by
  intro g hne
  show 0 ≤ wy_σ (9, 0, g) 6
  by_cases h : ((9, 0, g) : vgN) ∈ ww_nm
  · exact absurd (wy_9m g (wy_9l _ h rfl)) hne
  · rw [show wy_σ (9, 0, g) = fun _ => 0 from if_neg h]
    decide
theorem jS6.ge {v : jN} (h : jS6 v) (g : Nat) : ¬ v 9 g 6 < 0 ↔ jSafe v g := by
  refine ⟨fun z y => z (by rw [y]; decide), fun z => Int32.not_lt.mpr (h g z)⟩
/-- all that stands of a land at the law's turns -/
def jJ (v : jN) (t : Nat) : Prop := jI v t ∧ jS6 v
theorem jJ.ms {v : jN} {t : Nat} (h : jJ v t) (n : Nat) : jJ (jMs v n) (t + n) := ⟨h.1.ms n, jMs_j6 v n h.2⟩
theorem jJ.danger {v : jN} {t : Nat} (h : jJ v t) (c d : Int32) : jJ (jDanger v c d) t := ⟨h.1.danger c d, (j6.rf.up (by omega)) h.2⟩
theorem jJ.now {v : jN} {t t' : Nat} (h : jJ v t) : jJ (jUp v 1 0 0 (nI t')) t' := ⟨h.1.now, (j6.rf.up (by omega)) h.2⟩
theorem jJ.send {v : jN} {t : Nat} (h : jJ v t) (h12 : jWc v < 12) (a d : Int32) : jJ (jSendV v a d) t := ⟨h.1.send h12 a d, jSendV_j6 v a d h.2⟩
theorem jBs_s (v : jN) (n : Nat) : jBs v (n + 1) = jBs v n + jBs (jMs v n) 1 := by
  show jSum (fun i => jMinT (jMs v i)) (n + 1) = jSum (fun i => jMinT (jMs v i)) n + (0 + jMinT (jMs (jMs v n) 0))
  rw [jSum_s, Int32.zero_add]
  rfl
