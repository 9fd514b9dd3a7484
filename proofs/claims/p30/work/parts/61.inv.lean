-- words of the tables, and what stands at each place of the methods' code (laid by program)
/-! what stands through all that the law tells -/
def jFr (v v' : jN) : Prop := ∀ k i s, (k = 11 ∨ k = 8 ∨ (k = 9 ∧ 1 ≤ s ∧ s ≤ 5) ∨ (k = 1 ∧ (s = 0 ∨ s = 2))) → v' k i s = v k i s
theorem jFr.rf {v : jN} : jFr v v := fun _ _ _ _ => rfl
theorem jFr.tr {v v' v'' : jN} (h : jFr v v') (h' : jFr v' v'') : jFr v v'' := fun k i s q => (h' k i s q).trans (h k i s q)
theorem jFr.up {v v' : jN} {k i s : Nat} {x : Int32} (h : jFr v v') (hk : ¬ (k = 11 ∨ k = 8 ∨ (k = 9 ∧ 1 ≤ s ∧ s ≤ 5) ∨ (k = 1 ∧ (s = 0 ∨ s = 2)))) : jFr v (jUp v' k i s x) := by
  intro k' i' s' q
  rw [← h k' i' s' q]
  exact if_neg (fun z => hk (by rw [← z.1, ← z.2.2]; exact q))
theorem jFr.it {F : Nat → jN → jN} (hF : ∀ i v, jFr v (F i v)) (v : jN) : ∀ n, jFr v (jIt F n v)
  | 0 => jFr.rf
  | n + 1 => (jFr.it hF v n).tr (hF n _)
theorem jFr.it2 {F : Nat → jN × Int32 → jN × Int32} (hF : ∀ i v, jFr v.1 (F i v).1) (v : jN × Int32) : ∀ n, jFr v.1 (jIt F n v).1
  | 0 => jFr.rf
  | n + 1 => (jFr.it2 hF v n).tr (hF n _)
theorem jNote_fr (v : jN) (g w : Nat) (x y z : Int32) : jFr v (jNote v g w x y z) := by
  unfold jNote
  refine jFr.up ?_ (by omega)
  unfold jNote0
  split
  · exact ((jFr.rf.up (by omega)).up (by omega)).up (by omega)
  · exact jFr.rf
theorem jHearAll_fr (v : jN) : jFr v (jHearAll v) := by
  refine jFr.it (fun g u => ?_) v _
  unfold jHearG
  split
  · exact jFr.rf
  · refine jFr.it (fun w y => ?_) u _
    unfold jHearW
    split
    · exact jFr.rf
    · exact jNote_fr _ _ _ _ _ _
theorem jChooseAll_fr (v : jN) : jFr v (jChooseAll v) := by
  refine jFr.it2 (fun w q => ?_) (v, v 1 0 1) _
  unfold jChoose
  split
  · exact jFr.rf.up (by omega)
  · exact (jFr.rf.up (by omega)).up (by omega)
theorem jBelAll_fr (v : jN) : jFr v (jBelAll v).1 := by
  refine jFr.it2 (fun g q => ?_) (v, 0) _
  unfold jBelG
  split
  · exact jFr.rf
  · refine jFr.it2 (fun w u => ?_) (q.1, 0) _
    unfold jBel1
    split
    · exact jFr.rf
    · split
      · split
        · exact jFr.rf
        · exact jFr.rf.up (by omega)
      · exact jFr.rf
theorem jGoAll_fr (v : jN) : jFr v (jGoAll v) := by
  refine jFr.it (fun g u => ?_) v _
  unfold jGoG
  split
  · exact jFr.rf
  · split
    · exact jFr.rf
    · split
      · unfold jGoOne
        split
        · exact jFr.rf
        · split
          · split
            · exact (jFr.rf.up (by omega)).up (by omega)
            · exact jFr.rf.up (by omega)
          · exact jFr.rf
      · exact jFr.rf
theorem jHarmAll_fr (v : jN) : jFr v (jHarmAll v) := by
  refine jFr.it (fun g u => ?_) v _
  unfold jHarm
  split
  · exact jFr.rf.up (by omega)
  · exact jFr.rf
theorem jMin_fr (v : jN) : jFr (jUp v 1 0 0 (v 1 0 0 + 1)) (jMin v) := by
  unfold jMin jM5 jM4 jM3
  exact (((jChooseAll_fr _).tr (jHearAll_fr _)).tr (jBelAll_fr _)).tr ((jGoAll_fr _).tr (jHarmAll_fr _))
theorem jMin_t (v : jN) : jMin v 1 0 0 = v 1 0 0 + 1 := by
  rw [jMin_fr v 1 0 0 (by omega)]
  exact jUp_at
theorem jMin_f (v : jN) (k i s : Nat) (h : k = 11 ∨ k = 8 ∨ (k = 9 ∧ 1 ≤ s ∧ s ≤ 5) ∨ (k = 1 ∧ s = 2)) : jMin v k i s = v k i s := by
  rw [jMin_fr v k i s (by omega)]
  exact if_neg (fun z => by omega)
/-- what is asked of a land that the law tells of; t: the minute -/
def jInv (v : jN) (t : Nat) : Prop := jWf v ∧ jBo v ∧ jPl v ∧ (∀ g, g < 8 → 0 ≤ (v 9 g 1).toInt ∧ (v 9 g 1).toInt ≤ 99) ∧ v 1 0 2 = 3 ∧ v 1 0 0 = nI t ∧ ∀ i, jWc v ≤ i → i < 12 → v 11 i 5 = 0 ∧ v 11 i 6 = -1
theorem jInv.min {v : jN} {t : Nat} (h : jInv v t) : jInv (jMin v) (t + 1) := by
  obtain ⟨hw, ⟨b1, b2, b3⟩, hp, hg, hk, ht, hu⟩ := h
  refine ⟨(jMin_keep v).wf hw, ⟨fun g hg => ?_, fun i hi => ?_, fun j s hs => ?_⟩, jMin_pl hw.2.1.2 hp, fun g hg2 => ?_, ?_, ?_, fun i hi hj12 => ?_⟩
  · rw [jMin_f v 9 g 4 (by omega), jMin_f v 9 g 5 (by omega)]
    exact b1 g hg
  · rw [jMin_f v 11 i 7 (by omega)]
    exact b2 i hi
  · rw [jMin_f v 8 j s (by omega)]
    exact b3 j s hs
  · rw [jMin_f v 9 g 1 (by omega)]
    exact hg g hg2
  · rw [jMin_f v 1 0 2 (by omega)]
    exact hk
  · rw [jMin_t, ht]
    exact (nI_succ t).symm
  · rw [jMin_f v 11 i 5 (by omega), jMin_f v 11 i 6 (by omega)]
    exact hu i (by rw [← (jMin_keep v).wc]; exact hi) hj12
theorem jInv.ms {v : jN} {t : Nat} (h : jInv v t) : ∀ n, jInv (jMs v n) (t + n)
  | 0 => h
  | n + 1 => (jInv.ms h n).min
theorem jInv.pp {v : jN} {t : Nat} (h : jInv v t) : jPp v := fun g hg => h.2.2.2.1 g (by have := h.1.1.2; omega)
/-- a change that touches none of it -/
theorem jInv.of {v v' : jN} {t t' : Nat} (h : jInv v t) (hw : jWf v') (hp : jPl v') (hf : ∀ k i s, (k = 11 ∨ k = 8 ∨ (k = 9 ∧ (s = 1 ∨ s = 4 ∨ s = 5)) ∨ (k = 1 ∧ s = 2)) → v' k i s = v k i s) (ht : v' 1 0 0 = nI t') (hc : jWc v' = jWc v) : jInv v' t' := by
  obtain ⟨_, ⟨b1, b2, b3⟩, _, hg, hk, _, hu⟩ := h
  refine ⟨hw, ⟨fun g hg => ?_, fun i hi => ?_, fun j s hs => ?_⟩, hp, fun g hg2 => ?_, ?_, ht, fun i hi hj12 => ?_⟩
  · rw [hf 9 g 4 (by omega), hf 9 g 5 (by omega)]
    exact b1 g hg
  · rw [hf 11 i 7 (by omega)]
    exact b2 i hi
  · rw [hf 8 j s (by omega)]
    exact b3 j s hs
  · rw [hf 9 g 1 (by omega)]
    exact hg g hg2
  · rw [hf 1 0 2 (by omega)]
    exact hk
  · rw [hf 11 i 5 (by omega), hf 11 i 6 (by omega)]
    exact hu i (by rw [← hc]; exact hi) hj12
theorem jInv.danger {v : jN} {t : Nat} (h : jInv v t) (c d : Int32) : jInv (jDanger v c d) t := by
  have K : jKeep v (jDanger v c d) := jKeep.rf.up (by omega)
  refine h.of (K.wf h.1) (h.2.2.1.up (by omega)) (fun k i s q => ?_) ?_ K.wc
  · exact jUp_k (by omega)
  · unfold jDanger
    rw [jUp_k (by omega)]
    exact h.2.2.2.2.2.1
theorem jInv.now {v : jN} {t t' : Nat} (h : jInv v t) : jInv (jUp v 1 0 0 (nI t')) t' := by
  have K : jKeep v (jUp v 1 0 0 (nI t')) := jKeep.rf.up (by omega)
  exact h.of (K.wf h.1) (h.2.2.1.up (by omega)) (fun k i s q => if_neg (fun z => by omega)) jUp_at K.wc
theorem jInv.group {v : jN} {t : Nat} (h : jInv v t) (h8 : jGc v < 8) {c p to d r : Int32} (hc : vp_in c 16) {P : Nat} (hp : p = nI P ∧ P ≤ 99) (hd : d = 0 ∨ d = 1) (hr : r = 0 ∨ r = 1) : jInv (jGroup v c p to d r) t := by
  obtain ⟨hw, ⟨b1, b2, b3⟩, hpl, hg, hk, ht, hu⟩ := h
  have C := jGroup_c (c := c) (p := p) (t := to) (d := d) (r := r) hw h8
  have ne : ∀ k i s, ¬ k = 9 → ¬ (k = 1 ∧ i = 0 ∧ s = 4) → jGroup v c p to d r k i s = v k i s := fun k i s h1 h2 => by
    unfold jGroup
    have e : ∀ (u : jN) (x : Int32), jUp u 1 0 4 x k i s = u k i s := fun u x => if_neg h2
    rw [e, jUp_k h1, jUp_k h1, jUp_k h1, jUp_k h1, jUp_k h1]
  have at9 : ∀ g s, jGroup v c p to d r 9 g s = if g = jGc v then (if s = 0 then c else if s = 1 then p else if s = 2 then to else if s = 4 then d else if s = 5 then r else v 9 g s) else v 9 g s := fun g s => by
    unfold jGroup jUp
    by_cases e : g = jGc v
    · subst e
      simp
      by_cases s0 : s = 0
      · subst s0; simp
      · by_cases s1 : s = 1
        · subst s1; simp
        · by_cases s2 : s = 2
          · subst s2; simp
          · by_cases s4 : s = 4
            · subst s4; simp
            · by_cases s5 : s = 5
              · subst s5; simp
              · simp [s0, s1, s2, s4, s5]
    · simp [e]
  refine ⟨C.1, ⟨fun g hg2 => ?_, fun i hi => ?_, fun j s hs => ?_⟩, ⟨fun g hg2 => ?_, fun s hs => ?_⟩, fun g hg2 => ?_, ?_, ?_, fun i hi hj12 => ?_⟩
  · rw [at9, at9]
    by_cases e : g = jGc v
    · rw [if_pos e, if_pos e]
      exact ⟨hd, hr⟩
    · rw [if_neg e, if_neg e]
      exact b1 g hg2
  · rw [ne 11 i 7 (by omega) (by omega)]
    exact b2 i hi
  · rw [ne 8 j s (by omega) (by omega)]
    exact b3 j s hs
  · rw [at9]
    by_cases e : g = jGc v
    · rw [if_pos e]
      exact hc
    · rw [if_neg e]
      exact hpl.1 g hg2
  · rw [ne 10 s 0 (by omega) (by omega)]
    exact hpl.2 s hs
  · rw [at9]
    by_cases e : g = jGc v
    · rw [if_pos e]
      show 0 ≤ p.toInt ∧ p.toInt ≤ 99
      rw [hp.1, nI_toInt (by omega)]
      omega
    · rw [if_neg e]
      exact hg g hg2
  · rw [ne 1 0 2 (by omega) (by omega)]
    exact hk
  · rw [ne 1 0 0 (by omega) (by omega)]
    exact ht
  · rw [ne 11 i 5 (by omega) (by omega), ne 11 i 6 (by omega) (by omega)]
    exact hu i (by rw [← C.2.2.2.1]; exact hi) hj12
theorem jInv.shel {v : jN} {t : Nat} (h : jInv v t) (h8 : jSc v < 3) {c r : Int32} (hc : vp_in c 16) : jInv (jShel v c r) t := by
  have C := jShel_c (c := c) (r := r) h.1 h8
  have ne : ∀ k i s, ¬ k = 10 → ¬ (k = 1 ∧ i = 0 ∧ s = 5) → jShel v c r k i s = v k i s := fun k i s h1 h2 => by
    unfold jShel
    have e : ∀ (u : jN) (x : Int32), jUp u 1 0 5 x k i s = u k i s := fun u x => if_neg h2
    rw [e, jUp_k h1, jUp_k h1]
  refine h.of C.1 ⟨fun g hg => ?_, fun s hs => ?_⟩ (fun k i s q => ne k i s (by omega) (by omega)) (by rw [ne 1 0 0 (by omega) (by omega)]; exact h.2.2.2.2.2.1) C.2.2.2.1
  · rw [ne 9 g 0 (by omega) (by omega)]
    exact h.2.2.1.1 g hg
  · unfold jShel
    rw [jUp_k (by omega), jUp_s (by omega)]
    by_cases e : s = jSc v
    · subst e
      rw [jUp_at]
      exact hc
    · rw [jUp_i e]
      exact h.2.2.1.2 s hs
theorem jInv.addS {v : jN} {t j : Nat} (h : jInv v t) (hj : j = 0 ∨ j = 1) (h8 : jNc v j < 5) {c r : Int32} : jInv (jAddS v j c r) t := by
  have C := jAddS_c (c := c) (r := r) hj h.1 h8
  obtain ⟨hw, ⟨b1, b2, b3⟩, hpl, hg, hk, ht, hu⟩ := h
  have ne : ∀ k i s, ¬ k = 5 → ¬ k = 7 → ¬ k = 13 → ¬ k = 8 → jAddS v j c r k i s = v k i s := fun k i s h1 h2 h3 h4 => by
    unfold jAddS
    rw [jUp_k h1, jUp_k h4, jUp_k h3, jUp_k h2]
  refine ⟨C.1, ⟨fun g hg2 => ?_, fun i hi => ?_, fun j2 s hs => ?_⟩, ⟨fun g hg2 => ?_, fun s hs => ?_⟩, fun g hg2 => ?_, ?_, ?_, fun i hi hj12 => ?_⟩
  · rw [ne 9 g 4 (by omega) (by omega) (by omega) (by omega), ne 9 g 5 (by omega) (by omega) (by omega) (by omega)]
    exact b1 g hg2
  · rw [ne 11 i 7 (by omega) (by omega) (by omega) (by omega)]
    exact b2 i hi
  · unfold jAddS
    rw [jUp_k (by omega)]
    by_cases e : j2 = j ∧ s = jNc v j
    · obtain ⟨rfl, rfl⟩ := e
      rw [jUp_at]
      exact Or.inr rfl
    · have e2 : jUp (jUp (jUp v 7 j (jNc v j) c) 13 j (jNc v j) r) 8 j (jNc v j) 1 8 j2 s = jUp (jUp v 7 j (jNc v j) c) 13 j (jNc v j) r 8 j2 s := if_neg (fun z => e z.2)
      rw [e2, jUp_k (by omega), jUp_k (by omega)]
      exact b3 j2 s hs
  · rw [ne 9 g 0 (by omega) (by omega) (by omega) (by omega)]
    exact hpl.1 g hg2
  · rw [ne 10 s 0 (by omega) (by omega) (by omega) (by omega)]
    exact hpl.2 s hs
  · rw [ne 9 g 1 (by omega) (by omega) (by omega) (by omega)]
    exact hg g hg2
  · rw [ne 1 0 2 (by omega) (by omega) (by omega) (by omega)]
    exact hk
  · rw [ne 1 0 0 (by omega) (by omega) (by omega) (by omega)]
    exact ht
  · rw [ne 11 i 5 (by omega) (by omega) (by omega) (by omega), ne 11 i 6 (by omega) (by omega) (by omega) (by omega)]
    exact hu i (by rw [← C.2.2.2.1]; exact hi) hj12
/-! a warning is drafted, approved twice and sent -/
def jSendV (v : jN) (a d : Int32) : jN := jSend (jAppr (jAppr (jDraft v 0 (-1) a d 7) (nI (jWc v)) 0) (nI (jWc v)) 1) (nI (jWc v))
theorem jDraft_at (v : jN) (k o a d t : Int32) (i s : Nat) : jDraft v k o a d t 11 i s = if i = jWc v then (if s = 0 then k else if s = 1 then o else if s = 2 then a else if s = 3 then d else if s = 4 then t else v 11 i s) else v 11 i s := by
  unfold jDraft jUp
  by_cases e : i = jWc v
  · subst e
    simp
    by_cases s0 : s = 0
    · subst s0; simp
    · by_cases s1 : s = 1
      · subst s1; simp
      · by_cases s2 : s = 2
        · subst s2; simp
        · by_cases s3 : s = 3
          · subst s3; simp
          · by_cases s4 : s = 4
            · subst s4; simp
            · simp [s0, s1, s2, s3, s4]
  · simp [e]
theorem jDraft_ne (v : jN) (k o a d t : Int32) (k' i s : Nat) (h1 : ¬ k' = 11) (h2 : ¬ (k' = 1 ∧ i = 0 ∧ s = 6)) : jDraft v k o a d t k' i s = v k' i s := by
  unfold jDraft
  have e : ∀ (u : jN) (x : Int32), jUp u 1 0 6 x k' i s = u k' i s := fun u x => if_neg h2
  rw [e, jUp_k h1, jUp_k h1, jUp_k h1, jUp_k h1, jUp_k h1]
theorem jDraft_c {v : jN} (k o a d t : Int32) (hw : jWf v) (h : jWc v < 12) : jWf (jDraft v k o a d t) ∧ jGc (jDraft v k o a d t) = jGc v ∧ jSc (jDraft v k o a d t) = jSc v ∧ jWc (jDraft v k o a d t) = jWc v + 1 ∧ ∀ j, jNc (jDraft v k o a d t) j = jNc v j := by
  have e6 : jDraft v k o a d t 1 0 6 = nI (jWc v + 1) := by
    unfold jDraft
    rw [jUp_at]
    exact jinc hw.2.2.1.1
  have c6 : jWc (jDraft v k o a d t) = jWc v + 1 := (congrArg Int32.toNatClampNeg e6).trans (jcl rfl (by omega))
  have c4 : jGc (jDraft v k o a d t) = jGc v := congrArg Int32.toNatClampNeg (jDraft_ne v k o a d t 1 0 4 (by decide) (by decide))
  have c5 : jSc (jDraft v k o a d t) = jSc v := congrArg Int32.toNatClampNeg (jDraft_ne v k o a d t 1 0 5 (by decide) (by decide))
  have cj : ∀ j, jNc (jDraft v k o a d t) j = jNc v j := fun j => congrArg Int32.toNatClampNeg (jDraft_ne v k o a d t 5 j 3 (by decide) (by omega))
  refine ⟨?_, c4, c5, c6, cj⟩
  unfold jWf
  rw [c4, c5, c6, cj, cj, e6, jDraft_ne v k o a d t 1 0 4 (by decide) (by decide), jDraft_ne v k o a d t 1 0 5 (by decide) (by decide), jDraft_ne v k o a d t 5 0 3 (by decide) (by decide), jDraft_ne v k o a d t 5 1 3 (by decide) (by decide)]
  exact ⟨hw.1, hw.2.1, ⟨rfl, by omega⟩, hw.2.2.2⟩
theorem jbits3 : jBits ((((0 : Int32) ||| ((1 : Int32) <<< ((0 : Int32) &&& 31))) ||| ((1 : Int32) <<< ((1 : Int32) &&& 31))) &&& 3) = 2 := by decide +kernel
theorem jSendV_k (v : jN) (a d : Int32) : jKeep (jDraft v 0 (-1) a d 7) (jSendV v a d) := by
  unfold jSendV jSend jAppr
  exact (((jKeep.rf.up (by omega)).up (by omega)).up (by omega)).up (by omega)
theorem jSendV_ne (v : jN) (a d : Int32) (k i s : Nat) (h1 : ¬ k = 11) (h2 : ¬ (k = 1 ∧ i = 0 ∧ s = 6)) : jSendV v a d k i s = v k i s := by
  unfold jSendV jSend jAppr
  rw [jUp_k h1, jUp_k h1, jUp_k h1, jUp_k h1]
  exact jDraft_ne v 0 (-1) a d 7 k i s h1 h2
theorem jSendV_i (v : jN) (a d : Int32) (hw : jWc v < 12) (i s : Nat) (h : ¬ i = jWc v) : jSendV v a d 11 i s = v 11 i s := by
  have e : (nI (jWc v)).toNatClampNeg = jWc v := jcl rfl (by omega)
  unfold jSendV jSend jAppr
  rw [e, jUp_i h, jUp_i h, jUp_i h, jUp_i h, jDraft_at, if_neg h]
theorem jSendV_7 (v : jN) (a d : Int32) (hw : jWc v < 12) : jSendV v a d 11 (jWc v) 7 = 1 := by
  have e : (nI (jWc v)).toNatClampNeg = jWc v := jcl rfl (by omega)
  unfold jSendV jSend
  rw [e, jUp_at]
theorem jInv.send {v : jN} {t : Nat} (h : jInv v t) (h12 : jWc v < 12) (a d : Int32) : jInv (jSendV v a d) t ∧ jGc (jSendV v a d) = jGc v ∧ jNc (jSendV v a d) 0 = jNc v 0 := by
  have C := jDraft_c 0 (-1) a d 7 h.1 h12
  have K := jSendV_k v a d
  obtain ⟨hw, ⟨b1, b2, b3⟩, hpl, hg, hk, ht, hu⟩ := h
  refine ⟨⟨K.wf C.1, ⟨fun g hg2 => ?_, fun i hi => ?_, fun j s hs => ?_⟩, ⟨fun g hg2 => ?_, fun s hs => ?_⟩, fun g hg2 => ?_, ?_, ?_, fun i hi hj12 => ?_⟩, K.gc.trans C.2.1, (K.nc 0).trans (C.2.2.2.2 0)⟩
  · rw [jSendV_ne v a d 9 g 4 (by omega) (by omega), jSendV_ne v a d 9 g 5 (by omega) (by omega)]
    exact b1 g hg2
  · by_cases e : i = jWc v
    · rw [e, jSendV_7 v a d h12]
      exact Or.inr rfl
    · rw [jSendV_i v a d h12 i 7 e]
      exact b2 i hi
  · rw [jSendV_ne v a d 8 j s (by omega) (by omega)]
    exact b3 j s hs
  · rw [jSendV_ne v a d 9 g 0 (by omega) (by omega)]
    exact hpl.1 g hg2
  · rw [jSendV_ne v a d 10 s 0 (by omega) (by omega)]
    exact hpl.2 s hs
  · rw [jSendV_ne v a d 9 g 1 (by omega) (by omega)]
    exact hg g hg2
  · rw [jSendV_ne v a d 1 0 2 (by omega) (by omega)]
    exact hk
  · rw [jSendV_ne v a d 1 0 0 (by omega) (by omega)]
    exact ht
  · have e1 : jWc (jSendV v a d) = jWc v + 1 := K.wc.trans C.2.2.2.1
    rw [e1] at hi
    rw [jSendV_i v a d h12 i 5 (by omega), jSendV_i v a d h12 i 6 (by omega)]
    exact hu i (by omega) hj12
theorem jThen_0 : ∀ k, k < 24 → jThen 0 (nI k) = nI (if k = 0 then 1440 else k * 60) := by decide +kernel
