-- words of the tables, and what stands at each place of the methods' code (laid by program)
/-! two lands that agree on what their counts cover stay so through a minute -/
/-- the live places: a groups, c shelters, d warnings, e sirens, f masts; t places of the calls made -/
def jLv (a c d e f t k i s : Nat) : Prop :=
  (k = 1 ∧ i = 0 ∧ s < 7) ∨ (i < a ∧ ((k = 9 ∧ s < 8) ∨ (14 ≤ k ∧ k ≤ 18 ∧ s < 12))) ∨ (k = 10 ∧ i < c ∧ s < 2) ∨ (k = 11 ∧ i < d ∧ s < 8) ∨ (k = 5 ∧ i < 2 ∧ s = 3) ∨ ((k = 7 ∨ k = 13 ∨ k = 8) ∧ ((i = 0 ∧ s < e) ∨ (i = 1 ∧ s < f))) ∨ (k = 6 ∧ i = 0 ∧ s < 16) ∨ (k = 12 ∧ i = 0 ∧ s < t)
def jQ (a c d e f t : Nat) (v v' : jN) : Prop := (a ≤ 8 ∧ c ≤ 3 ∧ d ≤ 12) ∧ (jGc v = a ∧ jSc v = c ∧ jWc v = d ∧ jNc v 0 = e ∧ jNc v 1 = f) ∧ ∀ k i s, jLv a c d e f t k i s → v k i s = v' k i s
theorem jLv_le {a c d e f t t' k i s : Nat} (ht : t' ≤ t) (q : jLv a c d e f t' k i s) : jLv a c d e f t k i s := by
  rcases q with q | q | q | q | q | q | q | q
  · exact Or.inl q
  · exact Or.inr (Or.inl q)
  · exact Or.inr (Or.inr (Or.inl q))
  · exact Or.inr (Or.inr (Or.inr (Or.inl q)))
  · exact Or.inr (Or.inr (Or.inr (Or.inr (Or.inl q))))
  · exact Or.inr (Or.inr (Or.inr (Or.inr (Or.inr (Or.inl q)))))
  · exact Or.inr (Or.inr (Or.inr (Or.inr (Or.inr (Or.inr (Or.inl q))))))
  · exact Or.inr (Or.inr (Or.inr (Or.inr (Or.inr (Or.inr (Or.inr ⟨q.1, q.2.1, Nat.lt_of_lt_of_le q.2.2 ht⟩))))))
section CG
variable {a c d e f t : Nat} {v v' : jN}
theorem jQ.gc' (h : jQ a c d e f t v v') : jGc v' = a := by
  rw [← h.2.1.1]
  exact congrArg Int32.toNatClampNeg (h.2.2 1 0 4 (Or.inl ⟨rfl, rfl, by omega⟩)).symm
theorem jQ.sc' (h : jQ a c d e f t v v') : jSc v' = c := by
  rw [← h.2.1.2.1]
  exact congrArg Int32.toNatClampNeg (h.2.2 1 0 5 (Or.inl ⟨rfl, rfl, by omega⟩)).symm
theorem jQ.wc' (h : jQ a c d e f t v v') : jWc v' = d := by
  rw [← h.2.1.2.2.1]
  exact congrArg Int32.toNatClampNeg (h.2.2 1 0 6 (Or.inl ⟨rfl, rfl, by omega⟩)).symm
theorem jQ.nc' (h : jQ a c d e f t v v') : jNc v' 0 = e ∧ jNc v' 1 = f := by
  refine ⟨?_, ?_⟩
  · rw [← h.2.1.2.2.2.1]
    exact congrArg Int32.toNatClampNeg (h.2.2 5 0 3 (Or.inr (Or.inr (Or.inr (Or.inr (Or.inl ⟨rfl, by omega, rfl⟩)))))).symm
  · rw [← h.2.1.2.2.2.2]
    exact congrArg Int32.toNatClampNeg (h.2.2 5 1 3 (Or.inr (Or.inr (Or.inr (Or.inr (Or.inl ⟨rfl, by omega, rfl⟩)))))).symm
theorem jQ.sy (h : jQ a c d e f t v v') : jQ a c d e f t v' v := ⟨h.1, ⟨h.gc', h.sc', h.wc', h.nc'⟩, fun k i s q => (h.2.2 k i s q).symm⟩
theorem jQ.tr {v'' : jN} (h : jQ a c d e f t v v') (h' : jQ a c d e f t v' v'') : jQ a c d e f t v v'' := ⟨h.1, h.2.1, fun k i s q => (h.2.2 k i s q).trans (h'.2.2 k i s q)⟩
theorem jQ.le {t' : Nat} (h : jQ a c d e f t v v') (ht : t' ≤ t) : jQ a c d e f t' v v' := ⟨h.1, h.2.1, fun k i s q => h.2.2 k i s (jLv_le ht q)⟩
theorem jQ.g (h : jQ a c d e f t v v') {g s : Nat} (hg : g < a) (hs : s < 8) : v 9 g s = v' 9 g s := h.2.2 9 g s (Or.inr (Or.inl ⟨hg, Or.inl ⟨rfl, hs⟩⟩))
theorem jQ.h (h : jQ a c d e f t v v') {k g w : Nat} (hk : 14 ≤ k ∧ k ≤ 18) (hg : g < a) (hw : w < d) : v k g w = v' k g w := h.2.2 k g w (Or.inr (Or.inl ⟨hg, Or.inr ⟨hk.1, hk.2, by have := h.1.2.2; omega⟩⟩))
theorem jQ.s (h : jQ a c d e f t v v') {i s : Nat} (hi : i < c) (hs : s < 2) : v 10 i s = v' 10 i s := h.2.2 10 i s (Or.inr (Or.inr (Or.inl ⟨rfl, hi, hs⟩)))
theorem jQ.w (h : jQ a c d e f t v v') {w s : Nat} (hw : w < d) (hs : s < 8) : v 11 w s = v' 11 w s := h.2.2 11 w s (Or.inr (Or.inr (Or.inr (Or.inl ⟨rfl, hw, hs⟩))))
theorem jQ.l (h : jQ a c d e f t v v') {s : Nat} (hs : s < 7) : v 1 0 s = v' 1 0 s := h.2.2 1 0 s (Or.inl ⟨rfl, rfl, hs⟩)
theorem jQ.dg (h : jQ a c d e f t v v') {s : Nat} (hs : s < 16) : v 6 0 s = v' 6 0 s := h.2.2 6 0 s (Or.inr (Or.inr (Or.inr (Or.inr (Or.inr (Or.inr (Or.inl ⟨rfl, rfl, hs⟩)))))))
theorem jQ.up (h : jQ a c d e f t v v') {k i s : Nat} {x x' : Int32} (hx : x = x') (hk : ¬ k = 5 ∧ (¬ k = 1 ∨ s < 4)) : jQ a c d e f t (jUp v k i s x) (jUp v' k i s x') := by
  have K : jKeep v (jUp v k i s x) := jKeep.rf.up hk
  refine ⟨h.1, ⟨K.gc.trans h.2.1.1, K.sc.trans h.2.1.2.1, K.wc.trans h.2.1.2.2.1, (K.nc 0).trans h.2.1.2.2.2.1, (K.nc 1).trans h.2.1.2.2.2.2⟩, fun k' i' s' q => ?_⟩
  unfold jUp
  by_cases z : k' = k ∧ i' = i ∧ s' = s
  · rw [if_pos z, if_pos z]; exact hx
  · rw [if_neg z, if_neg z]; exact h.2.2 k' i' s' q
theorem jQ.it {F F' : Nat → jN → jN} : ∀ (n : Nat), (∀ i, i < n → ∀ u u', jQ a c d e f t u u' → jQ a c d e f t (F i u) (F' i u')) → jQ a c d e f t v v' → jQ a c d e f t (jIt F n v) (jIt F' n v')
  | 0, _, h => h
  | n + 1, hF, h => hF n (by omega) _ _ (jQ.it n (fun i hi => hF i (by omega)) h)
abbrev jQ2 (a c d e f t : Nat) (q q' : jN × Int32) : Prop := jQ a c d e f t q.1 q'.1 ∧ q.2 = q'.2
theorem jQ2.it {F F' : Nat → jN × Int32 → jN × Int32} {q q' : jN × Int32} : ∀ (n : Nat), (∀ i, i < n → ∀ u u', jQ2 a c d e f t u u' → jQ2 a c d e f t (F i u) (F' i u')) → jQ2 a c d e f t q q' → jQ2 a c d e f t (jIt F n q) (jIt F' n q')
  | 0, _, h => h
  | n + 1, hF, h => hF n (by omega) _ _ (jQ2.it n (fun i hi => hF i (by omega)) h)
theorem jFind_cg {p q : Nat → Prop} [DecidablePred p] [DecidablePred q] : ∀ (n i : Nat), (∀ j, i ≤ j → j < i + n → (p j ↔ q j)) → jFind p i n = jFind q i n
  | 0, _, _ => rfl
  | n + 1, i, h => by
    unfold jFind
    by_cases z : p i
    · rw [if_pos z, if_pos ((h i (Nat.le_refl i) (by omega)).mp z)]
    · rw [if_neg z, if_neg (fun y => z ((h i (Nat.le_refl i) (by omega)).mpr y))]
      exact jFind_cg n (i + 1) (fun j h1 h2 => h j (by omega) (by omega))
theorem jSum_cg {p q : Nat → Int32} : ∀ (n : Nat), (∀ j, j < n → p j = q j) → jSum p n = jSum q n
  | 0, _ => rfl
  | n + 1, h => by
    show jSum p n + p n = jSum q n + q n
    rw [jSum_cg n (fun j hj => h j (by omega)), h n (by omega)]
theorem jb_cg {p q : Prop} [Decidable p] [Decidable q] (h : p ↔ q) : jb p = jb q := by
  unfold jb
  by_cases z : p
  · rw [if_pos z, if_pos (h.mp z)]
  · rw [if_neg z, if_neg (fun y => z (h.mpr y))]
theorem jQ.gone (h : jQ a c d e f t v v') {g : Nat} (hg : g < a) : jGone v g ↔ jGone v' g := by
  show ¬ v 9 g 7 < 5 ↔ ¬ v' 9 g 7 < 5
  rw [h.g hg (by omega)]
theorem jQ.lat (h : jQ a c d e f t v v') {g : Nat} (hg : g < a) : ∀ k, k ≤ d → jLat v g k = jLat v' g k
  | 0, _ => rfl
  | k + 1, hk => by
    unfold jLat
    rw [h.w (w := k) (s := 7) (by omega) (by omega), h.h (k := 18) (g := g) (w := k) (by omega) hg (by omega), h.lat hg k (by omega)]
theorem jQ.lt (h : jQ a c d e f t v v') {g : Nat} (hg : g < a) : jLt v g = jLt v' g := by
  show jLat v g (jWc v) = jLat v' g (jWc v')
  rw [h.2.1.2.2.1, h.wc']
  exact h.lat hg d (Nat.le_refl d)
theorem jQ.sleep (h : jQ a c d e f t v v') {g : Nat} (hg : g < a) : jSleep v g ↔ jSleep v' g := by
  show (¬ jGone v g ∧ jNight (v 1 0 0) ∧ jLt v g = -1) ↔ (¬ jGone v' g ∧ jNight (v' 1 0 0) ∧ jLt v' g = -1)
  rw [h.gone hg, h.l (s := 0) (by omega), h.lt hg]
theorem jQ.dng (h : jQ a c d e f t v v') {x : Nat} (hx : x < 16) : jDng v x ↔ jDng v' x := by
  show (¬ v 6 0 x = -1 ∧ ¬ v 1 0 0 < v 6 0 x) ↔ (¬ v' 6 0 x = -1 ∧ ¬ v' 1 0 0 < v' 6 0 x)
  rw [h.dg hx, h.l (s := 0) (by omega)]
theorem jQ.safe (h : jQ a c d e f t v v') {g : Nat} (hg : g < a) : jSafe v g ↔ jSafe v' g := by
  show ¬ v 9 g 6 = -1 ↔ ¬ v' 9 g 6 = -1
  rw [h.g hg (by omega)]
theorem jAdd_cg {p q : Nat → Prop} [DecidablePred p] [DecidablePred q] {x x' : Int32} (hx : x = x') (h : ∀ j, p j ↔ q j) : ∀ n, jAdd p x n = jAdd q x' n
  | 0 => hx
  | n + 1 => by
    unfold jAdd
    rw [jAdd_cg hx h n]
    by_cases z : p n
    · rw [if_pos z, if_pos ((h n).mp z)]
    · rw [if_neg z, if_neg (fun y => z ((h n).mpr y))]
theorem jQ.reach (h : jQ a c d e f t v v') {j : Nat} (hj : j = 0 ∨ j = 1) : ∀ n, n ≤ (if j = 0 then e else f) → jReach v j n = jReach v' j n
  | 0, _ => rfl
  | n + 1, hn => by
    have r : ∀ k, (k = 7 ∨ k = 13 ∨ k = 8) → v k j n = v' k j n := fun k hk => h.2.2 k j n (Or.inr (Or.inr (Or.inr (Or.inr (Or.inr (Or.inl ⟨hk, by
      rcases hj with rfl | rfl
      · rw [if_pos rfl] at hn; exact Or.inl ⟨rfl, by omega⟩
      · rw [if_neg (by decide)] at hn; exact Or.inr ⟨rfl, by omega⟩⟩))))))
    have ih := h.reach hj n (by omega)
    unfold jReach
    rw [r 8 (by omega), ih]
    by_cases z : v' 8 j n = 0
    · rw [if_pos z, if_pos z]
    · rw [if_neg z, if_neg z]
      refine jAdd_cg rfl (fun x => ?_) 16
      show ¬ v 13 j n < jDist (v 7 j n) (nI x) ↔ ¬ v' 13 j n < jDist (v' 7 j n) (nI x)
      rw [r 13 (by omega), r 7 (by omega)]
theorem jQ.si (h : jQ a c d e f t v v') : jSi v = jSi v' := by
  show (if v 1 0 0 - v 1 0 0 / 3 * 3 = 0 then jReach v 0 (jNc v 0) else 0) = (if v' 1 0 0 - v' 1 0 0 / 3 * 3 = 0 then jReach v' 0 (jNc v' 0) else 0)
  rw [h.l (s := 0) (by omega), h.2.1.2.2.2.1, h.nc'.1, h.reach (Or.inl rfl) e (by rw [if_pos rfl]; omega)]
theorem jQ.ma (h : jQ a c d e f t v v') : jMa v = jMa v' := by
  show jReach v 1 (jNc v 1) = jReach v' 1 (jNc v' 1)
  rw [h.2.1.2.2.2.2, h.nc'.2, h.reach (Or.inr rfl) f (by rw [if_neg (by decide)]; omega)]
theorem jQ.pub (h : jQ a c d e f t v v') {g w : Nat} (hg : g < a) (hw : w < d) (x y z : Int32) : jPub v g w x y z = jPub v' g w x y z := by
  unfold jPub
  rw [h.w (w := w) (s := 2) hw (by omega), h.g (g := g) (s := 0) hg (by omega), h.w (w := w) (s := 4) hw (by omega), h.g (g := g) (s := 2) hg (by omega), h.l (s := 0) (by omega), h.w (w := w) (s := 6) hw (by omega), h.g (g := g) (s := 5) hg (by omega)]
theorem jQ.nb (h : jQ a c d e f t v v') {g w : Nat} (hg : g < a) (hw : w < d) : jNb v g w = jNb v' g w := by
  show jFind (jTells v g w) 0 (jGc v) = jFind (jTells v' g w) 0 (jGc v')
  rw [h.2.1.1, h.gc']
  refine jFind_cg a 0 (fun j _ hj => ?_)
  have hj' : j < a := by omega
  show (¬ j = g ∧ ¬ jGone v j ∧ ¬ v 18 j w = -1 ∧ v 9 j 2 = v 9 g 2 ∧ ¬ (1 : Int32) < jDist (v 9 j 0) (v 9 g 0)) ↔ (¬ j = g ∧ ¬ jGone v' j ∧ ¬ v' 18 j w = -1 ∧ v' 9 j 2 = v' 9 g 2 ∧ ¬ (1 : Int32) < jDist (v' 9 j 0) (v' 9 g 0))
  rw [h.gone hj', h.h (k := 18) (by omega) hj' hw, h.g (g := j) (s := 2) hj' (by omega), h.g (g := g) (s := 2) hg (by omega), h.g (g := j) (s := 0) hj' (by omega), h.g (g := g) (s := 0) hg (by omega)]
theorem jQ.note (h : jQ a c d e f t v v') {g w : Nat} (hg : g < a) (hw : w < d) (x y z : Int32) : jQ a c d e f t (jNote v g w x y z) (jNote v' g w x y z) := by
  have h0 : jQ a c d e f t (jNote0 v g w x y z) (jNote0 v' g w x y z) := by
    unfold jNote0
    rw [h.h (k := 14) (by omega) hg hw]
    split
    · exact ((h.up rfl (by omega)).up rfl (by omega)).up rfl (by omega)
    · exact h
  unfold jNote
  exact h0.up (by rw [h0.h (k := 14) (by omega) hg hw]) (by omega)
theorem jQ.hear1 (h : jQ a c d e f t v v') (ht : d ≤ t) {g w : Nat} (hg : g < a) (hw : w < d) (x : Int32) : jQ a c d e f t (jHear1 v (nI g) (nI w) x) (jHear1 v' (nI g) (nI w) x) := by
  have b1 := h.1
  have eg : (nI g).toNatClampNeg = g := jcl rfl (by omega)
  have ew : (nI w).toNatClampNeg = w := jcl rfl (by omega)
  have n1 : jNbT v (nI g) (nI w) = jNbT v' (nI g) (nI w) := by
    unfold jNbT
    rw [eg, ew, h.h (k := 14) (by omega) hg hw, h.nb hg hw]
  have n2 : jNw v (nI g) (nI w) x = jNw v' (nI g) (nI w) x := by
    unfold jNw
    rw [ew, h.2.2 12 0 w (Or.inr (Or.inr (Or.inr (Or.inr (Or.inr (Or.inr (Or.inr ⟨rfl, rfl, by omega⟩)))))))]
  unfold jHear1
  rw [n1, n2, h.l (s := 0) (by omega), eg, ew]
  exact h.note hg hw _ _ _
theorem jQ.hearAll (h : jQ a c d e f t v v') (ht : d ≤ t) : jQ a c d e f t (jHearAll v) (jHearAll v') := by
  unfold jHearAll
  rw [h.si, h.ma, h.2.1.1, h.gc']
  refine jQ.it a (fun g hg u u' hu => ?_) h
  unfold jHearG
  by_cases z : jGone u g
  · rw [if_pos z, if_pos ((hu.gone hg).mp z)]
    exact hu
  · rw [if_neg z, if_neg (fun y => z ((hu.gone hg).mpr y)), hu.2.1.2.2.1, hu.wc', hu.g (g := g) (s := 0) hg (by omega), hu.g (g := g) (s := 4) hg (by omega), jb_cg (hu.sleep hg)]
    refine jQ.it d (fun w hw y y' hy => ?_) hu
    unfold jHearW
    rw [hy.w (w := w) (s := 7) hw (by omega)]
    split
    · exact hy
    · rw [hy.pub hg hw]
      exact hy.hear1 ht hg hw _
theorem jQ.first (h : jQ a c d e f t v v') {w : Nat} (hw : w < d) : jFirst v w = jFirst v' w := by
  show jFind (jCallee v w) 0 (jGc v) = jFind (jCallee v' w) 0 (jGc v')
  rw [h.2.1.1, h.gc']
  refine jFind_cg a 0 (fun j _ hj => ?_)
  have hj' : j < a := by omega
  show (¬ jIn (v 11 w 2) (v 9 j 0) = 0 ∧ ¬ jIn (v 11 w 4) (v 9 j 2) = 0 ∧ jIn (v 14 j w) 3 = 0 ∧ v 9 j 4 = 0 ∧ ¬ jGone v j) ↔ (¬ jIn (v' 11 w 2) (v' 9 j 0) = 0 ∧ ¬ jIn (v' 11 w 4) (v' 9 j 2) = 0 ∧ jIn (v' 14 j w) 3 = 0 ∧ v' 9 j 4 = 0 ∧ ¬ jGone v' j)
  rw [h.gone hj', h.w (w := w) (s := 2) hw (by omega), h.w (w := w) (s := 4) hw (by omega), h.g (g := j) (s := 0) hj' (by omega), h.g (g := j) (s := 2) hj' (by omega), h.g (g := j) (s := 4) hj' (by omega), h.h (k := 14) (by omega) hj' hw]
theorem jQ.called (h : jQ a c d e f t v v') (x : Int32) : jQ a c d e f (t + 1) (jUp v 12 0 t x) (jUp v' 12 0 t x) := by
  have h1 := h.up (k := 12) (i := 0) (s := t) (x := x) rfl (by omega)
  refine ⟨h1.1, h1.2.1, fun k i s q => ?_⟩
  by_cases z : k = 12 ∧ i = 0 ∧ s = t
  · obtain ⟨rfl, rfl, rfl⟩ := z
    rw [jUp_at, jUp_at]
  · refine h1.2.2 k i s ?_
    rcases q with q | q | q | q | q | q | q | q
    · exact Or.inl q
    · exact Or.inr (Or.inl q)
    · exact Or.inr (Or.inr (Or.inl q))
    · exact Or.inr (Or.inr (Or.inr (Or.inl q)))
    · exact Or.inr (Or.inr (Or.inr (Or.inr (Or.inl q))))
    · exact Or.inr (Or.inr (Or.inr (Or.inr (Or.inr (Or.inl q)))))
    · exact Or.inr (Or.inr (Or.inr (Or.inr (Or.inr (Or.inr (Or.inl q))))))
    · refine Or.inr (Or.inr (Or.inr (Or.inr (Or.inr (Or.inr (Or.inr ⟨q.1, q.2.1, ?_⟩))))))
      have h9 : ¬ s = t := fun y => z ⟨q.1, q.2.1, y⟩
      omega
theorem jQ.choose : ∀ (n : Nat), n ≤ d → ∀ (q q' : jN × Int32), jQ2 a c d e f 0 q q' → jQ2 a c d e f n (jIt jChoose n q) (jIt jChoose n q')
  | 0, _, _, _, h => h
  | n + 1, hn, q, q', h => by
    have ih := jQ.choose n (by omega) q q' h
    show jQ2 a c d e f (n + 1) (jChoose n (jIt jChoose n q)) (jChoose n (jIt jChoose n q'))
    generalize jIt jChoose n q = u at ih ⊢
    generalize jIt jChoose n q' = u' at ih ⊢
    have e1 : jCh n u = jCh n u' := by
      unfold jCh
      rw [ih.2, ih.1.w (w := n) (s := 7) (by omega) (by omega), ih.1.first (w := n) (by omega)]
    unfold jChoose
    rw [e1]
    have c1 := ih.1.called (jCh n u')
    split
    · exact ⟨c1, ih.2⟩
    · exact ⟨c1.up (by rw [c1.l (s := 3) (by omega)]) (by omega), by rw [ih.2]⟩
theorem jQ.chooseAll (h : jQ a c d e f 0 v v') : jQ a c d e f d (jChooseAll v) (jChooseAll v') := by
  unfold jChooseAll
  rw [h.2.1.2.2.1, h.wc']
  exact (jQ.choose d (Nat.le_refl d) (v, v 1 0 1) (v', v' 1 0 1) ⟨h, h.l (by omega)⟩).1
theorem jQ.m3 (h : jQ a c d e f 0 v v') : jQ a c d e f d (jM3 v) (jM3 v') := by
  unfold jM3
  exact (jQ.chooseAll (h.up (by rw [h.l (s := 0) (by omega)]) (by omega))).hearAll (Nat.le_refl d)
theorem jQ.belOne (h : jQ a c d e f t v v') {g : Nat} (hg : g < a) : jQ2 a c d e f t (jBelOne g v) (jBelOne g v') := by
  unfold jBelOne
  rw [h.2.1.2.2.1, h.wc']
  refine jQ2.it d (fun w hw u u' hu => ?_) ⟨h, rfl⟩
  unfold jBel1
  rw [hu.1.w (w := w) (s := 7) hw (by omega), hu.1.h (k := 18) (by omega) hg hw, hu.1.h (k := 14) (by omega) hg hw, hu.1.g (g := g) (s := 3) hg (by omega)]
  split
  · exact hu
  · split
    · split
      · exact hu
      · exact ⟨hu.1.up (hu.1.l (by omega)) (by omega), by rw [hu.2]⟩
    · exact hu
theorem jQ.belAll (h : jQ a c d e f t v v') : jQ2 a c d e f t (jBelAll v) (jBelAll v') := by
  unfold jBelAll
  rw [h.2.1.1, h.gc']
  refine jQ2.it a (fun g hg u u' hu => ?_) ⟨h, rfl⟩
  unfold jBelG
  by_cases z : jGone u.1 g
  · rw [if_pos z, if_pos ((hu.1.gone hg).mp z)]
    exact hu
  · rw [if_neg z, if_neg (fun y => z ((hu.1.gone hg).mpr y))]
    have hb := hu.1.belOne hg
    exact ⟨hb.1, by rw [hu.2, hb.2]⟩
theorem jNear_or (v : jN) (g : Nat) : ∀ n, (jNear v g n).1 = -1 ∨ ∃ k, k < n ∧ (jNear v g n).1 = nI k
  | 0 => Or.inl rfl
  | n + 1 => by
    have ih : (jNear v g n).1 = -1 ∨ ∃ k, k < n + 1 ∧ (jNear v g n).1 = nI k := (jNear_or v g n).imp id (fun ⟨k, h1, h2⟩ => ⟨k, by omega, h2⟩)
    unfold jNear
    split
    · exact ih
    · split
      · exact ih
      · exact Or.inr ⟨n, by omega, rfl⟩
theorem jQ.near (h : jQ a c d e f t v v') {g : Nat} (hg : g < a) : ∀ n, n ≤ c → jNear v g n = jNear v' g n
  | 0, _ => rfl
  | n + 1, hn => by
    unfold jNear
    rw [h.near hg n (by omega), h.s (i := n) (s := 0) (by omega) (by omega), h.s (i := n) (s := 1) (by omega) (by omega), h.g (g := g) (s := 0) hg (by omega), h.g (g := g) (s := 1) hg (by omega)]
theorem jQ.goOne (h : jQ a c d e f t v v') {g : Nat} (hg : g < a) : jQ a c d e f t (jGoOne g v) (jGoOne g v') := by
  have eG : jGoal v g = jGoal v' g := by
    show (jNear v g (jSc v)).1 = (jNear v' g (jSc v')).1
    rw [h.2.1.2.1, h.sc', h.near hg c (Nat.le_refl c)]
  have hor : jGoal v g = -1 ∨ ∃ k, k < c ∧ jGoal v g = nI k := by
    show (jNear v g (jSc v)).1 = -1 ∨ ∃ k, k < c ∧ (jNear v g (jSc v)).1 = nI k
    rw [h.2.1.2.1]
    exact jNear_or v g c
  unfold jGoOne
  rw [← eG]
  rcases hor with z | ⟨k, hk, z⟩
  · rw [z, if_pos (by decide), if_pos (by decide)]
    exact h
  · have ek : (nI k).toNatClampNeg = k := jcl rfl (by have := h.1; omega)
    rw [z, ek, h.l (s := 5) (by omega), h.s (i := k) (s := 0) hk (by omega), h.s (i := k) (s := 1) hk (by omega), h.g (g := g) (s := 0) hg (by omega), h.g (g := g) (s := 1) hg (by omega)]
    split
    · exact h
    · split
      · split
        · exact (h.up rfl (by omega)).up rfl (by omega)
        · exact h.up rfl (by omega)
      · exact h
theorem jLat_or (v : jN) (g : Nat) : ∀ n, jLat v g n = -1 ∨ ∃ k, k < n ∧ jLat v g n = nI k
  | 0 => Or.inl rfl
  | n + 1 => by
    have ih : jLat v g n = -1 ∨ ∃ k, k < n + 1 ∧ jLat v g n = nI k := (jLat_or v g n).imp id (fun ⟨k, h1, h2⟩ => ⟨k, by omega, h2⟩)
    unfold jLat
    split
    · exact ih
    · split
      · exact ih
      · exact Or.inr ⟨n, by omega, rfl⟩
theorem jQ.goAll (h : jQ a c d e f t v v') : jQ a c d e f t (jGoAll v) (jGoAll v') := by
  unfold jGoAll
  rw [h.2.1.1, h.gc']
  refine jQ.it a (fun g hg u u' hu => ?_) h
  have eL : jLatG u g = jLatG u' g := by
    unfold jLatG
    rw [hu.lt hg]
    by_cases z : jGone u g
    · rw [if_pos z, if_pos ((hu.gone hg).mp z)]
    · rw [if_neg z, if_neg (fun y => z ((hu.gone hg).mpr y))]
      by_cases z : jSafe u g
      · rw [if_pos z, if_pos ((hu.safe hg).mp z)]
      · rw [if_neg z, if_neg (fun y => z ((hu.safe hg).mpr y))]
  have hor : jLatG u g = -1 ∨ ∃ k, k < d ∧ jLatG u g = nI k := by
    unfold jLatG
    split
    · exact Or.inl rfl
    · split
      · exact Or.inl rfl
      · have := jLat_or u g (jWc u)
        rw [hu.2.1.2.2.1] at this
        show jLat u g (jWc u) = -1 ∨ ∃ k, k < d ∧ jLat u g (jWc u) = nI k
        rw [hu.2.1.2.2.1]
        exact this
  unfold jGoG
  rw [← eL]
  rcases hor with z | ⟨k, hk, z⟩
  · rw [z, if_pos (by decide), if_pos (by decide)]
    exact hu
  · have ek : (nI k).toNatClampNeg = k := jcl rfl (by have := h.1; omega)
    rw [z, ek, hu.l (s := 6) (by omega), hu.w (w := k) (s := 3) hk (by omega)]
    split
    · exact hu
    · split
      · exact hu
      · split
        · exact hu.goOne hg
        · exact hu
theorem jQ.harm (h : jQ a c d e f t v v') (hp : jPl v) {g : Nat} (hg : g < a) : jQ a c d e f t (jHarm g v) (jHarm g v') := by
  have hc : (v 9 g 0).toNatClampNeg < 16 := by
    obtain ⟨j, hj, e⟩ := vp_in_of (hp.1 g (by have := h.1; omega)) (by decide)
    rw [e, jcl rfl (by omega)]
    exact hj
  have e0 := h.g (g := g) (s := 0) hg (by omega)
  have key : (¬ jGone v g ∧ ¬ jSafe v g ∧ jDng v (v 9 g 0).toNatClampNeg) ↔ (¬ jGone v' g ∧ ¬ jSafe v' g ∧ jDng v' (v' 9 g 0).toNatClampNeg) := by
    rw [h.gone hg, h.safe hg, h.dng hc, e0]
  unfold jHarm
  by_cases z : ¬ jGone v g ∧ ¬ jSafe v g ∧ jDng v (v 9 g 0).toNatClampNeg
  · rw [if_pos z, if_pos (key.mp z)]
    exact h.up (by rw [h.g hg (by omega)]) (by omega)
  · rw [if_neg z, if_neg (fun y => z (key.mpr y))]
    exact h
theorem jQ.harmAll (h : jQ a c d e f t v v') (hp : jPl v) : jQ a c d e f t (jHarmAll v) (jHarmAll v') := by
  unfold jHarmAll
  rw [h.2.1.1, h.gc']
  have key : ∀ n, n ≤ a → jQ a c d e f t (jIt jHarm n v) (jIt jHarm n v') := by
    intro n
    induction n with
    | zero => exact fun _ => h
    | succ n ih => exact fun hn => (ih (by omega)).harm (jIt_pl (fun i u => jHarm_pl) hp n) (by omega)
  exact key a (Nat.le_refl a)
theorem jQ.min (h : jQ a c d e f 0 v v') (hp : jPl v) : jQ a c d e f 0 (jMin v) (jMin v') ∧ jMinT v = jMinT v' := by
  have b := h.m3.belAll
  refine ⟨?_, b.2⟩
  unfold jMin
  refine ((b.1.goAll).harmAll ?_).le (Nat.zero_le _)
  exact jM5_pl (by rw [h.2.1.2.1]; exact h.1.2.1) hp
end CG
