-- words of the tables, and what stands at each place of the methods' code (laid by program)
/-! .. what each call of the class comes to -/
theorem lS_many {v : jN} {t : Nat} (h : jI v t) {x : Int32} (hx : vp_in x 12) : lS sp_X5_many [.inl (.int x)] v v (.int (jMany v x)) := by
  rintro σ ⟨rfl, h1⟩
  exact ⟨⟨h.1.1, hx⟩, rfl, rfl, h1⟩
theorem lS_ofGroup {v : jN} {t g : Nat} (h : jI v t) {x : Int32} (hg : g < 5) (hx : vp_in x 9) : lS sp_X5_ofGroup [.inl (.int (nI g)), .inl (.int x)] v v (.int (jOfG v g x)) := by
  rintro σ ⟨rfl, h1⟩
  have e : (nI g).toNatClampNeg = g := jcl rfl (by omega)
  exact ⟨⟨h.1.1, by rw [h.2.1]; exact vp_in_nI hg (by decide), hx⟩, by show some (Sum.inl (Value.int (jOfG (jV σ 0) (nI g).toNatClampNeg x))) = _; rw [e], rfl, h1⟩
theorem lS_danger {v : jN} {t : Nat} (_ : jI v t) {c d : Int32} (hc : vp_in c 16) (hd : ¬ d < 0 ∧ d ≤ 999) : lS sp_X5_danger [.inl (.int c), .inl (.int d)] v (jDanger v c d) (.int (v 6 0 c.toNatClampNeg)) := by
  rintro σ ⟨rfl, h1⟩
  exact ⟨⟨hc, hd⟩, rfl, lV.put0 ⟨rfl, h1⟩⟩
theorem lS_siren {v : jN} {t : Nat} (h : jI v t) {c r : Int32} (hc : vp_in c 16) (hr : ¬ r < 0 ∧ r ≤ 3) : lS sp_X5_siren [.inl (.int c), .inl (.int r)] v (jAddS v 0 c r) (.int 2) := by
  rintro σ ⟨rfl, h1⟩
  have e : jV σ 0 5 0 3 = 2 := by
    rw [h.1.1.2.2.2.1.1, h.2.2]
    rfl
  exact ⟨⟨hc, hr, h.1.1, by rw [h.2.2]; decide⟩, by show some (Sum.inl (Value.int (jV σ 0 5 0 3))) = _; rw [e], lV.put0 ⟨rfl, h1⟩⟩
theorem lS_would {v : jN} {t n : Nat} (h : jI v t) {c r : Int32} (hc : vp_in c 16) (hr : ¬ r < 0 ∧ r ≤ 3) (hn : 1 ≤ n ∧ n ≤ 60) : lS sp_X5_sirenWould [.inl (.int c), .inl (.int r), .inl (.int (nI n))] v v (.int (jWouldN v c r n)) := by
  rintro σ ⟨rfl, h1⟩
  have e : (nI n).toNatClampNeg = n := jcl rfl (by omega)
  have h4 : jNc (jV σ 0) 0 ≤ 4 := by rw [h.2.2]; decide
  refine ⟨⟨hc, hr, ⟨nI_nlt (a := n) (b := 1) (by omega) (by omega), nI_le (b := 60) (by omega) (by decide)⟩, vp_in_nI (by omega) (by decide), h.1.1, h.1.2.1, h.1.2.2.1, h1, h4⟩, ?_, ?_⟩
  · show some (Sum.inl (Value.int (jBelv (jW2 (jV σ 0) (jV σ 1) c r (nI n).toNatClampNeg) - jBelv (jW1 (jV σ 0) (jV σ 1) (nI n).toNatClampNeg)))) = _
    rw [e, jWould_n h.1.1 h.1.2.2.1 h1 h4]
  · exact lV.put1 ⟨rfl, h1⟩ (jW2_pl h.1.1 h.1.2.2.1 h1 h4 c r _)
theorem lS_safeIn {v : jN} {t n g : Nat} (h : jI v t) (hg : g < 5) (hn : 1 ≤ n ∧ n ≤ 60) : lS sp_X5_safeIn [.inl (.int (nI g)), .inl (.int (nI n))] v v (.int (jSafeN v g n)) := by
  rintro σ ⟨rfl, h1⟩
  have e : (nI n).toNatClampNeg = n := jcl rfl (by omega)
  have eg : (nI g).toNatClampNeg = g := jcl rfl (by omega)
  have hg5 : g < jGc (jV σ 0) := by rw [h.2.1]; exact hg
  refine ⟨⟨by rw [h.2.1]; exact vp_in_nI hg (by decide), ⟨nI_nlt (a := n) (b := 1) (by omega) (by omega), nI_le (b := 60) (by omega) (by decide)⟩, vp_in_nI (by omega) (by decide), h.1.1, h.1.2.1, h.1.2.2.1, h1⟩, ?_, ?_⟩
  · show some (Sum.inl (Value.int ((jSafeIn (jV σ 0) (jV σ 1) (nI g).toNatClampNeg (nI n).toNatClampNeg).1))) = _
    rw [e, eg, jSafeIn_n h.1.1 h.1.2.2.1 h1 hg5]
  · exact lV.put1 ⟨rfl, h1⟩ (jSafeIn_pl h.1.1 h.1.2.2.1 h1 _ _)
/-- what minutes that go by answer -/
def jBs (v : jN) (n : Nat) : Int32 := jSum (fun i => jMinT (jMs v i)) n
theorem lS_pass {v : jN} {t n : Nat} (h : jInv v t) (hn : 1 ≤ n ∧ n ≤ 60) (ht : t + n ≤ 9999) : lS sp_X5_pass [.inl (.int (nI n))] v (jMs v n) (.int (jBs v n)) := by
  rintro σ ⟨rfl, h1⟩
  have e : (nI n).toNatClampNeg = n := jcl rfl (by omega)
  refine ⟨⟨⟨nI_nlt (a := n) (b := 1) (by omega) (by omega), nI_le (b := 60) (by omega) (by decide)⟩, vp_in_nI (by omega) (by decide), ?_, h.1, h.2.2.1⟩, ?_, ?_⟩
  · show jV σ 0 1 0 0 + nI n ≤ 9999
    rw [h.2.2.2.2.2.1, nI_add]
    exact nI_le (b := 9999) (by omega) (by decide)
  · show some (Sum.inl (Value.int ((jPlay (jV σ 0) (nI n).toNatClampNeg).2))) = _
    rw [e, jPlay_ms]
    rfl
  · show lV _ (jPut σ 0 (jPlay (jV σ 0) (nI n).toNatClampNeg).1)
    rw [e, jPlay_ms]
    exact lV.put0 ⟨rfl, h1⟩
theorem lS_until {v : jN} (h : jI v 0) (hw : jWc v = 0) {q : Nat} (hq : 6 ≤ q ∧ q < 24) : lS sp_X5_until [.inl (.int (nI q))] v (jUp v 1 0 0 (nI (q * 60))) (.int (nI (q * 60))) := by
  rintro σ ⟨rfl, h1⟩
  have e : jThen (jV σ 0 1 0 0) (nI q) = nI (q * 60) := by
    rw [h.1.2.2.2.2.2.1, show nI 0 = 0 from rfl, jThen_0 q (by omega), if_neg (by omega)]
  refine ⟨⟨⟨nI_nlt (a := q) (b := 0) (by omega) (by omega), nI_le (b := 23) (by omega) (by decide)⟩, h.1.1, ?_, ?_⟩, ?_, ?_⟩
  · rw [hw]
    exact Int32.le_refl 0
  · rw [e]
    exact nI_le (b := 9999) (by omega) (by decide)
  · show some (Sum.inl (Value.int (jThen (jV σ 0 1 0 0) (nI q)))) = _
    rw [e]
  · show lV _ (jPut σ 0 (jUp (jV σ 0) 1 0 0 (jThen (jV σ 0 1 0 0) (nI q))))
    rw [e]
    exact lV.put0 ⟨rfl, h1⟩
theorem lR_digest {v : jN} {t : Nat} (h : jI v t) : lR pr_X5_digest po_X5_digest [] v v (.long (jDig v)) := by
  rintro σ ⟨rfl, h1⟩
  refine ⟨⟨h.1.1, h.1.2.1, h.1.2.2.1, h1, by rw [h.2.2]; decide⟩, fun r σ' hp => ?_⟩
  obtain ⟨rfl, t9, ht9, rfl⟩ := hp
  exact ⟨rfl, lV.put1 ⟨rfl, h1⟩ ht9⟩
theorem lS_alert {v : jN} {t : Nat} (h : jI v t) (h12 : jWc v < 12) {a d : Int32} (ha : ¬ a < 1 ∧ a ≤ 65535) (hd : ¬ d < 0 ∧ d ≤ 1) : lS sp_X5_alert [.inl (.int a), .inl (.int d), .inl (.int 7)] v (jDraft v 0 (-1) a d 7) (.int (nI (jWc v))) := by
  rintro σ ⟨rfl, h1⟩
  exact ⟨⟨⟨ha, hd, by decide⟩, h.1.1, h12⟩, by show some (Sum.inl (Value.int (jV σ 0 1 0 6))) = _; rw [h.1.1.2.2.1.1], lV.put0 ⟨rfl, h1⟩⟩
theorem jIn_0 (a : Nat) (ha : a < 4) : jIn 0 (nI a) = 0 := by
  have h : a = 0 ∨ a = 1 ∨ a = 2 ∨ a = 3 := by omega
  rcases h with rfl | rfl | rfl | rfl <;> decide
theorem jIn_1 : jIn (0 ||| ((1 : Int32) <<< ((0 : Int32) &&& 31))) 1 = 0 := by decide +kernel
/-- .. and a warning's drafting, approving and sending, step by step -/
theorem lS_send3 {v : jN} {t : Nat} (h : jI v t) (h12 : jWc v < 12) (a d : Int32) : (∃ x, lS sp_X5_approve [.inl (.int (nI (jWc v))), .inl (.int 0)] (jDraft v 0 (-1) a d 7) (jAppr (jDraft v 0 (-1) a d 7) (nI (jWc v)) 0) (.int x)) ∧ (∃ x, lS sp_X5_approve [.inl (.int (nI (jWc v))), .inl (.int 1)] (jAppr (jDraft v 0 (-1) a d 7) (nI (jWc v)) 0) (jAppr (jAppr (jDraft v 0 (-1) a d 7) (nI (jWc v)) 0) (nI (jWc v)) 1) (.int x)) ∧ lS sp_X5_send [.inl (.int (nI (jWc v)))] (jAppr (jAppr (jDraft v 0 (-1) a d 7) (nI (jWc v)) 0) (nI (jWc v)) 1) (jSendV v a d) (.int (jPin (jSendV v a d) (jSendV v a d 11 (jWc v) 2))) := by
  have C := jDraft_c 0 (-1) a d 7 h.1.1 h12
  have e : (nI (jWc v)).toNatClampNeg = jWc v := jcl rfl (by omega)
  have hu := h.1.2.2.2.2.2.2 (jWc v) (Nat.le_refl _) h12
  have hk := h.1.2.2.2.2.1
  obtain ⟨v1, hv1⟩ : ∃ v1, v1 = jDraft v 0 (-1) a d 7 := ⟨_, rfl⟩
  have d5 : v1 11 (jWc v) 5 = 0 := by
    rw [hv1, jDraft_at, if_pos rfl]
    exact hu.1
  have d6 : v1 11 (jWc v) 6 = -1 := by
    rw [hv1, jDraft_at, if_pos rfl]
    exact hu.2
  have d0 : v1 11 (jWc v) 0 = 0 := by
    rw [hv1, jDraft_at, if_pos rfl]
    rfl
  have d1 : v1 11 (jWc v) 1 = -1 := by
    rw [hv1, jDraft_at, if_pos rfl]
    rfl
  have dk : v1 1 0 2 = 3 := by
    rw [hv1, jDraft_ne v 0 (-1) a d 7 1 0 2 (by decide) (by decide)]
    exact hk
  rw [← hv1] at C ⊢
  have hc : vp_in (nI (jWc v)) (jWc v1) := by rw [C.2.2.2.1]; exact vp_in_nI (by omega) (by omega)
  have k2 : jKeep v1 (jAppr v1 (nI (jWc v)) 0) := by
    unfold jAppr
    exact jKeep.rf.up (by omega)
  have k3 : jKeep v1 (jAppr (jAppr v1 (nI (jWc v)) 0) (nI (jWc v)) 1) := by
    unfold jAppr
    exact (jKeep.rf.up (by omega)).up (by omega)
  have a5 : jAppr v1 (nI (jWc v)) 0 11 (jWc v) 5 = 0 ||| ((1 : Int32) <<< ((0 : Int32) &&& 31)) := by
    unfold jAppr
    rw [e, jUp_at, d5]
  have a6 : jAppr v1 (nI (jWc v)) 0 11 (jWc v) 6 = -1 := by
    unfold jAppr
    rw [e, jUp_s (by decide), d6]
  have b5 : jAppr (jAppr v1 (nI (jWc v)) 0) (nI (jWc v)) 1 11 (jWc v) 5 = (0 ||| ((1 : Int32) <<< ((0 : Int32) &&& 31))) ||| ((1 : Int32) <<< ((1 : Int32) &&& 31)) := by
    show jUp (jAppr v1 (nI (jWc v)) 0) 11 (nI (jWc v)).toNatClampNeg 5 (jAppr v1 (nI (jWc v)) 0 11 (nI (jWc v)).toNatClampNeg 5 ||| ((1 : Int32) <<< ((1 : Int32) &&& 31))) 11 (jWc v) 5 = _
    rw [e, jUp_at, a5]
  have bo : ∀ s, ¬ s = 5 → jAppr (jAppr v1 (nI (jWc v)) 0) (nI (jWc v)) 1 11 (jWc v) s = v1 11 (jWc v) s := fun s hs => by
    unfold jAppr
    rw [jUp_s hs, jUp_s hs]
  have bk : jAppr (jAppr v1 (nI (jWc v)) 0) (nI (jWc v)) 1 1 0 2 = 3 := by
    unfold jAppr
    rw [jUp_k (by decide), jUp_k (by decide)]
    exact dk
  have w2 := k2.wf C.1
  have w3 := k3.wf C.1
  have c2 : jWc (jAppr v1 (nI (jWc v)) 0) = jWc v1 := k2.wc
  have c3 : jWc (jAppr (jAppr v1 (nI (jWc v)) 0) (nI (jWc v)) 1) = jWc v1 := k3.wc
  have eS : jSendV v a d = jSend (jAppr (jAppr v1 (nI (jWc v)) 0) (nI (jWc v)) 1) (nI (jWc v)) := by
    rw [hv1]
    rfl
  rw [eS]
  obtain ⟨v2, hv2⟩ : ∃ v2, v2 = jAppr v1 (nI (jWc v)) 0 := ⟨_, rfl⟩
  rw [← hv2] at a5 a6 b5 bo bk w2 w3 c2 c3 ⊢
  obtain ⟨v3, hv3⟩ : ∃ v3, v3 = jAppr v2 (nI (jWc v)) 1 := ⟨_, rfl⟩
  rw [← hv3] at b5 bo bk w3 c3 ⊢
  refine ⟨⟨jLack (jAppr v1 (nI (jWc v)) 0) (nI (jWc v)).toNatClampNeg, fun σ hσ => ?_⟩, ⟨jLack (jAppr v2 (nI (jWc v)) 1) (nI (jWc v)).toNatClampNeg, fun σ hσ => ?_⟩, fun σ hσ => ?_⟩
  · obtain ⟨q, h1⟩ := hσ
    refine ⟨⟨by rw [q]; exact C.1, by rw [q]; exact hc, jin (i := 0) rfl (by decide) (by decide), by rw [q, e]; exact d6, by rw [q, e, d5]; exact jIn_0 0 (by decide)⟩, ?_, ?_⟩
    · show some (Sum.inl (Value.int (jLack (jAppr (jV σ 0) (nI (jWc v)) 0) (nI (jWc v)).toNatClampNeg))) = _
      rw [q]
    · show lV v2 (jPut σ 0 (jAppr (jV σ 0) (nI (jWc v)) 0))
      rw [q, hv2]
      exact lV.put0 ⟨q, h1⟩
  · obtain ⟨q, h1⟩ := hσ
    refine ⟨⟨by rw [q]; exact w2, by rw [q, c2]; exact hc, jin (i := 1) rfl (by decide) (by decide), by rw [q, e]; exact a6, by rw [q, e, a5]; exact jIn_1⟩, ?_, ?_⟩
    · show some (Sum.inl (Value.int (jLack (jAppr (jV σ 0) (nI (jWc v)) 1) (nI (jWc v)).toNatClampNeg))) = _
      rw [q]
    · show lV v3 (jPut σ 0 (jAppr (jV σ 0) (nI (jWc v)) 1))
      rw [q, hv3]
      exact lV.put0 ⟨q, h1⟩
  · obtain ⟨q, h1⟩ := hσ
    refine ⟨⟨by rw [q]; exact w3, by rw [q, c3]; exact hc, ?_, by rw [q, e, bo 1 (by decide)]; exact d1, by rw [q, e, bo 0 (by decide), d0]; decide⟩, ?_, ?_⟩
    · rw [q, e]
      refine ⟨by rw [bo 6 (by decide)]; exact d6, ?_, Or.inl (by rw [bo 1 (by decide), d1]; decide)⟩
      unfold jLack
      rw [b5, bk, jbits3]
      decide
    · show some (Sum.inl (Value.int (jPin (jSend (jV σ 0) (nI (jWc v))) (jSend (jV σ 0) (nI (jWc v)) 11 (nI (jWc v)).toNatClampNeg 2)))) = _
      rw [q, e]
    · show lV _ (jPut σ 0 (jSend (jV σ 0) (nI (jWc v))))
      rw [q]
      exact lV.put0 ⟨q, h1⟩
