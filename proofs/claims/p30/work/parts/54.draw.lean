-- words of the tables, and what stands at each place of the methods' code (laid by program)
theorem q_374 : Cond.constant RL 7 (2147483647) ∈ ww_tb := by decide +kernel
theorem q_375 : Cond.constant RL 8 (790386105) ∈ ww_tb := by decide +kernel
theorem q_376 : Cond.fieldLink RX6 50 RX6 (TX6 1).2.1 (TX6 1).2.2.1 ∈ ww_tb := by decide +kernel
theorem q_377 : Cond.fieldLink RX6 53 RX6 (TX6 2).2.1 (TX6 2).2.2.1 ∈ ww_tb := by decide +kernel
theorem q_378 : Cond.code yL_cell cL_cell 2 (some .int) ∈ ww_tb := by decide +kernel
theorem q_379 : Cond.initialized RL ∈ ww_tb := by decide +kernel
theorem q_380 : Cond.static yL_cell ∈ ww_tb := by decide +kernel
theorem q_381 : Cond.code yL_below cL_below 2 (some .int) ∈ ww_tb := by decide +kernel
theorem q_382 : Cond.static yL_below ∈ ww_tb := by decide +kernel
/-! .. its draws, and a blank row -/
theorem lq_kp {D : va_G} {cl : List vw_C} {ws : va_W} {H H1 : Heap} (hP : va_P D cl ws H) (hk : ∀ q : Nat, q < H.size → H1[q]? = H[q]?) : va_P D cl ws H1 := fun k x hx => (hP k x hx).kept (hk x.1 (hP k x hx).lt)
def tw_nw : List (String × Nat × MethodName × String) := [(RX6, 56, yL_cell, "WarnWaveLaw"), (RX6, 62, yL_below, "WarnWaveLaw")]
theorem lt_below (l : Launch) (sz : Nat) (v n : Int32) (hn : ¬ n = 0) :
    Met l yL_below (.code yL_below cL_below 2 (some .int) :: ww_tb) { frames := 0, cells := 0, slots := 0, locals := 0 } (va_Pc [.int v, .int n] (fun U => U.heap.size = sz))
      (fun _ st oc t => oc = .returned (some (.int (jBelow v n))) ∧ va_F (fun q => sz ≤ q) st t) 0 0 (fun q => sz ≤ q) := by
  refine Met.ofW (cc := cL_below) (maxL := 2) (ret := some .int) (by decide +kernel) rfl ?_
  intro p e s m args below meth c s₁ B hml hv
  obtain ⟨rfl, hsz⟩ := hv
  have hx := B.exec
  have hb := B.bytes
  have hr := B.returns
  have hlocks := B.notSynchronized
  have hts : ∀ w ∈ ww_tb, w.before ([Value.int v, Value.int n] : List Value).toArray s = true := fun w h => atoms_spec (ws := .code yL_below cL_below 2 (some .int) :: ww_tb) B.pre w (List.mem_cons_of_mem _ h)
  have ho : s.vm.findClass RL = some m.cls := findClass_of_methodNamed B.named
  subst hsz
  have hl := lv_entry ([Value.int v, Value.int n] : List Value) (n := 2) (show (2 : Nat) ≤ 2 by decide)
  rw [lg_entry_eq]
  refine lv_iload_n hx hb dL_below_0 rfl (lv_at hl 0 rfl) ?_
  refine lv_ldc (v := 2147483647) hx hb ho (hts _ q_374) dL_below_1 ?_
  refine lv_iand hx hb dL_below_3 ?_
  refine lv_iload_n hx hb dL_below_4 rfl (lv_at hl 1 rfl) ?_
  refine lv_irem hx hb dL_below_5 hn ?_
  have hS : va_S (fun q => s.heap.size ≤ q) s.heap s.heap [] := va_S.rf
  exact W.iret hx hb hr (fun t ht _ => ⟨rfl, hS.F ht⟩) hS.2.2 dL_below_6 hlocks
theorem lt_cell (l : Launch) (sz b L k : Nat) (xs : Nat → Int32) (hL : L < 1000) (hk : k < 24) (hb0 : b < sz) :
    Met l yL_cell (.code yL_cell cL_cell 2 (some .int) :: ww_tb) { frames := 0, cells := 0, slots := 0, locals := 0 } (va_Pc [.ref b, .int (nI k)] (fun U => U.heap.size = sz ∧ va_X b L xs U U.heap))
      (fun _ st oc t => oc = .returned (some (.int (jCell xs L k))) ∧ va_F (fun q => sz ≤ q) st t) 0 0 (fun q => sz ≤ q) := by
  refine Met.ofW (cc := cL_cell) (maxL := 2) (ret := some .int) (by decide +kernel) rfl ?_
  intro p e s m args below meth c s₁ B hml hv
  obtain ⟨rfl, hsz, hX⟩ := hv
  have hx := B.exec
  have hb := B.bytes
  have hr := B.returns
  have hlocks := B.notSynchronized
  have hts : ∀ w ∈ ww_tb, w.before ([Value.ref b, Value.int (nI k)] : List Value).toArray s = true := fun w h => atoms_spec (ws := .code yL_cell cL_cell 2 (some .int) :: ww_tb) B.pre w (List.mem_cons_of_mem _ h)
  have ho : s.vm.findClass RL = some m.cls := findClass_of_methodNamed B.named
  subst hsz
  have hl := lv_entry ([Value.ref b, Value.int (nI k)] : List Value) (n := 2) (show (2 : Nat) ≤ 2 by decide)
  rw [lg_entry_eq]
  have hS : va_S (fun q => s.heap.size ≤ q) s.heap s.heap [] := va_S.rf
  have hbA : ¬ s.heap.size ≤ b := by omega
  have fin : ∀ (v : Int32) (ls : Array Slot), v = jCell xs L k → W p l e (headSpec (.code yL_cell cL_cell 2 (some .int) :: ww_tb) { frames := 0, cells := 0, slots := 0, locals := 0 }).room s m ([Value.ref b, Value.int (nI k)] : List Value).toArray below meth c s.heap [] 0 0 (MQ below (fun _ st oc t => oc = .returned (some (.int (jCell xs L k))) ∧ va_F (fun q => s.heap.size ≤ q) st t) ([Value.ref b, Value.int (nI k)] : List Value).toArray s 0 0 (fun q => s.heap.size ≤ q)) (F0 m 18 ls [.int v]) := fun v ls hv => by
    subst hv
    exact W.iret hx hb hr (fun t ht _ => ⟨rfl, hS.F ht⟩) hS.2.2 dL_cell_18 hlocks
  refine lv_iload_n hx hb dL_cell_0 rfl (lv_at hl 1 rfl) ?_
  refine lv_aload_n hx hb dL_cell_1 rfl (lv_at hl 0 rfl) ?_
  refine va_slen (A := fun q => s.heap.size ≤ q) hx hb hX hb0 hbA hS dL_cell_2 ?_
  refine lv_icmp_ge (tgt := 12) hx hb dL_cell_3 (by decide) (fun z => ?_) (fun z => ?_)
  · have hkL : ¬ k < L := fun y => by
      have := nI_lt y (by omega)
      exact absurd z (Int32.not_le.mpr this)
    refine lv_ldc (v := 790386105) hx hb ho (hts _ q_375) dL_cell_12 ?_
    refine lv_iload_n hx hb dL_cell_14 rfl (lv_at hl 1 rfl) ?_
    refine lv_iconst (v := 3) hx hb dL_cell_15 rfl ?_
    refine lv_iadd hx hb dL_cell_16 ?_
    refine lv_imul hx hb dL_cell_17 ?_
    exact fin _ _ (by unfold jCell; rw [if_neg hkL])
  · have hkL : k < L := by
      by_cases y : k < L
      · exact y
      · exact absurd (nI_le (by omega) (by omega)) z
    refine lv_aload_n hx hb dL_cell_6 rfl (lv_at hl 0 rfl) ?_
    refine lv_iload_n hx hb dL_cell_7 rfl (lv_at hl 1 rfl) ?_
    refine va_sld (A := fun q => s.heap.size ≤ q) hx hb hX hb0 hbA hS (vp_in_nI hkL (by omega)) dL_cell_8 ?_
    refine lv_goto (tgt := 18) hx hb dL_cell_9 (by decide) ?_
    exact fin _ _ (by unfold jCell; rw [if_pos hkL, jcl rfl (by omega)])
/-- the fields of a Told -/
abbrev tf (m b k gr wa he sh sm si ma da : Nat) : List Value := [.ref m, .ref b, .int (nI k), .ref gr, .ref wa, .ref he, .ref sh, .int (nI sm), .ref si, .ref ma, .ref da, .int 0, .int 1, .int 0, .int 3]
theorem lt_draw (l : Launch) (D : va_G) (cI cG cH : ClassId) (sz a b L k m gr wa he sh sm si ma da N : Nat) (xs : Nat → Int32) (hL : L < 1000) (hk : k < 900) (hb0 : b < sz) (hN : 0 < N ∧ N < 2 ^ 31) :
    Met l yX6_draw (.code yX6_draw cX6_draw 3 (some .int) :: ww_tb) { frames := 1, cells := 0, slots := 0, locals := 32 } (va_Pc [.ref a, .int (nI N)] (fun U => U.heap.size = sz ∧ tK D cI cG cH U ∧ vg_nw tw_nw U ∧ va_P D tClT [(a, .inr (0, tf m b k gr wa he sh sm si ma da))] U.heap ∧ va_X b L xs U U.heap))
      (fun _ st oc t => (oc = .returned (some (.int (jDr xs L k (nI N)))) ∧ va_P D tClT [(a, .inr (0, tf m b (k + 1) gr wa he sh sm si ma da))] t.heap) ∧ va_F (fun q => q = a ∨ sz ≤ q) st t) 0 0 (fun q => q = a ∨ sz ≤ q) := by
  refine Met.ofW (cc := cX6_draw) (maxL := 3) (ret := some .int) (by decide +kernel) rfl ?_
  intro p e s mm args below meth c s₁ B hml hv
  obtain ⟨rfl, hsz, hK, hnw, hT, hX⟩ := hv
  have hx := B.exec
  have hb := B.bytes
  have hr := B.returns
  have hlocks := B.notSynchronized
  have hts : ∀ w ∈ ww_tb, w.before ([Value.ref a, Value.int (nI N)] : List Value).toArray s = true := fun w h => atoms_spec (ws := .code yX6_draw cX6_draw 3 (some .int) :: ww_tb) B.pre w (List.mem_cons_of_mem _ h)
  have ho : s.vm.findClass RX6 = some mm.cls := findClass_of_methodNamed B.named
  subst hsz
  have hl := lv_entry ([Value.ref a, Value.int (nI N)] : List Value) (n := 3) (show (2 : Nat) ≤ 3 by decide)
  rw [lg_entry_eq]
  have hg : ∀ w ∈ ww_tb, goodWord w = true := fun w h => List.all_eq_true.mp ww_good w h
  have hS : va_S (fun q => q = a ∨ s.heap.size ≤ q) s.heap s.heap [] := va_S.rf
  have w50 := q_376
  have w53 := q_377
  refine lv_aload_n hx hb dX6_draw_0 rfl (lv_at hl 0 rfl) ?_
  refine lt_get (k := 1) (v := .ref b) hx hb hts ho hK hT dX6_draw_1 w50 (by decide) rfl rfl ?_
  refine lv_aload_n hx hb dX6_draw_4 rfl (lv_at hl 0 rfl) ?_
  refine lt_get (k := 2) (v := .int (nI k)) hx hb hts ho hK hT dX6_draw_5 w53 (by decide) rfl rfl ?_
  refine lv_bipush (v := nI 24) hx hb dX6_draw_8 (by decide) ?_
  refine lv_irem hx hb dX6_draw_10 (by decide) ?_
  rw [pk_rem (a := k) (d := 24) (by omega) (by decide) (by decide)]
  have cn : ∀ (ix kn mL : Nat) (y : MethodName) (bytes : ByteArray), Cond.code y bytes mL (some .int) ∈ ww_tb → (RX6, ix, y, "WarnWaveLaw") ∈ tw_nw → (Cond.initialized y.cls).before ([Value.ref a, Value.int (nI N)] : List Value).toArray s = true → (y.cls ≠ "java/lang/invoke/MethodHandle" ∧ y.cls ≠ "java/lang/invoke/VarHandle" ∧ (parseMethodDescriptor y.desc).map (fun d => d.parameters.length) = some kn) → 8 + (mL + 11) + 0 ≤ 32 → va_CN { frames := 1, cells := 0, slots := 0, locals := 32 } s ([Value.ref a, Value.int (nI N)] : List Value).toArray RX6 ix y "WarnWaveLaw" bytes mL (some .int) (.code y bytes mL (some .int) :: ww_tb) { frames := 0, cells := 0, slots := 0, locals := 0 } 0 0 kn := by
    intro ix kn mL y bytes hcw hin hini hy hm
    refine va_cnB kn hts (fun w hw => ?_) rfl rfl rfl (hnw _ hin) hini hy ⟨by decide, hm⟩
    rcases List.mem_cons.mp hw with rfl | hw
    · exact ⟨hcw, good_of_word (hg _ hcw)⟩
    · exact ⟨hw, good_of_word (hg _ hw)⟩
  refine lt_run (F := fun q => q = a ∨ s.heap.size ≤ q) (Fc := fun q => s.heap.size ≤ q) (va_runSN (As := [.ref b, .int (nI (k % 24))]) (rest := []) ⟨hx, hb, hml, ho, hts⟩ (lt_cell l s.heap.size b L (k % 24) xs hL (Nat.mod_lt _ (by decide)) hb0) ⟨cn 56 2 2 yL_cell cL_cell q_378 List.mem_cons_self (hts _ q_379) (by decide +kernel) (by decide), hts _ q_380, trivial⟩ ⟨fun a U g mk q => ⟨q.1, q.2.1, va_X.moved (u := U) (U := U.calling g mk a) (Vm.Alike.refl U.vm) q.2.2⟩, fun U hU hW => ⟨rfl, by rw [hU], by rw [hU]; exact va_X.moved hW.alike hX⟩⟩ rfl rfl hl.1 rfl (lv_room (by decide)) dX6_draw_11 ⟨by decide, by decide⟩) hS (fun q h => Or.inr h) (fun _ _ _ h => h.2) (fun st t v locs1 h0 hq hf hS1 => ?_)
  obtain ⟨hv, -⟩ := hq
  cases hv
  have hT1 : va_P D tClT [(a, .inr (0, tf m b k gr wa he sh sm si ma da))] t.heap := lq_kp hT (fun q hq => by
    rw [hf.2 q (by rw [h0]; exact hq) (by omega), h0])
  have hz1 : s.heap.size ≤ t.heap.size := by
    have := hf.1
    rw [h0] at this
    exact this
  refine lv_aload_n hx hb dX6_draw_14 rfl (lv_at hl 0 rfl) ?_
  refine lt_get (k := 2) (v := .int (nI k)) hx hb hts ho hK hT1 dX6_draw_15 w53 (by decide) rfl rfl ?_
  refine lv_bipush (v := nI 24) hx hb dX6_draw_18 (by decide) ?_
  refine lv_idiv hx hb dX6_draw_20 (by decide) ?_
  rw [pk_div (a := k) (d := 24) (by omega) (by decide) (by decide)]
  refine lv_bipush (v := nI 8) hx hb dX6_draw_21 (by decide) ?_
  refine lv_irem hx hb dX6_draw_23 (by decide) ?_
  rw [pk_rem (a := k / 24) (d := 8) (by omega) (by decide) (by decide)]
  refine lv_ishr hx hb dX6_draw_24 ?_
  refine lv_sipush (v := 311) hx hb dX6_draw_25 (by decide) ?_
  refine lv_aload_n hx hb dX6_draw_28 rfl (lv_at hl 0 rfl) ?_
  refine lt_get (k := 2) (v := .int (nI k)) hx hb hts ho hK hT1 dX6_draw_29 w53 (by decide) rfl rfl ?_
  refine lv_imul hx hb dX6_draw_32 ?_
  refine lv_iadd hx hb dX6_draw_33 ?_
  refine lv_iload_n hx hb dX6_draw_34 rfl (lv_at hl 1 rfl) ?_
  have hNe : ¬ nI N = 0 := nI_ne0 hN.1 hN.2
  refine lt_run (F := fun q => q = a ∨ s.heap.size ≤ q) (Fc := fun q => t.heap.size ≤ q) (va_runSN (As := [.int ((jCell xs L (k % 24) >>> (nI (k / 24 % 8) &&& 31)) + 311 * nI k), .int (nI N)]) (rest := []) ⟨hx, hb, hml, ho, hts⟩ (lt_below l t.heap.size ((jCell xs L (k % 24) >>> (nI (k / 24 % 8) &&& 31)) + 311 * nI k) (nI N) hNe) ⟨cn 62 2 2 yL_below cL_below q_381 (List.mem_cons_of_mem _ List.mem_cons_self) (hts _ q_379) (by decide +kernel) (by decide), hts _ q_382, trivial⟩ ⟨fun a U g mk q => q, fun U hU hW => ⟨rfl, by show U.heap.size = t.heap.size; rw [hU]⟩⟩ rfl rfl hl.1 rfl (lv_room (by decide)) dX6_draw_35 ⟨by decide, by decide⟩) hS1 (fun q h => Or.inr (Nat.le_trans hz1 h)) (fun _ _ _ h => h.2) (fun st2 t2 v2 locs2 h02 hq2 hf2 hS2 => ?_)
  obtain ⟨hv2, -⟩ := hq2
  cases hv2
  have hT2 : va_P D tClT [(a, .inr (0, tf m b k gr wa he sh sm si ma da))] t2.heap := lq_kp hT1 (fun q hq => by
    rw [hf2.2 q (by rw [h02]; exact hq) (by omega), h02])
  refine lv_istore_n (i := 2) (lv' := [(2, .int (jDr xs L k (nI N))), (0, .ref a), (1, .int (nI N))]) hx hb dX6_draw_38 rfl hl (by decide) rfl (fun ls1 hl1 => ?_)
  refine lv_aload_n hx hb dX6_draw_39 rfl (lv_at hl1 1 rfl) ?_
  refine lv_dup hx hb dX6_draw_40 rfl ?_
  refine lt_get (k := 2) (v := .int (nI k)) hx hb hts ho hK hT2 dX6_draw_41 w53 (by decide) rfl rfl ?_
  refine lv_iconst (v := 1) hx hb dX6_draw_44 rfl ?_
  refine lv_iadd hx hb dX6_draw_45 ?_
  rw [← nI_succ]
  refine lt_put (A := fun _ => True) (k := 2) hx hb hts ho hK hT2 hS2 (Or.inl rfl) dX6_draw_46 w53 (by decide) rfl rfl rfl rfl (by show 2 < 15; decide) (fun H3 locs3 hT3 hz3 hk3 _ hS3 => ?_)
  refine lv_iload_n hx hb dX6_draw_49 rfl (lv_at hl1 0 rfl) ?_
  exact W.iret hx hb hr (fun t ht _ => ⟨⟨rfl, by rw [ht]; exact hT3⟩, hS3.F ht⟩) hS3.2.2 dX6_draw_50 hlocks
