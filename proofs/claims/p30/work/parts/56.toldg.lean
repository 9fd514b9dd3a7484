-- words of the tables, and what stands at each place of the methods' code (laid by program)
theorem q_399 : Cond.fieldLink RX6 31 RX6 (TX6 6).2.1 (TX6 6).2.2.1 ∈ ww_tb := by decide +kernel
theorem q_400 : Cond.fieldLink RX6 84 RX6 (TX6 7).2.1 (TX6 7).2.2.1 ∈ ww_tb := by decide +kernel
theorem q_401 : Cond.code yX5_shelter cX5_shelter 4 (some .int) ∈ ww_tb := by decide +kernel
theorem q_402 : Cond.methodLink RX6 87 yX5_shelter ∈ ww_tb := by decide +kernel
theorem q_403 : Cond.instanceMethod yX5_shelter ∈ ww_tb := by decide +kernel
theorem q_404 : Cond.selects RX5 yX5_shelter yX5_shelter ∈ ww_tb := by decide +kernel
theorem q_405 : Cond.fieldLink RX6 18 RX6 (TX6 3).2.1 (TX6 3).2.2.1 ∈ ww_tb := by decide +kernel
theorem q_406 : Cond.code yX5_group cX5_group 7 (some .int) ∈ ww_tb := by decide +kernel
theorem q_407 : Cond.methodLink RX6 80 yX5_group ∈ ww_tb := by decide +kernel
theorem q_408 : Cond.instanceMethod yX5_group ∈ ww_tb := by decide +kernel
theorem q_409 : Cond.selects RX5 yX5_group yX5_group ∈ ww_tb := by decide +kernel
theorem q_410 : Cond.code yX6_blank cX6_blank 4 none ∈ ww_tb := by decide +kernel
theorem q_411 : Cond.methodLink RX6 76 yX6_blank ∈ ww_tb := by decide +kernel
theorem q_412 : Cond.instanceMethod yX6_blank ∈ ww_tb := by decide +kernel
theorem q_413 : Cond.selects RX6 yX6_blank yX6_blank ∈ ww_tb := by decide +kernel
/-! .. a shelter, a group -/
theorem lt_shelter (l : Launch) (D : va_G) (cI cG cH : ClassId) (A : Nat → Prop) (Dx : va_G) (tx : List (ClassId × FieldType)) (ad : vgN → Nat) (sz a b k gn sm sn mn : Nat) (σ : vgS) (at_ rc : Int32) (hA : ∀ q, sz ≤ q → A q) (htx : tx.map (fun q => q.2) = ww_tyl) (hAd : ∀ n ∈ ww_nm, ¬ A (ad n)) (hc : vp_in at_ 16) (hrr : ¬ rc < 1 ∧ rc ≤ 200) (hw : jWf (jV σ 0)) (h4 : jSc (jV σ 0) < 3) (hn : sm = jSc (jV σ 0)) :
    Met l yX6_shelter (.code yX6_shelter cX6_shelter 3 (some .boolean) :: ww_tb) { frames := 3, cells := 0, slots := 0, locals := 32 * 3 } (va_Pc [Value.ref a, Value.int at_, Value.int rc] (fun U => U.heap.size = sz ∧ tU D cI cG cH Dx tx ad U ∧ tW D cI cG cH A Dx tx ad a b k gn sm sn mn σ U.heap))
      (fun _ st oc t => (oc = .returned (some (.int 1)) ∧ tW D cI cG cH A Dx tx ad a b k gn (sm + 1) sn mn (jPut σ 0 (jShel (jV σ 0) at_ rc)) t.heap) ∧ va_F (tF A ad sz) st t) 0 0 (tF A ad sz) := by
  refine Met.ofW (cc := cX6_shelter) (maxL := 3) (ret := some .boolean) (by decide +kernel) rfl ?_
  intro p e s mm args below meth c s₁ B hml hv
  obtain ⟨rfl, hsz, hU, hWW⟩ := hv
  have hU2 := hU
  obtain ⟨hK, hnt, hnw, hKx, hDx⟩ := hU2
  obtain ⟨⟨hAa, gr, wa, he, sh, si, ma, da, hT, hGg, hLh, hSs, hGs, hGm⟩, hP⟩ := hWW
  have hx := B.exec
  have hb := B.bytes
  have hr := B.returns
  have hlocks := B.notSynchronized
  have hts : ∀ w ∈ ww_tb, w.before ([Value.ref a, Value.int at_, Value.int rc] : List Value).toArray s = true := fun w h => atoms_spec (ws := .code yX6_shelter cX6_shelter 3 (some .boolean) :: ww_tb) B.pre w (List.mem_cons_of_mem _ h)
  have ho : s.vm.findClass RX6 = some mm.cls := findClass_of_methodNamed B.named
  have hg : ∀ w ∈ ww_tb, goodWord w = true := fun w h => List.all_eq_true.mp ww_good w h
  subst hsz
  have hl := lv_entry ([Value.ref a, Value.int at_, Value.int rc] : List Value) (n := 3) (show (3 : Nat) ≤ 3 by decide)
  rw [lg_entry_eq]
  obtain ⟨FF, hFF⟩ : ∃ FF : Nat → Prop, FF = tF A ad s.heap.size := ⟨_, rfl⟩
  have hS0 : va_S FF s.heap s.heap [] := va_S.rf
  have hFA : ∀ q, A q → FF q := fun q h => by rw [hFF]; exact Or.inl h
  have hFz : ∀ q, s.heap.size ≤ q → FF q := fun q h => hFA q (hA q h)
  have hFw : ∀ (H : Heap), s.heap.size ≤ H.size → ∀ q, vg_A ww_nm ad H.size q → FF q := fun H hz q h => by
    rcases h with h | h
    · rw [hFF]; exact Or.inr (Or.inl h)
    · exact hFz q (Nat.le_trans hz h)
  have hla : a < s.heap.size := (hT 0 _ rfl).lt
  have hsm3 : sm < 3 := by omega
  have him : vp_in (nI sm) 3 := vp_in_nI hsm3 (by decide)
  have ecl : (nI sm).toNatClampNeg = sm := jcl rfl (by omega)
  obtain ⟨hAs, fS, hfS, hfSe⟩ := hSs
  obtain ⟨y, hy, hyR⟩ := hfSe sm hsm3
  have hSs : tS cI cG A s.heap sh := ⟨hAs, fS, hfS, hfSe⟩
  have aG : ArrOfT s cG (.array .int) := (hK.1.2 1 _ rfl).1
  have hyR2 := hyR
  obtain ⟨hAy, gy, hgy⟩ := hyR2
  refine lv_aload_n hx hb dX6_shelter_0 rfl (lv_at hl 0 rfl) ?_
  refine lt_get (k := 6) (v := .ref sh) hx hb hts ho hK hT dX6_shelter_1 q_399 (by decide) rfl rfl ?_
  refine lv_aload_n hx hb dX6_shelter_4 rfl (lv_at hl 0 rfl) ?_
  refine lt_get (k := 7) (v := .int (nI sm)) hx hb hts ho hK hT dX6_shelter_5 q_400 (by decide) rfl rfl ?_
  refine lt_aald (cX := cG) (ty := .array .int) hx hb aG rfl hfS him dX6_shelter_8 ?_
  rw [ecl, hy]
  refine lv_iconst (v := 0) hx hb dX6_shelter_9 rfl ?_
  refine lv_iload_n hx hb dX6_shelter_10 rfl (lv_at hl 1 rfl) ?_
  refine lt_iast (A := A) (F := FF) hx hb hK hyR (hFA y hAy) hS0 (jin (i := 0) rfl (by decide) (by decide)) dX6_shelter_11 (fun H1 locs1 hq1 hz1 hk1 hE1 hS1 => ?_)
  obtain ⟨hay, hT1⟩ := tT_keep hT hgy hK.ne.2.2.2.1 hk1
  have hP1 : va_P Dx ww_cl (vg_ws ww_shp ww_nm ad tx σ) H1 := lq_kw hP (B := fun q => q = y) (fun n hn h => hAd n hn (by rw [h]; exact hAy)) (fun z hz hne => hk1 z hne)
  have hfS1 : H1[sh]? = some (vp_cell cG (3, tq fS)) := (hk1 sh (fun e => by rw [e] at hfS; exact hK.ne.1 (tcls hgy hfS))).trans hfS
  refine lv_aload_n hx hb dX6_shelter_12 rfl (lv_at hl 0 rfl) ?_
  refine lt_get (k := 6) (v := .ref sh) hx hb hts ho hK hT1 dX6_shelter_13 q_399 (by decide) rfl rfl ?_
  refine lv_aload_n hx hb dX6_shelter_16 rfl (lv_at hl 0 rfl) ?_
  refine lv_dup hx hb dX6_shelter_17 rfl ?_
  refine lt_get (k := 7) (v := .int (nI sm)) hx hb hts ho hK hT1 dX6_shelter_18 q_400 (by decide) rfl rfl ?_
  refine lv_dup_x1 hx hb dX6_shelter_21 rfl rfl ?_
  refine lv_iconst (v := 1) hx hb dX6_shelter_22 rfl ?_
  refine lv_iadd hx hb dX6_shelter_23 ?_
  rw [← nI_succ]
  refine lt_put (A := A) (k := 7) (v := .int (nI (sm + 1))) hx hb hts ho hK hT1 hS1 (hFA a hAa) dX6_shelter_24 q_400 (by decide) rfl rfl rfl rfl (by show 7 < 15; decide) (fun H2 locs2 hT2 hz2 hk2 hE2 hS2 => ?_)
  have hT2b : va_P D tClT [(a, .inr (0, tf (ad (0, 0, 0)) b k gr wa he sh (sm + 1) si ma da))] H2 := hT2
  have hP2 : va_P Dx ww_cl (vg_ws ww_shp ww_nm ad tx σ) H2 := lq_kw hP1 (B := fun q => q = a) (fun n hn h => hAd n hn (by rw [h]; exact hAa)) (fun z hz hne => hk2 z hne)
  have hsha : sh ≠ a := fun e => by
    obtain ⟨r, h1, cell, g1, g2, g3, -⟩ := hT1 0 _ rfl
    rw [e] at hfS1
    have e4 := Option.some.inj (g1.symm.trans hfS1)
    exact hK.ne.2.2.2.2.1 (g2.symm.trans (by rw [e4]; rfl))
  have hfS2 : H2[sh]? = some (vp_cell cG (3, tq fS)) := (hk2 sh hsha).trans hfS1
  refine lt_aald (cX := cG) (ty := .array .int) hx hb aG rfl hfS2 him dX6_shelter_27 ?_
  rw [ecl, hy]
  have hq2 := hE2.2.1 _ _ hq1
  have hq2b := hq2
  obtain ⟨-, gy2, hgy2⟩ := hq2b
  refine lv_iconst (v := 1) hx hb dX6_shelter_28 rfl ?_
  refine lv_iload_n hx hb dX6_shelter_29 rfl (lv_at hl 2 rfl) ?_
  refine lt_iast (A := A) (F := FF) hx hb hK hq2 (hFA y hAy) hS2 (jin (i := 1) rfl (by decide) (by decide)) dX6_shelter_30 (fun H3 locs3 hq3 hz3 hk3 hE3 hS3 => ?_)
  obtain ⟨-, hT3⟩ := tT_keep hT2b hgy2 hK.ne.2.2.2.1 hk3
  have hP3 : va_P Dx ww_cl (vg_ws ww_shp ww_nm ad tx σ) H3 := lq_kw hP2 (B := fun q => q = y) (fun n hn h => hAd n hn (by rw [h]; exact hAy)) (fun z hz hne => hk3 z hne)
  have hE9 := (hE1.tr hE2).tr hE3
  have hz9 : s.heap.size ≤ H3.size := hE9.1
  refine lv_aload_n hx hb dX6_shelter_31 rfl (lv_at hl 0 rfl) ?_
  refine lt_get (k := 0) (v := .ref (ad (0, 0, 0))) hx hb hts ho hK hT3 dX6_shelter_32 q_389 (by decide) rfl rfl ?_
  refine lv_iload_n hx hb dX6_shelter_35 rfl (lv_at hl 1 rfl) ?_
  refine lv_iload_n hx hb dX6_shelter_36 rfl (lv_at hl 2 rfl) ?_
  refine lt_ww (F := FF) (rest := []) (as := [.inl (.int at_), .inl (.int rc)]) hx hb hml ho hts c_X5_shelter htx hP3 hKx hDx hnw hS3 (hFw H3 hz9) dX6_shelter_37 q_401 q_402 q_403 q_404 (kn := 2) (by decide +kernel) rfl (List.forall_mem_cons.mpr ⟨trivial, List.forall_mem_cons.mpr ⟨trivial, fun _ h => nomatch h⟩⟩) ⟨hc, hrr, hw, h4⟩ (by decide) (by decide) (by decide) (by decide) hl.1 (fun Hz locsz rr σ' hp hPz hzz hkz hSz => ?_)
  have hp2 : rr = some (.inl (.int (jV σ 0 1 0 5))) ∧ σ' = jPut σ 0 (jShel (jV σ 0) at_ rc) := hp
  obtain ⟨rfl, rfl⟩ := hp2
  have hEz : tE cI cG cH A H3 Hz := tE.old hzz (fun z hz hAz => hkz z hz (fun n hn h => hAd n hn (by rw [h]; exact hAz)))
  have hTz := tT_at hT3 (hkz a (by omega) (fun n hn h => hAd n hn (by rw [h]; exact hAa)))
  refine lv_aload_n hx hb dX6_shelter_40 rfl (lv_at hl 0 rfl) ?_
  refine lt_get (k := 7) (v := .int (nI (sm + 1))) hx hb hts ho hK hTz dX6_shelter_41 q_400 (by decide) rfl rfl ?_
  refine lv_iconst (v := 1) hx hb dX6_shelter_44 rfl ?_
  refine lv_isub hx hb dX6_shelter_45 ?_
  rw [nI_pred]
  refine lv_icmp_ne (tgt := 53) hx hb dX6_shelter_46 (by decide) (fun z => absurd (show jV σ 0 1 0 5 = nI sm by rw [hn]; exact hw.2.1.1) z) (fun _ => ?_)
  refine lv_iconst (v := 1) hx hb dX6_shelter_49 rfl ?_
  refine lv_goto (tgt := 54) hx hb dX6_shelter_50 (by decide) ?_
  have hEe := hE9.tr hEz
  subst hFF
  exact W.zret hx hb hr rfl (fun t2 ht2 _ => ⟨⟨rfl, by rw [ht2]; exact ⟨⟨hAa, gr, wa, he, sh, si, ma, da, hTz, hEe.2.2.1 _ _ hGg, hEe.2.2.2.1 _ hLh, hEe.2.2.2.2 _ hSs, hEe.2.2.1 _ _ hGs, hEe.2.2.1 _ _ hGm⟩, hPz⟩⟩, hSz.F ht2⟩) hSz.2.2 dX6_shelter_54 hlocks
theorem lt_group (l : Launch) (D : va_G) (cI cG cH : ClassId) (A : Nat → Prop) (Dx : va_G) (tx : List (ClassId × FieldType)) (ad : vgN → Nat) (sz a b k gn sm sn mn : Nat) (σ : vgS) (at_ pe to de ra : Int32) (hA : ∀ q, sz ≤ q → A q) (htx : tx.map (fun q => q.2) = ww_tyl) (hAd : ∀ n ∈ ww_nm, ¬ A (ad n)) (hc : vp_in at_ 16) (hp1 : ¬ pe < 1 ∧ pe ≤ 99) (hto : ¬ to < 0 ∧ to ≤ 2) (hde : de = 0 ∨ de = 1) (hra : ra = 0 ∨ ra = 1) (hw : jWf (jV σ 0)) (h4 : jGc (jV σ 0) < 8) (hn : gn = jGc (jV σ 0)) :
    Met l yX6_group (.code yX6_group cX6_group 7 (some .boolean) :: ww_tb) { frames := 3, cells := 14, slots := 77, locals := 32 * 3 } (va_Pc [Value.ref a, Value.int at_, Value.int pe, Value.int to, Value.int de, Value.int ra] (fun U => U.heap.size = sz ∧ tU D cI cG cH Dx tx ad U ∧ tW D cI cG cH A Dx tx ad a b k gn sm sn mn σ U.heap))
      (fun _ st oc t => (oc = .returned (some (.int 1)) ∧ tW D cI cG cH A Dx tx ad a b k (gn + 1) sm sn mn (jPut σ 0 (jGroup (jV σ 0) at_ pe to de ra)) t.heap) ∧ va_F (tF A ad sz) st t) 14 77 (tF A ad sz) := by
  refine Met.ofW (cc := cX6_group) (maxL := 7) (ret := some .boolean) (by decide +kernel) rfl ?_
  intro p e s mm args below meth c s₁ B hml hv
  obtain ⟨rfl, hsz, hU, hWW⟩ := hv
  have hU2 := hU
  obtain ⟨hK, hnt, hnw, hKx, hDx⟩ := hU2
  obtain ⟨⟨hAa, gr, wa, he, sh, si, ma, da, hT, hGg, hLh, hSs, hGs, hGm⟩, hP⟩ := hWW
  have hx := B.exec
  have hb := B.bytes
  have hr := B.returns
  have hlocks := B.notSynchronized
  have hts : ∀ w ∈ ww_tb, w.before ([Value.ref a, Value.int at_, Value.int pe, Value.int to, Value.int de, Value.int ra] : List Value).toArray s = true := fun w h => atoms_spec (ws := .code yX6_group cX6_group 7 (some .boolean) :: ww_tb) B.pre w (List.mem_cons_of_mem _ h)
  have ho : s.vm.findClass RX6 = some mm.cls := findClass_of_methodNamed B.named
  have hg : ∀ w ∈ ww_tb, goodWord w = true := fun w h => List.all_eq_true.mp ww_good w h
  subst hsz
  have hl := lv_entry ([Value.ref a, Value.int at_, Value.int pe, Value.int to, Value.int de, Value.int ra] : List Value) (n := 7) (show (6 : Nat) ≤ 7 by decide)
  rw [lg_entry_eq]
  obtain ⟨FF, hFF⟩ : ∃ FF : Nat → Prop, FF = tF A ad s.heap.size := ⟨_, rfl⟩
  have hS0 : va_S FF s.heap s.heap [] := va_S.rf
  have hFA : ∀ q, A q → FF q := fun q h => by rw [hFF]; exact Or.inl h
  have hFz : ∀ q, s.heap.size ≤ q → FF q := fun q h => hFA q (hA q h)
  have hFw : ∀ (H : Heap), s.heap.size ≤ H.size → ∀ q, vg_A ww_nm ad H.size q → FF q := fun H hz q h => by
    rcases h with h | h
    · rw [hFF]; exact Or.inr (Or.inl h)
    · exact hFz q (Nat.le_trans hz h)
  have hla : a < s.heap.size := (hT 0 _ rfl).lt
  refine lv_aload_n hx hb dX6_group_0 rfl (lv_at hl 0 rfl) ?_
  refine lv_aload_n hx hb dX6_group_1 rfl (lv_at hl 0 rfl) ?_
  have w18 := q_405
  refine lt_get (k := 3) (v := .ref gr) hx hb hts ho hK hT dX6_group_2 w18 (by decide) rfl rfl ?_
  refine lv_bipush (v := 8) hx hb dX6_group_5 (by decide) ?_
  refine lt_newI (A := A) (N := 8) hx hb hts hK hS0 rfl (by decide) (by decide) (by decide) dX6_group_7 (fun q H1 hq0 hc1 hz1 ho1 hE1 hS1 => ?_)
  have hFq : FF q := hFz q hq0
  have hq1 : tR cI A 8 H1 q := ⟨hA q hq0, _, hc1⟩
  refine lv_dup hx hb dX6_group_9 rfl ?_
  refine lv_iconst (v := 0) hx hb dX6_group_10 rfl ?_
  refine lv_iload_n hx hb dX6_group_11 rfl (lv_at hl 1 rfl) ?_
  refine lt_iast (A := A) (F := FF) hx hb hK hq1 hFq hS1 (jin (i := 0) rfl (by decide) (by decide)) dX6_group_12 (fun H2 locs2 hq2 hz2 hk2 hEa2 hS2 => ?_)
  have hE2 := tE.tr hE1 hEa2
  have ho2 : ∀ z, z < s.heap.size → H2[z]? = s.heap[z]? := fun z hz => (hk2 z (by omega)).trans (ho1 z hz)
  refine lv_dup hx hb dX6_group_13 rfl ?_
  refine lv_iconst (v := 1) hx hb dX6_group_14 rfl ?_
  refine lv_iload_n hx hb dX6_group_15 rfl (lv_at hl 2 rfl) ?_
  refine lt_iast (A := A) (F := FF) hx hb hK hq2 hFq hS2 (jin (i := 1) rfl (by decide) (by decide)) dX6_group_16 (fun H3 locs3 hq3 hz3 hk3 hEa3 hS3 => ?_)
  have hE3 := tE.tr hE2 hEa3
  have ho3 : ∀ z, z < s.heap.size → H3[z]? = s.heap[z]? := fun z hz => (hk3 z (by omega)).trans (ho2 z hz)
  refine lv_dup hx hb dX6_group_17 rfl ?_
  refine lv_iconst (v := 2) hx hb dX6_group_18 rfl ?_
  refine lv_iload_n hx hb dX6_group_19 rfl (lv_at hl 3 rfl) ?_
  refine lt_iast (A := A) (F := FF) hx hb hK hq3 hFq hS3 (jin (i := 2) rfl (by decide) (by decide)) dX6_group_20 (fun H4 locs4 hq4 hz4 hk4 hEa4 hS4 => ?_)
  have hE4 := tE.tr hE3 hEa4
  have ho4 : ∀ z, z < s.heap.size → H4[z]? = s.heap[z]? := fun z hz => (hk4 z (by omega)).trans (ho3 z hz)
  refine lv_dup hx hb dX6_group_21 rfl ?_
  refine lv_iconst (v := 3) hx hb dX6_group_22 rfl ?_
  refine lv_iconst (v := 5) hx hb dX6_group_23 rfl ?_
  refine lt_iast (A := A) (F := FF) hx hb hK hq4 hFq hS4 (jin (i := 3) rfl (by decide) (by decide)) dX6_group_24 (fun H5 locs5 hq5 hz5 hk5 hEa5 hS5 => ?_)
  have hE5 := tE.tr hE4 hEa5
  have ho5 : ∀ z, z < s.heap.size → H5[z]? = s.heap[z]? := fun z hz => (hk5 z (by omega)).trans (ho4 z hz)
  refine lv_dup hx hb dX6_group_25 rfl ?_
  refine lv_iconst (v := 4) hx hb dX6_group_26 rfl ?_
  refine lv_iload hx hb dX6_group_27 (lv_at hl 4 rfl) ?_
  refine lt_iast (A := A) (F := FF) hx hb hK hq5 hFq hS5 (jin (i := 4) rfl (by decide) (by decide)) dX6_group_29 (fun H6 locs6 hq6 hz6 hk6 hEa6 hS6 => ?_)
  have hE6 := tE.tr hE5 hEa6
  have ho6 : ∀ z, z < s.heap.size → H6[z]? = s.heap[z]? := fun z hz => (hk6 z (by omega)).trans (ho5 z hz)
  refine lv_dup hx hb dX6_group_30 rfl ?_
  refine lv_iconst (v := 5) hx hb dX6_group_31 rfl ?_
  refine lv_iload hx hb dX6_group_32 (lv_at hl 5 rfl) ?_
  refine lt_iast (A := A) (F := FF) hx hb hK hq6 hFq hS6 (jin (i := 5) rfl (by decide) (by decide)) dX6_group_34 (fun H7 locs7 hq7 hz7 hk7 hEa7 hS7 => ?_)
  have hE7 := tE.tr hE6 hEa7
  have ho7 : ∀ z, z < s.heap.size → H7[z]? = s.heap[z]? := fun z hz => (hk7 z (by omega)).trans (ho6 z hz)
  refine lv_dup hx hb dX6_group_35 rfl ?_
  refine lv_bipush (v := 6) hx hb dX6_group_36 (by decide) ?_
  refine lv_iconst (v := -1) hx hb dX6_group_38 rfl ?_
  refine lt_iast (A := A) (F := FF) hx hb hK hq7 hFq hS7 (jin (i := 6) rfl (by decide) (by decide)) dX6_group_39 (fun H8 locs8 hq8 hz8 hk8 hEa8 hS8 => ?_)
  have hE8 := tE.tr hE7 hEa8
  have ho8 : ∀ z, z < s.heap.size → H8[z]? = s.heap[z]? := fun z hz => (hk8 z (by omega)).trans (ho7 z hz)
  refine lv_dup hx hb dX6_group_40 rfl ?_
  refine lv_bipush (v := 7) hx hb dX6_group_41 (by decide) ?_
  refine lv_iconst (v := 0) hx hb dX6_group_43 rfl ?_
  refine lt_iast (A := A) (F := FF) hx hb hK hq8 hFq hS8 (jin (i := 7) rfl (by decide) (by decide)) dX6_group_44 (fun H9 locs9 hq9 hz9 hk9 hEa9 hS9 => ?_)
  have hE9 := tE.tr hE8 hEa9
  have ho9 : ∀ z, z < s.heap.size → H9[z]? = s.heap[z]? := fun z hz => (hk9 z (by omega)).trans (ho8 z hz)
  have hzn : s.heap.size ≤ H9.size := hE9.1
  refine lt_run (F := FF) (Fc := fun q => H9.size ≤ q) (va_runS (As := [.ref gr, .ref q]) (rest := [.ref a]) ⟨hx, hb, hml, ho, hts⟩ (lt_plus l D cI cG cH A H9.size gr q gn 8 (by omega) (fun q h => hA q (Nat.le_trans hzn h))) ⟨callB_of 2 hts (fun w hw => by
      rcases List.mem_cons.mp hw with rfl | hw
      · exact ⟨q_385, good_of_word (hg _ q_385)⟩
      · exact ⟨hw, good_of_word (hg _ hw)⟩) rfl rfl rfl (hts _ q_386) (hts _ q_387) (by decide +kernel) (by decide), hts _ q_388⟩ ⟨fun a U g mk z => ⟨z.1, z.2.1, tK.moved (u := U) (U := U.calling g mk a) (Vm.Alike.refl U.vm) z.2.2.1, z.2.2.2⟩, fun U hU hW => ⟨rfl, by rw [hU], hK.moved hW.alike, by rw [hU]; exact hE9.2.2.1 _ _ hGg, by rw [hU]; exact hq9⟩⟩ rfl rfl hl.1 rfl (lv_room (show (1 + 0 : Nat) ≤ 8 by decide)) dX6_group_45 ⟨by decide, by decide⟩) hS9 (fun q h => hFz q (Nat.le_trans hzn h)) (fun _ _ _ h => h.2) (fun st t v locsp h0 hq hf hSp => ?_)
  obtain ⟨⟨r, hv, hGr⟩, -⟩ := hq
  cases hv
  have hkp : ∀ z, z < H9.size → t.heap[z]? = H9[z]? := fun z hz => by rw [hf.2 z (by rw [h0]; exact hz) (by omega), h0]
  have hzp : H9.size ≤ t.heap.size := by have := hf.1; rw [h0] at this; exact this
  have hEp : tE cI cG cH A s.heap t.heap := hE9.tr (tE.old hzp (fun z hz _ => hkp z hz))
  have hop : ∀ z, z < s.heap.size → t.heap[z]? = s.heap[z]? := fun z hz => (hkp z (by omega)).trans (ho9 z hz)
  have hTp := lq_kp hT hop
  refine lt_put (A := A) (k := 3) (v := .ref r) hx hb hts ho hK hTp hSp (hFA a hAa) dX6_group_48 w18 (by decide) rfl rfl rfl rfl (by show 3 < 15; decide) (fun Hy locsy hTy hzy hky hEy hSy => ?_)
  have hE9 := hEp.tr hEy
  have hPy : va_P Dx ww_cl (vg_ws ww_shp ww_nm ad tx σ) Hy := lq_kw hP (B := fun q => q = a) (fun n hn h => hAd n hn (by rw [h]; exact hAa)) (fun z hz hne => (hky z hne).trans (hop z hz))
  have hTy2 : va_P D tClT [(a, .inr (0, tf (ad (0, 0, 0)) b k r wa he sh sm si ma da))] Hy := hTy
  have hGy := hEy.2.2.1 _ _ hGr
  refine lv_iconst (v := 0) hx hb dX6_group_51 rfl ?_
  refine lv_istore (lv' := [(6, .int (nI 0)), (0, .ref a), (1, .int at_), (2, .int pe), (3, .int to), (4, .int de), (5, .int ra)]) hx hb dX6_group_52 hl (by decide) rfl (fun ls1 hl1 => ?_)
  have loop : ∀ (n j : Nat), n + j = 12 → ∀ (H2 : Heap) (locs2 : List Loc) (ls2 : Array Slot), tE cI cG cH A s.heap H2 → va_P D tClT [(a, .inr (0, tf (ad (0, 0, 0)) b k r wa he sh sm si ma da))] H2 → tG cI cG A (gn + 1) H2 r → va_P Dx ww_cl (vg_ws ww_shp ww_nm ad tx σ) H2 → va_S FF s.heap H2 locs2 → lv_has ls2 7 [(6, .int (nI j)), (0, .ref a), (1, .int at_), (2, .int pe), (3, .int to), (4, .int de), (5, .int ra)] →
      W p l e (headSpec (.code yX6_group cX6_group 7 (some .boolean) :: ww_tb) { frames := 3, cells := 14, slots := 77, locals := 32 * 3 }).room s mm ([Value.ref a, Value.int at_, Value.int pe, Value.int to, Value.int de, Value.int ra] : List Value).toArray below meth c H2 locs2 (2 + j) (17 + 5 * j) (MQ below (fun _ st oc t => (oc = .returned (some (.int 1)) ∧ tW D cI cG cH A Dx tx ad a b k (gn + 1) sm sn mn (jPut σ 0 (jGroup (jV σ 0) at_ pe to de ra)) t.heap) ∧ va_F (tF A ad s.heap.size) st t) ([Value.ref a, Value.int at_, Value.int pe, Value.int to, Value.int de, Value.int ra] : List Value).toArray s 14 77 (tF A ad s.heap.size)) (F0 mm 54 ls2 []) := by
    intro n
    induction n with
    | zero =>
      intro j hj H2 locs2 ls2 hE2 hT2 hG2 hP2 hS2 hl2
      have ej : j = 12 := by omega
      subst ej
      have hz2 : s.heap.size ≤ H2.size := hE2.1
      refine lv_iload hx hb dX6_group_54 (lv_at hl2 0 rfl) ?_
      refine lv_bipush (v := 12) hx hb dX6_group_56 (by decide) ?_
      refine lv_icmp_ge (tgt := 80) hx hb dX6_group_58 (by decide) (fun _ => ?_) (fun z => absurd (by decide) z)
      refine lv_aload_n hx hb dX6_group_80 rfl (lv_at hl2 1 rfl) ?_
      refine lt_get (k := 0) (v := .ref (ad (0, 0, 0))) hx hb hts ho hK hT2 dX6_group_81 q_389 (by decide) rfl rfl ?_
      refine lv_iload_n hx hb dX6_group_84 rfl (lv_at hl2 2 rfl) ?_
      refine lv_iload_n hx hb dX6_group_85 rfl (lv_at hl2 3 rfl) ?_
      refine lv_iload_n hx hb dX6_group_86 rfl (lv_at hl2 4 rfl) ?_
      refine lv_iload hx hb dX6_group_87 (lv_at hl2 5 rfl) ?_
      refine lv_iconst (v := 1) hx hb dX6_group_89 rfl ?_
      have kdeaf : ∀ (Q9 : State → Prop) (R9 : Room) (rest9 : List Value), W p l e R9 s mm ([Value.ref a, Value.int at_, Value.int pe, Value.int to, Value.int de, Value.int ra] : List Value).toArray below meth c H2 locs2 (2 + 12) (17 + 5 * 12) Q9 (F0 mm 98 ls2 (.int de :: rest9)) → W p l e R9 s mm ([Value.ref a, Value.int at_, Value.int pe, Value.int to, Value.int de, Value.int ra] : List Value).toArray below meth c H2 locs2 (2 + 12) (17 + 5 * 12) Q9 (F0 mm 90 ls2 (.int 1 :: .int de :: rest9)) := by
        intro Q9 R9 rest9 k9
        refine lv_icmp_ne (tgt := 97) hx hb dX6_group_90 (by decide) (fun z => ?_) (fun z => ?_)
        · have e0 : de = 0 := hde.elim id (fun h => absurd h z)
          exact lv_iconst (v := de) hx hb dX6_group_97 (by rw [e0]; rfl) k9
        · refine lv_iconst (v := de) hx hb dX6_group_93 (by rw [z]; rfl) ?_
          exact lv_goto (tgt := 98) hx hb dX6_group_94 (by decide) k9
      have kradio : ∀ (Q9 : State → Prop) (R9 : Room) (rest9 : List Value), W p l e R9 s mm ([Value.ref a, Value.int at_, Value.int pe, Value.int to, Value.int de, Value.int ra] : List Value).toArray below meth c H2 locs2 (2 + 12) (17 + 5 * 12) Q9 (F0 mm 109 ls2 (.int ra :: rest9)) → W p l e R9 s mm ([Value.ref a, Value.int at_, Value.int pe, Value.int to, Value.int de, Value.int ra] : List Value).toArray below meth c H2 locs2 (2 + 12) (17 + 5 * 12) Q9 (F0 mm 101 ls2 (.int 1 :: .int ra :: rest9)) := by
        intro Q9 R9 rest9 k9
        refine lv_icmp_ne (tgt := 108) hx hb dX6_group_101 (by decide) (fun z => ?_) (fun z => ?_)
        · have e0 : ra = 0 := hra.elim id (fun h => absurd h z)
          exact lv_iconst (v := ra) hx hb dX6_group_108 (by rw [e0]; rfl) k9
        · refine lv_iconst (v := ra) hx hb dX6_group_104 (by rw [z]; rfl) ?_
          exact lv_goto (tgt := 109) hx hb dX6_group_105 (by decide) k9
      refine kdeaf _ _ _ ?_
      refine lv_iload hx hb dX6_group_98 (lv_at hl2 6 rfl) ?_
      refine lv_iconst (v := 1) hx hb dX6_group_100 rfl ?_
      refine kradio _ _ _ ?_
      refine lt_ww (F := FF) (rest := []) (as := [.inl (.int at_), .inl (.int pe), .inl (.int to), .inl (.int de), .inl (.int ra)]) hx hb hml ho hts c_X5_group htx hP2 hKx hDx hnw hS2 (hFw H2 hz2) dX6_group_109 q_406 q_407 q_408 q_409 (kn := 5) (by decide +kernel) rfl (List.forall_mem_cons.mpr ⟨trivial, List.forall_mem_cons.mpr ⟨trivial, List.forall_mem_cons.mpr ⟨trivial, List.forall_mem_cons.mpr ⟨trivial, List.forall_mem_cons.mpr ⟨trivial, fun _ h => nomatch h⟩⟩⟩⟩⟩) ⟨hc, hp1, hto, hde, hra, hw, h4⟩ (by decide) (by decide) (by decide) (by decide) hl2.1 (fun Hz locsz rr σ' hp hPz hzz hkz hSz => ?_)
      have hp2 : rr = some (.inl (.int (jV σ 0 1 0 4))) ∧ σ' = jPut σ 0 (jGroup (jV σ 0) at_ pe to de ra) := hp
      obtain ⟨rfl, rfl⟩ := hp2
      have hEz : tE cI cG cH A H2 Hz := tE.old hzz (fun z hz hAz => hkz z hz (fun n hn h => hAd n hn (by rw [h]; exact hAz)))
      have hTz := tT_at hT2 (hkz a (by omega) (fun n hn h => hAd n hn (by rw [h]; exact hAa)))
      have hGz := hEz.2.2.1 _ _ hG2
      have hGz2 := hGz
      obtain ⟨-, fz, hfz, -⟩ := hGz2
      refine lv_aload_n hx hb dX6_group_112 rfl (lv_at hl2 1 rfl) ?_
      refine lt_get (k := 3) (v := .ref r) hx hb hts ho hK hTz dX6_group_113 w18 (by decide) rfl rfl ?_
      refine lt_alen hx hb (hK.1.2 1 _ rfl).1 hfz dX6_group_116 ?_
      refine lv_iconst (v := 1) hx hb dX6_group_117 rfl ?_
      refine lv_isub hx hb dX6_group_118 ?_
      rw [nI_pred]
      refine lv_icmp_ne (tgt := 126) hx hb dX6_group_119 (by decide) (fun z => absurd (show jV σ 0 1 0 4 = nI gn by rw [hn]; exact hw.1.1) z) (fun _ => ?_)
      refine lv_iconst (v := 1) hx hb dX6_group_122 rfl ?_
      refine lv_goto (tgt := 127) hx hb dX6_group_123 (by decide) ?_
      have hEe := hE2.tr hEz
      subst hFF
      exact W.zret hx hb hr rfl (fun t2 ht2 _ => ⟨⟨rfl, by rw [ht2]; exact ⟨⟨hAa, r, wa, he, sh, si, ma, da, hTz, hGz, hEe.2.2.2.1 _ hLh, hEe.2.2.2.2 _ hSs, hEe.2.2.1 _ _ hGs, hEe.2.2.1 _ _ hGm⟩, hPz⟩⟩, hSz.F ht2⟩) hSz.2.2 dX6_group_127 hlocks
    | succ n ih =>
      intro j hj H2 locs2 ls2 hE2 hT2 hG2 hP2 hS2 hl2
      have hz2 : s.heap.size ≤ H2.size := hE2.1
      have hG3 := hG2
      obtain ⟨-, fr, hfr, -⟩ := hG3
      refine lv_iload hx hb dX6_group_54 (lv_at hl2 0 rfl) ?_
      refine lv_bipush (v := nI 12) hx hb dX6_group_56 (by decide) ?_
      refine lv_icmp_ge (tgt := 80) hx hb dX6_group_58 (by decide) (fun z => absurd z (nI_ge (by omega) (by decide))) (fun _ => ?_)
      refine lv_aload_n hx hb dX6_group_61 rfl (lv_at hl2 1 rfl) ?_
      refine lv_aload_n hx hb dX6_group_62 rfl (lv_at hl2 1 rfl) ?_
      refine lt_get (k := 3) (v := .ref r) hx hb hts ho hK hT2 dX6_group_63 w18 (by decide) rfl rfl ?_
      refine lt_alen hx hb (hK.1.2 1 _ rfl).1 hfr dX6_group_66 ?_
      refine lv_iconst (v := 1) hx hb dX6_group_67 rfl ?_
      refine lv_isub hx hb dX6_group_68 ?_
      rw [nI_pred]
      refine lv_iload hx hb dX6_group_69 (lv_at hl2 0 rfl) ?_
      refine lt_run (F := FF) (Fc := A) (va_runV (As := [.int (nI gn), .int (nI j)]) (b := a) (rest := []) (C := RX6) ⟨hx, hb, hml, ho, hts⟩ (lt_blank l D cI cG cH A H2.size a b k (ad (0, 0, 0)) r wa he sh sm si ma da (nI gn) (nI j) (fun q h => hA q (Nat.le_trans hz2 h)) (vp_in_nI (by omega) (by decide)) (vp_in_nI (by omega) (by decide))) ⟨callB_of 2 hts (fun w hw => by
          rcases List.mem_cons.mp hw with rfl | hw
          · exact ⟨q_410, good_of_word (hg _ q_410)⟩
          · exact ⟨hw, good_of_word (hg _ hw)⟩) rfl rfl rfl (hts _ q_386) (hts _ q_411) (by decide +kernel) (by decide), hts _ q_412, hts _ q_413⟩ ⟨fun a U g mk z => ⟨z.1, z.2.1, tK.moved (u := U) (U := U.calling g mk a) (Vm.Alike.refl U.vm) z.2.2.1, z.2.2.2⟩, va_recv hK.1 hT2 (ci := 0) (q0 := 0) rfl rfl, fun U hU hW => ⟨rfl, by rw [hU], hK.moved hW.alike, by rw [hU]; exact hT2, by rw [hU]; exact hE2.2.2.2.1 _ hLh⟩⟩ rfl rfl hl2.1 rfl (lv_room (by decide)) dX6_group_71 ⟨by show 2 + j + 1 ≤ 14; omega, by show 17 + 5 * j + 5 ≤ 77; omega⟩) hS2 hFA (fun _ _ _ h => h.2) (fun st2 t2 v2 locs3 h02 hq2 hf2 hS3 => ?_)
      obtain ⟨⟨hv2, hT3, hE3⟩, -⟩ := hq2
      cases hv2
      rw [h02] at hE3
      have hP3 : va_P Dx ww_cl (vg_ws ww_shp ww_nm ad tx σ) t2.heap := lq_kw hP2 hAd (fun z hz hne => by rw [hf2.2 z (by rw [h02]; exact hz) hne, h02])
      refine lv_iinc (k := 0) (v := nI (j + 1)) (lv' := [(6, .int (nI (j + 1))), (0, .ref a), (1, .int at_), (2, .int pe), (3, .int to), (4, .int de), (5, .int ra)]) hx hb dX6_group_74 hl2 rfl (nI_succ j).symm (by decide) rfl (fun ls3 hl3 => ?_)
      refine lv_goto (tgt := 54) hx hb dX6_group_77 (by decide) ?_
      exact ih (j + 1) (by omega) t2.heap locs3 ls3 (hE2.tr hE3) hT3 (hE3.2.2.1 _ _ hG2) hP3 hS3 hl3
  exact loop 12 0 rfl Hy locsy ls1 hE9 hTy2 hGy hPy hSy hl1
