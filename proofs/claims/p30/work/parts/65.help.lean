-- words of the tables, and what stands at each place of the methods' code (laid by program)
theorem q_451 : Cond.code yX5_alert cX5_alert 4 (some .int) ∈ ww_tb := by decide +kernel
theorem q_452 : Cond.methodLink RL 69 yX5_alert ∈ ww_tb := by decide +kernel
theorem q_453 : Cond.instanceMethod yX5_alert ∈ ww_tb := by decide +kernel
theorem q_454 : Cond.selects RX5 yX5_alert yX5_alert ∈ ww_tb := by decide +kernel
theorem q_455 : Cond.code yX5_approve cX5_approve 4 (some .int) ∈ ww_tb := by decide +kernel
theorem q_456 : Cond.methodLink RL 72 yX5_approve ∈ ww_tb := by decide +kernel
theorem q_457 : Cond.instanceMethod yX5_approve ∈ ww_tb := by decide +kernel
theorem q_458 : Cond.selects RX5 yX5_approve yX5_approve ∈ ww_tb := by decide +kernel
theorem q_459 : Cond.code yX5_send cX5_send 2 (some .int) ∈ ww_tb := by decide +kernel
theorem q_460 : Cond.methodLink RL 75 yX5_send ∈ ww_tb := by decide +kernel
theorem q_461 : Cond.instanceMethod yX5_send ∈ ww_tb := by decide +kernel
theorem q_462 : Cond.selects RX5 yX5_send yX5_send ∈ ww_tb := by decide +kernel
theorem q_463 : Cond.methodLink RL 43 yX5_many ∈ ww_tb := by decide +kernel
theorem q_464 : Cond.methodLink RL 56 yX5_ofGroup ∈ ww_tb := by decide +kernel
theorem dL_send_0 : decode cL_send 0 = .ok (.aload_n 0, 1) := by decide +kernel
theorem dL_send_1 : decode cL_send 1 = .ok (.iload_n 1, 1) := by decide +kernel
theorem dL_send_2 : decode cL_send 2 = .ok (.iload_n 2, 1) := by decide +kernel
theorem dL_send_3 : decode cL_send 3 = .ok (.bipush 7, 2) := by decide +kernel
theorem dL_send_5 : decode cL_send 5 = .ok (.invokevirtual 69, 3) := by decide +kernel
theorem dL_send_8 : decode cL_send 8 = .ok (.istore_n 3, 1) := by decide +kernel
theorem dL_send_9 : decode cL_send 9 = .ok (.aload_n 0, 1) := by decide +kernel
theorem dL_send_10 : decode cL_send 10 = .ok (.iload_n 3, 1) := by decide +kernel
theorem dL_send_11 : decode cL_send 11 = .ok (.iconst 0, 1) := by decide +kernel
theorem dL_send_12 : decode cL_send 12 = .ok (.invokevirtual 72, 3) := by decide +kernel
theorem dL_send_15 : decode cL_send 15 = .ok (.pop, 1) := by decide +kernel
theorem dL_send_16 : decode cL_send 16 = .ok (.aload_n 0, 1) := by decide +kernel
theorem dL_send_17 : decode cL_send 17 = .ok (.iload_n 3, 1) := by decide +kernel
theorem dL_send_18 : decode cL_send 18 = .ok (.iconst 1, 1) := by decide +kernel
theorem dL_send_19 : decode cL_send 19 = .ok (.invokevirtual 72, 3) := by decide +kernel
theorem dL_send_22 : decode cL_send 22 = .ok (.pop, 1) := by decide +kernel
theorem dL_send_23 : decode cL_send 23 = .ok (.aload_n 0, 1) := by decide +kernel
theorem dL_send_24 : decode cL_send 24 = .ok (.iload_n 3, 1) := by decide +kernel
theorem dL_send_25 : decode cL_send 25 = .ok (.invokevirtual 75, 3) := by decide +kernel
theorem dL_send_28 : decode cL_send 28 = .ok (.ireturn, 1) := by decide +kernel
theorem dL_people_0 : decode cL_people 0 = .ok (.iconst 0, 1) := by decide +kernel
theorem dL_people_1 : decode cL_people 1 = .ok (.istore_n 1, 1) := by decide +kernel
theorem dL_people_2 : decode cL_people 2 = .ok (.iconst 0, 1) := by decide +kernel
theorem dL_people_3 : decode cL_people 3 = .ok (.istore_n 2, 1) := by decide +kernel
theorem dL_people_4 : decode cL_people 4 = .ok (.iload_n 2, 1) := by decide +kernel
theorem dL_people_5 : decode cL_people 5 = .ok (.aload_n 0, 1) := by decide +kernel
theorem dL_people_6 : decode cL_people 6 = .ok (.iconst 2, 1) := by decide +kernel
theorem dL_people_7 : decode cL_people 7 = .ok (.invokevirtual 43, 3) := by decide +kernel
theorem dL_people_10 : decode cL_people 10 = .ok (.if_icmp .ge 32, 3) := by decide +kernel
theorem dL_people_13 : decode cL_people 13 = .ok (.iload_n 1, 1) := by decide +kernel
theorem dL_people_14 : decode cL_people 14 = .ok (.aload_n 0, 1) := by decide +kernel
theorem dL_people_15 : decode cL_people 15 = .ok (.iload_n 2, 1) := by decide +kernel
theorem dL_people_16 : decode cL_people 16 = .ok (.bipush 8, 2) := by decide +kernel
theorem dL_people_18 : decode cL_people 18 = .ok (.invokevirtual 56, 3) := by decide +kernel
theorem dL_people_21 : decode cL_people 21 = .ok (.ifCond .ge 7, 3) := by decide +kernel
theorem dL_people_24 : decode cL_people 24 = .ok (.iconst 0, 1) := by decide +kernel
theorem dL_people_25 : decode cL_people 25 = .ok (.goto 9, 3) := by decide +kernel
theorem dL_people_28 : decode cL_people 28 = .ok (.aload_n 0, 1) := by decide +kernel
theorem dL_people_29 : decode cL_people 29 = .ok (.iload_n 2, 1) := by decide +kernel
theorem dL_people_30 : decode cL_people 30 = .ok (.iconst 1, 1) := by decide +kernel
theorem dL_people_31 : decode cL_people 31 = .ok (.invokevirtual 56, 3) := by decide +kernel
theorem dL_people_34 : decode cL_people 34 = .ok (.iadd, 1) := by decide +kernel
theorem dL_people_35 : decode cL_people 35 = .ok (.istore_n 1, 1) := by decide +kernel
theorem dL_people_36 : decode cL_people 36 = .ok (.iinc 2 1, 3) := by decide +kernel
theorem dL_people_39 : decode cL_people 39 = .ok (.goto (-35), 3) := by decide +kernel
theorem dL_people_42 : decode cL_people 42 = .ok (.iload_n 1, 1) := by decide +kernel
theorem dL_people_43 : decode cL_people 43 = .ok (.ireturn, 1) := by decide +kernel
/-! the law's own helpers -/
section LZ
variable {p : Program} {l : Launch} {e : Env} {R : Room} {s : State} {m : MethodId} {args : Array Value} {below : List Frame} {meth : Method} {c : Code} {H : Heap} {locs : List Loc} {Q : State → Prop} {ck cn : Nat}
variable {cc : ByteArray} {pc nL : Nat} {ls : Array Slot} {rest : List Value} {F : Nat → Prop} {Dx : va_G} {tx : List (ClassId × FieldType)} {ad : vgN → Nat} {v : jN}
theorem lz_call {pre : vgT → vgS → Prop} {post : vgT → vgS → vgO} {as : vgT} {v' : jN} {rv : Value} {y : MethodName} {bytes : ByteArray} {mL d' ix kn : Nat} {rt : Option FieldType} (hx : p.tables.exec = Jvm.exec) (hcb : c.code = cc) (hml : c.maxLocals = nL) (hown : s.vm.findClass RL = some m.cls) (hts : ∀ w ∈ ww_tb, w.before args s = true) (htx : tx.map (fun q => q.2) = ww_tyl) (hK : va_K Dx ww_cl tx s) (hD : va_D (fun _ => True) (vg_ws ww_shp ww_nm ad tx (fun _ _ => 0))) (hnw : vg_nw ww_nw s) (hA : lA Dx tx ad v H) (hS : va_S F s.heap H locs) (hF : ∀ q, vg_A ww_nm ad H.size q → F q)
    (hM : vg_Met ww_tb ww_nw ww_shp ww_nm ww_cl ww_tyl y bytes mL rt d' pre post) (hs : lR pre post as v v' rv)
    (hd : decode cc pc = .ok (.invokevirtual ix, 3)) (hcw : Cond.code y bytes mL rt ∈ ww_tb) (hl : Cond.methodLink RL ix y ∈ ww_tb) (hi : Cond.instanceMethod y ∈ ww_tb) (hse : Cond.selects RX5 y y ∈ ww_tb)
    (hy : y.cls = RX5 ∧ y.cls ≠ "java/lang/invoke/MethodHandle" ∧ y.cls ≠ "java/lang/invoke/VarHandle" ∧ (parseMethodDescriptor y.desc).map (fun d => d.parameters.length) = some kn) (hlen : as.length = kn) (hav : ∀ v ∈ as, vg_ok ww_nm v) (hR : d' + 1 ≤ R.frames ∧ 8 + (mL + 11) + 32 * d' ≤ R.locals) (hwd : (rest.map fun v => v.category).sum ≤ 8) (hcc : ck ≤ R.cells) (hcs : cn ≤ R.slots) (hls : ls.size = nL)
    (kk : ∀ (H1 : Heap) (locs1 : List Loc), lA Dx tx ad v' H1 → H.size ≤ H1.size → va_S F s.heap H1 locs1 → W p l e R s m args below meth c H1 locs1 ck cn Q (F0 m (pc + 3) ls (rv :: rest))) :
    W p l e R s m args below meth c H locs ck cn Q (F0 m pc ls ((as.map (vg_cv ad)).reverse ++ .ref (ad (0, 0, 0)) :: rest)) := by
  obtain ⟨σ, hv, hP⟩ := hA
  obtain ⟨hpre, hpost⟩ := hs σ hv
  refine lt_ww (F := F) (rest := rest) (as := as) hx hcb hml hown hts hM htx hP hK hD hnw hS hF hd hcw hl hi hse hy hlen hav hpre hR hwd hcc hcs hls (fun H1 locs1 r σ' hp hP1 hz1 hk1 hS1 => ?_)
  obtain ⟨rfl, hv'⟩ := hpost r σ' hp
  exact kk H1 locs1 ⟨_, hv', hP1⟩ hz1 hS1
end LZ
/-- a helper of the law, one land given -/
def lZ (l : Launch) (y : MethodName) (bytes : ByteArray) (mL d : Nat) (Dx : va_G) (tx : List (ClassId × FieldType)) (ad : vgN → Nat) (As : List Value) (v v' : jN) (x : Int32) : Prop := ∀ sz, Met l y (.code y bytes mL (some .int) :: ww_tb) { frames := d, cells := 0, slots := 0, locals := 32 * d } (va_Pc (.ref (ad (0, 0, 0)) :: As) (fun U => U.heap.size = sz ∧ lA Dx tx ad v U.heap ∧ va_K Dx ww_cl tx U ∧ vg_nw ww_nw U)) (fun _ st oc t => (oc = .returned (some (.int x)) ∧ lA Dx tx ad v' t.heap) ∧ va_F (vg_A ww_nm ad sz) st t) 0 0 (vg_A ww_nm ad sz)
theorem lz_send (l : Launch) (Dx : va_G) (tx : List (ClassId × FieldType)) (ad : vgN → Nat) (htx : tx.map (fun q => q.2) = ww_tyl) (hDx : va_D (fun _ => True) (vg_ws ww_shp ww_nm ad tx (fun _ _ => 0))) {v : jN} {t : Nat} (hI : jI v t) (h12 : jWc v < 12) {a d : Int32} (hha : ¬ a < 1 ∧ a ≤ 65535) (hhd : ¬ d < 0 ∧ d ≤ 1) : lZ l yL_send cL_send 4 4 Dx tx ad [.int a, .int d] v (jSendV v a d) (jPin (jSendV v a d) (jSendV v a d 11 (jWc v) 2)) := by
  intro sz
  refine Met.ofW (cc := cL_send) (maxL := 4) (ret := some .int) (by decide +kernel) rfl ?_
  intro p e s mm args below meth c s₁ B hml hv
  obtain ⟨rfl, hsz, hA, hKx, hnw⟩ := hv
  have hx := B.exec
  have hb := B.bytes
  have hr := B.returns
  have hlocks := B.notSynchronized
  have hts : ∀ w ∈ ww_tb, w.before ([Value.ref (ad (0, 0, 0)), Value.int a, Value.int d] : List Value).toArray s = true := fun w h => atoms_spec (ws := .code yL_send cL_send 4 (some .int) :: ww_tb) B.pre w (List.mem_cons_of_mem _ h)
  have ho : s.vm.findClass RL = some mm.cls := findClass_of_methodNamed B.named
  subst hsz
  have hl := lv_entry ([Value.ref (ad (0, 0, 0)), Value.int a, Value.int d] : List Value) (n := 4) (show (3 : Nat) ≤ 4 by decide)
  rw [lg_entry_eq]
  have FE : ∃ FF : Nat → Prop, FF = vg_A ww_nm ad s.heap.size := ⟨_, rfl⟩
  obtain ⟨FF, hFF⟩ := FE
  have hS : va_S FF s.heap s.heap [] := va_S.rf
  have hFw : ∀ Hh : Heap, s.heap.size ≤ Hh.size → ∀ q, vg_A ww_nm ad Hh.size q → FF q := fun Hh hz q hq => by
    rw [hFF]
    rcases hq with h | h
    · exact Or.inl h
    · exact Or.inr (Nat.le_trans hz h)
  have hz0 : s.heap.size ≤ s.heap.size := Nat.le_refl _
  obtain ⟨⟨x1, s1⟩, ⟨x2, s2⟩, s3⟩ := lS_send3 hI h12 a d
  refine lv_aload_n hx hb dL_send_0 rfl (lv_at hl 0 rfl) ?_
  refine lv_iload_n hx hb dL_send_1 rfl (lv_at hl 1 rfl) ?_
  refine lv_iload_n hx hb dL_send_2 rfl (lv_at hl 2 rfl) ?_
  refine lv_bipush (v := 7) hx hb dL_send_3 (by decide) ?_
  refine lz_call (F := FF) (rest := []) (as := [.inl (.int (a)), .inl (.int (d)), .inl (.int (7))]) hx hb hml ho hts htx hKx hDx hnw hA hS (hFw _ (by omega)) c_X5_alert (lS_alert hI h12 hha hhd).r dL_send_5 q_451 q_452 q_453 q_454 (kn := 3) (by decide +kernel) rfl (List.forall_mem_cons.mpr ⟨trivial, List.forall_mem_cons.mpr ⟨trivial, List.forall_mem_cons.mpr ⟨trivial, fun _ h => nomatch h⟩⟩⟩) (by decide) (by decide) (by decide) (by decide) hl.1 (fun H1 locs1 hA1 hz1 hS1 => ?_)
  refine lv_istore_n (i := 3) (lv' := [(3, .int (nI (jWc v))), (0, .ref (ad (0, 0, 0))), (1, .int a), (2, .int d)]) hx hb dL_send_8 rfl hl (by decide) rfl (fun ls1 hl1 => ?_)
  refine lv_aload_n hx hb dL_send_9 rfl (lv_at hl1 1 rfl) ?_
  refine lv_iload_n hx hb dL_send_10 rfl (lv_at hl1 0 rfl) ?_
  refine lv_iconst (v := 0) hx hb dL_send_11 rfl ?_
  refine lz_call (F := FF) (rest := []) (as := [.inl (.int (nI (jWc v))), .inl (.int (0))]) hx hb hml ho hts htx hKx hDx hnw hA1 hS1 (hFw _ (by omega)) c_X5_approve s1.r dL_send_12 q_455 q_456 q_457 q_458 (kn := 2) (by decide +kernel) rfl (List.forall_mem_cons.mpr ⟨trivial, List.forall_mem_cons.mpr ⟨trivial, fun _ h => nomatch h⟩⟩) (by decide) (by decide) (by decide) (by decide) hl1.1 (fun H2 locs2 hA2 hz2 hS2 => ?_)
  refine lv_pop hx hb dL_send_15 rfl ?_
  refine lv_aload_n hx hb dL_send_16 rfl (lv_at hl1 1 rfl) ?_
  refine lv_iload_n hx hb dL_send_17 rfl (lv_at hl1 0 rfl) ?_
  refine lv_iconst (v := 1) hx hb dL_send_18 rfl ?_
  refine lz_call (F := FF) (rest := []) (as := [.inl (.int (nI (jWc v))), .inl (.int (1))]) hx hb hml ho hts htx hKx hDx hnw hA2 hS2 (hFw _ (by omega)) c_X5_approve s2.r dL_send_19 q_455 q_456 q_457 q_458 (kn := 2) (by decide +kernel) rfl (List.forall_mem_cons.mpr ⟨trivial, List.forall_mem_cons.mpr ⟨trivial, fun _ h => nomatch h⟩⟩) (by decide) (by decide) (by decide) (by decide) hl1.1 (fun H3 locs3 hA3 hz3 hS3 => ?_)
  refine lv_pop hx hb dL_send_22 rfl ?_
  refine lv_aload_n hx hb dL_send_23 rfl (lv_at hl1 1 rfl) ?_
  refine lv_iload_n hx hb dL_send_24 rfl (lv_at hl1 0 rfl) ?_
  refine lz_call (F := FF) (rest := []) (as := [.inl (.int (nI (jWc v)))]) hx hb hml ho hts htx hKx hDx hnw hA3 hS3 (hFw _ (by omega)) c_X5_send s3.r dL_send_25 q_459 q_460 q_461 q_462 (kn := 1) (by decide +kernel) rfl (List.forall_mem_cons.mpr ⟨trivial, fun _ h => nomatch h⟩) (by decide) (by decide) (by decide) (by decide) hl1.1 (fun H4 locs4 hA4 hz4 hS4 => ?_)
  subst hFF
  exact W.iret hx hb hr (fun t ht _ => ⟨⟨rfl, by rw [ht]; exact hA4⟩, hS4.F ht⟩) hS4.2.2 dL_send_28 hlocks
/-- what people asks of a land -/
def jIp (v : jN) (_ : Nat) : Prop := jWf v ∧ jGc v = 5
theorem lP_many {v : jN} {t : Nat} (h : jIp v t) : lS sp_X5_many [.inl (.int 2)] v v (.int (nI 5)) := by
  rintro σ ⟨rfl, h1⟩
  have e : jMany (jV σ 0) 2 = nI 5 := by
    show jV σ 0 1 0 4 = nI 5
    rw [h.1.1.1, h.2]
  exact ⟨⟨h.1, jin (i := 2) rfl (by decide) (by decide)⟩, by show some (Sum.inl (Value.int (jMany (jV σ 0) 2))) = _; rw [e], rfl, h1⟩
theorem lP_ofGroup {v : jN} {t g : Nat} (h : jIp v t) {x : Int32} (hg : g < 5) (hx : vp_in x 9) : lS sp_X5_ofGroup [.inl (.int (nI g)), .inl (.int x)] v v (.int (jOfG v g x)) := by
  rintro σ ⟨rfl, h1⟩
  have e : (nI g).toNatClampNeg = g := jcl rfl (by omega)
  exact ⟨⟨h.1, by rw [h.2]; exact vp_in_nI hg (by decide), hx⟩, by show some (Sum.inl (Value.int (jOfG (jV σ 0) (nI g).toNatClampNeg x))) = _; rw [e], rfl, h1⟩
theorem jLt_ge {v : jN} {g : Nat} (hw : jWf v) : 0 ≤ jLt v g ↔ ¬ jLt v g = -1 := by
  rcases jLat_or v g (jWc v) with h | ⟨k, hk, h⟩
  · rw [show jLt v g = -1 from h]
    decide
  · have h9 : jLt v g = nI k := h
    have h12 := hw.2.2.1.2
    rw [h9]
    exact ⟨fun _ z => absurd (congrArg Int32.toInt z) (by rw [nI_toInt (by omega)]; show ¬ (k : Int) = -1; omega), fun _ => nI_le (a := 0) (by omega) (by omega)⟩
def jBf (v : jN) : Nat → Int32 := fun g => if jLt v g = -1 then 0 else v 9 g 1
theorem lz_people (l : Launch) (Dx : va_G) (tx : List (ClassId × FieldType)) (ad : vgN → Nat) (htx : tx.map (fun q => q.2) = ww_tyl) (hDx : va_D (fun _ => True) (vg_ws ww_shp ww_nm ad tx (fun _ _ => 0))) {v : jN} {t : Nat} (hI : jIp v t) : lZ l yL_people cL_people 3 5 Dx tx ad [] v v (jBelv v) := by
  intro sz
  refine Met.ofW (cc := cL_people) (maxL := 3) (ret := some .int) (by decide +kernel) rfl ?_
  intro p e s mm args below meth c s₁ B hml hv
  obtain ⟨rfl, hsz, hA, hKx, hnw⟩ := hv
  have hx := B.exec
  have hb := B.bytes
  have hr := B.returns
  have hlocks := B.notSynchronized
  have hts : ∀ w ∈ ww_tb, w.before ([Value.ref (ad (0, 0, 0))] : List Value).toArray s = true := fun w h => atoms_spec (ws := .code yL_people cL_people 3 (some .int) :: ww_tb) B.pre w (List.mem_cons_of_mem _ h)
  have ho : s.vm.findClass RL = some mm.cls := findClass_of_methodNamed B.named
  subst hsz
  have hl := lv_entry ([Value.ref (ad (0, 0, 0))] : List Value) (n := 3) (show (1 : Nat) ≤ 3 by decide)
  rw [lg_entry_eq]
  have FE : ∃ FF : Nat → Prop, FF = vg_A ww_nm ad s.heap.size := ⟨_, rfl⟩
  obtain ⟨FF, hFF⟩ := FE
  have hS : va_S FF s.heap s.heap [] := va_S.rf
  have hFw : ∀ Hh : Heap, s.heap.size ≤ Hh.size → ∀ q, vg_A ww_nm ad Hh.size q → FF q := fun Hh hz q hq => by
    rw [hFF]
    rcases hq with h | h
    · exact Or.inl h
    · exact Or.inr (Nat.le_trans hz h)
  have hz0 : s.heap.size ≤ s.heap.size := Nat.le_refl _
  refine lv_iconst (v := 0) hx hb dL_people_0 rfl ?_
  refine lv_istore_n (i := 1) (lv' := [(1, .int 0), (0, .ref (ad (0, 0, 0)))]) hx hb dL_people_1 rfl hl (by decide) rfl (fun ls1 hl1 => ?_)
  refine lv_iconst (v := 0) hx hb dL_people_2 rfl ?_
  refine lv_istore_n (i := 2) (lv' := [(2, .int (nI 0)), (1, .int (jSum (jBf v) 0)), (0, .ref (ad (0, 0, 0)))]) hx hb dL_people_3 rfl hl1 (by decide) rfl (fun ls2 hl2 => ?_)
  obtain ⟨QQ, hQQ⟩ : ∃ QQ : State → Prop, QQ = MQ below (fun _ st oc t => (oc = .returned (some (.int (jBelv v))) ∧ lA Dx tx ad v t.heap) ∧ va_F (vg_A ww_nm ad s.heap.size) st t) ([Value.ref (ad (0, 0, 0))] : List Value).toArray s 0 0 (vg_A ww_nm ad s.heap.size) := ⟨_, rfl⟩
  rw [← hQQ]
  have loop : ∀ (n g : Nat), n + g = 5 → ∀ (H2 : Heap) (locs2 : List Loc) (ls2 : Array Slot), s.heap.size ≤ H2.size → lA Dx tx ad v H2 → va_S FF s.heap H2 locs2 → lv_has ls2 3 [(2, .int (nI g)), (1, .int (jSum (jBf v) g)), (0, .ref (ad (0, 0, 0)))] → W p l e (headSpec (.code yL_people cL_people 3 (some .int) :: ww_tb) { frames := 5, cells := 0, slots := 0, locals := 32 * 5 }).room s mm ([Value.ref (ad (0, 0, 0))] : List Value).toArray below meth c H2 locs2 0 0 QQ (F0 mm 4 ls2 []) := by
    intro n
    induction n with
    | zero =>
      intro g hg H2 locs2 ls2 hz2 hA2 hS2 hl2
      have e5 : g = 5 := by omega
      subst e5
      refine lv_iload_n hx hb dL_people_4 rfl (lv_at hl2 0 rfl) ?_
      refine lv_aload_n hx hb dL_people_5 rfl (lv_at hl2 2 rfl) ?_
      refine lv_iconst (v := 2) hx hb dL_people_6 rfl ?_
      refine lz_call (F := FF) (rest := [.int (nI 5)]) (as := [.inl (.int (2))]) hx hb hml ho hts htx hKx hDx hnw hA2 hS2 (hFw _ (by omega)) c_X5_many (lP_many hI).r dL_people_7 q_340 q_463 q_342 q_343 (kn := 1) (by decide +kernel) rfl (List.forall_mem_cons.mpr ⟨trivial, fun _ h => nomatch h⟩) (by decide) (show (1 + 0 : Nat) ≤ 8 by decide) (by decide) (by decide) hl2.1 (fun H3 locs3 hA3 hz3 hS3 => ?_)
      refine lv_icmp_ge (tgt := 42) hx hb dL_people_10 (by decide) (fun _ => ?_) (fun z => absurd (by decide) z)
      refine lv_iload_n hx hb dL_people_42 rfl (lv_at hl2 1 rfl) ?_
      have eB : jSum (jBf v) 5 = jBelv v := by
        show _ = jSum (jBf v) (jGc v)
        rw [hI.2]
      rw [eB]
      subst hQQ
      subst hFF
      exact W.iret hx hb hr (fun t ht _ => ⟨⟨rfl, by rw [ht]; exact hA3⟩, hS3.F ht⟩) hS3.2.2 dL_people_43 hlocks
    | succ n ih =>
      intro g hg H2 locs2 ls2 hz2 hA2 hS2 hl2
      have g5 : g < 5 := by omega
      refine lv_iload_n hx hb dL_people_4 rfl (lv_at hl2 0 rfl) ?_
      refine lv_aload_n hx hb dL_people_5 rfl (lv_at hl2 2 rfl) ?_
      refine lv_iconst (v := 2) hx hb dL_people_6 rfl ?_
      refine lz_call (F := FF) (rest := [.int (nI g)]) (as := [.inl (.int (2))]) hx hb hml ho hts htx hKx hDx hnw hA2 hS2 (hFw _ (by omega)) c_X5_many (lP_many hI).r dL_people_7 q_340 q_463 q_342 q_343 (kn := 1) (by decide +kernel) rfl (List.forall_mem_cons.mpr ⟨trivial, fun _ h => nomatch h⟩) (by decide) (show (1 + 0 : Nat) ≤ 8 by decide) (by decide) (by decide) hl2.1 (fun H3 locs3 hA3 hz3 hS3 => ?_)
      refine lv_icmp_ge (tgt := 42) hx hb dL_people_10 (by decide) (fun z => absurd z (nI_ge (b := 5) g5 (by decide))) (fun _ => ?_)
      refine lv_iload_n hx hb dL_people_13 rfl (lv_at hl2 1 rfl) ?_
      refine lv_aload_n hx hb dL_people_14 rfl (lv_at hl2 2 rfl) ?_
      refine lv_iload_n hx hb dL_people_15 rfl (lv_at hl2 0 rfl) ?_
      refine lv_bipush (v := 8) hx hb dL_people_16 (by decide) ?_
      refine lz_call (F := FF) (rest := [.int (jSum (jBf v) g)]) (as := [.inl (.int (nI g)), .inl (.int (8))]) hx hb hml ho hts htx hKx hDx hnw hA3 hS3 (hFw _ (by omega)) c_X5_ofGroup (lP_ofGroup hI g5 (x := 8) (jin (i := 8) rfl (by decide) (by decide))).r dL_people_18 q_344 q_464 q_346 q_347 (kn := 2) (by decide +kernel) rfl (List.forall_mem_cons.mpr ⟨trivial, List.forall_mem_cons.mpr ⟨trivial, fun _ h => nomatch h⟩⟩) (by decide) (show (1 + 0 : Nat) ≤ 8 by decide) (by decide) (by decide) hl2.1 (fun H4 locs4 hA4 hz4 hS4 => ?_)
      have hend : ∀ (H9 : Heap) (locs9 : List Loc) (x9 : Int32), x9 = jBf v g → s.heap.size ≤ H9.size → lA Dx tx ad v H9 → va_S FF s.heap H9 locs9 → W p l e (headSpec (.code yL_people cL_people 3 (some .int) :: ww_tb) { frames := 5, cells := 0, slots := 0, locals := 32 * 5 }).room s mm ([Value.ref (ad (0, 0, 0))] : List Value).toArray below meth c H9 locs9 0 0 QQ (F0 mm 34 ls2 [.int x9, .int (jSum (jBf v) g)]) := by
        intro H9 locs9 x9 e9 hz9 hA9 hS9
        subst e9
        refine lv_iadd hx hb dL_people_34 ?_
        refine lv_istore_n (i := 1) (lv' := [(1, .int (jSum (jBf v) (g + 1))), (2, .int (nI g)), (0, .ref (ad (0, 0, 0)))]) hx hb dL_people_35 rfl hl2 (by decide) rfl (fun ls3 hl3 => ?_)
        refine lv_iinc (k := 1) (v := nI (g + 1)) (lv' := [(2, .int (nI (g + 1))), (1, .int (jSum (jBf v) (g + 1))), (0, .ref (ad (0, 0, 0)))]) hx hb dL_people_36 hl3 rfl (nI_succ g).symm (by decide) rfl (fun ls4 hl4 => ?_)
        refine lv_goto (tgt := 4) hx hb dL_people_39 (by decide) ?_
        exact ih (g + 1) (by omega) H9 locs9 ls4 hz9 hA9 hS9 hl4
      refine lv_if_ge (tgt := 28) hx hb dL_people_21 (by decide) (fun z => ?_) (fun z => ?_)
      · have z1 : ¬ jLt v g = -1 := (jLt_ge hI.1).mp z
        refine lv_aload_n hx hb dL_people_28 rfl (lv_at hl2 2 rfl) ?_
        refine lv_iload_n hx hb dL_people_29 rfl (lv_at hl2 0 rfl) ?_
        refine lv_iconst (v := 1) hx hb dL_people_30 rfl ?_
        refine lz_call (F := FF) (rest := [.int (jSum (jBf v) g)]) (as := [.inl (.int (nI g)), .inl (.int (1))]) hx hb hml ho hts htx hKx hDx hnw hA4 hS4 (hFw _ (by omega)) c_X5_ofGroup (lP_ofGroup hI g5 (x := 1) (jin (i := 1) rfl (by decide) (by decide))).r dL_people_31 q_344 q_464 q_346 q_347 (kn := 2) (by decide +kernel) rfl (List.forall_mem_cons.mpr ⟨trivial, List.forall_mem_cons.mpr ⟨trivial, fun _ h => nomatch h⟩⟩) (by decide) (show (1 + 0 : Nat) ≤ 8 by decide) (by decide) (by decide) hl2.1 (fun H5 locs5 hA5 hz5 hS5 => ?_)
        exact hend _ _ _ (if_neg z1).symm (by omega) hA5 hS5
      · have z1 : jLt v g = -1 := Decidable.byContradiction (fun y => z ((jLt_ge hI.1).mpr y))
        refine lv_iconst (v := 0) hx hb dL_people_24 rfl ?_
        refine lv_goto (tgt := 34) hx hb dL_people_25 (by decide) ?_
        exact hend _ _ _ (if_pos z1).symm (by omega) hA4 hS4
  exact loop 5 0 rfl s.heap [] ls2 hz0 hA hS hl2
