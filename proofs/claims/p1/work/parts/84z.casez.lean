-- words of the tables, and what stands at each place of the methods' code (laid by program)
/-! a case whose answer is a truth value -/
section LTZ
variable {p : Program} {l : Launch} {e : Env} {R : Room} {s : State} {m : MethodId} {args : Array Value} {below : List Frame} {meth : Method} {c : Code} {H : Heap} {Q : State → Prop} {ck cn : Nat}
variable {cc : ByteArray} {nL T : Nat} {ls : Array Slot}
theorem lq_tailZ {D Do : va_G} {tys : List (ClassId × FieldType)} {ad : vgN → Nat} {σ : vgS} {o : Nat} {cO : ClassId} {f : Nat → Int64} {cod v : Int32} {lv : List (Nat × Value)} {off1 off2 off3 off4 off5 off6 : Int}
    (hx : p.tables.exec = Jvm.exec) (hcb : c.code = cc) (hml : c.maxLocals = nL) (hown : s.vm.findClass RL = some m.cls) (hts : ∀ w ∈ ww_tb, w.before args s = true) (hty : tys.map (fun q => q.2) = mm_tyl)
    (hP : va_P D mm_cl (vg_ws mm_shp mm_nm ad tys σ) H) (hK : va_K D mm_cl tys s) (hD : va_D (fun _ => True) (vg_ws mm_shp mm_nm ad tys σ)) (hA : ∀ n ∈ mm_nm, s.heap.size ≤ ad n) (hsz : s.heap.size ≤ H.size) (ho : ∀ n ∈ mm_nm, ad n ≠ o)
    (hKo : va_K Do [] [(cO, .long)] s) (hO : va_P Do [] (wq_O o cO f) H) (hl : lv_has ls nL lv) (h2 : (2, Value.ref (ad (40, 0, 0))) ∈ lv) (h3 : (3, Value.ref o) ∈ lv) (h6 : (6, Value.int cod) ∈ lv) (h7 : (7, Value.int v) ∈ lv)
    (ht : σ (40, 0, 0) 0 = cod) (hf : cod = 0 → f 0 = v.toInt64) (hR : 1 ≤ R.frames ∧ 20 ≤ R.locals) (hcc : ck ≤ R.cells) (hcs : cn ≤ R.slots) (hli : Cond.methodLink RL 111 yX7_thrown ∈ ww_tb)
    (d0 : decode cc T = .ok (.aload_n 2, 1)) (d1 : decode cc (T + 1) = .ok (.invokevirtual 111, 3)) (d4 : decode cc (T + 4) = .ok (.iload 6, 2)) (d6 : decode cc (T + 6) = .ok (.if_icmp .eq off1, 3)) (e6 : ((T + 6 : Nat) : Int) + off1 = ((T + 11 : Nat) : Int)) (d11 : decode cc (T + 11) = .ok (.iload 6, 2)) (d13 : decode cc (T + 13) = .ok (.ifCond .ne off2, 3)) (e13 : ((T + 13 : Nat) : Int) + off2 = ((T + 35 : Nat) : Int))
    (d16 : decode cc (T + 16) = .ok (.aload_n 3, 1)) (d17 : decode cc (T + 17) = .ok (.iconst 0, 1)) (d18 : decode cc (T + 18) = .ok (.laload, 1)) (d19 : decode cc (T + 19) = .ok (.iload 7, 2)) (d21 : decode cc (T + 21) = .ok (.ifCond .eq off5, 3)) (e21 : ((T + 21 : Nat) : Int) + off5 = ((T + 28 : Nat) : Int)) (d24 : decode cc (T + 24) = .ok (.lconst 1, 1)) (d25 : decode cc (T + 25) = .ok (.goto off6, 3)) (e25 : ((T + 25 : Nat) : Int) + off6 = ((T + 29 : Nat) : Int)) (d28 : decode cc (T + 28) = .ok (.lconst 0, 1)) (d29 : decode cc (T + 29) = .ok (.lcmp, 1)) (d30 : decode cc (T + 30) = .ok (.ifCond .eq off3, 3)) (e30 : ((T + 30 : Nat) : Int) + off3 = ((T + 35 : Nat) : Int)) (d35 : decode cc (T + 35) = .ok (.goto off4, 3)) (e35 : ((T + 35 : Nat) : Int) + off4 = ((2030 : Nat) : Int)) (hz01 : v = 0 ∨ v = 1)
    (k : ∀ H1 : Heap, H.size ≤ H1.size → (∀ q : Nat, q < H.size → (∀ n ∈ mm_nm, ad n ≠ q) → H1[q]? = H[q]?) → W p l e R s m args below meth c H1 [] ck cn Q (F0 m 2030 ls [])) : W p l e R s m args below meth c H [] ck cn Q (F0 m T ls []) := by
  refine lv_aload_n hx hcb d0 rfl (hl.2.2 _ h2) ?_
  refine lq_mm (as := []) (mc := 0) (ms := 0) hx hcb hml hown hts (lq_up (c_X7_thrown mm_closed)) hty hP hK hD hA hsz d1 u_406 u_198 hli u_407 u_408 (show yX7_thrown.cls = RX7 ∧ yX7_thrown.cls ≠ "java/lang/invoke/MethodHandle" ∧ yX7_thrown.cls ≠ "java/lang/invoke/VarHandle" ∧ (parseMethodDescriptor yX7_thrown.desc).map (fun d => d.parameters.length) = some 0 by decide +kernel) rfl (fun v h => nomatch h) trivial ⟨hR.1, hR.2⟩ (by decide) hcc hcs hl.1 (fun H1 r σ' hp hP1 hz hkp => ?_)
  have hp' : r = some (.inl (.int (σ (40, 0, 0) 0))) ∧ σ' = σ := hp
  obtain ⟨rfl, rfl⟩ := hp'
  have hO1 : va_P Do [] (wq_O o cO f) H1 := fun k x hk => (hO k x hk).kept (hkp x.1 (hO k x hk).lt (by
    have h9 : k < 1 := (List.getElem?_eq_some_iff.mp hk).1
    have h8 : k = 0 := by omega
    subst h8
    cases hk
    exact ho))
  refine lv_iload hx hcb d4 (hl.2.2 _ h6) ?_
  refine lv_icmp_eq hx hcb d6 e6 (fun _ => ?_) (fun z => absurd ht z)
  refine lv_iload hx hcb d11 (hl.2.2 _ h6) ?_
  refine lv_if_ne hx hcb d13 e13 (fun _ => ?_) (fun z => ?_)
  · exact lv_goto hx hcb d35 e35 (k H1 hz hkp)
  · refine lv_aload_n hx hcb d16 rfl (hl.2.2 _ h3) ?_
    refine lv_iconst (v := 0) hx hcb d17 rfl ?_
    refine va_lald (D := Do) hx hcb hKo hO1 0 0 (cA := cO) (n := 1) (f := f) rfl rfl (mm_i 0 1 0 rfl (by decide) (by decide)) d18 ?_
    refine lv_iload hx hcb d19 (hl.2.2 _ h7) ?_
    have e8 : f (0 : Int32).toNatClampNeg = v.toInt64 := by
      rw [show f (0 : Int32).toNatClampNeg = f 0 from rfl, hf z]
    rw [e8]
    have fin : ∀ y : Int64, y = v.toInt64 → W p l e R s m args below meth c H1 [] (ck + 0) (cn + 0) Q (F0 m (T + 29) ls [.long y, .long v.toInt64]) := by
      intro y hy
      subst hy
      refine W.lcmp hx hcb d29 ?_
      rw [lq_cmp0]
      exact lv_if_eq hx hcb d30 e30 (fun _ => lv_goto hx hcb d35 e35 (k H1 hz hkp)) (fun y => absurd rfl y)
    refine lv_if_eq hx hcb d21 e21 (fun z0 => ?_) (fun z0 => ?_)
    · refine lv_lconst (v := 0) hx hcb d28 rfl ?_
      exact fin 0 (by rw [z0]; rfl)
    · refine lv_lconst (v := 1) hx hcb d24 rfl ?_
      refine lv_goto hx hcb d25 e25 ?_
      rcases hz01 with h | h
      · exact absurd h z0
      · exact fin 1 (by rw [h]; rfl)
end LTZ
section LZZ
variable {p : Program} {l : Launch} {e : Env} {R : Room} {s : State} {m : MethodId} {args : Array Value} {below : List Frame} {meth : Method} {c : Code} {H : Heap} {Q : State → Prop} {ck cn : Nat}
variable {ls : Array Slot} {b : Nat} {xs : Nat → Int32} {Dx Dm : va_G} {tx tm : List (ClassId × FieldType)} {ax am : vgN → Nat} {o od : Nat} {cO : ClassId} {f0 : Nat → Int64}
set_option maxHeartbeats 1000000 in
theorem lq_caseZ {y yM : MethodName} {bytes bM : ByteArray} {mL d iW iM mLM dM mc ms kn kM P W1 V1 T : Nat} {rM : Option FieldType} {hh : List (Nat × Nat × Nat × Nat)} {as : vgT} {cod val : Int32} {pre : vgT → vgS → Prop} {mf : vgT → Int32 × Int32} {vals : List Value} {off1 off2 off3 off4 off5 off6 : Int}
    (C : lq_Cx p l s m args c b xs Dx Dm tx tm ax am o od cO) (hH : lq_Hx s Dx Dm tx tm ax am o cO f0 H) (hl : lv_has ls 9 (lq_lv b (ax (0, 0, 0)) (am (40, 0, 0)) o od))
    (hW : wq_Wr y bytes mL hh d as cod val) (hM : vm_Met ww_tb [] mm_shp mm_nm mm_cl mm_tyl yM bM mLM rM dM mc ms pre (fun av _ => mm_Po (mf av))) (hpre : pre (.inr (40, 0, 0) :: as) mm_σ) (hm : cod = (mf (.inr (40, 0, 0) :: as)).1 ∧ val = (mf (.inr (40, 0, 0) :: as)).2)
    (hv1 : as.map (vg_cv ax) = vals) (hv2 : as.map (vg_cv am) = vals) (hav : ∀ v ∈ as, vg_ok mm_nm v)
    (p1 : lq_Pu p l e R s m args below meth c b Q 9 (P + 1) W1 vals) (p2 : lq_Pu p l e R s m args below meth c b Q 9 (W1 + 7) V1 vals)
    (d0 : decode code P = .ok (.aload_n 1, 1)) (dw0 : decode code W1 = .ok (.aload_n 3, 1)) (dw1 : decode code (W1 + 1) = .ok (.invokestatic iW, 3)) (dw4 : decode code (W1 + 4) = .ok (.istore 6, 2)) (dw6 : decode code (W1 + 6) = .ok (.aload_n 2, 1)) (dv0 : decode code V1 = .ok (.invokevirtual iM, 3)) (dv3 : decode code (V1 + 3) = .ok (.istore 7, 2)) (hT5 : V1 + 5 = T)
    (hT : ∀ w ∈ va_wsS RL iW y [.codeWith y bytes mL (some .int) hh], w ∈ ww_tb) (hy : y.cls ≠ "java/lang/invoke/MethodHandle" ∧ y.cls ≠ "java/lang/invoke/VarHandle" ∧ (parseMethodDescriptor y.desc).map (fun d => d.parameters.length) = some kn) (hkn : as.length + 2 = kn)
    (hcw : Cond.code yM bM mLM rM ∈ ww_tb) (hli : Cond.methodLink RL iM yM ∈ ww_tb) (hi : Cond.instanceMethod yM ∈ ww_tb) (hse : Cond.selects RX7 yM yM ∈ ww_tb) (hyM : yM.cls = RX7 ∧ yM.cls ≠ "java/lang/invoke/MethodHandle" ∧ yM.cls ≠ "java/lang/invoke/VarHandle" ∧ (parseMethodDescriptor yM.desc).map (fun d => d.parameters.length) = some kM) (hkM : as.length = kM)
    (hR : d + 1 ≤ R.frames ∧ 8 + (mL + 11) + 32 * d ≤ R.locals) (hRM : dM + 1 ≤ R.frames ∧ 8 + (mLM + 11) + 32 * dM ≤ R.locals) (hRt : 1 ≤ R.frames ∧ 20 ≤ R.locals) (hcc : ck + 1 + mc ≤ R.cells) (hcs : cn + 6 + ms ≤ R.slots)
    (t0 : decode code T = .ok (.aload_n 2, 1)) (t1 : decode code (T + 1) = .ok (.invokevirtual 111, 3)) (t4 : decode code (T + 4) = .ok (.iload 6, 2)) (t6 : decode code (T + 6) = .ok (.if_icmp .eq off1, 3)) (e6 : ((T + 6 : Nat) : Int) + off1 = ((T + 11 : Nat) : Int)) (t11 : decode code (T + 11) = .ok (.iload 6, 2)) (t13 : decode code (T + 13) = .ok (.ifCond .ne off2, 3)) (e13 : ((T + 13 : Nat) : Int) + off2 = ((T + 35 : Nat) : Int))
    (t16 : decode code (T + 16) = .ok (.aload_n 3, 1)) (t17 : decode code (T + 17) = .ok (.iconst 0, 1)) (t18 : decode code (T + 18) = .ok (.laload, 1)) (t19 : decode code (T + 19) = .ok (.iload 7, 2)) (t21 : decode code (T + 21) = .ok (.ifCond .eq off5, 3)) (e21 : ((T + 21 : Nat) : Int) + off5 = ((T + 28 : Nat) : Int)) (t24 : decode code (T + 24) = .ok (.lconst 1, 1)) (t25 : decode code (T + 25) = .ok (.goto off6, 3)) (e25 : ((T + 25 : Nat) : Int) + off6 = ((T + 29 : Nat) : Int)) (t28 : decode code (T + 28) = .ok (.lconst 0, 1)) (t29 : decode code (T + 29) = .ok (.lcmp, 1)) (t30 : decode code (T + 30) = .ok (.ifCond .eq off3, 3)) (e30 : ((T + 30 : Nat) : Int) + off3 = ((T + 35 : Nat) : Int)) (t35 : decode code (T + 35) = .ok (.goto off4, 3)) (e35 : ((T + 35 : Nat) : Int) + off4 = ((2030 : Nat) : Int)) (hz01 : (mf (.inr (40, 0, 0) :: as)).2 = 0 ∨ (mf (.inr (40, 0, 0) :: as)).2 = 1)
    (k : ∀ (H1 : Heap) (ls1 : Array Slot) (lv1 : List (Nat × Value)) (k1 k2 : Nat), va_S (fun q => s.heap.size ≤ q) s.heap H1 [] → lv_has ls1 9 lv1 → (0, Value.ref b) ∈ lv1 → (5, Value.int 0) ∈ lv1 → k1 ≤ R.cells → k2 ≤ R.slots → W p l e R s m args below meth c H1 [] k1 k2 Q (F0 m 2030 ls1 [])) : W p l e R s m args below meth c H [] ck cn Q (F0 m P ls []) := by
  obtain ⟨⟨hx, hcb, hml, hown, hts, hX, hbl, hstk⟩, ⟨htx, htm, hKx, hKm, hKo⟩, ⟨hDx, hDm⟩, ⟨hnw, hXF, hN, hnx⟩, ⟨hax, ham, hso⟩⟩ := C
  obtain ⟨hPx, hPm, hO, hS⟩ := hH
  have hsz : s.heap.size ≤ H.size := hS.1
  have hol : o < H.size := lq_ltO hO
  have hm0 : ((40, 0, 0) : vgN) ∈ mm_nm := List.mem_cons_self
  subst hT5
  refine lv_aload_n hx hcb d0 rfl (lv_at hl 4 rfl) ?_
  refine p1 H ck cn ls _ _ hS hl (by repeat (first | exact List.mem_cons_self | apply List.mem_cons_of_mem)) (by repeat (first | exact List.mem_cons_self | apply List.mem_cons_of_mem)) ?_
  refine lv_aload_n hx hcb dw0 rfl (lv_at hl 2 rfl) ?_
  have e1 : (.ref o :: (vals.reverse ++ [.ref (ax (0, 0, 0))]) : List Value) = (Value.ref (ax (0, 0, 0)) :: (as.map (vg_cv ax) ++ [.ref o])).reverse ++ [] := by
    rw [hv1]
    simp
  rw [e1]
  have hA9 : ∀ q, wq_A ax H.size o q → s.heap.size ≤ q := by
    intro q hq
    rcases hq with (⟨n, hn, h⟩ | h) | h
    · rw [← h]
      exact (hax n hn).1
    · exact Nat.le_trans hsz h
    · rw [h]
      exact hso
  refine lq_wrap (nL := 9) (f0 := f0) hx hcb hml hown hts (hW l Dx tx ax H.size wy_σ o cO f0 hstk htx wy_fr (fun n hn => (hax n hn).2.1)) hPx hKx hDx hnw hXF hS hN hKo hO hA9 dw1 hT hy (by rw [List.length_cons, List.length_append, List.length_map]; exact hkn) hR (by decide) (by omega) (by omega) hl.1 (fun H1 f hz1 hk1 hf hO1 => ?_)
  have hm1 : ∀ n ∈ mm_nm, ¬ wq_A ax H.size o (am n) := by
    intro n hn h
    rcases h with (⟨n', hn', h⟩ | h) | h
    · exact (hax n' hn').2.2 n hn h
    · have := vg_lt hPm hn
      omega
    · exact (ham n hn).2 h
  have hPm1 : va_P Dm mm_cl (vg_ws mm_shp mm_nm am tm mm_σ) H1 := lq_kw hPm hm1 hk1
  have hS1 : va_S (fun q => s.heap.size ≤ q) s.heap H1 [] := ⟨Nat.le_trans hsz hz1, fun q h1 h2 => (hk1 q (Nat.lt_of_lt_of_le h1 hsz) (fun h => h2 (hA9 q h))).trans (hS.2.1 q h1 h2), fun _ h => nomatch h⟩
  refine lv_istore (lv' := (6, .int cod) :: lq_lv b (ax (0, 0, 0)) (am (40, 0, 0)) o od) hx hcb dw4 hl (by decide) rfl (fun ls1 hl1 => ?_)
  refine lv_aload_n hx hcb dw6 rfl (lv_at hl1 4 rfl) ?_
  refine p2 H1 _ _ ls1 _ _ hS1 hl1 (by repeat (first | exact List.mem_cons_self | apply List.mem_cons_of_mem)) (by repeat (first | exact List.mem_cons_self | apply List.mem_cons_of_mem)) ?_
  rw [← hv2]
  refine lq_mm (nL := 9) hx hcb hml hown hts hM htm hPm1 hKm hDm (fun n hn => (ham n hn).1) hS1.1 dv0 hcw u_198 hli hi hse hyM hkM hav hpre hRM (by decide) (by omega) (by omega) hl1.1 (fun H2 r σ' hp hPm2 hz2 hk2 => ?_)
  obtain ⟨rfl, hth⟩ := hp
  have hS2 : va_S (fun q => s.heap.size ≤ q) s.heap H2 [] := ⟨Nat.le_trans hS1.1 hz2, fun q h1 h2 => (hk2 q (Nat.lt_of_lt_of_le h1 hS1.1) (fun n hn h => h2 (by rw [← h]; exact (ham n hn).1))).trans (hS1.2.1 q h1 h2), fun _ h => nomatch h⟩
  have hO2 : va_P Dx [] (wq_O o cO f) H2 := lq_kO hO1 (hk2 o (Nat.lt_of_lt_of_le hol hz1) (fun n hn => (ham n hn).2))
  refine lv_istore (x := (mf (.inr (40, 0, 0) :: as)).2) (lv' := (7, .int (mf (.inr (40, 0, 0) :: as)).2) :: (6, .int cod) :: lq_lv b (ax (0, 0, 0)) (am (40, 0, 0)) o od) hx hcb dv3 hl1 (by decide) rfl (fun ls2 hl2 => ?_)
  refine lq_tailZ (nL := 9) (Do := Dx) (cod := cod) (v := (mf (.inr (40, 0, 0) :: as)).2) hx hcb hml hown hts htm hPm2 hKm (vg_ws_D hDm σ') (fun n hn => (ham n hn).1) hS2.1 (fun n hn => (ham n hn).2) hKo hO2 hl2 (by repeat (first | exact List.mem_cons_self | apply List.mem_cons_of_mem)) (by repeat (first | exact List.mem_cons_self | apply List.mem_cons_of_mem)) (by repeat (first | exact List.mem_cons_self | apply List.mem_cons_of_mem)) (by repeat (first | exact List.mem_cons_self | apply List.mem_cons_of_mem)) (hth.trans hm.1.symm) (fun z => by rw [hf z, hm.2]) hRt hcc hcs u_409 t0 t1 t4 t6 e6 t11 t13 e13 t16 t17 t18 t19 t21 e21 t24 t25 e25 t28 t29 t30 e30 t35 e35 hz01 (fun H3 hz3 hk3 => ?_)
  have hS3 : va_S (fun q => s.heap.size ≤ q) s.heap H3 [] := ⟨Nat.le_trans hS2.1 hz3, fun q h1 h2 => (hk3 q (Nat.lt_of_lt_of_le h1 hS2.1) (fun n hn h => h2 (by rw [← h]; exact (ham n hn).1))).trans (hS2.2.1 q h1 h2), fun _ h => nomatch h⟩
  exact k H3 ls2 _ _ _ hS3 hl2 (by repeat (first | exact List.mem_cons_self | apply List.mem_cons_of_mem)) (by repeat (first | exact List.mem_cons_self | apply List.mem_cons_of_mem)) hcc hcs
end LZZ
theorem mf_key01 (v0 v1 : Int32) : (mf_X7_key [.inr (40, 0, 0), .inl (.int v0), .inl (.int v1)]).2 = 0 ∨ (mf_X7_key [.inr (40, 0, 0), .inl (.int v0), .inl (.int v1)]).2 = 1 := by
  show ((if wp_o v0 then (0, jIn 3 v0) else (1, 0)) : Int32 × Int32).2 = 0 ∨ ((if wp_o v0 then (0, jIn 3 v0) else (1, 0)) : Int32 × Int32).2 = 1
  split
  · exact jIn_01 _ _
  · exact Or.inl rfl
