-- words of the tables, and what stands at each place of the methods' code (laid by program)
theorem u_409 : Cond.methodLink RL 111 yX7_thrown ∈ ww_tb := by decide +kernel
/-! the law's own steps: the arguments of a case, and the form of a case -/
def lq_b (x : Int32) : Int32 := if x = 0 then 0 else 1
theorem lq_b01 (x : Int32) : lq_b x = 0 ∨ lq_b x = 1 := by
  unfold lq_b
  split
  · exact Or.inl rfl
  · exact Or.inr rfl
def lq_Pu (p : Program) (l : Launch) (e : Env) (R : Room) (s : State) (m : MethodId) (args : Array Value) (below : List Frame) (meth : Method) (c : Code) (b : Nat) (Q : State → Prop) (nL p0 p1 : Nat) (vals : List Value) : Prop :=
  ∀ (H : Heap) (ck cn : Nat) (ls : Array Slot) (lv : List (Nat × Value)) (rest : List Value), va_S (fun q => s.heap.size ≤ q) s.heap H [] → lv_has ls nL lv → (0, Value.ref b) ∈ lv → (5, Value.int 0) ∈ lv → W p l e R s m args below meth c H [] ck cn Q (F0 m p1 ls (vals.reverse ++ rest)) → W p l e R s m args below meth c H [] ck cn Q (F0 m p0 ls rest)
section LP
variable {p : Program} {l : Launch} {e : Env} {R : Room} {s : State} {m : MethodId} {args : Array Value} {below : List Frame} {meth : Method} {c : Code} {Q : State → Prop}
variable {cc : ByteArray} {nL pc : Nat} {b : Nat} {xs : Nat → Int32}
theorem lq_PuC {p0 p1 p2 : Nat} {v1 v2 : List Value} (h1 : lq_Pu p l e R s m args below meth c b Q nL p0 p1 v1) (h2 : lq_Pu p l e R s m args below meth c b Q nL p1 p2 v2) : lq_Pu p l e R s m args below meth c b Q nL p0 p2 (v1 ++ v2) := by
  intro H ck cn ls lv rest hS hl h0 h5 k
  refine h1 H ck cn ls lv rest hS hl h0 h5 (h2 H ck cn ls lv _ hS hl h0 h5 ?_)
  rw [← List.append_assoc, ← List.reverse_append]
  exact k
theorem lq_PuI {j : Nat} {n : Int} (hx : p.tables.exec = Jvm.exec) (hcb : c.code = cc) (hX : va_X b 6 xs s s.heap) (hbl : b < s.heap.size)
    (d0 : decode cc pc = .ok (.aload_n 0, 1)) (d1 : decode cc (pc + 1) = .ok (.iload 5, 2)) (d3 : decode cc (pc + 3) = .ok (.iconst n, 1)) (d4 : decode cc (pc + 4) = .ok (.iadd, 1)) (d5 : decode cc (pc + 5) = .ok (.iaload, 1)) (hn : Int32.ofInt n = nI j) (hj : j < 6) : lq_Pu p l e R s m args below meth c b Q nL pc (pc + 6) [.int (xs j)] :=
  fun _ _ _ _ _ _ hS hl h0 h5 k => lq_arg hx hcb hX hbl hS hl h0 h5 d0 d1 d3 d4 d5 hn hj k
theorem lq_PuB {j : Nat} {n : Int} (hx : p.tables.exec = Jvm.exec) (hcb : c.code = cc) (hX : va_X b 6 xs s s.heap) (hbl : b < s.heap.size)
    (d0 : decode cc pc = .ok (.aload_n 0, 1)) (d1 : decode cc (pc + 1) = .ok (.iload 5, 2)) (d3 : decode cc (pc + 3) = .ok (.iconst n, 1)) (d4 : decode cc (pc + 4) = .ok (.iadd, 1)) (d5 : decode cc (pc + 5) = .ok (.iaload, 1))
    (d6 : decode cc (pc + 6) = .ok (.ifCond .eq 7, 3)) (d9 : decode cc (pc + 9) = .ok (.iconst 1, 1)) (d10 : decode cc (pc + 10) = .ok (.goto 4, 3)) (d13 : decode cc (pc + 13) = .ok (.iconst 0, 1)) (hn : Int32.ofInt n = nI j) (hj : j < 6) : lq_Pu p l e R s m args below meth c b Q nL pc (pc + 14) [.int (lq_b (xs j))] := by
  intro H ck cn ls lv rest hS hl h0 h5 k
  refine lq_arg hx hcb hX hbl hS hl h0 h5 d0 d1 d3 d4 d5 hn hj ?_
  refine lv_if_eq (tgt := pc + 13) hx hcb d6 (by omega) (fun z => ?_) (fun z => ?_)
  · rw [show lq_b (xs j) = 0 from if_pos z] at k
    exact lv_iconst (v := 0) hx hcb d13 rfl k
  · rw [show lq_b (xs j) = 1 from if_neg z] at k
    refine lv_iconst (v := 1) hx hcb d9 rfl ?_
    exact lv_goto (tgt := pc + 14) hx hcb d10 (by omega) k
end LP
/-- what stands through a turn of the law's loop -/
def lq_Cx (p : Program) (l : Launch) (s : State) (m : MethodId) (args : Array Value) (c : Code) (b : Nat) (xs : Nat → Int32) (Dx Dm : va_G) (tx tm : List (ClassId × FieldType)) (ax am : vgN → Nat) (o od : Nat) (cO : ClassId) : Prop :=
  (p.tables.exec = Jvm.exec ∧ c.code = code ∧ c.maxLocals = 9 ∧ s.vm.findClass RL = some m.cls ∧ (∀ w ∈ ww_tb, w.before args s = true) ∧ va_X b 6 xs s s.heap ∧ b < s.heap.size ∧ l.stackTraces = false) ∧
  (tx.map (fun q => q.2) = ww_tyl ∧ tm.map (fun q => q.2) = mm_tyl ∧ va_K Dx ww_cl tx s ∧ va_K Dm mm_cl tm s ∧ va_K Dx [] [(cO, .long)] s) ∧
  (va_D (fun _ => True) (vg_ws ww_shp ww_nm ax tx wy_σ) ∧ va_D (fun _ => True) (vg_ws mm_shp mm_nm am tm mm_σ)) ∧
  (vg_nw ww_nw s ∧ vm_XF ww_tbx ww_strs (fun q => s.heap.size ≤ q) s s.heap ∧ wq_N s ∧ vh_nx wh_nx s) ∧
  ((∀ n ∈ ww_nm, s.heap.size ≤ ax n ∧ ax n ≠ o ∧ ∀ n' ∈ mm_nm, ax n ≠ am n') ∧ (∀ n ∈ mm_nm, s.heap.size ≤ am n ∧ am n ≠ o) ∧ s.heap.size ≤ o)
def lq_Hx (s : State) (Dx Dm : va_G) (tx tm : List (ClassId × FieldType)) (ax am : vgN → Nat) (o : Nat) (cO : ClassId) (f0 : Nat → Int64) (H : Heap) : Prop :=
  va_P Dx ww_cl (vg_ws ww_shp ww_nm ax tx wy_σ) H ∧ va_P Dm mm_cl (vg_ws mm_shp mm_nm am tm mm_σ) H ∧ va_P Dx [] (wq_O o cO f0) H ∧ va_S (fun q => s.heap.size ≤ q) s.heap H []
abbrev lq_lv (b ax0 am0 o od : Nat) : List (Nat × Value) := [(5, .int 0), (4, .ref od), (3, .ref o), (2, .ref am0), (1, .ref ax0), (0, .ref b)]
/-- cells of the law's own keep their place in the world of names -/
theorem lq_kw {D : va_G} {cl : List vw_C} {shp : vgN → vgH} {nm : List vgN} {tys : List (ClassId × FieldType)} {ad : vgN → Nat} {σ : vgS} {H H1 : Heap} {B : Nat → Prop} (hP : va_P D cl (vg_ws shp nm ad tys σ) H) (hB : ∀ n ∈ nm, ¬ B (ad n)) (hk : ∀ q : Nat, q < H.size → ¬ B q → H1[q]? = H[q]?) : va_P D cl (vg_ws shp nm ad tys σ) H1 := by
  intro k x hx
  refine (hP k x hx).kept (hk x.1 (hP k x hx).lt ?_)
  have h1 : x ∈ vg_ws shp nm ad tys σ := List.mem_of_getElem? hx
  obtain ⟨n, hn, rfl⟩ := List.mem_map.mp h1
  exact hB n hn
theorem lq_kO {D : va_G} {o : Nat} {cO : ClassId} {f : Nat → Int64} {H H1 : Heap} (hO : va_P D [] (wq_O o cO f) H) (hk : H1[o]? = H[o]?) : va_P D [] (wq_O o cO f) H1 := by
  intro k x hx
  have h9 : k < 1 := (List.getElem?_eq_some_iff.mp hx).1
  have h8 : k = 0 := by omega
  subst h8
  cases hx
  exact (hO 0 _ rfl).kept hk
theorem lq_ltO {D : va_G} {o : Nat} {cO : ClassId} {f : Nat → Int64} {H : Heap} (hO : va_P D [] (wq_O o cO f) H) : o < H.size := (hO 0 _ rfl).lt
theorem vg_lt {D : va_G} {cl : List vw_C} {shp : vgN → vgH} {nm : List vgN} {tys : List (ClassId × FieldType)} {ad : vgN → Nat} {σ : vgS} {H : Heap} (hP : va_P D cl (vg_ws shp nm ad tys σ) H) {n : vgN} (hn : n ∈ nm) : ad n < H.size := by
  obtain ⟨q0, _, hq⟩ := vg_ws_get (shp := shp) (ad := ad) (tys := tys) (σ := σ) hn
  exact (hP q0 _ hq).lt
section LZ
variable {p : Program} {l : Launch} {e : Env} {R : Room} {s : State} {m : MethodId} {args : Array Value} {below : List Frame} {meth : Method} {c : Code} {H : Heap} {Q : State → Prop} {ck cn : Nat}
variable {ls : Array Slot} {b : Nat} {xs : Nat → Int32} {Dx Dm : va_G} {tx tm : List (ClassId × FieldType)} {ax am : vgN → Nat} {o od : Nat} {cO : ClassId} {f0 : Nat → Int64}
set_option maxHeartbeats 1000000 in
theorem lq_case {y yM : MethodName} {bytes bM : ByteArray} {mL d iW iM mLM dM mc ms kn kM P W1 V1 T : Nat} {rM : Option FieldType} {hh : List (Nat × Nat × Nat × Nat)} {as : vgT} {cod val : Int32} {pre : vgT → vgS → Prop} {mf : vgT → Int32 × Int32} {vals : List Value} {off1 off2 off3 off4 : Int}
    (C : lq_Cx p l s m args c b xs Dx Dm tx tm ax am o od cO) (hH : lq_Hx s Dx Dm tx tm ax am o cO f0 H) (hl : lv_has ls 9 (lq_lv b (ax (0, 0, 0)) (am (40, 0, 0)) o od))
    (hW : wq_Wr y bytes mL hh d as cod val) (hM : vm_Met ww_tb [] mm_shp mm_nm mm_cl mm_tyl yM bM mLM rM dM mc ms pre (fun av _ => mm_Po (mf av))) (hpre : pre (.inr (40, 0, 0) :: as) mm_σ) (hm : cod = (mf (.inr (40, 0, 0) :: as)).1 ∧ val = (mf (.inr (40, 0, 0) :: as)).2)
    (hv1 : as.map (vg_cv ax) = vals) (hv2 : as.map (vg_cv am) = vals) (hav : ∀ v ∈ as, vg_ok mm_nm v)
    (p1 : lq_Pu p l e R s m args below meth c b Q 9 (P + 1) W1 vals) (p2 : lq_Pu p l e R s m args below meth c b Q 9 (W1 + 7) V1 vals)
    (d0 : decode code P = .ok (.aload_n 1, 1)) (dw0 : decode code W1 = .ok (.aload_n 3, 1)) (dw1 : decode code (W1 + 1) = .ok (.invokestatic iW, 3)) (dw4 : decode code (W1 + 4) = .ok (.istore 6, 2)) (dw6 : decode code (W1 + 6) = .ok (.aload_n 2, 1)) (dv0 : decode code V1 = .ok (.invokevirtual iM, 3)) (dv3 : decode code (V1 + 3) = .ok (.istore 7, 2)) (hT5 : V1 + 5 = T)
    (hT : ∀ w ∈ va_wsS RL iW y [.codeWith y bytes mL (some .int) hh], w ∈ ww_tb) (hy : y.cls ≠ "java/lang/invoke/MethodHandle" ∧ y.cls ≠ "java/lang/invoke/VarHandle" ∧ (parseMethodDescriptor y.desc).map (fun d => d.parameters.length) = some kn) (hkn : as.length + 2 = kn)
    (hcw : Cond.code yM bM mLM rM ∈ ww_tb) (hli : Cond.methodLink RL iM yM ∈ ww_tb) (hi : Cond.instanceMethod yM ∈ ww_tb) (hse : Cond.selects RX7 yM yM ∈ ww_tb) (hyM : yM.cls = RX7 ∧ yM.cls ≠ "java/lang/invoke/MethodHandle" ∧ yM.cls ≠ "java/lang/invoke/VarHandle" ∧ (parseMethodDescriptor yM.desc).map (fun d => d.parameters.length) = some kM) (hkM : as.length = kM)
    (hR : d + 1 ≤ R.frames ∧ 8 + (mL + 11) + 32 * d ≤ R.locals) (hRM : dM + 1 ≤ R.frames ∧ 8 + (mLM + 11) + 32 * dM ≤ R.locals) (hRt : 1 ≤ R.frames ∧ 20 ≤ R.locals) (hcc : ck + 1 + mc ≤ R.cells) (hcs : cn + 6 + ms ≤ R.slots)
    (t0 : decode code T = .ok (.aload_n 2, 1)) (t1 : decode code (T + 1) = .ok (.invokevirtual 111, 3)) (t4 : decode code (T + 4) = .ok (.iload 6, 2)) (t6 : decode code (T + 6) = .ok (.if_icmp .eq off1, 3)) (e6 : ((T + 6 : Nat) : Int) + off1 = ((T + 11 : Nat) : Int)) (t11 : decode code (T + 11) = .ok (.iload 6, 2)) (t13 : decode code (T + 13) = .ok (.ifCond .ne off2, 3)) (e13 : ((T + 13 : Nat) : Int) + off2 = ((T + 28 : Nat) : Int))
    (t16 : decode code (T + 16) = .ok (.aload_n 3, 1)) (t17 : decode code (T + 17) = .ok (.iconst 0, 1)) (t18 : decode code (T + 18) = .ok (.laload, 1)) (t19 : decode code (T + 19) = .ok (.iload 7, 2)) (t21 : decode code (T + 21) = .ok (.i2l, 1)) (t22 : decode code (T + 22) = .ok (.lcmp, 1)) (t23 : decode code (T + 23) = .ok (.ifCond .eq off3, 3)) (e23 : ((T + 23 : Nat) : Int) + off3 = ((T + 28 : Nat) : Int)) (t28 : decode code (T + 28) = .ok (.goto off4, 3)) (e28 : ((T + 28 : Nat) : Int) + off4 = ((2030 : Nat) : Int))
    (k : ∀ (H1 : Heap) (ls1 : Array Slot) (lv1 : List (Nat × Value)) (k1 k2 : Nat), va_S (fun q => s.heap.size ≤ q) s.heap H1 [] → lv_has ls1 9 lv1 → (0, Value.ref b) ∈ lv1 → (5, Value.int 0) ∈ lv1 → k1 ≤ R.cells → k2 ≤ R.slots → W p l e R s m args below meth c H1 [] k1 k2 Q (F0 m 2030 ls1 [])) : W p l e R s m args below meth c H [] ck cn Q (F0 m P ls []) := by
  obtain ⟨⟨hx, hcb, hml, hown, hts, hX, hbl, hstk⟩, ⟨htx, htm, hKx, hKm, hKo⟩, ⟨hDx, hDm⟩, ⟨hnw, hXF, hN, hnx⟩, ⟨hax, ham, hso⟩⟩ := C
  obtain ⟨hPx, hPm, hO, hS⟩ := hH
  have hsz : s.heap.size ≤ H.size := hS.1
  have hol : o < H.size := lq_ltO hO
  have hm0 : ((40, 0, 0) : vgN) ∈ mm_nm := List.mem_cons_self
  subst hT5
  refine lv_aload_n hx hcb d0 rfl (lv_at hl 4 rfl) ?_
  refine p1 H ck cn ls _ _ hS hl (by repeat (first | exact List.mem_cons_self | apply List.mem_cons_of_mem)) (by repeat (first | exact List.mem_cons_self | apply List.mem_cons_of_mem)) ?_
  refine lv_aload_n hx hcb dw0 rfl (lv_at hl 2 rfl) ?_
  have e1 : (.ref o :: (vals.reverse ++ [.ref (ax (0, 0, 0))]) : List Value) = (Value.ref (ax (0, 0, 0)) :: (as.map (vg_cv ax) ++ [.ref o])).reverse ++ [] := by
    rw [hv1]
    simp
  rw [e1]
  have hA9 : ∀ q, wq_A ax H.size o q → s.heap.size ≤ q := by
    intro q hq
    rcases hq with (⟨n, hn, h⟩ | h) | h
    · rw [← h]
      exact (hax n hn).1
    · exact Nat.le_trans hsz h
    · rw [h]
      exact hso
  refine lq_wrap (nL := 9) (f0 := f0) hx hcb hml hown hts (hW l Dx tx ax H.size wy_σ o cO f0 hstk htx wy_fr (fun n hn => (hax n hn).2.1)) hPx hKx hDx hnw hXF hS hN hKo hO hA9 dw1 hT hy (by rw [List.length_cons, List.length_append, List.length_map]; exact hkn) hR (by decide) (by omega) (by omega) hl.1 (fun H1 f hz1 hk1 hf hO1 => ?_)
  have hm1 : ∀ n ∈ mm_nm, ¬ wq_A ax H.size o (am n) := by
    intro n hn h
    rcases h with (⟨n', hn', h⟩ | h) | h
    · exact (hax n' hn').2.2 n hn h
    · have := vg_lt hPm hn
      omega
    · exact (ham n hn).2 h
  have hPm1 : va_P Dm mm_cl (vg_ws mm_shp mm_nm am tm mm_σ) H1 := lq_kw hPm hm1 hk1
  have hS1 : va_S (fun q => s.heap.size ≤ q) s.heap H1 [] := ⟨Nat.le_trans hsz hz1, fun q h1 h2 => (hk1 q (Nat.lt_of_lt_of_le h1 hsz) (fun h => h2 (hA9 q h))).trans (hS.2.1 q h1 h2), fun _ h => nomatch h⟩
  refine lv_istore (lv' := (6, .int cod) :: lq_lv b (ax (0, 0, 0)) (am (40, 0, 0)) o od) hx hcb dw4 hl (by decide) rfl (fun ls1 hl1 => ?_)
  refine lv_aload_n hx hcb dw6 rfl (lv_at hl1 4 rfl) ?_
  refine p2 H1 _ _ ls1 _ _ hS1 hl1 (by repeat (first | exact List.mem_cons_self | apply List.mem_cons_of_mem)) (by repeat (first | exact List.mem_cons_self | apply List.mem_cons_of_mem)) ?_
  rw [← hv2]
  refine lq_mm (nL := 9) hx hcb hml hown hts hM htm hPm1 hKm hDm (fun n hn => (ham n hn).1) hS1.1 dv0 hcw u_198 hli hi hse hyM hkM hav hpre hRM (by decide) (by omega) (by omega) hl1.1 (fun H2 r σ' hp hPm2 hz2 hk2 => ?_)
  obtain ⟨rfl, hth⟩ := hp
  have hS2 : va_S (fun q => s.heap.size ≤ q) s.heap H2 [] := ⟨Nat.le_trans hS1.1 hz2, fun q h1 h2 => (hk2 q (Nat.lt_of_lt_of_le h1 hS1.1) (fun n hn h => h2 (by rw [← h]; exact (ham n hn).1))).trans (hS1.2.1 q h1 h2), fun _ h => nomatch h⟩
  have hO2 : va_P Dx [] (wq_O o cO f) H2 := lq_kO hO1 (hk2 o (Nat.lt_of_lt_of_le hol hz1) (fun n hn => (ham n hn).2))
  refine lv_istore (x := (mf (.inr (40, 0, 0) :: as)).2) (lv' := (7, .int (mf (.inr (40, 0, 0) :: as)).2) :: (6, .int cod) :: lq_lv b (ax (0, 0, 0)) (am (40, 0, 0)) o od) hx hcb dv3 hl1 (by decide) rfl (fun ls2 hl2 => ?_)
  refine lq_tail (nL := 9) (Do := Dx) (cod := cod) (v := (mf (.inr (40, 0, 0) :: as)).2) hx hcb hml hown hts htm hPm2 hKm (vg_ws_D hDm σ') (fun n hn => (ham n hn).1) hS2.1 (fun n hn => (ham n hn).2) hKo hO2 hl2 (by repeat (first | exact List.mem_cons_self | apply List.mem_cons_of_mem)) (by repeat (first | exact List.mem_cons_self | apply List.mem_cons_of_mem)) (by repeat (first | exact List.mem_cons_self | apply List.mem_cons_of_mem)) (by repeat (first | exact List.mem_cons_self | apply List.mem_cons_of_mem)) (hth.trans hm.1.symm) (fun z => by rw [hf z, hm.2]) hRt hcc hcs u_409 t0 t1 t4 t6 e6 t11 t13 e13 t16 t17 t18 t19 t21 t22 t23 e23 t28 e28 (fun H3 hz3 hk3 => ?_)
  have hS3 : va_S (fun q => s.heap.size ≤ q) s.heap H3 [] := ⟨Nat.le_trans hS2.1 hz3, fun q h1 h2 => (hk3 q (Nat.lt_of_lt_of_le h1 hS2.1) (fun n hn h => h2 (by rw [← h]; exact (ham n hn).1))).trans (hS2.2.1 q h1 h2), fun _ h => nomatch h⟩
  exact k H3 ls2 _ _ _ hS3 hl2 (by repeat (first | exact List.mem_cons_self | apply List.mem_cons_of_mem)) (by repeat (first | exact List.mem_cons_self | apply List.mem_cons_of_mem)) hcc hcs
set_option maxHeartbeats 1000000 in
theorem lq_caseN {y yM : MethodName} {bytes bM : ByteArray} {mL d iW iM mLM dM mc ms kn kM P W1 V1 T : Nat} {rM : Option FieldType} {hh : List (Nat × Nat × Nat × Nat)} {as : vgT} {cod val : Int32} {pre : vgT → vgS → Prop} {mf : vgT → Int32 × Int32} {vals : List Value} {off1 off2 off3 off4 : Int}
    (C : lq_Cx p l s m args c b xs Dx Dm tx tm ax am o od cO) (hH : lq_Hx s Dx Dm tx tm ax am o cO f0 H) (hl : lv_has ls 9 (lq_lv b (ax (0, 0, 0)) (am (40, 0, 0)) o od))
    (hW : wq_Wr y bytes mL hh d as cod val) (hM : vn_Met ww_tb wh_nx mm_shp mm_nm mm_cl mm_tyl yM bM mLM rM dM mc ms pre (fun av _ => mm_Po (mf av))) (hpre : pre (.inr (40, 0, 0) :: as) mm_σ) (hm : cod = (mf (.inr (40, 0, 0) :: as)).1 ∧ val = (mf (.inr (40, 0, 0) :: as)).2)
    (hv1 : as.map (vg_cv ax) = vals) (hv2 : as.map (vg_cv am) = vals) (hav : ∀ v ∈ as, vg_ok mm_nm v)
    (p1 : lq_Pu p l e R s m args below meth c b Q 9 (P + 1) W1 vals) (p2 : lq_Pu p l e R s m args below meth c b Q 9 (W1 + 7) V1 vals)
    (d0 : decode code P = .ok (.aload_n 1, 1)) (dw0 : decode code W1 = .ok (.aload_n 3, 1)) (dw1 : decode code (W1 + 1) = .ok (.invokestatic iW, 3)) (dw4 : decode code (W1 + 4) = .ok (.istore 6, 2)) (dw6 : decode code (W1 + 6) = .ok (.aload_n 2, 1)) (dv0 : decode code V1 = .ok (.invokevirtual iM, 3)) (dv3 : decode code (V1 + 3) = .ok (.istore 7, 2)) (hT5 : V1 + 5 = T)
    (hT : ∀ w ∈ va_wsS RL iW y [.codeWith y bytes mL (some .int) hh], w ∈ ww_tb) (hy : y.cls ≠ "java/lang/invoke/MethodHandle" ∧ y.cls ≠ "java/lang/invoke/VarHandle" ∧ (parseMethodDescriptor y.desc).map (fun d => d.parameters.length) = some kn) (hkn : as.length + 2 = kn)
    (hcw : Cond.code yM bM mLM rM ∈ ww_tb) (hli : Cond.methodLink RL iM yM ∈ ww_tb) (hi : Cond.instanceMethod yM ∈ ww_tb) (hse : Cond.selects RX7 yM yM ∈ ww_tb) (hyM : yM.cls = RX7 ∧ yM.cls ≠ "java/lang/invoke/MethodHandle" ∧ yM.cls ≠ "java/lang/invoke/VarHandle" ∧ (parseMethodDescriptor yM.desc).map (fun d => d.parameters.length) = some kM) (hkM : as.length = kM)
    (hR : d + 1 ≤ R.frames ∧ 8 + (mL + 11) + 32 * d ≤ R.locals) (hRM : dM + 1 ≤ R.frames ∧ 8 + (mLM + 11) + 32 * dM ≤ R.locals) (hRt : 1 ≤ R.frames ∧ 20 ≤ R.locals) (hcc : ck + 1 + mc ≤ R.cells) (hcs : cn + 6 + ms ≤ R.slots)
    (t0 : decode code T = .ok (.aload_n 2, 1)) (t1 : decode code (T + 1) = .ok (.invokevirtual 111, 3)) (t4 : decode code (T + 4) = .ok (.iload 6, 2)) (t6 : decode code (T + 6) = .ok (.if_icmp .eq off1, 3)) (e6 : ((T + 6 : Nat) : Int) + off1 = ((T + 11 : Nat) : Int)) (t11 : decode code (T + 11) = .ok (.iload 6, 2)) (t13 : decode code (T + 13) = .ok (.ifCond .ne off2, 3)) (e13 : ((T + 13 : Nat) : Int) + off2 = ((T + 28 : Nat) : Int))
    (t16 : decode code (T + 16) = .ok (.aload_n 3, 1)) (t17 : decode code (T + 17) = .ok (.iconst 0, 1)) (t18 : decode code (T + 18) = .ok (.laload, 1)) (t19 : decode code (T + 19) = .ok (.iload 7, 2)) (t21 : decode code (T + 21) = .ok (.i2l, 1)) (t22 : decode code (T + 22) = .ok (.lcmp, 1)) (t23 : decode code (T + 23) = .ok (.ifCond .eq off3, 3)) (e23 : ((T + 23 : Nat) : Int) + off3 = ((T + 28 : Nat) : Int)) (t28 : decode code (T + 28) = .ok (.goto off4, 3)) (e28 : ((T + 28 : Nat) : Int) + off4 = ((2030 : Nat) : Int))
    (k : ∀ (H1 : Heap) (ls1 : Array Slot) (lv1 : List (Nat × Value)) (k1 k2 : Nat), va_S (fun q => s.heap.size ≤ q) s.heap H1 [] → lv_has ls1 9 lv1 → (0, Value.ref b) ∈ lv1 → (5, Value.int 0) ∈ lv1 → k1 ≤ R.cells → k2 ≤ R.slots → W p l e R s m args below meth c H1 [] k1 k2 Q (F0 m 2030 ls1 [])) : W p l e R s m args below meth c H [] ck cn Q (F0 m P ls []) := by
  obtain ⟨⟨hx, hcb, hml, hown, hts, hX, hbl, hstk⟩, ⟨htx, htm, hKx, hKm, hKo⟩, ⟨hDx, hDm⟩, ⟨hnw, hXF, hN, hnx⟩, ⟨hax, ham, hso⟩⟩ := C
  obtain ⟨hPx, hPm, hO, hS⟩ := hH
  have hsz : s.heap.size ≤ H.size := hS.1
  have hol : o < H.size := lq_ltO hO
  have hm0 : ((40, 0, 0) : vgN) ∈ mm_nm := List.mem_cons_self
  subst hT5
  refine lv_aload_n hx hcb d0 rfl (lv_at hl 4 rfl) ?_
  refine p1 H ck cn ls _ _ hS hl (by repeat (first | exact List.mem_cons_self | apply List.mem_cons_of_mem)) (by repeat (first | exact List.mem_cons_self | apply List.mem_cons_of_mem)) ?_
  refine lv_aload_n hx hcb dw0 rfl (lv_at hl 2 rfl) ?_
  have e1 : (.ref o :: (vals.reverse ++ [.ref (ax (0, 0, 0))]) : List Value) = (Value.ref (ax (0, 0, 0)) :: (as.map (vg_cv ax) ++ [.ref o])).reverse ++ [] := by
    rw [hv1]
    simp
  rw [e1]
  have hA9 : ∀ q, wq_A ax H.size o q → s.heap.size ≤ q := by
    intro q hq
    rcases hq with (⟨n, hn, h⟩ | h) | h
    · rw [← h]
      exact (hax n hn).1
    · exact Nat.le_trans hsz h
    · rw [h]
      exact hso
  refine lq_wrap (nL := 9) (f0 := f0) hx hcb hml hown hts (hW l Dx tx ax H.size wy_σ o cO f0 hstk htx wy_fr (fun n hn => (hax n hn).2.1)) hPx hKx hDx hnw hXF hS hN hKo hO hA9 dw1 hT hy (by rw [List.length_cons, List.length_append, List.length_map]; exact hkn) hR (by decide) (by omega) (by omega) hl.1 (fun H1 f hz1 hk1 hf hO1 => ?_)
  have hm1 : ∀ n ∈ mm_nm, ¬ wq_A ax H.size o (am n) := by
    intro n hn h
    rcases h with (⟨n', hn', h⟩ | h) | h
    · exact (hax n' hn').2.2 n hn h
    · have := vg_lt hPm hn
      omega
    · exact (ham n hn).2 h
  have hPm1 : va_P Dm mm_cl (vg_ws mm_shp mm_nm am tm mm_σ) H1 := lq_kw hPm hm1 hk1
  have hS1 : va_S (fun q => s.heap.size ≤ q) s.heap H1 [] := ⟨Nat.le_trans hsz hz1, fun q h1 h2 => (hk1 q (Nat.lt_of_lt_of_le h1 hsz) (fun h => h2 (hA9 q h))).trans (hS.2.1 q h1 h2), fun _ h => nomatch h⟩
  refine lv_istore (lv' := (6, .int cod) :: lq_lv b (ax (0, 0, 0)) (am (40, 0, 0)) o od) hx hcb dw4 hl (by decide) rfl (fun ls1 hl1 => ?_)
  refine lv_aload_n hx hcb dw6 rfl (lv_at hl1 4 rfl) ?_
  refine p2 H1 _ _ ls1 _ _ hS1 hl1 (by repeat (first | exact List.mem_cons_self | apply List.mem_cons_of_mem)) (by repeat (first | exact List.mem_cons_self | apply List.mem_cons_of_mem)) ?_
  rw [← hv2]
  refine lq_mn (nL := 9) hx hcb hml hown hts hnx hM htm hPm1 hKm hDm (fun n hn => (ham n hn).1) hS1.1 dv0 hcw u_198 hli hi hse hyM hkM hav hpre hRM (by decide) (by omega) (by omega) hl1.1 (fun H2 r σ' hp hPm2 hz2 hk2 => ?_)
  obtain ⟨rfl, hth⟩ := hp
  have hS2 : va_S (fun q => s.heap.size ≤ q) s.heap H2 [] := ⟨Nat.le_trans hS1.1 hz2, fun q h1 h2 => (hk2 q (Nat.lt_of_lt_of_le h1 hS1.1) (fun n hn h => h2 (by rw [← h]; exact (ham n hn).1))).trans (hS1.2.1 q h1 h2), fun _ h => nomatch h⟩
  have hO2 : va_P Dx [] (wq_O o cO f) H2 := lq_kO hO1 (hk2 o (Nat.lt_of_lt_of_le hol hz1) (fun n hn => (ham n hn).2))
  refine lv_istore (x := (mf (.inr (40, 0, 0) :: as)).2) (lv' := (7, .int (mf (.inr (40, 0, 0) :: as)).2) :: (6, .int cod) :: lq_lv b (ax (0, 0, 0)) (am (40, 0, 0)) o od) hx hcb dv3 hl1 (by decide) rfl (fun ls2 hl2 => ?_)
  refine lq_tail (nL := 9) (Do := Dx) (cod := cod) (v := (mf (.inr (40, 0, 0) :: as)).2) hx hcb hml hown hts htm hPm2 hKm (vg_ws_D hDm σ') (fun n hn => (ham n hn).1) hS2.1 (fun n hn => (ham n hn).2) hKo hO2 hl2 (by repeat (first | exact List.mem_cons_self | apply List.mem_cons_of_mem)) (by repeat (first | exact List.mem_cons_self | apply List.mem_cons_of_mem)) (by repeat (first | exact List.mem_cons_self | apply List.mem_cons_of_mem)) (by repeat (first | exact List.mem_cons_self | apply List.mem_cons_of_mem)) (hth.trans hm.1.symm) (fun z => by rw [hf z, hm.2]) hRt hcc hcs u_409 t0 t1 t4 t6 e6 t11 t13 e13 t16 t17 t18 t19 t21 t22 t23 e23 t28 e28 (fun H3 hz3 hk3 => ?_)
  have hS3 : va_S (fun q => s.heap.size ≤ q) s.heap H3 [] := ⟨Nat.le_trans hS2.1 hz3, fun q h1 h2 => (hk3 q (Nat.lt_of_lt_of_le h1 hS2.1) (fun n hn h => h2 (by rw [← h]; exact (ham n hn).1))).trans (hS2.2.1 q h1 h2), fun _ h => nomatch h⟩
  exact k H3 ls2 _ _ _ hS3 hl2 (by repeat (first | exact List.mem_cons_self | apply List.mem_cons_of_mem)) (by repeat (first | exact List.mem_cons_self | apply List.mem_cons_of_mem)) hcc hcs
end LZ
