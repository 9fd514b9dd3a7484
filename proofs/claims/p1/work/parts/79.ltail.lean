-- words of the tables, and what stands at each place of the methods' code (laid by program)
theorem u_406 : Cond.code yX7_thrown cX7_thrown 1 (some .int) ∈ ww_tb := by decide +kernel
theorem u_407 : Cond.instanceMethod yX7_thrown ∈ ww_tb := by decide +kernel
theorem u_408 : Cond.selects RX7 yX7_thrown yX7_thrown ∈ ww_tb := by decide +kernel
/-! the law's own steps: what was thrown and what was answered are compared -/
theorem lq_cmp0 (x : Int64) : lg_cmp x x = 0 := by simp [lg_cmp]
section LT
variable {p : Program} {l : Launch} {e : Env} {R : Room} {s : State} {m : MethodId} {args : Array Value} {below : List Frame} {meth : Method} {c : Code} {H : Heap} {Q : State → Prop} {ck cn : Nat}
variable {cc : ByteArray} {nL T : Nat} {ls : Array Slot}
theorem lq_tail {D Do : va_G} {tys : List (ClassId × FieldType)} {ad : vgN → Nat} {σ : vgS} {o : Nat} {cO : ClassId} {f : Nat → Int64} {cod v : Int32} {lv : List (Nat × Value)} {off1 off2 off3 off4 : Int}
    (hx : p.tables.exec = Jvm.exec) (hcb : c.code = cc) (hml : c.maxLocals = nL) (hown : s.vm.findClass RL = some m.cls) (hts : ∀ w ∈ ww_tb, w.before args s = true) (hty : tys.map (fun q => q.2) = mm_tyl)
    (hP : va_P D mm_cl (vg_ws mm_shp mm_nm ad tys σ) H) (hK : va_K D mm_cl tys s) (hD : va_D (fun _ => True) (vg_ws mm_shp mm_nm ad tys σ)) (hA : ∀ n ∈ mm_nm, s.heap.size ≤ ad n) (hsz : s.heap.size ≤ H.size) (ho : ∀ n ∈ mm_nm, ad n ≠ o)
    (hKo : va_K Do [] [(cO, .long)] s) (hO : va_P Do [] (wq_O o cO f) H) (hl : lv_has ls nL lv) (h2 : (2, Value.ref (ad (40, 0, 0))) ∈ lv) (h3 : (3, Value.ref o) ∈ lv) (h6 : (6, Value.int cod) ∈ lv) (h7 : (7, Value.int v) ∈ lv)
    (ht : σ (40, 0, 0) 0 = cod) (hf : cod = 0 → f 0 = v.toInt64) (hR : 1 ≤ R.frames ∧ 20 ≤ R.locals) (hcc : ck ≤ R.cells) (hcs : cn ≤ R.slots) (hli : Cond.methodLink RL 111 yX7_thrown ∈ ww_tb)
    (d0 : decode cc T = .ok (.aload_n 2, 1)) (d1 : decode cc (T + 1) = .ok (.invokevirtual 111, 3)) (d4 : decode cc (T + 4) = .ok (.iload 6, 2)) (d6 : decode cc (T + 6) = .ok (.if_icmp .eq off1, 3)) (e6 : ((T + 6 : Nat) : Int) + off1 = ((T + 11 : Nat) : Int)) (d11 : decode cc (T + 11) = .ok (.iload 6, 2)) (d13 : decode cc (T + 13) = .ok (.ifCond .ne off2, 3)) (e13 : ((T + 13 : Nat) : Int) + off2 = ((T + 28 : Nat) : Int))
    (d16 : decode cc (T + 16) = .ok (.aload_n 3, 1)) (d17 : decode cc (T + 17) = .ok (.iconst 0, 1)) (d18 : decode cc (T + 18) = .ok (.laload, 1)) (d19 : decode cc (T + 19) = .ok (.iload 7, 2)) (d21 : decode cc (T + 21) = .ok (.i2l, 1)) (d22 : decode cc (T + 22) = .ok (.lcmp, 1)) (d23 : decode cc (T + 23) = .ok (.ifCond .eq off3, 3)) (e23 : ((T + 23 : Nat) : Int) + off3 = ((T + 28 : Nat) : Int)) (d28 : decode cc (T + 28) = .ok (.goto off4, 3)) (e28 : ((T + 28 : Nat) : Int) + off4 = ((2030 : Nat) : Int))
    (k : ∀ H1 : Heap, H.size ≤ H1.size → (∀ q : Nat, q < H.size → (∀ n ∈ mm_nm, ad n ≠ q) → H1[q]? = H[q]?) → W p l e R s m args below meth c H1 [] ck cn Q (F0 m 2030 ls [])) : W p l e R s m args below meth c H [] ck cn Q (F0 m T ls []) := by
  refine lv_aload_n hx hcb d0 rfl (hl.2.2 _ h2) ?_
  refine lq_mm (as := []) (mc := 0) (ms := 0) hx hcb hml hown hts (lq_up (c_X7_thrown mm_closed)) hty hP hK hD hA hsz d1 u_406 u_198 hli u_407 u_408 (show yX7_thrown.cls = RX7 ∧ yX7_thrown.cls ≠ "java/lang/invoke/MethodHandle" ∧ yX7_thrown.cls ≠ "java/lang/invoke/VarHandle" ∧ (parseMethodDescriptor yX7_thrown.desc).map (fun d => d.parameters.length) = some 0 by decide +kernel) rfl (fun v h => nomatch h) trivial ⟨hR.1, hR.2⟩ (by decide) hcc hcs hl.1 (fun H1 r σ' hp hP1 hz hkp => ?_)
  have hp' : r = some (.inl (.int (σ (40, 0, 0) 0))) ∧ σ' = σ := hp
  obtain ⟨rfl, rfl⟩ := hp'
  have hO1 : va_P Do [] (wq_O o cO f) H1 := fun k x hk => (hO k x hk).kept (hkp x.1 (hO k x hk).lt (by
    have h9 : k < 1 := (List.getElem?_eq_some_iff.mp hk).1
    have h8 : k = 0 := by omega
    subst h8
    cases hk
    exact ho))
  refine lv_iload hx hcb d4 (hl.2.2 _ h6) ?_
  refine lv_icmp_eq hx hcb d6 e6 (fun _ => ?_) (fun z => absurd ht z)
  refine lv_iload hx hcb d11 (hl.2.2 _ h6) ?_
  refine lv_if_ne hx hcb d13 e13 (fun _ => ?_) (fun z => ?_)
  · exact lv_goto hx hcb d28 e28 (k H1 hz hkp)
  · refine lv_aload_n hx hcb d16 rfl (hl.2.2 _ h3) ?_
    refine lv_iconst (v := 0) hx hcb d17 rfl ?_
    refine va_lald (D := Do) hx hcb hKo hO1 0 0 (cA := cO) (n := 1) (f := f) rfl rfl (mm_i 0 1 0 rfl (by decide) (by decide)) d18 ?_
    refine lv_iload hx hcb d19 (hl.2.2 _ h7) ?_
    refine lv_i2l hx hcb d21 rfl ?_
    refine W.lcmp hx hcb d22 ?_
    have e9 : lg_cmp (f (0 : Int32).toNatClampNeg) v.toInt64 = 0 := by
      rw [show f (0 : Int32).toNatClampNeg = f 0 from rfl, hf z]
      exact lq_cmp0 _
    rw [e9]
    exact lv_if_eq hx hcb d23 e23 (fun _ => lv_goto hx hcb d28 e28 (k H1 hz hkp)) (fun y => absurd rfl y)
end LT
