-- words of the tables, and what stands at each place of the methods' code (laid by program)
theorem u_400 : Cond.code yX5_meanDelay cX5_meanDelay 6 (some .double) ∈ ww_tb := by decide +kernel
theorem u_401 : Cond.methodLink RL 91 yX5_meanDelay ∈ ww_tb := by decide +kernel
theorem u_402 : Cond.instanceMethod yX5_meanDelay ∈ ww_tb := by decide +kernel
theorem u_403 : Cond.selects RX5 yX5_meanDelay yX5_meanDelay ∈ ww_tb := by decide +kernel
theorem dL_meanDelay_0 : decode cL_meanDelay 0 = .ok (.aload_n 2, 1) := by decide +kernel
theorem dL_meanDelay_1 : decode cL_meanDelay 1 = .ok (.iconst 0, 1) := by decide +kernel
theorem dL_meanDelay_2 : decode cL_meanDelay 2 = .ok (.aload_n 0, 1) := by decide +kernel
theorem dL_meanDelay_3 : decode cL_meanDelay 3 = .ok (.iload_n 1, 1) := by decide +kernel
theorem dL_meanDelay_4 : decode cL_meanDelay 4 = .ok (.invokevirtual 91, 3) := by decide +kernel
theorem dL_meanDelay_7 : decode cL_meanDelay 7 = .ok (.dastore, 1) := by decide +kernel
theorem dL_meanDelay_8 : decode cL_meanDelay 8 = .ok (.goto 6, 3) := by decide +kernel
theorem dL_meanDelay_11 : decode cL_meanDelay 11 = .ok (.astore_n 3, 1) := by decide +kernel
theorem dL_meanDelay_12 : decode cL_meanDelay 12 = .ok (.iconst 1, 1) := by decide +kernel
theorem dL_meanDelay_13 : decode cL_meanDelay 13 = .ok (.ireturn, 1) := by decide +kernel
theorem dL_meanDelay_14 : decode cL_meanDelay 14 = .ok (.iconst 0, 1) := by decide +kernel
theorem dL_meanDelay_15 : decode cL_meanDelay 15 = .ok (.ireturn, 1) := by decide +kernel
/-! meanDelay's wrapper: its row is one of doubles, and no fresh object answers -/
def wq_Wd (y : MethodName) (cc : ByteArray) (nL : Nat) (hh : List (Nat × Nat × Nat × Nat)) (d : Nat) (x : Int32) : Prop :=
  ∀ (l : Launch) (D : va_G) (tys : List (ClassId × FieldType)) (ad : vgN → Nat) (sz : Nat) (σ : vgS) (o od : Nat) (cO : ClassId) (f0 : Nat → Int64), l.stackTraces = false → tys.map (fun q => q.2) = ww_tyl → wx_fr σ → (∀ n ∈ ww_nm, ad n ≠ o) →
    vx_Met l y (.codeWith y cc nL (some .int) hh :: ww_tb) (wq_rm d) (va_Pc [.ref (ad (0, 0, 0)), .int x, .ref od] (wq_P D tys ad σ o cO f0 sz)) (wq_Q D ad o cO sz 1 0) wq_X 1 6 (wq_A ad sz o)
set_option maxHeartbeats 1000000 in
theorem x_L_meanDelay (c : Int32) : wq_Wd yL_meanDelay cL_meanDelay 4 [(0, 8, 11, 13)] 8 c := by
  intro ll D tys ad sz σ oo od cO f0 hstk hty hfr ho
  refine vx_ofWH (cc := cL_meanDelay) (maxL := 4) (ret := some .int) (hh := [(0, 8, 11, 13)]) (by decide +kernel) rfl ?_
  intro pp ee s mm args below meth cd s₁ B hml hv
  obtain ⟨rfl, hsz, hP, hK, hD, hnw, hXF, hN, hKo, hO⟩ := hv
  subst hsz
  have hx := B.exec
  have hb := B.bytes
  have hr := B.returns
  have hlocks := B.notSynchronized
  have hts0 : ∀ w ∈ (.codeWith yL_meanDelay cL_meanDelay 4 (some .int) [(0, 8, 11, 13)] :: ww_tb : List Cond), w.before ([Value.ref (ad (0, 0, 0)), Value.int c, Value.ref od] : List Value).toArray s = true := atoms_spec (ws := .codeWith yL_meanDelay cL_meanDelay 4 (some .int) [(0, 8, 11, 13)] :: ww_tb) B.pre
  have hts : ∀ w ∈ ww_tb, w.before ([Value.ref (ad (0, 0, 0)), Value.int c, Value.ref od] : List Value).toArray s = true := fun w h => hts0 w (List.mem_cons_of_mem _ h)
  have hown : s.vm.findClass RL = some mm.cls := findClass_of_methodNamed B.named
  have hT : cd.exceptionTable.toList = [] ++ ([(0, 8, 11, 13)] : List (Nat × Nat × Nat × Nat)).map wq_en := vx_table (x := yL_meanDelay) B (hts0 _ List.mem_cons_self)
  have hl := lv_entry ([Value.ref (ad (0, 0, 0)), Value.int c, Value.ref od] : List Value) (n := 4) (show (3 : Nat) ≤ 4 by decide)
  rw [lg_entry_eq]
  refine lv_aload_n hx hb dL_meanDelay_0 rfl (hl.2.2 (2, .ref od) (by repeat (first | exact List.mem_cons_self | apply List.mem_cons_of_mem))) ?_
  refine lv_iconst hx hb dL_meanDelay_1 rfl ?_
  refine lv_aload_n hx hb dL_meanDelay_2 rfl (hl.2.2 (0, .ref (ad (0, 0, 0))) (by repeat (first | exact List.mem_cons_self | apply List.mem_cons_of_mem))) ?_
  refine lv_iload_n hx hb dL_meanDelay_3 rfl (hl.2.2 (1, .int c) (by repeat (first | exact List.mem_cons_self | apply List.mem_cons_of_mem))) ?_
  refine wq_call (as := [.inl (.int c)]) (pc := 4) hx hb hml hown hts hstk hty hK hD hnw hXF hP hO ho p_X5_meanDelay dL_meanDelay_4 u_400 u_64 u_401 u_402 u_403 (show yX5_meanDelay.cls = RX5 ∧ yX5_meanDelay.cls ≠ "java/lang/invoke/MethodHandle" ∧ yX5_meanDelay.cls ≠ "java/lang/invoke/VarHandle" ∧ (parseMethodDescriptor yX5_meanDelay.desc).map (fun d => d.parameters.length) = some 1 by decide +kernel) ⟨Nat.le_refl _, by decide⟩ ⟨Nat.le_refl _, Nat.le_refl _⟩ (fun v hv => by revert v; exact List.forall_mem_cons.mpr ⟨trivial, fun _ h => nomatch h⟩) hfr hl.1 (fun H1 locs1 h0 hS1 hO1 => absurd h0 (show ¬ (1 : Nat) = 0 by decide)) (fun H1 locs1 qa ce h0 hS1 hO1 hq hcv hcls => ?_)
  refine wq_catch (pc := 4) (x := 1) (hpc := 11) hown (wq_lk hts) hN (Or.inl rfl) hq hcv hcls ?_ [(0, 8, 11, 13)] [] hT (fun _ h => nomatch h) (by decide) rfl
  refine lv_astore_n hx hb dL_meanDelay_11 rfl hl (by decide) rfl (fun ls' hl' => ?_)
  exact wq_end (f := f0) hx hb hr hlocks dL_meanDelay_12 rfl dL_meanDelay_13 rfl (fun z2 => absurd z2 (show ¬ (1 : Int32) = 0 by decide)) hS1 hO1
