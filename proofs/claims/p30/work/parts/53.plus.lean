-- words of the tables, and what stands at each place of the methods' code (laid by program)
theorem q_372 : Cond.classLink RX6 16 (FieldType.array .int).toString ∈ ww_tb := by decide +kernel
theorem q_373 : Cond.methodLink RX6 66 arraycopyName ∈ ww_tb := by decide +kernel
theorem dX6_plus_0 : decode cX6_plus 0 = .ok (.aload_n 0, 1) := by decide +kernel
theorem dX6_plus_1 : decode cX6_plus 1 = .ok (.arraylength, 1) := by decide +kernel
theorem dX6_plus_2 : decode cX6_plus 2 = .ok (.iconst 1, 1) := by decide +kernel
theorem dX6_plus_3 : decode cX6_plus 3 = .ok (.iadd, 1) := by decide +kernel
theorem dX6_plus_4 : decode cX6_plus 4 = .ok (.anewarray 16, 3) := by decide +kernel
theorem dX6_plus_7 : decode cX6_plus 7 = .ok (.astore_n 2, 1) := by decide +kernel
theorem dX6_plus_8 : decode cX6_plus 8 = .ok (.aload_n 0, 1) := by decide +kernel
theorem dX6_plus_9 : decode cX6_plus 9 = .ok (.iconst 0, 1) := by decide +kernel
theorem dX6_plus_10 : decode cX6_plus 10 = .ok (.aload_n 2, 1) := by decide +kernel
theorem dX6_plus_11 : decode cX6_plus 11 = .ok (.iconst 0, 1) := by decide +kernel
theorem dX6_plus_12 : decode cX6_plus 12 = .ok (.aload_n 0, 1) := by decide +kernel
theorem dX6_plus_13 : decode cX6_plus 13 = .ok (.arraylength, 1) := by decide +kernel
theorem dX6_plus_14 : decode cX6_plus 14 = .ok (.invokestatic 66, 3) := by decide +kernel
theorem dX6_plus_17 : decode cX6_plus 17 = .ok (.aload_n 2, 1) := by decide +kernel
theorem dX6_plus_18 : decode cX6_plus 18 = .ok (.aload_n 0, 1) := by decide +kernel
theorem dX6_plus_19 : decode cX6_plus 19 = .ok (.arraylength, 1) := by decide +kernel
theorem dX6_plus_20 : decode cX6_plus 20 = .ok (.aload_n 1, 1) := by decide +kernel
theorem dX6_plus_21 : decode cX6_plus 21 = .ok (.aastore, 1) := by decide +kernel
theorem dX6_plus_22 : decode cX6_plus 22 = .ok (.aload_n 2, 1) := by decide +kernel
theorem dX6_plus_23 : decode cX6_plus 23 = .ok (.areturn, 1) := by decide +kernel
theorem dX6_blank_0 : decode cX6_blank 0 = .ok (.iconst 5, 1) := by decide +kernel
theorem dX6_blank_1 : decode cX6_blank 1 = .ok (.newarray .int, 2) := by decide +kernel
theorem dX6_blank_3 : decode cX6_blank 3 = .ok (.dup, 1) := by decide +kernel
theorem dX6_blank_4 : decode cX6_blank 4 = .ok (.iconst 0, 1) := by decide +kernel
theorem dX6_blank_5 : decode cX6_blank 5 = .ok (.iconst (-1), 1) := by decide +kernel
theorem dX6_blank_6 : decode cX6_blank 6 = .ok (.iastore, 1) := by decide +kernel
theorem dX6_blank_7 : decode cX6_blank 7 = .ok (.dup, 1) := by decide +kernel
theorem dX6_blank_8 : decode cX6_blank 8 = .ok (.iconst 1, 1) := by decide +kernel
theorem dX6_blank_9 : decode cX6_blank 9 = .ok (.iconst (-1), 1) := by decide +kernel
theorem dX6_blank_10 : decode cX6_blank 10 = .ok (.iastore, 1) := by decide +kernel
theorem dX6_blank_11 : decode cX6_blank 11 = .ok (.dup, 1) := by decide +kernel
theorem dX6_blank_12 : decode cX6_blank 12 = .ok (.iconst 2, 1) := by decide +kernel
theorem dX6_blank_13 : decode cX6_blank 13 = .ok (.iconst (-1), 1) := by decide +kernel
theorem dX6_blank_14 : decode cX6_blank 14 = .ok (.iastore, 1) := by decide +kernel
theorem dX6_blank_15 : decode cX6_blank 15 = .ok (.dup, 1) := by decide +kernel
theorem dX6_blank_16 : decode cX6_blank 16 = .ok (.iconst 3, 1) := by decide +kernel
theorem dX6_blank_17 : decode cX6_blank 17 = .ok (.iconst 0, 1) := by decide +kernel
theorem dX6_blank_18 : decode cX6_blank 18 = .ok (.iastore, 1) := by decide +kernel
theorem dX6_blank_19 : decode cX6_blank 19 = .ok (.dup, 1) := by decide +kernel
theorem dX6_blank_20 : decode cX6_blank 20 = .ok (.iconst 4, 1) := by decide +kernel
theorem dX6_blank_21 : decode cX6_blank 21 = .ok (.iconst (-1), 1) := by decide +kernel
theorem dX6_blank_22 : decode cX6_blank 22 = .ok (.iastore, 1) := by decide +kernel
theorem dX6_blank_23 : decode cX6_blank 23 = .ok (.astore_n 3, 1) := by decide +kernel
theorem dX6_blank_24 : decode cX6_blank 24 = .ok (.aload_n 0, 1) := by decide +kernel
theorem dX6_blank_25 : decode cX6_blank 25 = .ok (.getfield 27, 3) := by decide +kernel
theorem dX6_blank_28 : decode cX6_blank 28 = .ok (.iload_n 1, 1) := by decide +kernel
theorem dX6_blank_29 : decode cX6_blank 29 = .ok (.aaload, 1) := by decide +kernel
theorem dX6_blank_30 : decode cX6_blank 30 = .ok (.iload_n 2, 1) := by decide +kernel
theorem dX6_blank_31 : decode cX6_blank 31 = .ok (.aload_n 3, 1) := by decide +kernel
theorem dX6_blank_32 : decode cX6_blank 32 = .ok (.aastore, 1) := by decide +kernel
theorem dX6_blank_33 : decode cX6_blank 33 = .ok (.return_, 1) := by decide +kernel
theorem dX6_draw_0 : decode cX6_draw 0 = .ok (.aload_n 0, 1) := by decide +kernel
theorem dX6_draw_1 : decode cX6_draw 1 = .ok (.getfield 50, 3) := by decide +kernel
theorem dX6_draw_4 : decode cX6_draw 4 = .ok (.aload_n 0, 1) := by decide +kernel
theorem dX6_draw_5 : decode cX6_draw 5 = .ok (.getfield 53, 3) := by decide +kernel
theorem dX6_draw_8 : decode cX6_draw 8 = .ok (.bipush 24, 2) := by decide +kernel
theorem dX6_draw_10 : decode cX6_draw 10 = .ok (.irem, 1) := by decide +kernel
theorem dX6_draw_11 : decode cX6_draw 11 = .ok (.invokestatic 56, 3) := by decide +kernel
theorem dX6_draw_14 : decode cX6_draw 14 = .ok (.aload_n 0, 1) := by decide +kernel
theorem dX6_draw_15 : decode cX6_draw 15 = .ok (.getfield 53, 3) := by decide +kernel
theorem dX6_draw_18 : decode cX6_draw 18 = .ok (.bipush 24, 2) := by decide +kernel
theorem dX6_draw_20 : decode cX6_draw 20 = .ok (.idiv, 1) := by decide +kernel
theorem dX6_draw_21 : decode cX6_draw 21 = .ok (.bipush 8, 2) := by decide +kernel
theorem dX6_draw_23 : decode cX6_draw 23 = .ok (.irem, 1) := by decide +kernel
theorem dX6_draw_24 : decode cX6_draw 24 = .ok (.ishr, 1) := by decide +kernel
theorem dX6_draw_25 : decode cX6_draw 25 = .ok (.sipush 311, 3) := by decide +kernel
theorem dX6_draw_28 : decode cX6_draw 28 = .ok (.aload_n 0, 1) := by decide +kernel
theorem dX6_draw_29 : decode cX6_draw 29 = .ok (.getfield 53, 3) := by decide +kernel
theorem dX6_draw_32 : decode cX6_draw 32 = .ok (.imul, 1) := by decide +kernel
theorem dX6_draw_33 : decode cX6_draw 33 = .ok (.iadd, 1) := by decide +kernel
theorem dX6_draw_34 : decode cX6_draw 34 = .ok (.iload_n 1, 1) := by decide +kernel
theorem dX6_draw_35 : decode cX6_draw 35 = .ok (.invokestatic 62, 3) := by decide +kernel
theorem dX6_draw_38 : decode cX6_draw 38 = .ok (.istore_n 2, 1) := by decide +kernel
theorem dX6_draw_39 : decode cX6_draw 39 = .ok (.aload_n 0, 1) := by decide +kernel
theorem dX6_draw_40 : decode cX6_draw 40 = .ok (.dup, 1) := by decide +kernel
theorem dX6_draw_41 : decode cX6_draw 41 = .ok (.getfield 53, 3) := by decide +kernel
theorem dX6_draw_44 : decode cX6_draw 44 = .ok (.iconst 1, 1) := by decide +kernel
theorem dX6_draw_45 : decode cX6_draw 45 = .ok (.iadd, 1) := by decide +kernel
theorem dX6_draw_46 : decode cX6_draw 46 = .ok (.putfield 53, 3) := by decide +kernel
theorem dX6_draw_49 : decode cX6_draw 49 = .ok (.iload_n 2, 1) := by decide +kernel
theorem dX6_draw_50 : decode cX6_draw 50 = .ok (.ireturn, 1) := by decide +kernel
theorem dL_below_0 : decode cL_below 0 = .ok (.iload_n 0, 1) := by decide +kernel
theorem dL_below_1 : decode cL_below 1 = .ok (.ldc 7, 2) := by decide +kernel
theorem dL_below_3 : decode cL_below 3 = .ok (.iand, 1) := by decide +kernel
theorem dL_below_4 : decode cL_below 4 = .ok (.iload_n 1, 1) := by decide +kernel
theorem dL_below_5 : decode cL_below 5 = .ok (.irem, 1) := by decide +kernel
theorem dL_below_6 : decode cL_below 6 = .ok (.ireturn, 1) := by decide +kernel
theorem dL_cell_0 : decode cL_cell 0 = .ok (.iload_n 1, 1) := by decide +kernel
theorem dL_cell_1 : decode cL_cell 1 = .ok (.aload_n 0, 1) := by decide +kernel
theorem dL_cell_2 : decode cL_cell 2 = .ok (.arraylength, 1) := by decide +kernel
theorem dL_cell_3 : decode cL_cell 3 = .ok (.if_icmp .ge 9, 3) := by decide +kernel
theorem dL_cell_6 : decode cL_cell 6 = .ok (.aload_n 0, 1) := by decide +kernel
theorem dL_cell_7 : decode cL_cell 7 = .ok (.iload_n 1, 1) := by decide +kernel
theorem dL_cell_8 : decode cL_cell 8 = .ok (.iaload, 1) := by decide +kernel
theorem dL_cell_9 : decode cL_cell 9 = .ok (.goto 9, 3) := by decide +kernel
theorem dL_cell_12 : decode cL_cell 12 = .ok (.ldc 8, 2) := by decide +kernel
theorem dL_cell_14 : decode cL_cell 14 = .ok (.iload_n 1, 1) := by decide +kernel
theorem dL_cell_15 : decode cL_cell 15 = .ok (.iconst 3, 1) := by decide +kernel
theorem dL_cell_16 : decode cL_cell 16 = .ok (.iadd, 1) := by decide +kernel
theorem dL_cell_17 : decode cL_cell 17 = .ok (.imul, 1) := by decide +kernel
theorem dL_cell_18 : decode cL_cell 18 = .ok (.ireturn, 1) := by decide +kernel
/-! .. its calls, and the copy of a row of rows -/
section TCL
variable {p : Program} {l : Launch} {e : Env} {R : Room} {s : State} {m : MethodId} {args : Array Value} {below : List Frame} {meth : Method} {c : Code} {H H0 : Heap} {locs : List Loc} {Q : State → Prop} {ck cn : Nat}
variable {cc : ByteArray} {pc : Nat} {ls : Array Slot} {rest : List Value} {D : va_G} {cI cG cH : ClassId} {A F : Nat → Prop} {own : String} {a : Nat} {fs : List Value}
theorem lt_run {mc ms : Nat} {st : List Value} {Qx : State → Outcome → State → Prop} {Fc : Nat → Prop} (hr : va_Run p l e R s m args below meth c H locs ck cn mc ms (F0 m pc ls st) rest Qx Fc) (hS : va_S F H0 H locs) (hF : ∀ q, Fc q → F q) (hfr : ∀ (st0 : State) (o : Outcome) (t : State), Qx st0 o t → va_F Fc st0 t)
    (k : ∀ (st0 t : State) (v : Option Value) (locs1 : List Loc), st0.heap = H → Qx st0 (.returned v) t → va_F Fc st0 t → va_S F H0 t.heap locs1 → W p l e R s m args below meth c t.heap locs1 (ck + mc) (cn + ms) Q (F0 m (pc + 3) ls (v.toList ++ rest))) : W p l e R s m args below meth c H locs ck cn Q (F0 m pc ls st) := by
  intro T9 hT X
  obtain ⟨v, st₀, t9, T', L, h0, X', hLf, e1, e2, hq, stp⟩ := hr T9 hT X
  have hf := hfr _ _ _ hq
  have hf2 := hf
  obtain ⟨hz, hkp⟩ := hf2
  rw [h0] at hz hkp
  have hS1 : va_S F H0 t9.heap (locs ++ L) := ⟨Nat.le_trans hS.1 hz, fun q h1 h2 => (hkp q (Nat.lt_of_lt_of_le h1 hS.1) (fun y => h2 (hF q y))).trans (hS.2.1 q h1 h2), fun q hq => by
    rcases List.mem_append.mp hq with h | h
    · exact hS.2.2 q h
    · exact hF _ (hLf q h)⟩
  obtain ⟨t2, a1, b1⟩ := k st₀ t9 v (locs ++ L) h0 hq hf hS1 T' e1 X'
  exact ⟨t2, stp t2 a1, b1⟩
theorem lt_copy {index a0 n0 n1 : Nat} {f g : Nat → Option Nat} {n : Int32} {N : Nat} (hx : p.tables.exec = Jvm.exec) (hcb : c.code = cc) (hml : c.maxLocals = ls.size) (hts : ∀ w ∈ ww_tb, w.before args s = true) (hown : s.vm.findClass own = some m.cls) (hlink : Cond.methodLink own index arraycopyName ∈ ww_tb) (hnat : Cond.native arraycopyName ∈ ww_tb) (hstat : Cond.static arraycopyName ∈ ww_tb) (hini : Cond.initialized "java/lang/System" ∈ ww_tb)
    (hK : tK D cI cG cH s) (h0 : H[a0]? = some (vp_cell cG (n0, tq f))) (h1 : H[a]? = some (vp_cell cG (n1, tq g))) (ha : F a) (hS : va_S F H0 H locs) (hN : n = nI N) (hN2 : N < 1000) (h4 : N ≤ n0) (h5 : N ≤ n1) (hel : ∀ i y, i < N → f i = some y → ∃ k, tR cI A k H y)
    (hframes : 1 ≤ R.frames) (hlocals : (rest.map fun v => v.category).sum + (nativeFrameWords "java/lang/System" "arraycopy" 5 + 11) ≤ R.locals) (hdg : decode cc pc = .ok (.invokestatic index, 3))
    (kk : ∀ (H1 : Heap) (locs1 : List Loc), H1[a]? = some (vp_cell cG (n1, tq (va_cpy f g 0 0 N))) → H1.size = H.size → (∀ q, q ≠ a → H1[q]? = H[q]?) → va_S F H0 H1 locs1 → W p l e R s m args below meth c H1 locs1 ck cn Q (F0 m (pc + 3) ls rest)) : W p l e R s m args below meth c H locs ck cn Q (F0 m pc ls (.int n :: .int 0 :: .ref a :: .int 0 :: .ref a0 :: rest)) := by
  have eN : n.toNatClampNeg = N := jcl hN hN2
  have en : n.toInt = (N : Int) := by rw [hN]; exact nI_toInt (by omega)
  intro T hT X
  obtain ⟨kG, k1, k2⟩ := hK.2.1
  obtain ⟨-, kI, hkI, -⟩ := (hK.1.2 0 _ rfl).1 0 (fun _ => .null)
  have hkI' : s.vm.classes[cI]? = some kI := hkI
  obtain ⟨vm', X', step⟩ := X.arraycopy hx hown (hts _ hlink) (hts _ hnat) (hts _ hstat) (hts _ hini) (src := a0) (dst := a) (cs := vp_cell cG (n0, tq f)) (cd := vp_cell cG (n1, tq g)) (srcPos := 0) (destPos := 0) (n := n) (by rw [hT]; exact h0) (by rw [hT]; exact h1)
    (fun _ h => by cases h) (fun _ h => by cases h) (fun h => by cases h) (fun h => by cases h) k1 k1 k2 k2 rfl (by decide) (by decide) (by rw [hN]; exact nI_pos (by omega))
    (by rw [en]; show ¬ _ > ((arrV cG n0 (fun j => va_rf (f j))).slots.size : Int); rw [arrV_size, show (0 : Int32).toInt = 0 from by decide]; omega)
    (by rw [en]; show ¬ _ > ((arrV cG n1 (fun j => va_rf (g j))).slots.size : Int); rw [arrV_size, show (0 : Int32).toInt = 0 from by decide]; omega)
    (fun vm₁ hal i hi => by
      rw [eN] at hi
      have z0 : (0 : Int32).toNatClampNeg = 0 := by decide
      have e : (vp_cell cG (n0, tq f)).slots.getD ((0 : Int32).toNatClampNeg + i) .null = va_rf (f i) := by
        show (arrV cG n0 (fun j => va_rf (f j))).slots.getD _ _ = _
        rw [z0, Nat.zero_add, Array.getD_eq_getD_getElem?, arrV_read _ _ (by omega)]
        rfl
      rw [e]
      cases hy : f i with
      | none => exact ⟨rfl, trivial⟩
      | some y =>
        obtain ⟨k, -, fy, g1⟩ := hel i y hi hy
        obtain ⟨kC', hkC', -⟩ := hal.2.2 _ _ hkI'
        refine ⟨rfl, vp_cell cI (k, .inl fy), (show T.heap[y]? = some _ by rw [hT]; exact g1), (fun q h => by cases h), ⟨kC', hkC'⟩, ⟨kC', hkC'⟩, ?_⟩
        show vm₁.assignable cI cI = true
        exact va_asg _ _)
    (g := F0 m pc ls (.int n :: .int 0 :: .ref a :: .int 0 :: .ref a0 :: rest)) rfl (by rw [hml]) (rest := rest) rfl (by rw [hcb]; exact hdg) hframes (by show 2 * 0 + _ + _ ≤ _; omega)
  have e1 : copied (vp_cell cG (n0, tq f)) (vp_cell cG (n1, tq g)) 0 0 n = vp_cell cG (n1, tq (va_cpy f g 0 0 N)) := by
    rw [vp_cell_q, vp_cell_q, vp_cell_q]
    have h9 := va_copied (fun z => va_rf z) cG cG f g (sp := 0) (dp := 0) (n := N) (n0 := n0) (n1 := n1) (by omega)
    show (arrV cG n1 (fun j => va_rf (g j))).storeRun (0 : Int32).toNatClampNeg ((arrV cG n0 (fun j => va_rf (f j))).stretch (0 : Int32).toNatClampNeg n.toNatClampNeg) = _
    rw [eN, show (0 : Int32).toNatClampNeg = 0 from by decide]
    exact h9
  rw [e1] at X' step
  have hl : a < H.size := tlt h1
  have hheap : ((T.setVm vm').setCell a (vp_cell cG (n1, tq (va_cpy f g 0 0 N)))).heap = H.setIfInBounds a (vp_cell cG (n1, tq (va_cpy f g 0 0 N))) := by rw [← hT]; rfl
  have oq : ∀ q : Nat, q ≠ a → (H.setIfInBounds a (vp_cell cG (n1, tq (va_cpy f g 0 0 N))))[q]? = H[q]? := fun q hq => by simp [Array.getElem?_setIfInBounds, Ne.symm hq]
  obtain ⟨t, a1, b1⟩ := kk _ _ (show (H.setIfInBounds a _)[a]? = some _ by simp [Array.getElem?_setIfInBounds, hl]) (by simp) oq ⟨by simp; exact hS.1, fun q g1 g2 => by
      rw [oq q (fun e => g2 (by rw [e]; exact ha))]
      exact hS.2.1 q g1 g2, fun q hq => by
      rcases List.mem_append.mp hq with h | h
      · exact hS.2.2 q h
      · obtain ⟨z, -, hz⟩ := List.mem_map.mp h
        rw [← hz]
        exact ha⟩ _ hheap X'
  exact ⟨t, step t a1, b1⟩
end TCL
/-- plus -/
theorem lt_plus (l : Launch) (D : va_G) (cI cG cH : ClassId) (A : Nat → Prop) (sz all more n k9 : Nat) (hn : n < 9) (hA : ∀ q, sz ≤ q → A q) :
    Met l yX6_plus (.code yX6_plus cX6_plus 3 (some (.array (.array .int))) :: ww_tb) { frames := 1, cells := 1, slots := 9, locals := 32 } (va_Pc [.ref all, .ref more] (fun U => U.heap.size = sz ∧ tK D cI cG cH U ∧ tG cI cG A n U.heap all ∧ tR cI A k9 U.heap more))
      (fun _ st oc t => (∃ r, oc = .returned (some (.ref r)) ∧ tG cI cG A (n + 1) t.heap r) ∧ va_F (fun q => sz ≤ q) st t) 1 9 (fun q => sz ≤ q) := by
  refine Met.ofW (cc := cX6_plus) (maxL := 3) (ret := some (.array (.array .int))) (by decide +kernel) rfl ?_
  intro p e s m args below meth c s₁ B hml hv
  obtain ⟨rfl, hsz, hK, ⟨hAa, f, hf, hfe⟩, hmo⟩ := hv
  have hx := B.exec
  have hb := B.bytes
  have hr := B.returns
  have hlocks := B.notSynchronized
  have hts : ∀ w ∈ ww_tb, w.before ([Value.ref all, Value.ref more] : List Value).toArray s = true := fun w h => atoms_spec (ws := .code yX6_plus cX6_plus 3 (some (.array (.array .int))) :: ww_tb) B.pre w (List.mem_cons_of_mem _ h)
  have ho : s.vm.findClass RX6 = some m.cls := findClass_of_methodNamed B.named
  subst hsz
  have hl := lv_entry ([Value.ref all, Value.ref more] : List Value) (n := 3) (show (2 : Nat) ≤ 3 by decide)
  rw [lg_entry_eq]
  have aG : ArrOfT s cG (.array .int) := (hK.1.2 1 _ rfl).1
  refine lv_aload_n hx hb dX6_plus_0 rfl (lv_at hl 0 rfl) ?_
  refine lt_alen hx hb aG hf dX6_plus_1 ?_
  refine lv_iconst (v := 1) hx hb dX6_plus_2 rfl ?_
  refine lv_iadd hx hb dX6_plus_3 ?_
  refine lt_newG (N := n + 1) (F := fun q => s.heap.size ≤ q) (A := A) hx hb hts ho hK va_S.rf (nI_succ n).symm (by omega) q_372 (by decide) (by show 0 + (n + 1) ≤ 9; omega) dX6_plus_4 (fun r H1 hr1 hc1 hz1 hk1 hE1 hS1 => ?_)
  have hrA : A r := hA r hr1
  have hf1 : H1[all]? = some (vp_cell cG (n, tq f)) := (hk1 all (tlt hf)).trans hf
  have hmo1 := hE1.2.1 _ _ hmo
  have hfe1 : ∀ i y, i < n → f i = some y → ∃ k, tR cI A k H1 y := fun i y hi hy => by
    obtain ⟨k, z⟩ := hfe i y hi hy
    exact ⟨k, hE1.2.1 _ _ z⟩
  have hra : r ≠ all := fun e => by
    have := tlt hf
    omega
  refine lv_astore_n (i := 2) (lv' := [(2, .ref r), (0, .ref all), (1, .ref more)]) hx hb dX6_plus_7 rfl hl (by decide) rfl (fun ls1 hl1 => ?_)
  refine lv_aload_n hx hb dX6_plus_8 rfl (lv_at hl1 1 rfl) ?_
  refine lv_iconst (v := 0) hx hb dX6_plus_9 rfl ?_
  refine lv_aload_n hx hb dX6_plus_10 rfl (lv_at hl1 0 rfl) ?_
  refine lv_iconst (v := 0) hx hb dX6_plus_11 rfl ?_
  refine lv_aload_n hx hb dX6_plus_12 rfl (lv_at hl1 1 rfl) ?_
  refine lt_alen hx hb aG hf1 dX6_plus_13 ?_
  refine lt_copy (A := A) (F := fun q => s.heap.size ≤ q) (N := n) (rest := []) hx hb (by rw [hml]; exact hl1.1.symm) hts ho q_373 q_166 q_167 q_168 hK hf1 hc1 hr1 hS1 rfl (by omega) (Nat.le_refl _) (by omega) hfe1 (by decide) (by decide) dX6_plus_14 (fun H2 locs2 hc2 hz2 hk2 hS2 => ?_)
  have hf2 : H2[all]? = some (vp_cell cG (n, tq f)) := (hk2 all (Ne.symm hra)).trans hf1
  have hmo2 : tR cI A k9 H2 more := by
    obtain ⟨h1, fy, h2⟩ := hmo1
    refine ⟨h1, fy, (hk2 more (fun e => ?_)).trans h2⟩
    rw [e] at h2
    exact hK.ne.1 (tcls h2 hc1)
  refine lv_aload_n hx hb dX6_plus_17 rfl (lv_at hl1 0 rfl) ?_
  refine lv_aload_n hx hb dX6_plus_18 rfl (lv_at hl1 1 rfl) ?_
  refine lt_alen hx hb aG hf2 dX6_plus_19 ?_
  refine lv_aload_n hx hb dX6_plus_20 rfl (lv_at hl1 2 rfl) ?_
  refine lt_aast (A := A) (F := fun q => s.heap.size ≤ q) hx hb hK hc2 hmo2 hr1 hS2 (vp_in_nI (by omega) (by omega)) dX6_plus_21 (fun H3 locs3 hc3 hz3 hk3 _ hS3 => ?_)
  refine lv_aload_n hx hb dX6_plus_22 rfl (lv_at hl1 0 rfl) ?_
  refine W.widen (k := 1) (n := 9) (by decide) (by show 0 + (n + 1) ≤ 9; omega) ?_
  refine W.aret hx hb hr (Or.inr ⟨_, rfl⟩) (Or.inr ⟨_, rfl⟩) (fun t ht _ => ⟨⟨r, rfl, hrA, _, by rw [ht]; exact hc3, fun i y hi hy => ?_⟩, hS3.F ht⟩) hS3.2.2 dX6_plus_23 hlocks
  have mo3 : ∀ k y, tR cI A k H2 y → tR cI A k t.heap y := by
    rintro k y ⟨h1, fy, h2⟩
    refine ⟨h1, fy, ?_⟩
    rw [ht]
    refine (hk3 y (fun e => ?_)).trans h2
    rw [e] at h2
    exact hK.ne.1 (tcls h2 hc2)
  have mo2 : ∀ k y, tR cI A k H1 y → tR cI A k H2 y := by
    rintro k y ⟨h1, fy, h2⟩
    refine ⟨h1, fy, (hk2 y (fun e => ?_)).trans h2⟩
    rw [e] at h2
    exact hK.ne.1 (tcls h2 hc1)
  unfold va_up at hy
  by_cases e1 : i = (nI n).toNatClampNeg
  · rw [if_pos e1] at hy
    cases hy
    exact ⟨k9, mo3 _ _ hmo2⟩
  · rw [if_neg e1] at hy
    unfold va_cpy at hy
    rw [jcl rfl (by omega)] at e1
    have hin : i < n := by omega
    simp only [Nat.zero_le, Nat.zero_add, Nat.sub_zero, true_and, hin, if_true] at hy
    obtain ⟨k, z⟩ := hfe1 i y hin hy
    exact ⟨k, mo3 _ _ (mo2 _ _ z)⟩
