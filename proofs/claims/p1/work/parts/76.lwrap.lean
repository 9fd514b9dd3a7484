-- words of the tables, and what stands at each place of the methods' code (laid by program)
/-! the law's own steps: a call of a wrapper -/
section LW
variable {p : Program} {l : Launch} {e : Env} {R : Room} {s : State} {m : MethodId} {args : Array Value} {below : List Frame} {meth : Method} {c : Code} {H : Heap} {Q : State → Prop} {ck cn : Nat}
variable {cc : ByteArray} {nL pc : Nat} {ls : Array Slot} {rest : List Value}
/-- what a wrapper's call asks of the law's state, and what it leaves -/
theorem lq_wrap {y : MethodName} {bytes : ByteArray} {mL d ix kn : Nat} {hh : List (Nat × Nat × Nat × Nat)} {D : va_G} {tys : List (ClassId × FieldType)} {ad : vgN → Nat} {σ : vgS} {o : Nat} {cO : ClassId} {f0 : Nat → Int64} {As : List Value} {cod val : Int32}
    (hx : p.tables.exec = Jvm.exec) (hcb : c.code = cc) (hml : c.maxLocals = nL) (hown : s.vm.findClass RL = some m.cls) (hts : ∀ w ∈ ww_tb, w.before args s = true)
    (hM : vx_Met l y (.codeWith y bytes mL (some .int) hh :: ww_tb) (wq_rm d) (va_Pc As (wq_P D tys ad σ o cO f0 H.size)) (wq_Q D ad o cO H.size cod val) wq_X 1 6 (wq_A ad H.size o))
    (hP : va_P D ww_cl (vg_ws ww_shp ww_nm ad tys σ) H) (hK : va_K D ww_cl tys s) (hD : va_D (fun _ => True) (vg_ws ww_shp ww_nm ad tys σ)) (hnw : vg_nw ww_nw s) (hXF : vm_XF ww_tbx ww_strs (fun q => s.heap.size ≤ q) s s.heap) (hS : va_S (fun q => s.heap.size ≤ q) s.heap H []) (hN : wq_N s) (hKo : va_K D [] [(cO, .long)] s) (hO : va_P D [] (wq_O o cO f0) H) (hA : ∀ q, wq_A ad H.size o q → s.heap.size ≤ q)
    (hd : decode cc pc = .ok (.invokestatic ix, 3)) (hT : ∀ w ∈ va_wsS RL ix y [.codeWith y bytes mL (some .int) hh], w ∈ ww_tb)
    (hy : y.cls ≠ "java/lang/invoke/MethodHandle" ∧ y.cls ≠ "java/lang/invoke/VarHandle" ∧ (parseMethodDescriptor y.desc).map (fun d => d.parameters.length) = some kn) (hlen : As.length = kn) (hR : d + 1 ≤ R.frames ∧ 8 + (mL + 11) + 32 * d ≤ R.locals) (hwd : (rest.map fun v => v.category).sum ≤ 8) (hcc : ck + 1 ≤ R.cells) (hcs : cn + 6 ≤ R.slots) (hls : ls.size = nL)
    (k : ∀ (H1 : Heap) (f : Nat → Int64), H.size ≤ H1.size → (∀ q : Nat, q < H.size → ¬ wq_A ad H.size o q → H1[q]? = H[q]?) → (cod = 0 → f 0 = val.toInt64) → va_P D [] (wq_O o cO f) H1 → W p l e R s m args below meth c H1 [] (ck + 1) (cn + 6) Q (F0 m (pc + 3) ls (.int cod :: rest))) :
    W p l e R s m args below meth c H [] ck cn Q (F0 m pc ls (As.reverse ++ rest)) := by
  have hg : ∀ w ∈ ww_tb, goodWord w = true := fun w h => List.all_eq_true.mp ww_good w h
  have hT2 : ∀ w ∈ va_wsS RL ix y (.codeWith y bytes mL (some .int) hh :: ww_tb), w ∈ ww_tb := by
    intro w hw
    unfold va_wsS at hw hT
    rcases List.mem_append.mp hw with h | h
    · exact hT w (List.mem_append_left _ h)
    · rcases List.mem_cons.mp h with h | h
      · exact hT w (List.mem_append_right _ (by rw [h]; exact List.mem_cons_self))
      · exact h
  have cw : vx_CSW R s args RL ix y bytes mL (some .int) hh (.codeWith y bytes mL (some .int) hh :: ww_tb) (wq_rm d) 1 6 kn := vx_cwSW kn hts (fun w hw => ⟨hT2 w hw, good_of_word (hg _ (hT2 w hw))⟩) rfl rfl rfl hy hR
  have hr2 := vx_runSX (As := As) (rest := rest) (below := below) (meth := meth) (e := e) (locs := []) (cells := ck) (slots := cn) (g := F0 m pc ls (As.reverse ++ rest)) ⟨hx, hcb, hml, hown, hts⟩ hM cw ⟨fun a U g mk q => by
      obtain ⟨q0, q1, qP, qK, qD, qN, qX, qc, qKo, qO⟩ := q
      exact ⟨q0, q1, qP, va_K.moved (u := U) (U := U.calling g mk a) (Vm.Alike.refl U.vm) qK, qD, fun z hz => va_Nw.same (u := U) (U := U.calling g mk a) rfl rfl (qN z hz), vm_XF.blind ww_mv qX, wq_N.blind qc, va_K.moved (u := U) (U := U.calling g mk a) (Vm.Alike.refl U.vm) qKo, qO⟩, fun U hU hW => ⟨rfl, by rw [hU], by rw [hU]; exact hP, va_K.moved hW.alike hK, hD, fun z hz => va_Nw.warmM hW (hnw z hz), vm_XF.call ww_mv hXF hS hA hU hW, hN.warm hW, va_K.moved hW.alike hKo, by rw [hU]; exact hO⟩⟩ rfl hlen hls rfl (lv_room hwd) hd ⟨hcc, hcs⟩
  intro T9 hT9 X
  rcases hr2 T9 hT9 X with ⟨v, st₀, t9, T', L, h0, X', hLf, e1, e2, ⟨⟨hv, f, hf, hO1⟩, hF⟩, stp⟩ | ⟨q, st₀, t9, T', L, E, ce, h0, X', hLf, e1, e2, hX, _⟩
  · cases hv
    obtain ⟨hz, hkp⟩ := hF
    rw [h0] at hz hkp
    have h9 := k t9.heap f hz hkp hf hO1
    rw [← e1] at h9
    obtain ⟨t2, a1, b1⟩ := W.forget (locs := []) (L := L) (fun z hz => hA _ (hLf z hz)) h9 T' rfl X'
    exact ⟨t2, stp t2 a1, b1⟩
  · exact hX.elim
end LW
