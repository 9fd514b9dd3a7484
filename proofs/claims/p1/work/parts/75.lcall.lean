-- words of the tables, and what stands at each place of the methods' code (laid by program)
/-! the law's own steps: a call of an object's method; behind it all new places are forgotten -/
section LC
variable {p : Program} {l : Launch} {e : Env} {R : Room} {s : State} {m : MethodId} {args : Array Value} {below : List Frame} {meth : Method} {c : Code} {H : Heap} {Q : State → Prop} {ck cn : Nat}
variable {cc : ByteArray} {nL pc : Nat} {own : String} {ls : Array Slot} {rest : List Value}
theorem lq_call {y : MethodName} {bytes : ByteArray} {mL d' mc ms ix kn : Nat} {C : String} {rt : Option FieldType} {P : State → Prop} {Qc : Array Value → State → Outcome → State → Prop} {b : Nat} {As : List Value} {F : Nat → Prop}
    (hx : p.tables.exec = Jvm.exec) (hcb : c.code = cc) (hml : c.maxLocals = nL) (hown : s.vm.findClass own = some m.cls) (hts : ∀ w ∈ ww_tb, w.before args s = true)
    (hM : Met l y (.code y bytes mL rt :: ww_tb) { frames := d', cells := mc, slots := ms, locals := 32 * d' } (va_Pc (.ref b :: As) P) Qc mc ms F) (hp : PreV s H C b (va_Pc (.ref b :: As) P) As)
    (hd : decode cc pc = .ok (.invokevirtual ix, 3)) (hcw : Cond.code y bytes mL rt ∈ ww_tb) (hini : Cond.initialized C ∈ ww_tb) (hl : Cond.methodLink own ix y ∈ ww_tb) (hi : Cond.instanceMethod y ∈ ww_tb) (hse : Cond.selects C y y ∈ ww_tb)
    (hy : y.cls = C ∧ y.cls ≠ "java/lang/invoke/MethodHandle" ∧ y.cls ≠ "java/lang/invoke/VarHandle" ∧ (parseMethodDescriptor y.desc).map (fun d => d.parameters.length) = some kn) (hlen : As.length = kn) (hR : d' + 1 ≤ R.frames ∧ 8 + (mL + 11) + 32 * d' ≤ R.locals) (hwd : (rest.map fun v => v.category).sum ≤ 8) (hcc : ck + mc ≤ R.cells) (hcs : cn + ms ≤ R.slots) (hF : ∀ q, F q → s.heap.size ≤ q) (hls : ls.size = nL)
    (k : ∀ (st t : State) (v : Option Value), st.heap = H → Qc (.ref b :: As).toArray st (.returned v) t → W p l e R s m args below meth c t.heap [] (ck + mc) (cn + ms) Q (F0 m (pc + 3) ls (v.toList ++ rest))) :
    W p l e R s m args below meth c H [] ck cn Q (F0 m pc ls (As.reverse ++ .ref b :: rest)) := by
  have hg : ∀ w ∈ ww_tb, goodWord w = true := fun w h => List.all_eq_true.mp ww_good w h
  have cb : CallB R s args own ix y bytes mL rt (.code y bytes mL rt :: ww_tb) { frames := d', cells := mc, slots := ms, locals := 32 * d' } mc ms kn := by
    refine callB_of kn hts (fun w hw => ?_) rfl rfl rfl (hts _ (by rw [hy.1]; exact hini)) (hts _ hl) hy.2 hR
    rcases List.mem_cons.mp hw with rfl | hw
    · exact ⟨hcw, good_of_word (hg _ hcw)⟩
    · exact ⟨hw, good_of_word (hg _ hw)⟩
  have hr2 := va_runV (As := As) (b := b) (rest := rest) (C := C) (below := below) (meth := meth) (e := e) (locs := []) (cells := ck) (slots := cn) (g := F0 m pc ls (As.reverse ++ .ref b :: rest)) ⟨hx, hcb, hml, hown, hts⟩ hM ⟨cb, hts _ hi, hts _ hse⟩ hp rfl hlen hls rfl (lv_room hwd) hd ⟨hcc, hcs⟩
  intro T9 hT X
  obtain ⟨v, st₀, t9, T', L, h0, X', hLf, e1, e2, hq, stp⟩ := hr2 T9 hT X
  have h9 := k st₀ t9 v h0 hq
  rw [← e1] at h9
  obtain ⟨t2, a1, b1⟩ := W.forget (locs := []) (L := L) (fun z hz => hF _ (hLf z hz)) h9 T' rfl X'
  exact ⟨t2, stp t2 a1, b1⟩
end LC
