-- words of the tables, and what stands at each place of the methods' code (laid by program)
/-! .. and of its helpers -/
section LW2
variable {p : Program} {l : Launch} {e : Env} {s : State} {m : MethodId} {args : Array Value} {below : List Frame} {meth : Method} {c : Code} {H : Heap} {locs : List Loc} {Q : State → Prop} {ck cn : Nat}
variable {pc : Nat} {ls : Array Slot} {rest : List Value} {b L : Nat} {xs : Nat → Int32} {D Dx : va_G} {cI cG cH : ClassId} {tx : List (ClassId × FieldType)} {ax ay : vgN → Nat} {t o k : Nat} {v u : jN}
/-- a helper's call, on the first land -/
theorem ld_xs {As : List Value} {v' : jN} {xv : Int32} {y : MethodName} {bytes : ByteArray} {mL d' ix kn : Nat} (C : lC p s m args c b L xs D Dx cI cG cH tx ax ay t o) (h : lH s D Dx tx ax ay b t o k v u H locs) (hM : lZ l y bytes mL d' Dx tx ax As v v' xv)
    (hd : decode code pc = .ok (.invokestatic ix, 3)) (hcw : Cond.code y bytes mL (some .int) ∈ ww_tb) (hl : Cond.methodLink RL ix y ∈ ww_tb) (hst : Cond.static y ∈ ww_tb)
    (hy : y.cls = RL ∧ y.cls ≠ "java/lang/invoke/MethodHandle" ∧ y.cls ≠ "java/lang/invoke/VarHandle" ∧ (parseMethodDescriptor y.desc).map (fun d => d.parameters.length) = some kn) (hlen : (.ref (ax (0, 0, 0)) :: As).length = kn) (hR : d' + 1 ≤ 12 ∧ 8 + (mL + 11) + 32 * d' ≤ 444) (hwd : (rest.map fun v => v.category).sum ≤ 8) (hcc : ck ≤ 600086) (hcs : cn ≤ 7301442) (hls : ls.size = 21)
    (kk : ∀ (H1 : Heap) (locs1 : List Loc), lH s D Dx tx ax ay b t o k v' u H1 locs1 → W p l e room_1 s m args below meth c H1 locs1 ck cn Q (F0 m (pc + 3) ls (.int xv :: rest))) :
    W p l e room_1 s m args below meth c H locs ck cn Q (F0 m pc ls ((.ref (ax (0, 0, 0)) :: As).reverse ++ rest)) := by
  obtain ⟨⟨hx, hcb, hml, hown, hts⟩, ⟨hX, hb0, hL⟩, ⟨htx, hU, hUo⟩, ⟨ht, ho, hto⟩, hax, hay, hxy⟩ := C
  obtain ⟨hT, ⟨k', hO⟩, hA1, hA2, hS⟩ := h
  have hA := hA1
  obtain ⟨σo, hvo, hPo⟩ := hA2
  have htt := hT.lt
  have hoo := hO.lt
  have hg : ∀ w ∈ ww_tb, goodWord w = true := fun w h => List.all_eq_true.mp ww_good w h
  refine lt_run (F := fun q => s.heap.size ≤ q) (Fc := vg_A ww_nm ax H.size) (va_runS (As := .ref (ax (0, 0, 0)) :: As) (rest := rest) ⟨hx, hcb, hml, hown, hts⟩ (hM H.size) ⟨callB_of kn hts (fun w hw => by
      rcases List.mem_cons.mp hw with rfl | hw
      · exact ⟨hcw, good_of_word (hg _ hcw)⟩
      · exact ⟨hw, good_of_word (hg _ hw)⟩) rfl rfl rfl (hts _ (by rw [hy.1]; exact q_379)) (hts _ hl) hy.2 hR, hts _ hst⟩ ⟨fun a U g mk z => ⟨z.1, z.2.1, z.2.2.1, va_K.moved (u := U) (U := U.calling g mk a) (Vm.Alike.refl U.vm) z.2.2.2.1, fun y hy => va_Nw.same (u := U) (U := U.calling g mk a) rfl rfl (z.2.2.2.2 y hy)⟩, fun U hU2 hW => ⟨rfl, by rw [hU2], by rw [hU2]; exact hA, va_K.moved hW.alike hU.2.2.2.1, fun y hy => va_Nw.warmM hW (hU.2.2.1 y hy)⟩⟩ rfl hlen hls rfl (lv_room hwd) hd ⟨hcc, hcs⟩) hS (fun q hq => by
      rcases hq with ⟨n, hn, h⟩ | h
      · rw [← h]; exact (hax n hn).1
      · exact Nat.le_trans hS.1 h) (fun _ _ _ h => h.2) (fun st T9 v9 locs1 h0 hq hf hS1 => ?_)
  obtain ⟨⟨hv9, hA9⟩, -⟩ := hq
  cases hv9
  obtain ⟨hz1, hk1⟩ := hf
  rw [h0] at hz1 hk1
  have hk2 : ∀ q, q < H.size → (∀ n ∈ ww_nm, ax n ≠ q) → T9.heap[q]? = H[q]? := fun q hq hn => hk1 q hq (fun z => by
    rcases z with ⟨n, hn', h⟩ | h
    · exact hn n hn' h
    · omega)
  have hPo1 : va_P Dx ww_cl (vg_ws ww_shp ww_nm ay tx σo) T9.heap := lq_kw hPo (B := fun q => ∃ n ∈ ww_nm, ax n = q) (fun n hn h => by
    obtain ⟨n', hn', h⟩ := h
    exact hxy n' hn' n hn h) (fun q hq hB => hk2 q hq (fun n hn h => hB ⟨n, hn, h⟩))
  exact kk T9.heap locs1 ⟨hT.at (hk2 t htt (fun n hn => (hax n hn).2.1)), ⟨k', hO.at (hk2 o hoo (fun n hn => (hax n hn).2.2))⟩, hA9, ⟨σo, hvo, hPo1⟩, hS1⟩
/-- a helper's call, on the other land -/
theorem ld_ys {As : List Value} {v' : jN} {xv : Int32} {y : MethodName} {bytes : ByteArray} {mL d' ix kn : Nat} (C : lC p s m args c b L xs D Dx cI cG cH tx ax ay t o) (h : lH s D Dx tx ax ay b t o k v u H locs) (hM : lZ l y bytes mL d' Dx tx ay As u v' xv)
    (hd : decode code pc = .ok (.invokestatic ix, 3)) (hcw : Cond.code y bytes mL (some .int) ∈ ww_tb) (hl : Cond.methodLink RL ix y ∈ ww_tb) (hst : Cond.static y ∈ ww_tb)
    (hy : y.cls = RL ∧ y.cls ≠ "java/lang/invoke/MethodHandle" ∧ y.cls ≠ "java/lang/invoke/VarHandle" ∧ (parseMethodDescriptor y.desc).map (fun d => d.parameters.length) = some kn) (hlen : (.ref (ay (0, 0, 0)) :: As).length = kn) (hR : d' + 1 ≤ 12 ∧ 8 + (mL + 11) + 32 * d' ≤ 444) (hwd : (rest.map fun v => v.category).sum ≤ 8) (hcc : ck ≤ 600086) (hcs : cn ≤ 7301442) (hls : ls.size = 21)
    (kk : ∀ (H1 : Heap) (locs1 : List Loc), lH s D Dx tx ax ay b t o k v v' H1 locs1 → W p l e room_1 s m args below meth c H1 locs1 ck cn Q (F0 m (pc + 3) ls (.int xv :: rest))) :
    W p l e room_1 s m args below meth c H locs ck cn Q (F0 m pc ls ((.ref (ay (0, 0, 0)) :: As).reverse ++ rest)) := by
  obtain ⟨⟨hx, hcb, hml, hown, hts⟩, ⟨hX, hb0, hL⟩, ⟨htx, hU, hUo⟩, ⟨ht, ho, hto⟩, hax, hay, hxy⟩ := C
  obtain ⟨hT, ⟨k', hO⟩, hA1, hA2, hS⟩ := h
  have hA := hA2
  obtain ⟨σo, hvo, hPo⟩ := hA1
  have htt := hT.lt
  have hoo := hO.lt
  have hg : ∀ w ∈ ww_tb, goodWord w = true := fun w h => List.all_eq_true.mp ww_good w h
  refine lt_run (F := fun q => s.heap.size ≤ q) (Fc := vg_A ww_nm ay H.size) (va_runS (As := .ref (ay (0, 0, 0)) :: As) (rest := rest) ⟨hx, hcb, hml, hown, hts⟩ (hM H.size) ⟨callB_of kn hts (fun w hw => by
      rcases List.mem_cons.mp hw with rfl | hw
      · exact ⟨hcw, good_of_word (hg _ hcw)⟩
      · exact ⟨hw, good_of_word (hg _ hw)⟩) rfl rfl rfl (hts _ (by rw [hy.1]; exact q_379)) (hts _ hl) hy.2 hR, hts _ hst⟩ ⟨fun a U g mk z => ⟨z.1, z.2.1, z.2.2.1, va_K.moved (u := U) (U := U.calling g mk a) (Vm.Alike.refl U.vm) z.2.2.2.1, fun y hy => va_Nw.same (u := U) (U := U.calling g mk a) rfl rfl (z.2.2.2.2 y hy)⟩, fun U hU2 hW => ⟨rfl, by rw [hU2], by rw [hU2]; exact hA, va_K.moved hW.alike hUo.2.2.2.1, fun y hy => va_Nw.warmM hW (hUo.2.2.1 y hy)⟩⟩ rfl hlen hls rfl (lv_room hwd) hd ⟨hcc, hcs⟩) hS (fun q hq => by
      rcases hq with ⟨n, hn, h⟩ | h
      · rw [← h]; exact (hay n hn).1
      · exact Nat.le_trans hS.1 h) (fun _ _ _ h => h.2) (fun st T9 v9 locs1 h0 hq hf hS1 => ?_)
  obtain ⟨⟨hv9, hA9⟩, -⟩ := hq
  cases hv9
  obtain ⟨hz1, hk1⟩ := hf
  rw [h0] at hz1 hk1
  have hk2 : ∀ q, q < H.size → (∀ n ∈ ww_nm, ay n ≠ q) → T9.heap[q]? = H[q]? := fun q hq hn => hk1 q hq (fun z => by
    rcases z with ⟨n, hn', h⟩ | h
    · exact hn n hn' h
    · omega)
  have hPo1 : va_P Dx ww_cl (vg_ws ww_shp ww_nm ax tx σo) T9.heap := lq_kw hPo (B := fun q => ∃ n ∈ ww_nm, ay n = q) (fun n hn h => by
    obtain ⟨n', hn', h⟩ := h
    exact hxy n hn n' hn' h.symm) (fun q hq hB => hk2 q hq (fun n hn h => hB ⟨n, hn, h⟩))
  exact kk T9.heap locs1 ⟨hT.at (hk2 t htt (fun n hn => (hay n hn).2.1)), ⟨k', hO.at (hk2 o hoo (fun n hn => (hay n hn).2.2))⟩, ⟨σo, hvo, hPo1⟩, hA9, hS1⟩
end LW2
