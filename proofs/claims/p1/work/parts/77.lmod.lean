-- words of the tables, and what stands at each place of the methods' code (laid by program)
/-! the law's own steps: a call of the reference -/
section LM
variable {p : Program} {l : Launch} {e : Env} {R : Room} {s : State} {m : MethodId} {args : Array Value} {below : List Frame} {meth : Method} {c : Code} {H : Heap} {Q : State → Prop} {ck cn : Nat}
variable {cc : ByteArray} {nL pc : Nat} {ls : Array Slot} {rest : List Value}
theorem lq_up {y : MethodName} {bytes : ByteArray} {mL d' : Nat} {rt : Option FieldType} {pre : vgT → vgS → Prop} {post : vgT → vgS → vgO} (h : vg_Met ww_tb [] mm_shp mm_nm mm_cl mm_tyl y bytes mL rt d' pre post) : vm_Met ww_tb [] mm_shp mm_nm mm_cl mm_tyl y bytes mL rt d' 0 0 pre post := h
theorem lq_mm {y : MethodName} {bytes : ByteArray} {mL d' mc ms ix kn : Nat} {rt : Option FieldType} {pre : vgT → vgS → Prop} {post : vgT → vgS → vgO} {D : va_G} {tys : List (ClassId × FieldType)} {ad : vgN → Nat} {σ : vgS} {as : vgT}
    (hx : p.tables.exec = Jvm.exec) (hcb : c.code = cc) (hml : c.maxLocals = nL) (hown : s.vm.findClass RL = some m.cls) (hts : ∀ w ∈ ww_tb, w.before args s = true)
    (hM : vm_Met ww_tb [] mm_shp mm_nm mm_cl mm_tyl y bytes mL rt d' mc ms pre post) (hty : tys.map (fun q => q.2) = mm_tyl)
    (hP : va_P D mm_cl (vg_ws mm_shp mm_nm ad tys σ) H) (hK : va_K D mm_cl tys s) (hD : va_D (fun _ => True) (vg_ws mm_shp mm_nm ad tys σ)) (hA : ∀ n ∈ mm_nm, s.heap.size ≤ ad n) (hsz : s.heap.size ≤ H.size)
    (hd : decode cc pc = .ok (.invokevirtual ix, 3)) (hcw : Cond.code y bytes mL rt ∈ ww_tb) (hini : Cond.initialized RX7 ∈ ww_tb) (hl : Cond.methodLink RL ix y ∈ ww_tb) (hi : Cond.instanceMethod y ∈ ww_tb) (hse : Cond.selects RX7 y y ∈ ww_tb)
    (hy : y.cls = RX7 ∧ y.cls ≠ "java/lang/invoke/MethodHandle" ∧ y.cls ≠ "java/lang/invoke/VarHandle" ∧ (parseMethodDescriptor y.desc).map (fun d => d.parameters.length) = some kn) (hlen : as.length = kn) (hav : ∀ v ∈ as, vg_ok mm_nm v) (hpre : pre (.inr (40, 0, 0) :: as) σ) (hR : d' + 1 ≤ R.frames ∧ 8 + (mL + 11) + 32 * d' ≤ R.locals) (hwd : (rest.map fun v => v.category).sum ≤ 8) (hcc : ck + mc ≤ R.cells) (hcs : cn + ms ≤ R.slots) (hls : ls.size = nL)
    (k : ∀ (H1 : Heap) (r : Option vgV) (σ' : vgS), post (.inr (40, 0, 0) :: as) σ r σ' → va_P D mm_cl (vg_ws mm_shp mm_nm ad tys σ') H1 → H.size ≤ H1.size → (∀ q : Nat, q < H.size → (∀ n ∈ mm_nm, ad n ≠ q) → H1[q]? = H[q]?) → W p l e R s m args below meth c H1 [] (ck + mc) (cn + ms) Q (F0 m (pc + 3) ls ((r.map (vg_cv ad)).toList ++ rest))) :
    W p l e R s m args below meth c H [] ck cn Q (F0 m pc ls ((as.map (vg_cv ad)).reverse ++ .ref (ad (40, 0, 0)) :: rest)) := by
  have hm0 : ((40, 0, 0) : vgN) ∈ mm_nm := List.mem_cons_self
  obtain ⟨q0, hq0, hws⟩ := vg_ws_get (shp := mm_shp) (ad := ad) (tys := tys) (σ := σ) hm0
  have hws2 : (vg_ws mm_shp mm_nm ad tys σ)[q0]? = some (ad (40, 0, 0), .inr (0, vg_fs ad (σ (40, 0, 0)) 0 [none, some (41, 0, 0), none])) := hws
  refine lq_call (C := RX7) (F := vg_A mm_nm ad H.size) hx hcb hml hown hts (hM l D tys ad H.size (.inr (40, 0, 0) :: as) σ hty (List.forall_mem_cons.mpr ⟨hm0, hav⟩) hpre) ⟨fun a U g mk q => by
      obtain ⟨q0, q1, qP, qK, qD, qN⟩ := q
      exact ⟨q0, q1, qP, va_K.moved (u := U) (U := U.calling g mk a) (Vm.Alike.refl U.vm) qK, qD, fun z hz => nomatch hz⟩, va_recv hK hP (ci := 0) (q0 := q0) (show mm_cl[0]? = some (RX7, TX7, 3) from rfl) hws2, fun U hU hW => ⟨rfl, by rw [hU], by rw [hU]; exact hP, va_K.moved hW.alike hK, hD, fun z hz => nomatch hz⟩⟩ hd hcw hini hl hi hse hy (by rw [List.length_map]; exact hlen) hR hwd hcc hcs (fun q hq => ?_) hls (fun st t v h0 hq => ?_)
  · rcases hq with ⟨n, hn, h⟩ | h
    · rw [← h]
      exact hA n hn
    · exact Nat.le_trans hsz h
  · obtain ⟨⟨r, σ', hv, hp, _, hP1⟩, hz, hkp⟩ := hq
    cases hv
    rw [h0] at hz hkp
    exact k t.heap r σ' hp hP1 hz (fun q hq hn => hkp q hq (fun h => by
      rcases h with ⟨n, hn1, h⟩ | h
      · exact hn n hn1 h
      · omega))
theorem lq_mn {y : MethodName} {bytes : ByteArray} {mL d' mc ms ix kn : Nat} {rt : Option FieldType} {pre : vgT → vgS → Prop} {post : vgT → vgS → vgO} {D : va_G} {tys : List (ClassId × FieldType)} {ad : vgN → Nat} {σ : vgS} {as : vgT}
    (hx : p.tables.exec = Jvm.exec) (hcb : c.code = cc) (hml : c.maxLocals = nL) (hown : s.vm.findClass RL = some m.cls) (hts : ∀ w ∈ ww_tb, w.before args s = true) (hnx : vh_nx wh_nx s)
    (hM : vn_Met ww_tb wh_nx mm_shp mm_nm mm_cl mm_tyl y bytes mL rt d' mc ms pre post) (hty : tys.map (fun q => q.2) = mm_tyl)
    (hP : va_P D mm_cl (vg_ws mm_shp mm_nm ad tys σ) H) (hK : va_K D mm_cl tys s) (hD : va_D (fun _ => True) (vg_ws mm_shp mm_nm ad tys σ)) (hA : ∀ n ∈ mm_nm, s.heap.size ≤ ad n) (hsz : s.heap.size ≤ H.size)
    (hd : decode cc pc = .ok (.invokevirtual ix, 3)) (hcw : Cond.code y bytes mL rt ∈ ww_tb) (hini : Cond.initialized RX7 ∈ ww_tb) (hl : Cond.methodLink RL ix y ∈ ww_tb) (hi : Cond.instanceMethod y ∈ ww_tb) (hse : Cond.selects RX7 y y ∈ ww_tb)
    (hy : y.cls = RX7 ∧ y.cls ≠ "java/lang/invoke/MethodHandle" ∧ y.cls ≠ "java/lang/invoke/VarHandle" ∧ (parseMethodDescriptor y.desc).map (fun d => d.parameters.length) = some kn) (hlen : as.length = kn) (hav : ∀ v ∈ as, vg_ok mm_nm v) (hpre : pre (.inr (40, 0, 0) :: as) σ) (hR : d' + 1 ≤ R.frames ∧ 8 + (mL + 11) + 32 * d' ≤ R.locals) (hwd : (rest.map fun v => v.category).sum ≤ 8) (hcc : ck + mc ≤ R.cells) (hcs : cn + ms ≤ R.slots) (hls : ls.size = nL)
    (k : ∀ (H1 : Heap) (r : Option vgV) (σ' : vgS), post (.inr (40, 0, 0) :: as) σ r σ' → va_P D mm_cl (vg_ws mm_shp mm_nm ad tys σ') H1 → H.size ≤ H1.size → (∀ q : Nat, q < H.size → (∀ n ∈ mm_nm, ad n ≠ q) → H1[q]? = H[q]?) → W p l e R s m args below meth c H1 [] (ck + mc) (cn + ms) Q (F0 m (pc + 3) ls ((r.map (vg_cv ad)).toList ++ rest))) :
    W p l e R s m args below meth c H [] ck cn Q (F0 m pc ls ((as.map (vg_cv ad)).reverse ++ .ref (ad (40, 0, 0)) :: rest)) := by
  have hm0 : ((40, 0, 0) : vgN) ∈ mm_nm := List.mem_cons_self
  obtain ⟨q0, hq0, hws⟩ := vg_ws_get (shp := mm_shp) (ad := ad) (tys := tys) (σ := σ) hm0
  have hws2 : (vg_ws mm_shp mm_nm ad tys σ)[q0]? = some (ad (40, 0, 0), .inr (0, vg_fs ad (σ (40, 0, 0)) 0 [none, some (41, 0, 0), none])) := hws
  refine lq_call (C := RX7) (F := vg_A mm_nm ad H.size) hx hcb hml hown hts (hM l D tys ad H.size (.inr (40, 0, 0) :: as) σ hty (List.forall_mem_cons.mpr ⟨hm0, hav⟩) hpre) ⟨fun a U g mk q => by
      obtain ⟨q0, q1, qP, qK, qD, qN⟩ := q
      exact ⟨q0, q1, qP, va_K.moved (u := U) (U := U.calling g mk a) (Vm.Alike.refl U.vm) qK, qD, vh_nx.blind qN⟩, va_recv hK hP (ci := 0) (q0 := q0) (show mm_cl[0]? = some (RX7, TX7, 3) from rfl) hws2, fun U hU hW => ⟨rfl, by rw [hU], by rw [hU]; exact hP, va_K.moved hW.alike hK, hD, vh_nx.warm hW hnx⟩⟩ hd hcw hini hl hi hse hy (by rw [List.length_map]; exact hlen) hR hwd hcc hcs (fun q hq => ?_) hls (fun st t v h0 hq => ?_)
  · rcases hq with ⟨n, hn, h⟩ | h
    · rw [← h]
      exact hA n hn
    · exact Nat.le_trans hsz h
  · obtain ⟨⟨r, σ', hv, hp, _, hP1⟩, hz, hkp⟩ := hq
    cases hv
    rw [h0] at hz hkp
    exact k t.heap r σ' hp hP1 hz (fun q hq hn => hkp q hq (fun h => by
      rcases h with ⟨n, hn1, h⟩ | h
      · exact hn n hn1 h
      · omega))
end LM
