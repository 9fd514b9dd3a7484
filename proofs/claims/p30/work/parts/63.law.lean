-- words of the tables, and what stands at each place of the methods' code (laid by program)
theorem q_449 : Cond.fieldLink RL 14 RX6 (TX6 0).2.1 (TX6 0).2.2.1 ∈ ww_tb := by decide +kernel
theorem q_450 : Cond.methodLink RL 22 yX6_draw ∈ ww_tb := by decide +kernel
/-! the law's own steps -/
def lV (v : jN) (σ : vgS) : Prop := jV σ 0 = v ∧ jPl (jV σ 1)
theorem lV.put1 {v w : jN} {σ : vgS} (h : lV v σ) (hw : jPl w) : lV v (jPut σ 1 w) := ⟨(jV_put_ne (by decide)).trans h.1, by rw [jV_put]; exact hw⟩
theorem lV.put0 {v w : jN} {σ : vgS} (h : lV v σ) : lV w (jPut σ 0 w) := ⟨jV_put, by rw [jV_put_ne (by decide)]; exact h.2⟩
def lT (D : va_G) (a m b k : Nat) (H : Heap) : Prop := ∃ gr wa he sh sm si ma da : Nat, va_P D tClT [(a, .inr (0, tf m b k gr wa he sh sm si ma da))] H
def lA (Dx : va_G) (tx : List (ClassId × FieldType)) (ad : vgN → Nat) (v : jN) (H : Heap) : Prop := ∃ σ, lV v σ ∧ va_P Dx ww_cl (vg_ws ww_shp ww_nm ad tx σ) H
theorem lT.at {D : va_G} {a m b k : Nat} {H H1 : Heap} (h : lT D a m b k H) (hk : H1[a]? = H[a]?) : lT D a m b k H1 := by
  obtain ⟨gr, wa, he, sh, sm, si, ma, da, h⟩ := h
  exact ⟨gr, wa, he, sh, sm, si, ma, da, tT_at h hk⟩
theorem lT.lt {D : va_G} {a m b k : Nat} {H : Heap} (h : lT D a m b k H) : a < H.size := by
  obtain ⟨gr, wa, he, sh, sm, si, ma, da, h⟩ := h
  exact (h 0 _ rfl).lt
/-- what is known of the law's run, its two objects made -/
def lC (p : Program) (s : State) (m : MethodId) (args : Array Value) (c : Code) (b L : Nat) (xs : Nat → Int32) (D Dx : va_G) (cI cG cH : ClassId) (tx : List (ClassId × FieldType)) (ax ay : vgN → Nat) (t o : Nat) : Prop :=
  (p.tables.exec = Jvm.exec ∧ c.code = code ∧ c.maxLocals = 21 ∧ s.vm.findClass RL = some m.cls ∧ ∀ w ∈ ww_tb, w.before args s = true) ∧ (va_X b L xs s s.heap ∧ b < s.heap.size ∧ L < 1000) ∧ (tx.map (fun q => q.2) = ww_tyl ∧ tU D cI cG cH Dx tx ax s ∧ tU D cI cG cH Dx tx ay s) ∧ (s.heap.size ≤ t ∧ s.heap.size ≤ o ∧ t ≠ o) ∧ (∀ n ∈ ww_nm, s.heap.size ≤ ax n ∧ ax n ≠ t ∧ ax n ≠ o) ∧ (∀ n ∈ ww_nm, s.heap.size ≤ ay n ∧ ay n ≠ t ∧ ay n ≠ o) ∧ ∀ n ∈ ww_nm, ∀ n' ∈ ww_nm, ax n ≠ ay n'
def lH (s : State) (D Dx : va_G) (tx : List (ClassId × FieldType)) (ax ay : vgN → Nat) (b t o k : Nat) (v u : jN) (H : Heap) (locs : List Loc) : Prop :=
  lT D t (ax (0, 0, 0)) b k H ∧ (∃ k', lT D o (ay (0, 0, 0)) b k' H) ∧ lA Dx tx ax v H ∧ lA Dx tx ay u H ∧ va_S (fun q => s.heap.size ≤ q) s.heap H locs
/-- what a call of the class comes to -/
def lS (sp : vgC) (as : vgT) (v v' : jN) (x : Value) : Prop := ∀ σ, lV v σ → (sp (.inr (0, 0, 0) :: as) σ).1 ∧ (sp (.inr (0, 0, 0) :: as) σ).2.1 = some (.inl x) ∧ lV v' (sp (.inr (0, 0, 0) :: as) σ).2.2
def lR (pre : vgT → vgS → Prop) (post : vgT → vgS → vgO) (as : vgT) (v v' : jN) (x : Value) : Prop := ∀ σ, lV v σ → pre (.inr (0, 0, 0) :: as) σ ∧ ∀ r σ', post (.inr (0, 0, 0) :: as) σ r σ' → r = some (.inl x) ∧ lV v' σ'
theorem lS.r {sp : vgC} {as : vgT} {v v' : jN} {x : Value} (h : lS sp as v v' x) : lR (fun av σ => (sp av σ).1) (fun av σ r σ' => r = (sp av σ).2.1 ∧ σ' = (sp av σ).2.2) as v v' x := fun σ hv => ⟨(h σ hv).1, fun r σ' hp => ⟨hp.1.trans (h σ hv).2.1, by rw [hp.2]; exact (h σ hv).2.2⟩⟩
section LW
variable {p : Program} {l : Launch} {e : Env} {s : State} {m : MethodId} {args : Array Value} {below : List Frame} {meth : Method} {c : Code} {H : Heap} {locs : List Loc} {Q : State → Prop} {ck cn : Nat}
variable {pc : Nat} {ls : Array Slot} {rest : List Value} {b L : Nat} {xs : Nat → Int32} {D Dx : va_G} {cI cG cH : ClassId} {tx : List (ClassId × FieldType)} {ax ay : vgN → Nat} {t o k : Nat} {v u : jN}
theorem ld_get (C : lC p s m args c b L xs D Dx cI cG cH tx ax ay t o) (h : lH s D Dx tx ax ay b t o k v u H locs) (hd : decode code pc = .ok (.getfield 14, 3))
    (kk : W p l e room_1 s m args below meth c H locs ck cn Q (F0 m (pc + 3) ls (.ref (ay (0, 0, 0)) :: rest))) : W p l e room_1 s m args below meth c H locs ck cn Q (F0 m pc ls (.ref o :: rest)) := by
  obtain ⟨⟨hx, hcb, hml, hown, hts⟩, -, ⟨htx, hU, hUo⟩, -⟩ := C
  obtain ⟨-, ⟨k', gr, wa, he, sh, sm, si, ma, da, h⟩, -⟩ := h
  exact lt_get (k := 0) (v := .ref (ay (0, 0, 0))) hx hcb hts hown hU.1 h hd q_449 (by decide) rfl rfl kk
theorem ld_draw {N : Nat} (C : lC p s m args c b L xs D Dx cI cG cH tx ax ay t o) (h : lH s D Dx tx ax ay b t o k v u H locs) (hk : k < 900) (hN : 0 < N ∧ N < 2 ^ 31) (hd : decode code pc = .ok (.invokevirtual 22, 3)) (hwd : (rest.map fun v => v.category).sum ≤ 8) (hcc : ck ≤ 600086) (hcs : cn ≤ 7301442) (hls : ls.size = 21)
    (kk : ∀ (H1 : Heap) (locs1 : List Loc), lH s D Dx tx ax ay b t o (k + 1) v u H1 locs1 → W p l e room_1 s m args below meth c H1 locs1 ck cn Q (F0 m (pc + 3) ls (.int (jDr xs L k (nI N)) :: rest))) : W p l e room_1 s m args below meth c H locs ck cn Q (F0 m pc ls (.int (nI N) :: .ref t :: rest)) := by
  obtain ⟨⟨hx, hcb, hml, hown, hts⟩, ⟨hX, hb0, hL⟩, ⟨htx, hU, hUo⟩, ⟨ht, ho, hto⟩, hax, hay, hxy⟩ := C
  obtain ⟨⟨gr, wa, he, sh, sm, si, ma, da, hT⟩, ⟨k', hO⟩, ⟨σ, hv, hP⟩, ⟨σo, hvo, hPo⟩, hS⟩ := h
  obtain ⟨hK, hnt, hnw, hKx, hDx⟩ := hU
  have hg : ∀ w ∈ ww_tb, goodWord w = true := fun w h => List.all_eq_true.mp ww_good w h
  have hXH : va_X b L xs s H := hX.kept (hS.2.1 b hb0 (by omega))
  have hbH : b < H.size := Nat.lt_of_lt_of_le hb0 hS.1
  refine lt_run (F := fun q => s.heap.size ≤ q) (Fc := fun q => q = t ∨ H.size ≤ q) (va_runV (As := [.int (nI N)]) (b := t) (rest := rest) (C := RX6) ⟨hx, hcb, hml, hown, hts⟩ (lt_draw l D cI cG cH H.size t b L k (ax (0, 0, 0)) gr wa he sh sm si ma da N xs hL hk hbH hN) ⟨callB_of 1 hts (fun w hw => by
      rcases List.mem_cons.mp hw with rfl | hw
      · exact ⟨q_414, good_of_word (hg _ q_414)⟩
      · exact ⟨hw, good_of_word (hg _ hw)⟩) rfl rfl rfl (hts _ q_386) (hts _ q_450) (by decide +kernel) (by decide), hts _ q_415, hts _ q_416⟩ ⟨fun a U g mk z => ⟨z.1, z.2.1, tK.moved (u := U) (U := U.calling g mk a) (Vm.Alike.refl U.vm) z.2.2.1, fun y hy => va_Nw.same (u := U) (U := U.calling g mk a) rfl rfl (z.2.2.2.1 y hy), z.2.2.2.2.1, va_X.moved (u := U) (U := U.calling g mk a) (Vm.Alike.refl U.vm) z.2.2.2.2.2⟩, va_recv hK.1 hT (ci := 0) (q0 := 0) rfl rfl, fun U hU hW => ⟨rfl, by rw [hU], hK.moved hW.alike, fun y hy => va_Nw.warmM hW (hnt y hy), by rw [hU]; exact hT, by rw [hU]; exact va_X.moved hW.alike hXH⟩⟩ rfl rfl hls rfl (lv_room hwd) hd ⟨hcc, hcs⟩) hS (fun q h => by
      rcases h with h | h
      · rw [h]; exact ht
      · exact Nat.le_trans hS.1 h) (fun _ _ _ h => h.2) (fun st T9 v9 locs1 h0 hq hf hS1 => ?_)
  obtain ⟨⟨hv9, hT1⟩, -⟩ := hq
  cases hv9
  obtain ⟨hz1, hk1⟩ := hf
  rw [h0] at hz1 hk1
  have hk2 : ∀ q, q < H.size → ¬ q = t → T9.heap[q]? = H[q]? := fun q hq hne => hk1 q hq (fun y => by
    rcases y with y | y
    · exact hne y
    · omega)
  exact kk T9.heap locs1 ⟨⟨gr, wa, he, sh, sm, si, ma, da, hT1⟩, ⟨k', hO.at (hk2 o hO.lt (fun z => hto z.symm))⟩, ⟨σ, hv, lq_kw hP (B := fun q => q = t) (fun n hn h => (hax n hn).2.1 h) hk2⟩, ⟨σo, hvo, lq_kw hPo (B := fun q => q = t) (fun n hn h => (hay n hn).2.1 h) hk2⟩, hS1⟩
/-- a call of the class, on the first land -/
theorem ld_x {pre : vgT → vgS → Prop} {post : vgT → vgS → vgO} {as : vgT} {v' : jN} {rv : Value} {y : MethodName} {bytes : ByteArray} {mL d' ix kn : Nat} {rt : Option FieldType} (C : lC p s m args c b L xs D Dx cI cG cH tx ax ay t o) (h : lH s D Dx tx ax ay b t o k v u H locs) (hM : vg_Met ww_tb ww_nw ww_shp ww_nm ww_cl ww_tyl y bytes mL rt d' pre post) (hs : lR pre post as v v' rv)
    (hd : decode code pc = .ok (.invokevirtual ix, 3)) (hcw : Cond.code y bytes mL rt ∈ ww_tb) (hl : Cond.methodLink RL ix y ∈ ww_tb) (hi : Cond.instanceMethod y ∈ ww_tb) (hse : Cond.selects RX5 y y ∈ ww_tb)
    (hy : y.cls = RX5 ∧ y.cls ≠ "java/lang/invoke/MethodHandle" ∧ y.cls ≠ "java/lang/invoke/VarHandle" ∧ (parseMethodDescriptor y.desc).map (fun d => d.parameters.length) = some kn) (hlen : as.length = kn) (hav : ∀ v ∈ as, vg_ok ww_nm v) (hR : d' + 1 ≤ 12 ∧ 8 + (mL + 11) + 32 * d' ≤ 444) (hwd : (rest.map fun v => v.category).sum ≤ 8) (hcc : ck ≤ 600086) (hcs : cn ≤ 7301442) (hls : ls.size = 21)
    (kk : ∀ (H1 : Heap) (locs1 : List Loc), lH s D Dx tx ax ay b t o k v' u H1 locs1 → W p l e room_1 s m args below meth c H1 locs1 ck cn Q (F0 m (pc + 3) ls (rv :: rest))) :
    W p l e room_1 s m args below meth c H locs ck cn Q (F0 m pc ls ((as.map (vg_cv ax)).reverse ++ .ref (ax (0, 0, 0)) :: rest)) := by
  obtain ⟨⟨hx, hcb, hml, hown, hts⟩, ⟨hX, hb0, hL⟩, ⟨htx, hU, hUo⟩, ⟨ht, ho, hto⟩, hax, hay, hxy⟩ := C
  obtain ⟨hT, ⟨k', hO⟩, hA1, hA2, hS⟩ := h
  obtain ⟨σ, hv, hP⟩ := hA1
  obtain ⟨σo, hvo, hPo⟩ := hA2
  obtain ⟨hpre, hpost⟩ := hs σ hv
  have htt := hT.lt
  have hoo := hO.lt
  refine lt_ww (F := fun q => s.heap.size ≤ q) (rest := rest) (as := as) hx hcb hml hown hts hM htx hP hU.2.2.2.1 hU.2.2.2.2 hU.2.2.1 hS (fun q hq => by
      rcases hq with ⟨n, hn, h⟩ | h
      · rw [← h]; exact (hax n hn).1
      · exact Nat.le_trans hS.1 h) hd hcw hl hi hse hy hlen hav hpre hR hwd hcc hcs hls (fun H1 locs1 r σ' hp hP1 hz1 hk1 hS1 => ?_)
  obtain ⟨rfl, hv'⟩ := hpost r σ' hp
  have hPo1 : va_P Dx ww_cl (vg_ws ww_shp ww_nm ay tx σo) H1 := lq_kw hPo (B := fun q => ∃ n ∈ ww_nm, ax n = q) (fun n hn h => by
    obtain ⟨n', hn', h⟩ := h
    exact hxy n' hn' n hn h) (fun q hq hB => hk1 q hq (fun n hn h => hB ⟨n, hn, h⟩))
  exact kk H1 locs1 ⟨hT.at (hk1 t htt (fun n hn => (hax n hn).2.1)), ⟨k', hO.at (hk1 o hoo (fun n hn => (hax n hn).2.2))⟩, ⟨_, hv', hP1⟩, ⟨σo, hvo, hPo1⟩, hS1⟩
/-- a call of the class, on the other land -/
theorem ld_y {pre : vgT → vgS → Prop} {post : vgT → vgS → vgO} {as : vgT} {v' : jN} {rv : Value} {y : MethodName} {bytes : ByteArray} {mL d' ix kn : Nat} {rt : Option FieldType} (C : lC p s m args c b L xs D Dx cI cG cH tx ax ay t o) (h : lH s D Dx tx ax ay b t o k v u H locs) (hM : vg_Met ww_tb ww_nw ww_shp ww_nm ww_cl ww_tyl y bytes mL rt d' pre post) (hs : lR pre post as u v' rv)
    (hd : decode code pc = .ok (.invokevirtual ix, 3)) (hcw : Cond.code y bytes mL rt ∈ ww_tb) (hl : Cond.methodLink RL ix y ∈ ww_tb) (hi : Cond.instanceMethod y ∈ ww_tb) (hse : Cond.selects RX5 y y ∈ ww_tb)
    (hy : y.cls = RX5 ∧ y.cls ≠ "java/lang/invoke/MethodHandle" ∧ y.cls ≠ "java/lang/invoke/VarHandle" ∧ (parseMethodDescriptor y.desc).map (fun d => d.parameters.length) = some kn) (hlen : as.length = kn) (hav : ∀ v ∈ as, vg_ok ww_nm v) (hR : d' + 1 ≤ 12 ∧ 8 + (mL + 11) + 32 * d' ≤ 444) (hwd : (rest.map fun v => v.category).sum ≤ 8) (hcc : ck ≤ 600086) (hcs : cn ≤ 7301442) (hls : ls.size = 21)
    (kk : ∀ (H1 : Heap) (locs1 : List Loc), lH s D Dx tx ax ay b t o k v v' H1 locs1 → W p l e room_1 s m args below meth c H1 locs1 ck cn Q (F0 m (pc + 3) ls (rv :: rest))) :
    W p l e room_1 s m args below meth c H locs ck cn Q (F0 m pc ls ((as.map (vg_cv ay)).reverse ++ .ref (ay (0, 0, 0)) :: rest)) := by
  obtain ⟨⟨hx, hcb, hml, hown, hts⟩, ⟨hX, hb0, hL⟩, ⟨htx, hU, hUo⟩, ⟨ht, ho, hto⟩, hax, hay, hxy⟩ := C
  obtain ⟨hT, ⟨k', hO⟩, hA1, hA2, hS⟩ := h
  obtain ⟨σ, hv, hP⟩ := hA2
  obtain ⟨σo, hvo, hPo⟩ := hA1
  obtain ⟨hpre, hpost⟩ := hs σ hv
  have htt := hT.lt
  have hoo := hO.lt
  refine lt_ww (F := fun q => s.heap.size ≤ q) (rest := rest) (as := as) hx hcb hml hown hts hM htx hP hUo.2.2.2.1 hUo.2.2.2.2 hUo.2.2.1 hS (fun q hq => by
      rcases hq with ⟨n, hn, h⟩ | h
      · rw [← h]; exact (hay n hn).1
      · exact Nat.le_trans hS.1 h) hd hcw hl hi hse hy hlen hav hpre hR hwd hcc hcs hls (fun H1 locs1 r σ' hp hP1 hz1 hk1 hS1 => ?_)
  obtain ⟨rfl, hv'⟩ := hpost r σ' hp
  have hPo1 : va_P Dx ww_cl (vg_ws ww_shp ww_nm ax tx σo) H1 := lq_kw hPo (B := fun q => ∃ n ∈ ww_nm, ay n = q) (fun n hn h => by
    obtain ⟨n', hn', h⟩ := h
    exact hxy n hn n' hn' h.symm) (fun q hq hB => hk1 q hq (fun n hn h => hB ⟨n, hn, h⟩))
  exact kk H1 locs1 ⟨hT.at (hk1 t htt (fun n hn => (hay n hn).2.1)), ⟨k', hO.at (hk1 o hoo (fun n hn => (hay n hn).2.2))⟩, ⟨σo, hvo, hPo1⟩, ⟨_, hv', hP1⟩, hS1⟩
end LW
