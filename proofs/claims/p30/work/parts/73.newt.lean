-- words of the tables, and what stands at each place of the methods' code (laid by program)
theorem q_487 : Cond.classLink RL 9 RX6 ∈ ww_tb := by decide +kernel
theorem q_488 : Cond.instantiable RX6 15 ∈ ww_tb := by decide +kernel
theorem q_489 : Cond.code yX6_init cX6_init 4 none ∈ ww_tb := by decide +kernel
theorem q_490 : Cond.methodLink RL 11 yX6_init ∈ ww_tb := by decide +kernel
theorem q_491 : Cond.instanceMethod yX6_init ∈ ww_tb := by decide +kernel
theorem q_492 : Cond.code yX6_found cX6_found 3 (some .boolean) ∈ ww_tb := by decide +kernel
theorem q_493 : Cond.methodLink RL 18 yX6_found ∈ ww_tb := by decide +kernel
theorem q_494 : Cond.instanceMethod yX6_found ∈ ww_tb := by decide +kernel
theorem q_495 : Cond.selects RX6 yX6_found yX6_found ∈ ww_tb := by decide +kernel
/-! a new Told, and what is told it at first, at the law's level -/
section LNT
variable {cI cG cH : ClassId} {A A' : Nat → Prop} {H H1 : Heap}
theorem tR.mono {n q : Nat} (hA : ∀ q, A q → q < H.size → A' q) (hk : ∀ q, q < H.size → A q → H1[q]? = H[q]?) (h : tR cI A n H q) : tR cI A' n H1 q := by
  obtain ⟨h1, f, h2⟩ := h
  exact ⟨hA q h1 (tlt h2), f, (hk q (tlt h2) h1).trans h2⟩
theorem tG.mono {n q : Nat} (hA : ∀ q, A q → q < H.size → A' q) (hk : ∀ q, q < H.size → A q → H1[q]? = H[q]?) (h : tG cI cG A n H q) : tG cI cG A' n H1 q := by
  obtain ⟨h1, f, h2, h3⟩ := h
  exact ⟨hA q h1 (tlt h2), f, (hk q (tlt h2) h1).trans h2, fun i y hi hy => (h3 i y hi hy).imp (fun k z => z.mono hA hk)⟩
theorem tL.mono {q : Nat} (hA : ∀ q, A q → q < H.size → A' q) (hk : ∀ q, q < H.size → A q → H1[q]? = H[q]?) (h : tL cI cG cH A H q) : tL cI cG cH A' H1 q := by
  obtain ⟨h1, f, h2, h3⟩ := h
  exact ⟨hA q h1 (tlt h2), f, (hk q (tlt h2) h1).trans h2, fun i hi => (h3 i hi).imp (fun y z => ⟨z.1, z.2.mono hA hk⟩)⟩
theorem tS.mono {q : Nat} (hA : ∀ q, A q → q < H.size → A' q) (hk : ∀ q, q < H.size → A q → H1[q]? = H[q]?) (h : tS cI cG A H q) : tS cI cG A' H1 q := by
  obtain ⟨h1, f, h2, h3⟩ := h
  exact ⟨hA q h1 (tlt h2), f, (hk q (tlt h2) h1).trans h2, fun i hi => (h3 i hi).imp (fun y z => ⟨z.1, z.2.mono hA hk⟩)⟩
theorem tW.a_lt {D Dx : va_G} {tx : List (ClassId × FieldType)} {ad : vgN → Nat} {a b k gn sm sn mn : Nat} {σ : vgS} (h : tW D cI cG cH A Dx tx ad a b k gn sm sn mn σ H) : a < H.size := by
  obtain ⟨⟨_, gr, wa, he, sh, si, ma, da, hT, _⟩, _⟩ := h
  exact (hT 0 _ rfl).lt
theorem tW.mono {D Dx : va_G} {tx : List (ClassId × FieldType)} {ad : vgN → Nat} {a b k gn sm sn mn : Nat} {σ : vgS} (hA : ∀ q, A q → q < H.size → A' q) (hk : ∀ q, q < H.size → (A q ∨ ∃ n ∈ ww_nm, ad n = q) → H1[q]? = H[q]?) (h : tW D cI cG cH A Dx tx ad a b k gn sm sn mn σ H) : tW D cI cG cH A' Dx tx ad a b k gn sm sn mn σ H1 := by
  have ha := h.a_lt
  obtain ⟨⟨hAa, gr, wa, he, sh, si, ma, da, hT, h1, h2, h3, h4, h5⟩, hP⟩ := h
  have hk2 : ∀ q, q < H.size → A q → H1[q]? = H[q]? := fun q h1 h2 => hk q h1 (Or.inl h2)
  exact ⟨⟨hA a hAa ha, gr, wa, he, sh, si, ma, da, tT_at hT (hk2 a ha hAa), h1.mono hA hk2, h2.mono hA hk2, h3.mono hA hk2, h4.mono hA hk2, h5.mono hA hk2⟩, lq_kw hP (B := fun q => ¬ ∃ n ∈ ww_nm, ad n = q) (fun n hn z => z ⟨n, hn, rfl⟩) (fun q h1 h2 => hk q h1 (Or.inr (Decidable.byContradiction h2)))⟩
theorem tW.T {D Dx : va_G} {tx : List (ClassId × FieldType)} {ad : vgN → Nat} {a b k gn sm sn mn : Nat} {σ : vgS} (h : tW D cI cG cH A Dx tx ad a b k gn sm sn mn σ H) : lT D a (ad (0, 0, 0)) b k H := by
  obtain ⟨⟨_, gr, wa, he, sh, si, ma, da, hT, _⟩, _⟩ := h
  exact ⟨gr, wa, he, sh, sm, si, ma, da, hT⟩
end LNT
section LNU
variable {p : Program} {l : Launch} {e : Env} {s : State} {m : MethodId} {args : Array Value} {below : List Frame} {meth : Method} {c : Code} {H : Heap} {locs : List Loc} {Q : State → Prop} {ck cn : Nat}
variable {pc : Nat} {ls : Array Slot} {rest : List Value} {b L : Nat} {xs : Nat → Int32} {D Dx : va_G} {cI cG cH : ClassId} {tx : List (ClassId × FieldType)} {ad : vgN → Nat} {A : Nat → Prop} {a k : Nat}
theorem nI_31 : ∀ j, j < 3 → nI 31 * nI j + nI 7 = nI (31 * j + 7) := by decide +kernel
theorem ln_new {j : Nat} (hx : p.tables.exec = Jvm.exec) (hcb : c.code = code) (hml : c.maxLocals = 21) (hown : s.vm.findClass RL = some m.cls) (hts : ∀ w ∈ ww_tb, w.before args s = true) (hK : tK D cI cG cH s) (hKx : va_K Dx ww_cl tx s) (hnx : vh_nx wh_nx s) (htx : tx.map (fun q => q.2) = ww_tyl) (hj : j < 3) (hS : va_S (fun q => s.heap.size ≤ q) s.heap H locs) (h0 : ls[0]? = some (.val (.ref b))) (h1 : ls[1]? = some (.val (.int (nI j))))
    (d0 : decode code pc = .ok (.new 9, 3)) (d3 : decode code (pc + 3) = .ok (.dup, 1)) (d4 : decode code (pc + 4) = .ok (.aload_n 0, 1)) (d5 : decode code (pc + 5) = .ok (.bipush 31, 2)) (d7 : decode code (pc + 7) = .ok (.iload_n 1, 1)) (d8 : decode code (pc + 8) = .ok (.imul, 1)) (d9 : decode code (pc + 9) = .ok (.bipush 7, 2)) (d11 : decode code (pc + 11) = .ok (.iadd, 1)) (d12 : decode code (pc + 12) = .ok (.invokespecial 11, 3))
    (hcc : ck + 1 + 173 ≤ 600086) (hcs : cn + 15 + 1750 ≤ 7301442) (hls : ls.size = 21)
    (kk : ∀ (t : Nat) (ad : vgN → Nat) (hi : Nat) (H1 : Heap) (locs1 : List Loc), H.size ≤ t → t < hi → hi ≤ H1.size → (∀ n ∈ ww_nm, t < ad n ∧ ad n < hi) → va_D (fun _ => True) (vg_ws ww_shp ww_nm ad tx (fun _ _ => 0)) → tW D cI cG cH (fun q => q = t ∨ hi ≤ q) Dx tx ad t b (31 * j + 7) 0 0 0 0 wy_σ H1 → va_S (fun q => s.heap.size ≤ q) s.heap H1 locs1 → (∀ q, q < H.size → H1[q]? = H[q]?) → W p l e room_1 s m args below meth c H1 locs1 (ck + 1 + 173) (cn + 15 + 1750) Q (F0 m (pc + 15) ls [.ref t])) :
    W p l e room_1 s m args below meth c H locs ck cn Q (F0 m pc ls []) := by
  refine va_forget hS.2.2 ?_
  have hg : ∀ w ∈ ww_tb, goodWord w = true := fun w h => List.all_eq_true.mp ww_good w h
  have hP : va_P D tClT [] H := fun k x h => by simp at h
  have hD : va_D (fun q => H.size ≤ q) [] := ⟨fun i j x y h _ _ => by simp at h, fun i x h => by simp at h⟩
  refine va_new (A := fun q => H.size ≤ q) (H0 := H) (ci := 0) (fs := [.null, .null, .int 0, .null, .null, .null, .null, .int 0, .null, .null, .null, .int 0, .int 0, .int 0, .int 0]) (C := RX6) (T := TX6) (N := 15) hx hcb hts tt_inX6 tyX6 tyX6_ok hown (hts _ q_487) (hts _ q_488) (hts _ q_386) hK.1 hP hD va_S.rf (fun q h => h) rfl (by decide) (show ck + 1 ≤ 600086 by omega) (show cn + 15 ≤ 7301442 by omega) d0 (fun t H1 hP1 hD1 hS1 => ?_)
  have hT1 : va_P D tClT [(t, .inr (0, [.null, .null, .int 0, .null, .null, .null, .null, .int 0, .null, .null, .null, .int 0, .int 0, .int 0, .int 0]))] H1 := hP1
  have htq : H.size ≤ t := hD1.2 0 _ rfl
  have htl : t < H1.size := (hT1 0 _ rfl).lt
  have hSH : va_S (fun q => s.heap.size ≤ q) s.heap H1 [] := ⟨Nat.le_trans hS.1 hS1.1, fun q q1 q2 => (hS1.2.1 q (Nat.lt_of_lt_of_le q1 hS.1) (by have := hS.1; omega)).trans (hS.2.1 q q1 q2), fun _ h => nomatch h⟩
  refine lv_dup hx hcb d3 rfl ?_
  refine lv_aload_n hx hcb d4 rfl h0 ?_
  refine lv_bipush (v := nI 31) hx hcb d5 (by decide) ?_
  refine lv_iload_n hx hcb d7 rfl h1 ?_
  refine lv_imul hx hcb d8 ?_
  refine lv_bipush (v := nI 7) hx hcb d9 (by decide) ?_
  refine lv_iadd hx hcb d11 ?_
  rw [nI_31 j hj]
  refine lt_run (F := fun q => s.heap.size ≤ q) (Fc := fun q => q = t ∨ H1.size ≤ q) (va_runI (As := [.ref b, .int (nI (31 * j + 7))]) (rest := [.ref t]) ⟨hx, hcb, hml, hown, hts⟩ (lt_init l D cI cG cH Dx tx H1.size t b (31 * j + 7) htx htl) ⟨callB_of 2 hts (fun w hw => by
      rcases List.mem_cons.mp hw with rfl | hw
      · exact ⟨q_489, good_of_word (hg _ q_489)⟩
      · exact ⟨hw, good_of_word (hg _ hw)⟩) rfl rfl rfl (hts _ q_386) (hts _ q_490) (by decide +kernel) (by decide), rfl, hts _ q_491⟩ ⟨fun a U g mk z => ⟨z.1, z.2.1, tK.moved (u := U) (U := U.calling g mk a) (Vm.Alike.refl U.vm) z.2.2.1, va_K.moved (u := U) (U := U.calling g mk a) (Vm.Alike.refl U.vm) z.2.2.2.1, vh_nx.blind z.2.2.2.2.1, z.2.2.2.2.2⟩, fun U hU hW => ⟨rfl, by rw [hU], hK.moved hW.alike, va_K.moved hW.alike hKx, vh_nx.warm hW hnx, by rw [hU]; exact hT1⟩⟩ rfl rfl hls rfl (lv_room (show (1 + 0 : Nat) ≤ 8 by decide)) d12 ⟨hcc, hcs⟩) hSH (fun q h => by
      have := hS.1
      rcases h with h | h
      · omega
      · exact Nat.le_trans hSH.1 h) (fun _ _ _ h => h.2) (fun st T9 v9 locs1 h0 hq hf hS9 => ?_)
  obtain ⟨⟨hv9, ad, hi, q1, q2, q3, q4, q5⟩, -⟩ := hq
  cases hv9
  obtain ⟨hz1, hk1⟩ := hf
  rw [h0] at hz1 hk1
  exact kk t ad hi T9.heap locs1 htq (by omega) q2 (fun n hn => ⟨by have := (q3 n hn).1; omega, (q3 n hn).2⟩) q4 q5 hS9 (fun q hq => (hk1 q (by have := hS1.1; omega) (fun z => by
    have := hS1.1
    rcases z with z | z
    · omega
    · omega)).trans (hS1.2.1 q hq (by omega)))
theorem ln_found (hx : p.tables.exec = Jvm.exec) (hcb : c.code = code) (hml : c.maxLocals = 21) (hown : s.vm.findClass RL = some m.cls) (hts : ∀ w ∈ ww_tb, w.before args s = true) (hU : tU D cI cG cH Dx tx ad s) (htx : tx.map (fun q => q.2) = ww_tyl) (hW : tW D cI cG cH A Dx tx ad a b k 0 0 0 0 wy_σ H) (hX : va_X b L xs s s.heap) (hb0 : b < s.heap.size) (hL : L < 1000) (hS : va_S (fun q => s.heap.size ≤ q) s.heap H locs) (hFA : ∀ q, A q → s.heap.size ≤ q) (hAz : ∀ q, H.size ≤ q → A q) (hAd : ∀ n ∈ ww_nm, ¬ A (ad n)) (hFd : ∀ n ∈ ww_nm, s.heap.size ≤ ad n) (hk : k < 500)
    (hd : decode code pc = .ok (.invokevirtual 18, 3)) (hcc : ck + 78 ≤ 600086) (hcs : cn + 433 ≤ 7301442) (hls : ls.size = 21)
    (kk : ∀ (H1 : Heap) (locs1 : List Loc), tW D cI cG cH A Dx tx ad a b (jFound xs L (jV wy_σ 0, k)).2 5 2 2 2 (jPut wy_σ 0 (jFound xs L (jV wy_σ 0, k)).1) H1 → va_S (fun q => s.heap.size ≤ q) s.heap H1 locs1 → H.size ≤ H1.size → (∀ q, q < H.size → ¬ tF A ad H.size q → H1[q]? = H[q]?) → W p l e room_1 s m args below meth c H1 locs1 (ck + 78) (cn + 433) Q (F0 m (pc + 3) ls [.int 1])) :
    W p l e room_1 s m args below meth c H locs ck cn Q (F0 m pc ls [.int 5, .ref a]) := by
  have hg : ∀ w ∈ ww_tb, goodWord w = true := fun w h => List.all_eq_true.mp ww_good w h
  have hW2 := hW
  obtain ⟨⟨hAa, gr, wa, he, sh, si, ma, da, hT, -⟩, -⟩ := hW2
  have hXH : va_X b L xs s H := hX.kept (hS.2.1 b hb0 (by omega))
  have hbH : b < H.size := Nat.lt_of_lt_of_le hb0 hS.1
  have hM := lt_found l D cI cG cH A Dx tx ad H.size a b L k xs wy_σ hAz htx hAd hL hk hbH (fun z => by have := hFA b z; omega) (fun n hn z => by have := hFd n hn; omega) wy_wf ⟨wy_ct.1, wy_ct.2.1, wy_ct.2.2.2.1, wy_ct.2.2.2.2⟩
  refine lt_run (F := fun q => s.heap.size ≤ q) (Fc := tF A ad H.size) (va_runV (As := [.int 5]) (b := a) (rest := []) (C := RX6) ⟨hx, hcb, hml, hown, hts⟩ hM ⟨callB_of 1 hts (fun w hw => by
      rcases List.mem_cons.mp hw with rfl | hw
      · exact ⟨q_492, good_of_word (hg _ q_492)⟩
      · exact ⟨hw, good_of_word (hg _ hw)⟩) rfl rfl rfl (hts _ q_386) (hts _ q_493) (by decide +kernel) (by decide), hts _ q_494, hts _ q_495⟩ ⟨fun a U g mk z => ⟨z.1, z.2.1, tU.blind z.2.2.1, z.2.2.2.1, va_X.moved (u := U) (U := U.calling g mk a) (Vm.Alike.refl U.vm) z.2.2.2.2⟩, va_recv hU.1.1 hT (ci := 0) (q0 := 0) rfl rfl, fun U hU2 hW2 => ⟨rfl, by rw [hU2], hU.moved hW2, by rw [hU2]; exact hW, by rw [hU2]; exact va_X.moved hW2.alike hXH⟩⟩ rfl rfl hls rfl (lv_room (show (0 : Nat) ≤ 8 by decide)) hd ⟨hcc, hcs⟩) hS (fun q h => by
      rcases h with h | ⟨n, hn, h⟩ | h
      · exact hFA q h
      · rw [← h]; exact hFd n hn
      · exact Nat.le_trans hS.1 h) (fun _ _ _ h => h.2) (fun st T9 v9 locs1 h0 hq hf hS1 => ?_)
  obtain ⟨⟨hv9, hW1⟩, -⟩ := hq
  cases hv9
  obtain ⟨hz1, hk1⟩ := hf
  rw [h0] at hz1 hk1
  exact kk T9.heap locs1 hW1 hS1 hz1 hk1
end LNU
