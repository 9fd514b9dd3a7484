-- words of the tables, and what stands at each place of the methods' code (laid by program)
theorem u_510 : Cond.code yX7_meanDelay cX7_meanDelay 5 (some .double) ∈ ww_tb := by decide +kernel
theorem u_511 : Cond.methodLink RL 189 yX7_meanDelay ∈ ww_tb := by decide +kernel
theorem u_512 : Cond.instanceMethod yX7_meanDelay ∈ ww_tb := by decide +kernel
theorem u_513 : Cond.selects RX7 yX7_meanDelay yX7_meanDelay ∈ ww_tb := by decide +kernel
theorem u_514 : Cond.code yX5_digest cX5_digest 5 (some .long) ∈ ww_tb := by decide +kernel
theorem u_515 : Cond.methodLink RL 196 yX5_digest ∈ ww_tb := by decide +kernel
theorem u_516 : Cond.instanceMethod yX5_digest ∈ ww_tb := by decide +kernel
theorem u_517 : Cond.selects RX5 yX5_digest yX5_digest ∈ ww_tb := by decide +kernel
theorem u_518 : Cond.code yX7_digest cX7_digest 6 (some .long) ∈ ww_tb := by decide +kernel
theorem u_519 : Cond.methodLink RL 200 yX7_digest ∈ ww_tb := by decide +kernel
theorem u_520 : Cond.instanceMethod yX7_digest ∈ ww_tb := by decide +kernel
theorem u_521 : Cond.selects RX7 yX7_digest yX7_digest ∈ ww_tb := by decide +kernel
/-! the cases of the law: meanDelay, digest -/
theorem kc_meanDelay {p : Program} {l : Launch} {e : Env} {s : State} {m : MethodId} {args : Array Value} {below : List Frame} {meth : Method} {c : Code} {H : Heap} {Q : State → Prop} {ck cn : Nat} {ls : Array Slot} {b : Nat} {xs : Nat → Int32} {Dx Dm : va_G} {tx tm : List (ClassId × FieldType)} {ax am : vgN → Nat} {o od : Nat} {cO : ClassId} {f0 : Nat → Int64}
    (C : lq_Cx p l s m args c b xs Dx Dm tx tm ax am o od cO) (hH : lq_Hx s Dx Dm tx tm ax am o cO f0 H) (hl : lv_has ls 9 (lq_lv b (ax (0, 0, 0)) (am (40, 0, 0)) o od)) (h1 : ck ≤ 1000) (h2 : cn ≤ 10000)
    (k : ∀ (H1 : Heap) (ls1 : Array Slot) (lv1 : List (Nat × Value)) (k1 k2 : Nat), va_S (fun q => s.heap.size ≤ q) s.heap H1 [] → lv_has ls1 9 lv1 → (0, Value.ref b) ∈ lv1 → (5, Value.int 0) ∈ lv1 → k1 ≤ 600002 → k2 ≤ 7302232 → W p l e room_1 s m args below meth c H1 [] k1 k2 Q (F0 m 2030 ls1 [])) : W p l e room_1 s m args below meth c H [] ck cn Q (F0 m 1791 ls []) := by
  obtain ⟨⟨hx, hcb, hml, hown, hts, hX, hbl, hstk⟩, ⟨htx, htm, hKx, hKm, hKo⟩, ⟨hDx, hDm⟩, ⟨hnw, hXF, hN, hnx⟩, ⟨hax, ham, hso⟩⟩ := C
  obtain ⟨hPx, hPm, hO, hS⟩ := hH
  have hsz : s.heap.size ≤ H.size := hS.1
  have hol : o < H.size := lq_ltO hO
  have hm0 : ((40, 0, 0) : vgN) ∈ mm_nm := List.mem_cons_self
  refine lv_aload_n hx hcb dw_1791 rfl (lv_at hl 4 rfl) ?_
  have a0 : lq_Pu p l e room_1 s m args below meth c b Q 9 1792 1798 [.int (xs 1)] := lq_PuI (j := 1) hx hcb hX hbl dw_1792 dw_1793 dw_1795 dw_1796 dw_1797 rfl (by decide)
  refine a0 H ck cn ls _ _ hS hl (by repeat (first | exact List.mem_cons_self | apply List.mem_cons_of_mem)) (by repeat (first | exact List.mem_cons_self | apply List.mem_cons_of_mem)) ?_
  refine lv_aload hx hcb dw_1798 (lv_at hl 1 rfl) ?_
  have hA9 : ∀ q, wq_A ax H.size o q → s.heap.size ≤ q := by
    intro q hq
    rcases hq with (⟨n, hn, h⟩ | h) | h
    · rw [← h]
      exact (hax n hn).1
    · exact Nat.le_trans hsz h
    · rw [h]
      exact hso
  refine lq_wrap (As := [.ref (ax (0, 0, 0)), .int (xs 1), .ref od]) (rest := []) (nL := 9) (f0 := f0) hx hcb hml hown hts (x_L_meanDelay (xs 1) l Dx tx ax H.size wy_σ o od cO f0 hstk htx wy_fr (fun n hn => (hax n hn).2.1)) hPx hKx hDx hnw hXF hS hN hKo hO hA9 dw_1800 (ww_in _ (by decide +kernel)) (kn := 3) (by decide +kernel) rfl (by decide) (by decide) (by show ck + 1 ≤ 600002; omega) (by show cn + 6 ≤ 7302232; omega) hl.1 (fun H1 f hz1 hk1 hf hO1 => ?_)
  have hm1 : ∀ n ∈ mm_nm, ¬ wq_A ax H.size o (am n) := by
    intro n hn h
    rcases h with (⟨n', hn', h⟩ | h) | h
    · exact (hax n' hn').2.2 n hn h
    · have := vg_lt hPm hn
      omega
    · exact (ham n hn).2 h
  have hPm1 : va_P Dm mm_cl (vg_ws mm_shp mm_nm am tm mm_σ) H1 := lq_kw hPm hm1 hk1
  have hS1 : va_S (fun q => s.heap.size ≤ q) s.heap H1 [] := ⟨Nat.le_trans hsz hz1, fun q h1 h2 => (hk1 q (Nat.lt_of_lt_of_le h1 hsz) (fun h => h2 (hA9 q h))).trans (hS.2.1 q h1 h2), fun _ h => nomatch h⟩
  refine lv_istore (lv' := (6, .int 1) :: lq_lv b (ax (0, 0, 0)) (am (40, 0, 0)) o od) hx hcb dw_1803 hl (by decide) rfl (fun ls1 hl1 => ?_)
  refine lv_aload_n hx hcb dw_1805 rfl (lv_at hl1 4 rfl) ?_
  have a1 : lq_Pu p l e room_1 s m args below meth c b Q 9 1806 1812 [.int (xs 1)] := lq_PuI (j := 1) hx hcb hX hbl dw_1806 dw_1807 dw_1809 dw_1810 dw_1811 rfl (by decide)
  refine a1 H1 _ _ ls1 _ _ hS1 hl1 (by repeat (first | exact List.mem_cons_self | apply List.mem_cons_of_mem)) (by repeat (first | exact List.mem_cons_self | apply List.mem_cons_of_mem)) ?_
  obtain ⟨q0, hq0, hws⟩ := vg_ws_get (shp := mm_shp) (ad := am) (tys := tm) (σ := mm_σ) hm0
  have hws2 : (vg_ws mm_shp mm_nm am tm mm_σ)[q0]? = some (am (40, 0, 0), .inr (0, vg_fs am (mm_σ (40, 0, 0)) 0 [none, some (41, 0, 0), none])) := hws
  refine lq_call (As := [.int (xs 1)]) (b := am (40, 0, 0)) (rest := []) (nL := 9) (C := RX7) (F := vg_A mm_nm am H1.size) hx hcb hml hown hts (dm_X7_meanDelay mm_closed hm0 l Dm tm am H1.size (xs 1) mm_σ htm mm_σfr) ⟨fun a U g mk q => by
      obtain ⟨q0, q1, qP, qK, qD⟩ := q
      exact ⟨q0, q1, qP, va_K.moved (u := U) (U := U.calling g mk a) (Vm.Alike.refl U.vm) qK, qD⟩, va_recv hKm hPm1 (ci := 0) (q0 := q0) (show mm_cl[0]? = some (RX7, TX7, 3) from rfl) hws2, fun U hU hW => ⟨rfl, by rw [hU], by rw [hU]; exact hPm1, va_K.moved hW.alike hKm, hDm⟩⟩ dw_1812 u_510 u_198 u_511 u_512 u_513 (kn := 1) (by decide +kernel) rfl (by decide) (by decide) (by show ck + 1 + 0 ≤ 600002; omega) (by show cn + 6 + 0 ≤ 7302232; omega) (fun q hq => ?_) hl1.1 (fun st t v h0 hq => ?_)
  · rcases hq with ⟨n, hn, h⟩ | h
    · rw [← h]
      exact (ham n hn).1
    · exact Nat.le_trans hS1.1 h
  · obtain ⟨⟨v, σ', hv, hth, hPm2⟩, hz2, hk2⟩ := hq
    cases hv
    rw [h0] at hz2 hk2
    have hk2' : ∀ q : Nat, q < H1.size → (∀ n ∈ mm_nm, am n ≠ q) → t.heap[q]? = H1[q]? := fun q hq hn => hk2 q hq (fun h => by
      rcases h with ⟨n, hn1, h⟩ | h
      · exact hn n hn1 h
      · omega)
    have hS2 : va_S (fun q => s.heap.size ≤ q) s.heap t.heap [] := ⟨Nat.le_trans hS1.1 hz2, fun q h1 h2 => (hk2' q (Nat.lt_of_lt_of_le h1 hS1.1) (fun n hn h => h2 (by rw [← h]; exact (ham n hn).1))).trans (hS1.2.1 q h1 h2), fun _ h => nomatch h⟩
    refine lq_dstore (lv' := (7, .double v) :: (6, .int 1) :: lq_lv b (ax (0, 0, 0)) (am (40, 0, 0)) o od) hx hcb dw_1815 hl1 (by decide) rfl (fun ls2 hl2 => ?_)
    refine lv_aload_n hx hcb dw_1817 rfl (lv_at hl2 5 rfl) ?_
    refine lq_mm (as := []) (rest := []) (mc := 0) (ms := 0) (nL := 9) hx hcb hml hown hts (lq_up (c_X7_thrown mm_closed)) htm hPm2 hKm (vg_ws_D hDm σ') (fun n hn => (ham n hn).1) hS2.1 dw_1818 u_406 u_198 u_409 u_407 u_408 (kn := 0) (by decide +kernel) rfl (fun v h => nomatch h) trivial (by decide) (by decide) (by show ck + 1 + 0 + 0 ≤ 600002; omega) (by show cn + 6 + 0 + 0 ≤ 7302232; omega) hl2.1 (fun H3 r σ3 hp hPm3 hz3 hk3 => ?_)
    have hp' : r = some (.inl (.int (σ' (40, 0, 0) 0))) ∧ σ3 = σ' := hp
    obtain ⟨rfl, rfl⟩ := hp'
    rw [hth]
    have hS3 : va_S (fun q => s.heap.size ≤ q) s.heap H3 [] := ⟨Nat.le_trans hS2.1 hz3, fun q h1 h2 => (hk3 q (Nat.lt_of_lt_of_le h1 hS2.1) (fun n hn h => h2 (by rw [← h]; exact (ham n hn).1))).trans (hS2.2.1 q h1 h2), fun _ h => nomatch h⟩
    refine lv_iload hx hcb dw_1821 (lv_at hl2 1 rfl) ?_
    refine lv_icmp_eq (tgt := 1828) hx hcb dw_1823 (by decide) (fun _ => ?_) (fun z => absurd rfl z)
    refine lv_iload hx hcb dw_1828 (lv_at hl2 1 rfl) ?_
    refine lv_if_ne (tgt := 1865) hx hcb dw_1830 (by decide) (fun _ => ?_) (fun z => absurd z (by decide))
    refine lv_goto (tgt := 2030) hx hcb dw_1865 (by decide) ?_
    exact k H3 ls2 _ _ _ hS3 hl2 (by repeat (first | exact List.mem_cons_self | apply List.mem_cons_of_mem)) (by repeat (first | exact List.mem_cons_self | apply List.mem_cons_of_mem)) (by omega) (by omega)
theorem kc_digest {p : Program} {l : Launch} {e : Env} {s : State} {m : MethodId} {args : Array Value} {below : List Frame} {meth : Method} {c : Code} {H : Heap} {Q : State → Prop} {ck cn : Nat} {ls : Array Slot} {b : Nat} {xs : Nat → Int32} {Dx Dm : va_G} {tx tm : List (ClassId × FieldType)} {ax am : vgN → Nat} {o od : Nat} {cO : ClassId} {f0 : Nat → Int64}
    (C : lq_Cx p l s m args c b xs Dx Dm tx tm ax am o od cO) (hH : lq_Hx s Dx Dm tx tm ax am o cO f0 H) (hl : lv_has ls 9 (lq_lv b (ax (0, 0, 0)) (am (40, 0, 0)) o od)) (h1 : ck ≤ 1000) (h2 : cn ≤ 10000)
    (k : ∀ (H1 : Heap) (ls1 : Array Slot) (lv1 : List (Nat × Value)) (k1 k2 : Nat), va_S (fun q => s.heap.size ≤ q) s.heap H1 [] → lv_has ls1 9 lv1 → (0, Value.ref b) ∈ lv1 → (5, Value.int 0) ∈ lv1 → k1 ≤ 600002 → k2 ≤ 7302232 → W p l e room_1 s m args below meth c H1 [] k1 k2 Q (F0 m 2030 ls1 [])) : W p l e room_1 s m args below meth c H [] ck cn Q (F0 m 2016 ls []) := by
  obtain ⟨⟨hx, hcb, hml, hown, hts, hX, hbl, hstk⟩, ⟨htx, htm, hKx, hKm, hKo⟩, ⟨hDx, hDm⟩, ⟨hnw, hXF, hN, hnx⟩, ⟨hax, ham, hso⟩⟩ := C
  obtain ⟨hPx, hPm, hO, hS⟩ := hH
  have hsz : s.heap.size ≤ H.size := hS.1
  have hx0 : ((0, 0, 0) : vgN) ∈ ww_nm := by decide +kernel
  refine lv_aload_n hx hcb dw_2016 rfl (lv_at hl 4 rfl) ?_
  obtain ⟨q0, hq0, hws⟩ := vg_ws_get (shp := ww_shp) (ad := ax) (tys := tx) (σ := wy_σ) hx0
  have hws2 : (vg_ws ww_shp ww_nm ax tx wy_σ)[q0]? = some (ax (0, 0, 0), .inr (0, vg_fs ax (wy_σ (0, 0, 0)) 0 [some (1, 0, 0), some (1, 1, 0)])) := hws
  refine lq_call (As := []) (b := ax (0, 0, 0)) (rest := []) (nL := 9) (C := RX5) (F := vg_A ww_nm ax H.size) (mc := 0) (ms := 0) (d' := 7) hx hcb hml hown hts (d_X5_digest l Dx tx ax H.size [.inr (0, 0, 0)] wy_σ htx (List.forall_mem_cons.mpr ⟨hx0, fun _ h => nomatch h⟩) wy_fr) ⟨fun a U g mk q => by
      obtain ⟨q0, q1, qP, qK, qD, qN⟩ := q
      exact ⟨q0, q1, qP, va_K.moved (u := U) (U := U.calling g mk a) (Vm.Alike.refl U.vm) qK, qD, fun z hz => va_Nw.same (u := U) (U := U.calling g mk a) rfl rfl (qN z hz)⟩, va_recv hKx hPx (ci := 0) (q0 := q0) (show ww_cl[0]? = some (RX5, TX5, 2) from rfl) hws2, fun U hU hW => ⟨rfl, by rw [hU], by rw [hU]; exact hPx, va_K.moved hW.alike hKx, hDx, fun z hz => va_Nw.warmM hW (hnw z hz)⟩⟩ dw_2017 u_514 u_64 u_515 u_516 u_517 (kn := 0) (by decide +kernel) rfl (by decide) (by decide) (by show ck + 0 ≤ 600002; omega) (by show cn + 0 ≤ 7302232; omega) (fun q hq => ?_) hl.1 (fun st t v h0 hq => ?_)
  · rcases hq with ⟨n, hn, h⟩ | h
    · rw [← h]
      exact (hax n hn).1
    · exact Nat.le_trans hsz h
  · obtain ⟨⟨r, σ', hv, hp, _, _⟩, hz1, hk1⟩ := hq
    have hp' : r = some (.inl (.long wdg)) := hp
    subst hp'
    cases hv
    rw [h0] at hz1 hk1
    have hPm1 : va_P Dm mm_cl (vg_ws mm_shp mm_nm am tm mm_σ) t.heap := lq_kw hPm (B := vg_A ww_nm ax H.size) (fun n hn h => by
      rcases h with ⟨n', hn', h⟩ | h
      · exact (hax n' hn').2.2 n hn h
      · have := vg_lt hPm hn
        omega) hk1
    have hS1 : va_S (fun q => s.heap.size ≤ q) s.heap t.heap [] := ⟨Nat.le_trans hsz hz1, fun q h1 h2 => (hk1 q (Nat.lt_of_lt_of_le h1 hsz) (fun h => h2 (by
      rcases h with ⟨n, hn, h⟩ | h
      · rw [← h]
        exact (hax n hn).1
      · exact Nat.le_trans hsz h))).trans (hS.2.1 q h1 h2), fun _ h => nomatch h⟩
    refine lv_aload_n hx hcb dw_2020 rfl (lv_at hl 3 rfl) ?_
    refine lq_mn (as := []) (rest := [.long wdg]) (nL := 9) hx hcb hml hown hts hnx a_X7_digest htm hPm1 hKm hDm (fun n hn => (ham n hn).1) hS1.1 dw_2021 u_518 u_198 u_519 u_520 u_521 (kn := 0) (by decide +kernel) rfl (fun v h => nomatch h) mm_σfr (by decide) (by decide) (by show ck + 0 + 526 ≤ 600002; omega) (by show cn + 0 + 4402 ≤ 7302232; omega) hl.1 (fun H2 r σ2 hp hPm2 hz2 hk2 => ?_)
    obtain ⟨rfl, _⟩ := hp
    have hS2 : va_S (fun q => s.heap.size ≤ q) s.heap H2 [] := ⟨Nat.le_trans hS1.1 hz2, fun q h1 h2 => (hk2 q (Nat.lt_of_lt_of_le h1 hS1.1) (fun n hn h => h2 (by rw [← h]; exact (ham n hn).1))).trans (hS1.2.1 q h1 h2), fun _ h => nomatch h⟩
    refine W.lcmp hx hcb dw_2024 ?_
    rw [lq_cmp0]
    refine lv_if_eq (tgt := 2030) hx hcb dw_2025 (by decide) (fun _ => ?_) (fun z => absurd rfl z)
    exact k H2 ls _ _ _ hS2 hl (by repeat (first | exact List.mem_cons_self | apply List.mem_cons_of_mem)) (by repeat (first | exact List.mem_cons_self | apply List.mem_cons_of_mem)) (by omega) (by omega)
