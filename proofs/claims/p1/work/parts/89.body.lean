-- words of the tables, and what stands at each place of the methods' code (laid by program)
theorem u_522 : Cond.classLink RL 8 RX5 ∈ ww_tb := by decide +kernel
theorem u_523 : Cond.code yX5_init cX5_init 1 none ∈ ww_tb := by decide +kernel
theorem u_524 : Cond.methodLink RL 101 yX5_init ∈ ww_tb := by decide +kernel
theorem u_525 : Cond.instanceMethod yX5_init ∈ ww_tb := by decide +kernel
theorem u_526 : Cond.classLink RL 102 RX7 ∈ ww_tb := by decide +kernel
theorem u_527 : Cond.code yX7_init cX7_init 1 none ∈ ww_tb := by decide +kernel
theorem u_528 : Cond.methodLink RL 104 yX7_init ∈ ww_tb := by decide +kernel
theorem u_529 : Cond.instanceMethod yX7_init ∈ ww_tb := by decide +kernel
/-! the law's body -/
theorem lq_m31 (x : Int32) : ∃ j : Nat, j < 32 ∧ x &&& 31 = nI j := by
  refine ⟨(x &&& 31).toBitVec.toNat, ?_, ?_⟩
  · rw [Int32.toBitVec_and, BitVec.toNat_and]
    have h := Nat.and_le_right (n := x.toBitVec.toNat) (m := (31 : Int32).toBitVec.toNat)
    have h31 : (31 : Int32).toBitVec.toNat = 31 := by decide
    omega
  · apply Int32.toBitVec_inj.mp
    show _ = BitVec.ofNat 32 _
    simp
theorem kc_all {p : Program} {l : Launch} {e : Env} {s : State} {m : MethodId} {args : Array Value} {below : List Frame} {meth : Method} {c : Code} {H : Heap} {Q : State → Prop} {ck cn : Nat} {ls : Array Slot} {b : Nat} {xs : Nat → Int32} {Dx Dm : va_G} {tx tm : List (ClassId × FieldType)} {ax am : vgN → Nat} {o od : Nat} {cO : ClassId} {f0 : Nat → Int64}
    (C : lq_Cx p l s m args c b xs Dx Dm tx tm ax am o od cO) (hH : lq_Hx s Dx Dm tx tm ax am o cO f0 H) (hl : lv_has ls 9 (lq_lv b (ax (0, 0, 0)) (am (40, 0, 0)) o od)) (h1 : ck ≤ 1000) (h2 : cn ≤ 10000)
    (k : ∀ (H1 : Heap) (ls1 : Array Slot) (lv1 : List (Nat × Value)) (k1 k2 : Nat), va_S (fun q => s.heap.size ≤ q) s.heap H1 [] → lv_has ls1 9 lv1 → (0, Value.ref b) ∈ lv1 → (5, Value.int 0) ∈ lv1 → k1 ≤ 600002 → k2 ≤ 7302232 → W p l e room_1 s m args below meth c H1 [] k1 k2 Q (F0 m 2030 ls1 [])) (hS : va_S (fun q => s.heap.size ≤ q) s.heap H []) : W p l e room_1 s m args below meth c H [] ck cn Q (F0 m 45 ls [.int (xs 0 &&& 31)]) := by
  have C9 := C
  obtain ⟨⟨hx, hcb, -⟩, -⟩ := C9
  obtain ⟨j, hj, e⟩ := lq_m31 (xs 0)
  rw [e]
  have h9 : j = 0 ∨ j = 1 ∨ j = 2 ∨ j = 3 ∨ j = 4 ∨ j = 5 ∨ j = 6 ∨ j = 7 ∨ j = 8 ∨ j = 9 ∨ j = 10 ∨ j = 11 ∨ j = 12 ∨ j = 13 ∨ j = 14 ∨ j = 15 ∨ j = 16 ∨ j = 17 ∨ j = 18 ∨ j = 19 ∨ j = 20 ∨ j = 21 ∨ j = 22 ∨ j = 23 ∨ j = 24 ∨ j = 25 ∨ j = 26 ∨ 27 ≤ j := by omega
  rcases h9 with rfl | rfl | rfl | rfl | rfl | rfl | rfl | rfl | rfl | rfl | rfl | rfl | rfl | rfl | rfl | rfl | rfl | rfl | rfl | rfl | rfl | rfl | rfl | rfl | rfl | rfl | rfl | h9
  · exact lv_tableIn (tgt := 168) hx hcb dw_45 (by decide) (by decide) rfl (by decide) (kc_group C hH hl h1 h2 k)
  · exact lv_tableIn (tgt := 304) hx hcb dw_45 (by decide) (by decide) rfl (by decide) (kc_trust C hH hl h1 h2 k)
  · exact lv_tableIn (tgt := 372) hx hcb dw_45 (by decide) (by decide) rfl (by decide) (kc_shelter C hH hl h1 h2 k)
  · exact lv_tableIn (tgt := 440) hx hcb dw_45 (by decide) (by decide) rfl (by decide) (kc_siren C hH hl h1 h2 k)
  · exact lv_tableIn (tgt := 508) hx hcb dw_45 (by decide) (by decide) rfl (by decide) (kc_mast C hH hl h1 h2 k)
  · exact lv_tableIn (tgt := 576) hx hcb dw_45 (by decide) (by decide) rfl (by decide) (kc_power C hH hl h1 h2 k)
  · exact lv_tableIn (tgt := 660) hx hcb dw_45 (by decide) (by decide) rfl (by decide) (kc_lines C hH hl h1 h2 k)
  · exact lv_tableIn (tgt := 716) hx hcb dw_45 (by decide) (by decide) rfl (by decide) (kc_danger C hH hl h1 h2 k)
  · exact lv_tableIn (tgt := 784) hx hcb dw_45 (by decide) (by decide) rfl (by decide) (kc_key C hH hl h1 h2 k)
  · exact lv_tableIn (tgt := 875) hx hcb dw_45 (by decide) (by decide) rfl (by decide) (kc_alert C hH hl h1 h2 k)
  · exact lv_tableIn (tgt := 955) hx hcb dw_45 (by decide) (by decide) rfl (by decide) (kc_update C hH hl h1 h2 k)
  · exact lv_tableIn (tgt := 1047) hx hcb dw_45 (by decide) (by decide) rfl (by decide) (kc_cancel C hH hl h1 h2 k)
  · exact lv_tableIn (tgt := 1103) hx hcb dw_45 (by decide) (by decide) rfl (by decide) (kc_approve C hH hl h1 h2 k)
  · exact lv_tableIn (tgt := 1171) hx hcb dw_45 (by decide) (by decide) rfl (by decide) (kc_send C hH hl h1 h2 k)
  · exact lv_tableIn (tgt := 1227) hx hcb dw_45 (by decide) (by decide) rfl (by decide) (kc_pass C hH hl h1 h2 k)
  · exact lv_tableIn (tgt := 1283) hx hcb dw_45 (by decide) (by decide) rfl (by decide) (kc_until C hH hl h1 h2 k)
  · exact lv_tableIn (tgt := 1339) hx hcb dw_45 (by decide) (by decide) rfl (by decide) (kc_ofGroup C hH hl h1 h2 k)
  · exact lv_tableIn (tgt := 1407) hx hcb dw_45 (by decide) (by decide) rfl (by decide) (kc_heard C hH hl h1 h2 k)
  · exact lv_tableIn (tgt := 1487) hx hcb dw_45 (by decide) (by decide) rfl (by decide) (kc_ofWarning C hH hl h1 h2 k)
  · exact lv_tableIn (tgt := 1555) hx hcb dw_45 (by decide) (by decide) rfl (by decide) (kc_inForce C hH hl h1 h2 k)
  · exact lv_tableIn (tgt := 1611) hx hcb dw_45 (by decide) (by decide) rfl (by decide) (kc_roomIn C hH hl h1 h2 k)
  · exact lv_tableIn (tgt := 1667) hx hcb dw_45 (by decide) (by decide) rfl (by decide) (kc_chain C hH hl h1 h2 k)
  · exact lv_tableIn (tgt := 1735) hx hcb dw_45 (by decide) (by decide) rfl (by decide) (kc_many C hH hl h1 h2 k)
  · exact lv_tableIn (tgt := 1791) hx hcb dw_45 (by decide) (by decide) rfl (by decide) (kc_meanDelay C hH hl h1 h2 k)
  · exact lv_tableIn (tgt := 1868) hx hcb dw_45 (by decide) (by decide) rfl (by decide) (kc_safeIn C hH hl h1 h2 k)
  · exact lv_tableIn (tgt := 1936) hx hcb dw_45 (by decide) (by decide) rfl (by decide) (kc_sirenWould C hH hl h1 h2 k)
  · exact lv_tableIn (tgt := 2016) hx hcb dw_45 (by decide) (by decide) rfl (by decide) (kc_digest C hH hl h1 h2 k)
  · refine lv_tableOut (tgt := 2030) hx hcb dw_45 (Or.inr ?_) (by decide) (k H ls _ ck cn hS hl (by repeat (first | exact List.mem_cons_self | apply List.mem_cons_of_mem)) (by repeat (first | exact List.mem_cons_self | apply List.mem_cons_of_mem)) (by omega) (by omega))
    rw [nI_toInt (by omega)]
    omega
section LQ
variable {p : Program} {l : Launch} {e : Env} {R : Room} {s : State} {m : MethodId} {args : Array Value} {below : List Frame} {meth : Method} {c : Code} {H : Heap} {Q : State → Prop} {ck cn : Nat}
variable {nL pc : Nat} {ls : Array Slot} {rest : List Value}
theorem lq_kp {D : va_G} {cl : List vw_C} {ws : va_W} {H H1 : Heap} (hP : va_P D cl ws H) (hk : ∀ q : Nat, q < H.size → H1[q]? = H[q]?) : va_P D cl ws H1 := fun k x hx => (hP k x hx).kept (hk x.1 (hP k x hx).lt)
theorem lq_tr {s : State} {H H1 : Heap} (hS : va_S (fun q => s.heap.size ≤ q) s.heap H []) (hz : H.size ≤ H1.size) (hk : ∀ q : Nat, q < H.size → H1[q]? = H[q]?) : va_S (fun q => s.heap.size ≤ q) s.heap H1 [] := ⟨Nat.le_trans hS.1 hz, fun q h1 h2 => (hk q (Nat.lt_of_lt_of_le h1 hS.1)).trans (hS.2.1 q h1 h2), fun _ h => nomatch h⟩
/-- a new array of one place -/
theorem lq_newa {D : va_G} {atype : ArrayType} {ty : FieldType} {a0 : vp_A} (hx : p.tables.exec = Jvm.exec) (hcb : c.code = code) (harr : (Cond.arrayClass (newarray.typeOf atype)).before args s = true) (hty : newarray.typeOf atype = ty) (ha : ∀ cA : ClassId, vp_cell cA a0 = arrV cA 1 (fun _ => defaultValue ty)) (hbytes : 1 * componentBytes ty ≤ 536870912) (hd0 : decode code pc = .ok (.iconst 1, 1)) (hd1 : decode code (pc + 1) = .ok (.newarray atype, 2)) (hcc : ck + 1 ≤ R.cells) (hcs : cn + 1 ≤ R.slots)
    (k : ∀ (q : Nat) (cA : ClassId) (H1 : Heap), va_K D [] [(cA, ty)] s → va_P D [] [(q, .inl (cA, a0))] H1 → H.size ≤ q → H.size ≤ H1.size → (∀ z : Nat, z < H.size → H1[z]? = H[z]?) → W p l e R s m args below meth c H1 [] (ck + 1) (cn + 1) Q (F0 m (pc + 3) ls (.ref q :: rest))) : W p l e R s m args below meth c H [] ck cn Q (F0 m pc ls rest) := by
  refine lv_iconst (v := 1) hx hcb hd0 rfl ?_
  refine va_newa (H0 := H) (A := fun q => H.size ≤ q) (D := D) (cl := []) (tys := []) (ws := []) (atype := atype) (a0 := a0) (N' := 1) hx hcb harr hty ⟨fun c q h => by simp at h, fun k q h => by simp at h⟩ (fun k x h => by simp at h) ⟨fun i j x y h _ _ => by simp at h, fun i x h => by simp at h⟩ va_S.rf (fun q h => h) ha (by decide) rfl hbytes hcc hcs hd1 (fun q cA H1 hK1 hP1 hD1 hS1 => ?_)
  exact k q cA H1 hK1 hP1 (hD1.2 0 _ rfl) hS1.1 (fun z hz => hS1.2.1 z hz (by omega))
end LQ
set_option maxHeartbeats 2000000 in
theorem whole_start {p : Program} {e : Env} {s : State} {m : MethodId} {below : List Frame} {meth : Method} {c : Code} (l : Launch) (hflags : l.flags = flags0) {b L : Nat} {xs : Nat → Int32} (hL : L ≤ 6) (C0 : lw_At p s m meth c b L xs) : W p l e room_1 s m #[Value.ref b] below meth c s.heap [] 0 0 (lw_Z below #[Value.ref b] s) (entryFrame m ([Value.ref b] : List Value).toArray 9) := by
  obtain ⟨hx, hcb, hr, hml, hown, hl0, hX, hbl, hlocks, hgv⟩ := C0
  have hts := lq_tb hl0
  have hnx := lq_nx hl0
  have hN := lq_N hl0 hgv
  have hXF : vm_XF ww_tbx ww_strs (fun q => s.heap.size ≤ q) s s.heap := lq_XF hl0 hgv (fun a h1 h2 => by omega) (lq_str hl0 hgv)
  have hnw : vg_nw ww_nw s := by
    intro q hq
    have h1 : (ww_nw.all (fun q => decide (Cond.methodLinkNest q.1 q.2.1 q.2.2.1 q.2.2.2 ∈ lw_tbl))) = true := by decide +kernel
    exact va_Nw.of rfl (hl0 _ (of_decide_eq_true (List.all_eq_true.mp h1 q hq)))
  have hstk : l.stackTraces = false := by
    unfold Launch.stackTraces
    rw [hflags]
    decide
  obtain ⟨Dx, tx, htx, hKx⟩ := lq_Kx hts hl0
  obtain ⟨Dm, tm, htm, hKm⟩ := lq_Km hts hl0
  -- the end
  have hend : ∀ (H1 : Heap) (ls1 : Array Slot) (k1 k2 : Nat), k1 ≤ 600002 → k2 ≤ 7302232 → W p l e room_1 s m #[Value.ref b] below meth c H1 [] k1 k2 (lw_Z below #[Value.ref b] s) (F0 m 2036 ls1 []) := by
    intro H1 ls1 k1 k2 h1 h2
    refine lv_iconst (v := 1) hx hcb dw_2036 rfl ?_
    refine W.widen h1 h2 ?_
    exact lw_ret (d0 := s.drawn) (Drawn.sameBut.refl s.drawn lw_cs) hx hcb hr hlocks dw_2037
  -- the loop's head
  have hhead : ∀ (H1 : Heap) (ls1 : Array Slot) (lv1 : List (Nat × Value)) (k1 k2 : Nat) (i : Int32), va_S (fun q => s.heap.size ≤ q) s.heap H1 [] → lv_has ls1 9 lv1 → (0, Value.ref b) ∈ lv1 → (5, Value.int i) ∈ lv1 → k1 ≤ 600002 → k2 ≤ 7302232 → (¬ (Int32.ofNat L - 6) < i → W p l e room_1 s m #[Value.ref b] below meth c H1 [] k1 k2 (lw_Z below #[Value.ref b] s) (F0 m 38 ls1 [])) → W p l e room_1 s m #[Value.ref b] below meth c H1 [] k1 k2 (lw_Z below #[Value.ref b] s) (F0 m 28 ls1 []) := by
    intro H1 ls1 lv1 k1 k2 i hS hl h0 h5 h1 h2 k
    refine lv_iload hx hcb dw_28 (hl.2.2 _ h5) ?_
    refine lv_aload_n hx hcb dw_30 rfl (hl.2.2 _ h0) ?_
    refine va_slen (A := fun q => s.heap.size ≤ q) hx hcb hX hbl (show ¬ s.heap.size ≤ b by omega) hS dw_31 ?_
    refine lv_bipush (v := 6) hx hcb dw_32 (by decide) ?_
    refine lv_isub hx hcb dw_34 ?_
    exact lv_icmp_gt (tgt := 2036) hx hcb dw_35 (by decide) (fun _ => hend H1 ls1 k1 k2 h1 h2) k
  -- the two objects and the two rows
  have hl := lv_entry ([Value.ref b] : List Value) (n := 9) (show (1 : Nat) ≤ 9 by decide)
  rw [lg_entry_eq]
  refine lq_newc (nL := 9) (ci := 0) (C := RX5) (T := TX5) (N := 2) (rest := []) tyX5 hx hcb hml hown hts hKx htx hnx I_X5_init dw_0 dw_3 dw_4 rfl ww_inX5 tyX5_ok u_522 u_404 u_64 (by decide +kernel) ww_good u_523 rfl u_524 u_525 rfl (by decide +kernel) (by decide) (by decide) (by decide) (by decide) (Nat.le_refl _) hl.1 (fun a1 H1 hP1 hD1 hz1 hk1 => ?_)
  have hS1 : va_S (fun q => s.heap.size ≤ q) s.heap H1 [] := ⟨hz1, fun q h1 _ => hk1 q h1, fun _ h => nomatch h⟩
  obtain ⟨hPx0, hDx0⟩ := vh_vg wx_B wx_nd hP1 hD1
  obtain ⟨ax, hax0⟩ : ∃ ax : vgN → Nat, ax = fun z => a1 (vh_n (wx_pos z)) := ⟨_, rfl⟩
  rw [← hax0] at hPx0 hDx0
  have hPx1 : va_P Dx ww_cl (vg_ws ww_shp ww_nm ax tx wy_σ) H1 := vm_ws_at ww_closed (fun _ _ => rfl) (fun n hn => wy_in hn) hPx0
  have hDx1 : va_D (fun q => s.heap.size ≤ q) (vg_ws ww_shp ww_nm ax tx wy_σ) := vg_ws_D hDx0 wy_σ
  have ea : a1 (vh_n 0) = ax (0, 0, 0) := by
    rw [hax0]
    rfl
  rw [ea]
  refine lv_astore_n (i := 1) (lv' := [(1, .ref (ax (0, 0, 0))), (0, .ref b)]) hx hcb dw_7 rfl hl (by decide) rfl (fun ls1 hl1 => ?_)
  refine lq_newc (nL := 9) (ci := 0) (C := RX7) (T := TX7) (N := 3) (rest := []) tyX7 hx hcb hml hown hts hKm htm hnx I_X7_init dw_8 dw_11 dw_12 rfl mm_inX7 tyX7_ok u_526 u_405 u_198 (by decide +kernel) ww_good u_527 rfl u_528 u_529 rfl (by decide +kernel) (by decide) (by decide) (by decide) (by decide) hz1 hl1.1 (fun a2 H2 hP2 hD2 hz2 hk2 => ?_)
  obtain ⟨hPm2, hDm2⟩ := vh_vg mm_B mm_nd hP2 hD2
  obtain ⟨am, ham0⟩ : ∃ am : vgN → Nat, am = fun z => a2 (vh_n (mm_pos z)) := ⟨_, rfl⟩
  rw [← ham0] at hPm2 hDm2
  have hPm3 : va_P Dm mm_cl (vg_ws mm_shp mm_nm am tm mm_σ) H2 := hPm2
  have hDm3 : va_D (fun q => H1.size ≤ q) (vg_ws mm_shp mm_nm am tm mm_σ) := hDm2
  have eb : a2 (vh_n 0) = am (40, 0, 0) := by
    rw [ham0]
    rfl
  rw [eb]
  have hS2 := lq_tr hS1 hz2 hk2
  have hPx2 := lq_kp hPx1 hk2
  refine lv_astore_n (i := 2) (lv' := [(2, .ref (am (40, 0, 0))), (1, .ref (ax (0, 0, 0))), (0, .ref b)]) hx hcb dw_15 rfl hl1 (by decide) rfl (fun ls2 hl2 => ?_)
  refine lq_newa (D := Dx) (atype := .long) (ty := .long) (a0 := (1, .inr (.inl (fun _ => 0)))) hx hcb (hl0 (.arrayClass .long) (by decide +kernel)) rfl (fun _ => rfl) (by decide) dw_16 dw_17 (by decide) (by decide) (fun o cO H3 hKo hO3 ho hz3 hk3 => ?_)
  have hS3 := lq_tr hS2 hz3 hk3
  have hPx3 := lq_kp hPx2 hk3
  have hPm4 := lq_kp hPm3 hk3
  refine lv_astore_n (i := 3) (lv' := [(3, .ref o), (2, .ref (am (40, 0, 0))), (1, .ref (ax (0, 0, 0))), (0, .ref b)]) hx hcb dw_19 rfl hl2 (by decide) rfl (fun ls3 hl3 => ?_)
  refine lq_newa (D := Dx) (atype := .double) (ty := .double) (a0 := (1, .inr (.inr (.inr (.inl (fun _ => 0)))))) hx hcb (hl0 (.arrayClass .double) (by decide +kernel)) rfl (fun _ => rfl) (by decide) dw_20 dw_21 (by decide) (by decide) (fun od cd H4 _ _ hod hz4 hk4 => ?_)
  have hS4 := lq_tr hS3 hz4 hk4
  have hPx4 := lq_kp hPx3 hk4
  have hPm5 := lq_kp hPm4 hk4
  have hO4 := lq_kp hO3 hk4
  refine lv_astore (lv' := [(4, .ref od), (3, .ref o), (2, .ref (am (40, 0, 0))), (1, .ref (ax (0, 0, 0))), (0, .ref b)]) hx hcb dw_23 hl3 (by decide) rfl (fun ls4 hl4 => ?_)
  refine lv_iconst (v := 0) hx hcb dw_25 rfl ?_
  refine lv_istore (lv' := lq_lv b (ax (0, 0, 0)) (am (40, 0, 0)) o od) hx hcb dw_26 hl4 (by decide) rfl (fun ls5 hl5 => ?_)
  refine hhead H4 ls5 _ _ _ 0 hS4 hl5 (by repeat (first | exact List.mem_cons_self | apply List.mem_cons_of_mem)) (by repeat (first | exact List.mem_cons_self | apply List.mem_cons_of_mem)) (by decide) (by decide) (fun hi => ?_)
  have hL6 : L = 6 := by
    have h7 : L = 0 ∨ L = 1 ∨ L = 2 ∨ L = 3 ∨ L = 4 ∨ L = 5 ∨ L = 6 := by omega
    rcases h7 with rfl | rfl | rfl | rfl | rfl | rfl | rfl
    · exact absurd (by decide) hi
    · exact absurd (by decide) hi
    · exact absurd (by decide) hi
    · exact absurd (by decide) hi
    · exact absurd (by decide) hi
    · exact absurd (by decide) hi
    · rfl
  subst hL6
  -- one turn
  have gx : ∀ n ∈ ww_nm, s.heap.size ≤ ax n ∧ ax n < H1.size := fun n hn => by
    obtain ⟨q0, _, hq⟩ := vg_ws_get (shp := ww_shp) (ad := ax) (tys := tx) (σ := wy_σ) hn
    exact ⟨hDx1.2 q0 _ hq, vg_lt hPx1 hn⟩
  have gm : ∀ n ∈ mm_nm, H1.size ≤ am n ∧ am n < H2.size := fun n hn => by
    obtain ⟨q0, _, hq⟩ := vg_ws_get (shp := mm_shp) (ad := am) (tys := tm) (σ := mm_σ) hn
    exact ⟨hDm3.2 q0 _ hq, vg_lt hPm3 hn⟩
  have C : lq_Cx p l s m #[Value.ref b] c b xs Dx Dm tx tm ax am o od cO := by
    refine ⟨⟨hx, hcb, hml, hown, hts, hX, hbl, hstk⟩, ⟨htx, htm, hKx, hKm, hKo⟩, ⟨hDx1.weaken (fun _ _ _ _ => trivial), hDm3.weaken (fun _ _ _ _ => trivial)⟩, ⟨hnw, hXF, hN, hnx⟩, ⟨fun n hn => ⟨(gx n hn).1, fun z => ?_, fun n' hn' z => ?_⟩, fun n hn => ⟨?_, fun z => ?_⟩, ?_⟩⟩
    · have := (gx n hn).2
      omega
    · have h1 := (gx n hn).2
      have h2 := (gm n' hn').1
      omega
    · have := (gm n hn).1
      omega
    · have := (gm n hn).2
      omega
    · omega
  have hH : lq_Hx s Dx Dm tx tm ax am o cO (fun _ => 0) H4 := ⟨hPx4, hPm5, hO4, hS4⟩
  have a0 : ∀ k, k = lq_lv b (ax (0, 0, 0)) (am (40, 0, 0)) o od → (0, Value.ref b) ∈ k ∧ (5, Value.int 0) ∈ k := by
    intro k hk
    subst hk
    exact ⟨(by repeat (first | exact List.mem_cons_self | apply List.mem_cons_of_mem)), (by repeat (first | exact List.mem_cons_self | apply List.mem_cons_of_mem))⟩
  refine lv_aload_n hx hcb dw_38 rfl (lv_at hl5 5 rfl) ?_
  refine lv_iload hx hcb dw_39 (lv_at hl5 0 rfl) ?_
  refine va_sld (A := fun q => s.heap.size ≤ q) hx hcb hX hbl (show ¬ s.heap.size ≤ b by omega) hS4 (mm_i 0 6 _ rfl (by decide) (by decide)) dw_41 ?_
  rw [show (0 : Int32).toNatClampNeg = 0 from rfl]
  refine lv_bipush (v := 31) hx hcb dw_42 (by decide) ?_
  refine lv_iand hx hcb dw_44 ?_
  refine kc_all C hH hl5 (by decide) (by decide) (fun H9 ls9 lv9 k1 k2 hS9 hl9 h0 h5 h1 h2 => ?_) hS4
  have hl10 : lv_has ls9 9 [(5, .int 0), (0, .ref b)] := ⟨hl9.1, hl9.2.1, List.forall_mem_cons.mpr ⟨hl9.2.2 _ h5, List.forall_mem_cons.mpr ⟨hl9.2.2 _ h0, fun _ h => nomatch h⟩⟩⟩
  refine lv_iinc (k := 0) (v := 6) (lv' := [(5, .int 6), (0, .ref b)]) hx hcb dw_2030 hl10 rfl (by decide) (by decide) rfl (fun ls11 hl11 => ?_)
  refine lv_goto (tgt := 28) hx hcb dw_2033 (by decide) ?_
  exact hhead H9 ls11 _ _ _ 6 hS9 hl11 (by repeat (first | exact List.mem_cons_self | apply List.mem_cons_of_mem)) (by repeat (first | exact List.mem_cons_self | apply List.mem_cons_of_mem)) h1 h2 (fun z => absurd (by decide) z)
