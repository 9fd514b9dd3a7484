-- words of the tables, and what stands at each place of the methods' code (laid by program)
theorem q_465 : Cond.constant RL 46 (65535) ∈ ww_tb := by decide +kernel
theorem q_466 : Cond.code yL_send cL_send 4 (some .int) ∈ ww_tb := by decide +kernel
theorem q_467 : Cond.methodLink RL 47 yL_send ∈ ww_tb := by decide +kernel
theorem q_468 : Cond.static yL_send ∈ ww_tb := by decide +kernel
theorem q_469 : Cond.code yX5_danger cX5_danger 4 (some .int) ∈ ww_tb := by decide +kernel
theorem q_470 : Cond.methodLink RL 53 yX5_danger ∈ ww_tb := by decide +kernel
theorem q_471 : Cond.instanceMethod yX5_danger ∈ ww_tb := by decide +kernel
theorem q_472 : Cond.selects RX5 yX5_danger yX5_danger ∈ ww_tb := by decide +kernel
/-! the law's cases -/
section LK
variable {p : Program} {l : Launch} {e : Env} {s : State} {m : MethodId} {args : Array Value} {below : List Frame} {meth : Method} {c : Code} {H : Heap} {locs : List Loc} {Q : State → Prop} {ck cn : Nat}
variable {pc : Nat} {ls : Array Slot} {rest : List Value} {b L : Nat} {xs : Nat → Int32} {D Dx : va_G} {cI cG cH : ClassId} {tx : List (ClassId × FieldType)} {ax ay : vgN → Nat} {t o k : Nat} {v u : jN}
variable {tm n g i : Nat} {sf hr tv : Int32}
theorem kl_0 (C : lC p s m args c b L xs D Dx cI cG cH tx ax ay t o) (h : lH s D Dx tx ax ay b t o k v v H locs) (hJ : jJ v tm) (hk : k < 880) (hl : lv_has ls 21 [(11, .int sf), (10, .int (nI n)), (9, .int (nI g)), (6, .int (nI i)), (5, .int hr), (4, .ref (ax (0, 0, 0))), (3, .ref o), (2, .ref t), (1, .int tv), (0, .ref b)]) (hcc : ck ≤ 600086) (hcs : cn ≤ 7301442)
    (kk : ∀ (H1 : Heap) (locs1 : List Loc) (ls1 : Array Slot) (v1 : jN) (tm1 k1 : Nat), lH s D Dx tx ax ay b t o k1 v1 v1 H1 locs1 → jJ v1 tm1 → tm1 ≤ tm + n → k1 ≤ k + 2 → lv_has ls1 21 [(6, .int (nI i)), (5, .int hr), (4, .ref (ax (0, 0, 0))), (3, .ref o), (2, .ref t), (1, .int tv), (0, .ref b)] → W p l e room_1 s m args below meth c H1 locs1 ck cn Q (F0 m 442 ls1 [])) : W p l e room_1 s m args below meth c H locs ck cn Q (F0 m 236 ls []) := by
  have C9 := C
  obtain ⟨⟨hx, hcb, hml, hown, hts⟩, ⟨-, -, -⟩, ⟨htx, hU, hUo⟩, -⟩ := C9
  refine lv_iconst (v := nI 1) hx hcb dw_236 rfl ?_
  refine lv_aload_n hx hcb dw_237 rfl (lv_at hl 7 rfl) ?_
  refine lv_ldc (v := nI 65535) hx hcb hown (hts _ q_465) dw_238 ?_
  refine ld_draw (N := 65535) C h (by omega) (by decide) dw_240 (show (1 + 0 : Nat) ≤ 8 by decide) hcc hcs hl.1 (fun H1 locs1 h1 => ?_)
  obtain ⟨ja, hja, eja⟩ := jDr_in xs L (k) (N := 65535) (by decide) (by decide)
  rw [eja]
  refine lv_iadd hx hcb dw_243 ?_
  rw [nI_add]
  refine lv_istore (lv' := [(13, .int (nI (1 + ja))), (11, .int sf), (10, .int (nI n)), (9, .int (nI g)), (6, .int (nI i)), (5, .int hr), (4, .ref (ax (0, 0, 0))), (3, .ref o), (2, .ref t), (1, .int tv), (0, .ref b)]) hx hcb dw_244 hl (by decide) rfl (fun ls2 hl2 => ?_)
  refine lv_aload_n hx hcb dw_246 rfl (lv_at hl2 8 rfl) ?_
  refine lv_iconst (v := nI 2) hx hcb dw_247 rfl ?_
  refine ld_draw (N := 2) C h1 (by omega) (by decide) dw_248 (by decide) hcc hcs hl2.1 (fun H3 locs3 h3 => ?_)
  obtain ⟨jd, hjd, ejd⟩ := jDr_in xs L (k + 1) (N := 2) (by decide) (by decide)
  rw [ejd]
  refine lv_istore (lv' := [(14, .int (nI jd)), (13, .int (nI (1 + ja))), (11, .int sf), (10, .int (nI n)), (9, .int (nI g)), (6, .int (nI i)), (5, .int hr), (4, .ref (ax (0, 0, 0))), (3, .ref o), (2, .ref t), (1, .int tv), (0, .ref b)]) hx hcb dw_251 hl2 (by decide) rfl (fun ls4 hl4 => ?_)
  refine lv_aload hx hcb dw_253 (lv_at hl4 7 rfl) ?_
  refine lv_bipush (v := nI 6) hx hcb dw_255 (by decide) ?_
  have eM : jMany v 6 = nI (jWc v) := hJ.1.1.1.2.2.1.1
  have hW12 : jWc v ≤ 12 := hJ.1.1.1.2.2.1.2
  refine ld_x (rest := []) (as := [.inl (.int (nI 6))]) C h3 c_X5_many (lS_many hJ.1 (x := nI 6) (vp_in_nI (by decide) (by decide))).r dw_257 q_340 q_463 q_342 q_343 (kn := 1) (by decide +kernel) rfl (List.forall_mem_cons.mpr ⟨trivial, fun _ h => nomatch h⟩) (by decide) (by decide) hcc hcs hl4.1 (fun H5 locs5 h5 => ?_)
  rw [show jMany v (nI 6) = nI (jWc v) from eM]
  refine lv_bipush (v := nI 12) hx hcb dw_260 (by decide) ?_
  refine lv_icmp_ge (tgt := 442) hx hcb dw_262 (by decide) (fun _ => ?_) (fun z => ?_)
  · have hl6 : lv_has _ 21 [(6, .int (nI i)), (5, .int hr), (4, .ref (ax (0, 0, 0))), (3, .ref o), (2, .ref t), (1, .int tv), (0, .ref b)] := lv_sub hl4 [5, 6, 7, 8, 9, 10, 11] rfl
    exact kk _ _ _ v tm (k + 1 + 1) h5 hJ (by omega) (by omega) hl6
  · have h12 : jWc v < 12 := by
      by_cases y : jWc v < 12
      · exact y
      · exact absurd (nI_le (a := 12) (b := jWc v) (by omega) (by omega)) z
    have ha9 : ¬ nI (1 + ja) < 1 ∧ nI (1 + ja) ≤ 65535 := ⟨nI_nlt (a := 1 + ja) (b := 1) (by omega) (by omega), nI_le (b := 65535) (by omega) (by decide)⟩
    have hd9 : ¬ nI jd < 0 ∧ nI jd ≤ 1 := ⟨nI_nlt (a := jd) (b := 0) (by omega) (by omega), nI_le (b := 1) (by omega) (by decide)⟩
    refine lv_aload hx hcb dw_265 (lv_at hl4 7 rfl) ?_
    refine lv_iload hx hcb dw_267 (lv_at hl4 1 rfl) ?_
    refine lv_iload hx hcb dw_269 (lv_at hl4 0 rfl) ?_
    refine ld_xs (rest := []) (As := [.int (nI (1 + ja)), .int (nI jd)]) C h5 (lz_send l Dx tx ax htx hU.2.2.2.2 hJ.1 h12 ha9 hd9) dw_271 q_466 q_467 q_468 (kn := 3) (by decide +kernel) rfl (by decide) (by decide) hcc hcs hl4.1 (fun H6 locs6 h6 => ?_)
    refine lv_aload_n hx hcb dw_274 rfl (lv_at hl4 8 rfl) ?_
    refine ld_get C h6 dw_275 ?_
    refine lv_iload hx hcb dw_278 (lv_at hl4 1 rfl) ?_
    refine lv_iload hx hcb dw_280 (lv_at hl4 0 rfl) ?_
    refine ld_ys (rest := [.int (jPin (jSendV v (nI (1 + ja)) (nI jd)) (jSendV v (nI (1 + ja)) (nI jd) 11 (jWc v) 2))]) (As := [.int (nI (1 + ja)), .int (nI jd)]) C h6 (lz_send l Dx tx ay htx hUo.2.2.2.2 hJ.1 h12 ha9 hd9) dw_282 q_466 q_467 q_468 (kn := 3) (by decide +kernel) rfl (by decide) (show (1 + 0 : Nat) ≤ 8 by decide) hcc hcs hl4.1 (fun H7 locs7 h7 => ?_)
    refine lv_icmp_eq (tgt := 442) hx hcb dw_285 (by decide) (fun _ => ?_) (fun z => absurd rfl z)
    have hl8 : lv_has _ 21 [(6, .int (nI i)), (5, .int hr), (4, .ref (ax (0, 0, 0))), (3, .ref o), (2, .ref t), (1, .int tv), (0, .ref b)] := lv_sub hl4 [5, 6, 7, 8, 9, 10, 11] rfl
    exact kk _ _ _ (jSendV v (nI (1 + ja)) (nI jd)) tm (k + 1 + 1) h7 (hJ.send h12 _ _) (by omega) (by omega) hl8
theorem kl_1 (C : lC p s m args c b L xs D Dx cI cG cH tx ax ay t o) (h : lH s D Dx tx ax ay b t o k v v H locs) (hJ : jJ v tm) (hk : k < 880) (hl : lv_has ls 21 [(11, .int sf), (10, .int (nI n)), (9, .int (nI g)), (6, .int (nI i)), (5, .int hr), (4, .ref (ax (0, 0, 0))), (3, .ref o), (2, .ref t), (1, .int tv), (0, .ref b)]) (hcc : ck ≤ 600086) (hcs : cn ≤ 7301442)
    (kk : ∀ (H1 : Heap) (locs1 : List Loc) (ls1 : Array Slot) (v1 : jN) (tm1 k1 : Nat), lH s D Dx tx ax ay b t o k1 v1 v1 H1 locs1 → jJ v1 tm1 → tm1 ≤ tm + n → k1 ≤ k + 2 → lv_has ls1 21 [(6, .int (nI i)), (5, .int hr), (4, .ref (ax (0, 0, 0))), (3, .ref o), (2, .ref t), (1, .int tv), (0, .ref b)] → W p l e room_1 s m args below meth c H1 locs1 ck cn Q (F0 m 442 ls1 [])) : W p l e room_1 s m args below meth c H locs ck cn Q (F0 m 290 ls []) := by
  have C9 := C
  obtain ⟨⟨hx, hcb, hml, hown, hts⟩, ⟨-, -, -⟩, ⟨htx, hU, hUo⟩, -⟩ := C9
  refine lv_aload_n hx hcb dw_290 rfl (lv_at hl 7 rfl) ?_
  refine lv_bipush (v := nI 16) hx hcb dw_291 (by decide) ?_
  refine ld_draw (N := 16) C h (by omega) (by decide) dw_293 (by decide) hcc hcs hl.1 (fun H1 locs1 h1 => ?_)
  obtain ⟨jc, hjc, ejc⟩ := jDr_in xs L (k) (N := 16) (by decide) (by decide)
  rw [ejc]
  refine lv_istore (lv' := [(15, .int (nI jc)), (11, .int sf), (10, .int (nI n)), (9, .int (nI g)), (6, .int (nI i)), (5, .int hr), (4, .ref (ax (0, 0, 0))), (3, .ref o), (2, .ref t), (1, .int tv), (0, .ref b)]) hx hcb dw_296 hl (by decide) rfl (fun ls2 hl2 => ?_)
  refine lv_aload_n hx hcb dw_298 rfl (lv_at hl2 8 rfl) ?_
  refine lv_bipush (v := nI 9) hx hcb dw_299 (by decide) ?_
  refine ld_draw (N := 9) C h1 (by omega) (by decide) dw_301 (by decide) hcc hcs hl2.1 (fun H3 locs3 h3 => ?_)
  obtain ⟨jd, hjd, ejd⟩ := jDr_in xs L (k + 1) (N := 9) (by decide) (by decide)
  rw [ejd]
  refine lv_istore (lv' := [(16, .int (nI jd)), (15, .int (nI jc)), (11, .int sf), (10, .int (nI n)), (9, .int (nI g)), (6, .int (nI i)), (5, .int hr), (4, .ref (ax (0, 0, 0))), (3, .ref o), (2, .ref t), (1, .int tv), (0, .ref b)]) hx hcb dw_304 hl2 (by decide) rfl (fun ls4 hl4 => ?_)
  refine lv_aload hx hcb dw_306 (lv_at hl4 7 rfl) ?_
  refine lv_iload hx hcb dw_308 (lv_at hl4 1 rfl) ?_
  refine lv_iload hx hcb dw_310 (lv_at hl4 0 rfl) ?_
  have hd9 : ¬ nI jd < 0 ∧ nI jd ≤ 999 := ⟨nI_nlt (a := jd) (b := 0) (by omega) (by omega), nI_le (b := 999) (by omega) (by decide)⟩
  refine ld_x (rest := []) (as := [.inl (.int (nI jc)), .inl (.int (nI jd))]) C h3 c_X5_danger (lS_danger hJ.1 (vp_in_nI hjc (by decide)) hd9).r dw_312 q_469 q_470 q_471 q_472 (kn := 2) (by decide +kernel) rfl (List.forall_mem_cons.mpr ⟨trivial, List.forall_mem_cons.mpr ⟨trivial, fun _ h => nomatch h⟩⟩) (by decide) (by decide) hcc hcs hl4.1 (fun H5 locs5 h5 => ?_)
  refine lv_aload_n hx hcb dw_315 rfl (lv_at hl4 8 rfl) ?_
  refine ld_get C h5 dw_316 ?_
  refine lv_iload hx hcb dw_319 (lv_at hl4 1 rfl) ?_
  refine lv_iload hx hcb dw_321 (lv_at hl4 0 rfl) ?_
  refine ld_y (rest := [.int (v 6 0 (nI jc).toNatClampNeg)]) (as := [.inl (.int (nI jc)), .inl (.int (nI jd))]) C h5 c_X5_danger (lS_danger hJ.1 (vp_in_nI hjc (by decide)) hd9).r dw_323 q_469 q_470 q_471 q_472 (kn := 2) (by decide +kernel) rfl (List.forall_mem_cons.mpr ⟨trivial, List.forall_mem_cons.mpr ⟨trivial, fun _ h => nomatch h⟩⟩) (by decide) (show (1 + 0 : Nat) ≤ 8 by decide) hcc hcs hl4.1 (fun H6 locs6 h6 => ?_)
  refine lv_icmp_eq (tgt := 442) hx hcb dw_326 (by decide) (fun _ => ?_) (fun z => absurd rfl z)
  have hl7 : lv_has _ 21 [(6, .int (nI i)), (5, .int hr), (4, .ref (ax (0, 0, 0))), (3, .ref o), (2, .ref t), (1, .int tv), (0, .ref b)] := lv_sub hl4 [5, 6, 7, 8, 9, 10, 11] rfl
  exact kk _ _ _ (jDanger v (nI jc) (nI jd)) tm (k + 1 + 1) h6 (hJ.danger _ _) (by omega) (by omega) hl7
theorem kl_chk {W0 I0 : Int32} {x : Nat} (hx : p.tables.exec = Jvm.exec) (hcb : c.code = code) (h17 : ls[17]? = some (.val (.int W0))) (h20 : ls[20]? = some (.val (.int I0))) (h11 : ls[11]? = some (.val (.int sf))) (h19 : ls[19]? = some (.val (.int (nI x)))) (hc : ¬ W0 = 0 ∨ (I0 = 1 ∧ 0 < sf ∧ sf ≤ nI x) ∨ (I0 = 0 ∧ ¬ (0 < sf ∧ sf ≤ nI x)))
    (kk : W p l e room_1 s m args below meth c H locs ck cn Q (F0 m 420 ls [])) : W p l e room_1 s m args below meth c H locs ck cn Q (F0 m 391 ls []) := by
  refine lv_iload hx hcb dw_391 h17 ?_
  refine lv_if_ne (tgt := 420) hx hcb dw_393 (by decide) (fun _ => kk) (fun z => ?_)
  have hc2 := hc.resolve_left (fun y => y z)
  refine lv_iload hx hcb dw_396 h20 ?_
  refine lv_iload hx hcb dw_398 h11 ?_
  have no : ¬ (0 < sf ∧ sf ≤ nI x) → W p l e room_1 s m args below meth c H locs ck cn Q (F0 m 414 ls [.int I0]) := fun q => by
    have e0 : I0 = 0 := by
      rcases hc2 with ⟨_, y⟩ | ⟨y, _⟩
      · exact absurd y q
      · exact y
    refine lv_iconst (v := 0) hx hcb dw_414 rfl ?_
    exact lv_icmp_eq (tgt := 420) hx hcb dw_415 (by decide) (fun _ => kk) (fun y => absurd e0 y)
  refine lv_if_le (tgt := 414) hx hcb dw_400 (by decide) (fun y => no (fun q => absurd q.1 (Int32.not_lt.mpr y))) (fun y => ?_)
  refine lv_iload hx hcb dw_403 h19 ?_
  refine lv_iload hx hcb dw_405 h11 ?_
  refine lv_icmp_lt (tgt := 414) hx hcb dw_407 (by decide) (fun y2 => no (fun q => absurd y2 (Int32.not_lt.mpr q.2))) (fun y2 => ?_)
  have e1 : I0 = 1 := by
    rcases hc2 with ⟨z1, _⟩ | ⟨_, z1⟩
    · exact z1
    · exact absurd ⟨Int32.not_le.mp y, Int32.not_lt.mp y2⟩ z1
  refine lv_iconst (v := 1) hx hcb dw_410 rfl ?_
  refine lv_goto (tgt := 415) hx hcb dw_411 (by decide) ?_
  exact lv_icmp_eq (tgt := 420) hx hcb dw_415 (by decide) (fun _ => kk) (fun y => absurd e1 y)
end LK
