-- words of the tables, and what stands at each place of the methods' code (laid by program)
theorem q_483 : Cond.methodLink RL 62 yX5_siren ∈ ww_tb := by decide +kernel
theorem q_484 : Cond.code yL_people cL_people 3 (some .int) ∈ ww_tb := by decide +kernel
theorem q_485 : Cond.methodLink RL 65 yL_people ∈ ww_tb := by decide +kernel
theorem q_486 : Cond.static yL_people ∈ ww_tb := by decide +kernel
/-! the end of a turn of the law's outer loop -/
section LK5
variable {p : Program} {l : Launch} {e : Env} {s : State} {m : MethodId} {args : Array Value} {below : List Frame} {meth : Method} {c : Code} {H : Heap} {locs : List Loc} {Q : State → Prop} {ck cn : Nat}
variable {pc : Nat} {ls : Array Slot} {rest : List Value} {b L : Nat} {xs : Nat → Int32} {D Dx : va_G} {cI cG cH : ClassId} {tx : List (ClassId × FieldType)} {ax ay : vgN → Nat} {t o k : Nat} {v u : jN}
variable {tm : Nat} {hr tv : Int32}
theorem jWouldN_d (v : jN) (c r : Int32) (n : Nat) : jBelv (jMs (jAddS v 0 c r) n) - jBelv (jMs v n) = jWouldN v c r n := rfl
theorem kl_end (C : lC p s m args c b L xs D Dx cI cG cH tx ax ay t o) (h : lH s D Dx tx ax ay b t o k v v H locs) (hJ : jJ v tm) (hk : k < 880) (htm : tm + 12 ≤ 9999) (hl : lv_has ls 21 [(5, .int hr), (4, .ref (ax (0, 0, 0))), (3, .ref o), (2, .ref t), (1, .int tv), (0, .ref b)]) (hcc : ck ≤ 600086) (hcs : cn ≤ 7301442)
    (kk : ∀ (H1 : Heap) (locs1 : List Loc) (ls1 : Array Slot), va_S (fun q => s.heap.size ≤ q) s.heap H1 locs1 → lv_has ls1 21 [(1, .int tv), (0, .ref b)] → W p l e room_1 s m args below meth c H1 locs1 ck cn Q (F0 m 539 ls1 [])) : W p l e room_1 s m args below meth c H locs ck cn Q (F0 m 448 ls []) := by
  have C9 := C
  obtain ⟨⟨hx, hcb, hml, hown, hts⟩, ⟨-, -, -⟩, ⟨htx, hU, hUo⟩, -⟩ := C9
  refine lv_aload_n hx hcb dw_448 rfl (lv_at hl 3 rfl) ?_
  refine lv_bipush (v := nI 16) hx hcb dw_449 (by decide) ?_
  refine ld_draw (N := 16) C h (by omega) (by decide) dw_451 (by decide) hcc hcs hl.1 (fun H1 locs1 h1 => ?_)
  obtain ⟨jc, hjc, ejc⟩ := jDr_in xs L (k) (N := 16) (by decide) (by decide)
  rw [ejc]
  refine lv_istore (lv' := [(6, .int (nI jc)), (5, .int hr), (4, .ref (ax (0, 0, 0))), (3, .ref o), (2, .ref t), (1, .int tv), (0, .ref b)]) hx hcb dw_454 hl (by decide) rfl (fun ls2 hl2 => ?_)
  refine lv_aload_n hx hcb dw_456 rfl (lv_at hl2 4 rfl) ?_
  refine lv_iconst (v := nI 4) hx hcb dw_457 rfl ?_
  refine ld_draw (N := 4) C h1 (by omega) (by decide) dw_458 (by decide) hcc hcs hl2.1 (fun H3 locs3 h3 => ?_)
  obtain ⟨jr, hjr, ejr⟩ := jDr_in xs L (k + 1) (N := 4) (by decide) (by decide)
  rw [ejr]
  refine lv_istore (lv' := [(7, .int (nI jr)), (6, .int (nI jc)), (5, .int hr), (4, .ref (ax (0, 0, 0))), (3, .ref o), (2, .ref t), (1, .int tv), (0, .ref b)]) hx hcb dw_461 hl2 (by decide) rfl (fun ls4 hl4 => ?_)
  refine lv_iconst (v := nI 3) hx hcb dw_463 rfl ?_
  refine lv_aload_n hx hcb dw_464 rfl (lv_at hl4 5 rfl) ?_
  refine lv_bipush (v := nI 9) hx hcb dw_465 (by decide) ?_
  refine ld_draw (N := 9) C h3 (by omega) (by decide) dw_467 (show (1 + 0 : Nat) ≤ 8 by decide) hcc hcs hl4.1 (fun H5 locs5 h5 => ?_)
  obtain ⟨jn, hjn, ejn⟩ := jDr_in xs L (k + 1 + 1) (N := 9) (by decide) (by decide)
  rw [ejn]
  refine lv_iadd hx hcb dw_470 ?_
  rw [nI_add]
  have hn9 : 1 ≤ 3 + jn ∧ 3 + jn ≤ 60 := by omega
  have hn8 : 3 + jn ≤ 12 := by omega
  obtain ⟨n, hn⟩ : ∃ n, n = 3 + jn := ⟨_, rfl⟩
  rw [← hn] at hn9 hn8 ⊢
  have hr9 : ¬ nI jr < 0 ∧ nI jr ≤ 3 := ⟨nI_nlt (a := jr) (b := 0) (by omega) (by omega), nI_le (b := 3) (by omega) (by decide)⟩
  have hc9 : vp_in (nI jc) 16 := vp_in_nI hjc (by decide)
  have hI1 : jInv (jAddS v 0 (nI jc) (nI jr)) tm := hJ.1.1.addS (Or.inl rfl) (by rw [hJ.1.2.2]; decide)
  have hp1 : jIp (jMs (jAddS v 0 (nI jc) (nI jr)) n) 0 := ⟨(hI1.ms n).1, (jMs_keep _ n).gc.trans ((jAddS_gc v _ _).trans hJ.1.2.1)⟩
  have hp2 : jIp (jMs v n) 0 := ⟨(hJ.1.1.ms n).1, (jMs_keep _ n).gc.trans hJ.1.2.1⟩
  refine lv_istore (lv' := [(8, .int (nI n)), (7, .int (nI jr)), (6, .int (nI jc)), (5, .int hr), (4, .ref (ax (0, 0, 0))), (3, .ref o), (2, .ref t), (1, .int tv), (0, .ref b)]) hx hcb dw_471 hl4 (by decide) rfl (fun ls6 hl6 => ?_)
  refine lv_aload hx hcb dw_473 (lv_at hl6 4 rfl) ?_
  refine lv_iload hx hcb dw_475 (lv_at hl6 2 rfl) ?_
  refine lv_iload hx hcb dw_477 (lv_at hl6 1 rfl) ?_
  refine lv_iload hx hcb dw_479 (lv_at hl6 0 rfl) ?_
  refine ld_x (rest := []) (as := [.inl (.int (nI jc)), .inl (.int (nI jr)), .inl (.int (nI n))]) C h5 c_X5_sirenWould (lS_would hJ.1 hc9 hr9 hn9).r dw_481 q_368 q_482 q_370 q_371 (kn := 3) (by decide +kernel) rfl (List.forall_mem_cons.mpr ⟨trivial, List.forall_mem_cons.mpr ⟨trivial, List.forall_mem_cons.mpr ⟨trivial, fun _ h => nomatch h⟩⟩⟩) (by decide) (by decide) hcc hcs hl6.1 (fun H7 locs7 h7 => ?_)
  refine lv_istore (lv' := [(9, .int (jWouldN v (nI jc) (nI jr) n)), (8, .int (nI n)), (7, .int (nI jr)), (6, .int (nI jc)), (5, .int hr), (4, .ref (ax (0, 0, 0))), (3, .ref o), (2, .ref t), (1, .int tv), (0, .ref b)]) hx hcb dw_484 hl6 (by decide) rfl (fun ls8 hl8 => ?_)
  refine lv_aload hx hcb dw_486 (lv_at hl8 5 rfl) ?_
  refine lv_iload hx hcb dw_488 (lv_at hl8 3 rfl) ?_
  refine lv_iload hx hcb dw_490 (lv_at hl8 2 rfl) ?_
  refine ld_x (rest := []) (as := [.inl (.int (nI jc)), .inl (.int (nI jr))]) C h7 c_X5_siren (lS_siren hJ.1 hc9 hr9).r dw_492 q_390 q_483 q_392 q_393 (kn := 2) (by decide +kernel) rfl (List.forall_mem_cons.mpr ⟨trivial, List.forall_mem_cons.mpr ⟨trivial, fun _ h => nomatch h⟩⟩) (by decide) (by decide) hcc hcs hl8.1 (fun H9 locs9 h9 => ?_)
  refine lv_iconst (v := nI 2) hx hcb dw_495 rfl ?_
  refine lv_icmp_eq (tgt := 501) hx hcb dw_496 (by decide) (fun _ => ?_) (fun y => absurd (by decide) y)
  refine lv_aload hx hcb dw_501 (lv_at hl8 5 rfl) ?_
  refine lv_iload hx hcb dw_503 (lv_at hl8 1 rfl) ?_
  refine ld_x (rest := []) (as := [.inl (.int (nI n))]) C h9 c_X5_pass (lS_pass hI1 hn9 (by omega)).r dw_505 q_473 q_474 q_475 q_476 (kn := 1) (by decide +kernel) rfl (List.forall_mem_cons.mpr ⟨trivial, fun _ h => nomatch h⟩) (by decide) (by decide) hcc hcs hl8.1 (fun H10 locs10 h10 => ?_)
  refine lv_pop hx hcb dw_508 rfl ?_
  refine lv_aload_n hx hcb dw_509 rfl (lv_at hl8 6 rfl) ?_
  refine ld_get C h10 dw_510 ?_
  refine lv_iload hx hcb dw_513 (lv_at hl8 1 rfl) ?_
  refine ld_y (rest := []) (as := [.inl (.int (nI n))]) C h10 c_X5_pass (lS_pass hJ.1.1 hn9 (by omega)).r dw_515 q_473 q_474 q_475 q_476 (kn := 1) (by decide +kernel) rfl (List.forall_mem_cons.mpr ⟨trivial, fun _ h => nomatch h⟩) (by decide) (by decide) hcc hcs hl8.1 (fun H11 locs11 h11 => ?_)
  refine lv_pop hx hcb dw_518 rfl ?_
  refine lv_aload hx hcb dw_519 (lv_at hl8 5 rfl) ?_
  refine ld_xs (rest := []) (As := []) C h11 (lz_people l Dx tx ax htx hU.2.2.2.2 hp1) dw_521 q_484 q_485 q_486 (kn := 1) (by decide +kernel) rfl (by decide) (by decide) hcc hcs hl8.1 (fun H12 locs12 h12 => ?_)
  refine lv_aload_n hx hcb dw_524 rfl (lv_at hl8 6 rfl) ?_
  refine ld_get C h12 dw_525 ?_
  refine ld_ys (rest := [.int (jBelv (jMs (jAddS v 0 (nI jc) (nI jr)) n))]) (As := []) C h12 (lz_people l Dx tx ay htx hUo.2.2.2.2 hp2) dw_528 q_484 q_485 q_486 (kn := 1) (by decide +kernel) rfl (by decide) (show (1 + 0 : Nat) ≤ 8 by decide) hcc hcs hl8.1 (fun H13 locs13 h13 => ?_)
  refine lv_isub hx hcb dw_531 ?_
  refine lv_iload hx hcb dw_532 (lv_at hl8 0 rfl) ?_
  refine lv_icmp_eq (tgt := 539) hx hcb dw_534 (by decide) (fun _ => ?_) (fun y => absurd (jWouldN_d v (nI jc) (nI jr) n) y)
  have hl14 : lv_has _ 21 [(1, .int tv), (0, .ref b)] := lv_sub hl8 [8, 9] rfl
  exact kk _ _ _ h13.2.2.2.2 hl14
end LK5
