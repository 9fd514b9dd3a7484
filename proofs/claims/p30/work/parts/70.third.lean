-- words of the tables, and what stands at each place of the methods' code (laid by program)
theorem q_473 : Cond.code yX5_pass cX5_pass 2 (some .int) ∈ ww_tb := by decide +kernel
theorem q_474 : Cond.methodLink RL 59 yX5_pass ∈ ww_tb := by decide +kernel
theorem q_475 : Cond.instanceMethod yX5_pass ∈ ww_tb := by decide +kernel
theorem q_476 : Cond.selects RX5 yX5_pass yX5_pass ∈ ww_tb := by decide +kernel
/-! the law's third case: minutes one by one, and together -/
section LK3
variable {p : Program} {l : Launch} {e : Env} {s : State} {m : MethodId} {args : Array Value} {below : List Frame} {meth : Method} {c : Code} {H : Heap} {locs : List Loc} {Q : State → Prop} {ck cn : Nat}
variable {pc : Nat} {ls : Array Slot} {rest : List Value} {b L : Nat} {xs : Nat → Int32} {D Dx : va_G} {cI cG cH : ClassId} {tx : List (ClassId × FieldType)} {ax ay : vgN → Nat} {t o k : Nat} {v u : jN}
variable {tm n g i : Nat} {sf hr tv : Int32}
theorem jOfG_5 (v : jN) (g : Nat) : jOfG v g (nI 5) = v 9 g 6 := rfl
set_option maxHeartbeats 1000000 in
theorem kl_2 (C : lC p s m args c b L xs D Dx cI cG cH tx ax ay t o) (h : lH s D Dx tx ax ay b t o k v v H locs) (hJ : jJ v tm) (hk : k < 880) (hl : lv_has ls 21 [(11, .int sf), (10, .int (nI n)), (9, .int (nI g)), (6, .int (nI i)), (5, .int hr), (4, .ref (ax (0, 0, 0))), (3, .ref o), (2, .ref t), (1, .int tv), (0, .ref b)]) (hcc : ck ≤ 600086) (hcs : cn ≤ 7301442) (hg : g < 5) (hn : 1 ≤ n ∧ n ≤ 60) (hsf : sf = jSafeN v g n) (htm : tm + n ≤ 9999)
    (kk : ∀ (H1 : Heap) (locs1 : List Loc) (ls1 : Array Slot) (v1 : jN) (tm1 k1 : Nat), lH s D Dx tx ax ay b t o k1 v1 v1 H1 locs1 → jJ v1 tm1 → tm1 ≤ tm + n → k1 ≤ k + 2 → lv_has ls1 21 [(6, .int (nI i)), (5, .int hr), (4, .ref (ax (0, 0, 0))), (3, .ref o), (2, .ref t), (1, .int tv), (0, .ref b)] → W p l e room_1 s m args below meth c H1 locs1 ck cn Q (F0 m 442 ls1 [])) : W p l e room_1 s m args below meth c H locs ck cn Q (F0 m 331 ls []) := by
  have C9 := C
  obtain ⟨⟨hx, hcb, hml, hown, hts⟩, ⟨-, -, -⟩, ⟨htx, hU, hUo⟩, -⟩ := C9
  refine lv_aload hx hcb dw_331 (lv_at hl 5 rfl) ?_
  refine lv_iload hx hcb dw_333 (lv_at hl 2 rfl) ?_
  refine lv_iconst (v := nI 5) hx hcb dw_335 rfl ?_
  refine ld_x (rest := []) (as := [.inl (.int (nI g)), .inl (.int (nI 5))]) C h c_X5_ofGroup (lS_ofGroup hJ.1 hg (x := nI 5) (vp_in_nI (by decide) (by decide))).r dw_336 q_344 q_464 q_346 q_347 (kn := 2) (by decide +kernel) rfl (List.forall_mem_cons.mpr ⟨trivial, List.forall_mem_cons.mpr ⟨trivial, fun _ h => nomatch h⟩⟩) (by decide) (by decide) hcc hcs hl.1 (fun H1 locs1 h1 => ?_)
  rw [jOfG_5]
  have hmid : ∀ W0 : Int32, (¬ W0 = 0 ∨ (W0 = 0 ∧ ¬ jSafe v g)) → W p l e room_1 s m args below meth c H1 locs1 ck cn Q (F0 m 347 ls [.int W0]) := by
    intro W0 hW0
    refine lv_istore (lv' := [(17, .int W0), (11, .int sf), (10, .int (nI n)), (9, .int (nI g)), (6, .int (nI i)), (5, .int hr), (4, .ref (ax (0, 0, 0))), (3, .ref o), (2, .ref t), (1, .int tv), (0, .ref b)]) hx hcb dw_347 hl (by decide) rfl (fun ls2 hl2 => ?_)
    refine lv_iconst (v := nI 0) hx hcb dw_349 rfl ?_
    refine lv_istore (lv' := [(18, .int (jBs v 0)), (17, .int W0), (11, .int sf), (10, .int (nI n)), (9, .int (nI g)), (6, .int (nI i)), (5, .int hr), (4, .ref (ax (0, 0, 0))), (3, .ref o), (2, .ref t), (1, .int tv), (0, .ref b)]) hx hcb dw_350 hl2 (by decide) rfl (fun ls3 hl3 => ?_)
    refine lv_iconst (v := nI 1) hx hcb dw_352 rfl ?_
    refine lv_istore (lv' := [(19, .int (nI (0 + 1))), (18, .int (jBs v 0)), (17, .int W0), (11, .int sf), (10, .int (nI n)), (9, .int (nI g)), (6, .int (nI i)), (5, .int hr), (4, .ref (ax (0, 0, 0))), (3, .ref o), (2, .ref t), (1, .int tv), (0, .ref b)]) hx hcb dw_353 hl3 (by decide) rfl (fun ls4 hl4 => ?_)
    have loop : ∀ (q j : Nat), q + j = n → ∀ (H2 : Heap) (locs2 : List Loc) (ls2 : Array Slot), lH s D Dx tx ax ay b t o k (jMs v j) v H2 locs2 → lv_has ls2 21 [(19, .int (nI (j + 1))), (18, .int (jBs v j)), (17, .int W0), (11, .int sf), (10, .int (nI n)), (9, .int (nI g)), (6, .int (nI i)), (5, .int hr), (4, .ref (ax (0, 0, 0))), (3, .ref o), (2, .ref t), (1, .int tv), (0, .ref b)] → W p l e room_1 s m args below meth c H2 locs2 ck cn Q (F0 m 355 ls2 []) := by
      intro q
      induction q with
      | zero =>
        intro j hj H2 locs2 ls2 hh2 hl2
        have ej : j = n := by omega
        subst ej
        refine lv_iload hx hcb dw_355 (lv_at hl2 0 rfl) ?_
        refine lv_iload hx hcb dw_357 (lv_at hl2 4 rfl) ?_
        refine lv_icmp_gt (tgt := 426) hx hcb dw_359 (by decide) (fun _ => ?_) (fun y => absurd (nI_lt (a := j) (b := j + 1) (by omega) (by omega)) y)
        refine lv_aload_n hx hcb dw_426 rfl (lv_at hl2 9 rfl) ?_
        refine ld_get C hh2 dw_427 ?_
        refine lv_iload hx hcb dw_430 (lv_at hl2 4 rfl) ?_
        refine ld_y (rest := []) (as := [.inl (.int (nI j))]) C hh2 c_X5_pass (lS_pass hJ.1.1 hn htm).r dw_432 q_473 q_474 q_475 q_476 (kn := 1) (by decide +kernel) rfl (List.forall_mem_cons.mpr ⟨trivial, fun _ h => nomatch h⟩) (by decide) (by decide) hcc hcs hl2.1 (fun H21 locs21 h21 => ?_)
        refine lv_iload hx hcb dw_435 (lv_at hl2 1 rfl) ?_
        refine lv_icmp_eq (tgt := 442) hx hcb dw_437 (by decide) (fun _ => ?_) (fun y => absurd rfl y)
        have hl22 : lv_has _ 21 [(6, .int (nI i)), (5, .int hr), (4, .ref (ax (0, 0, 0))), (3, .ref o), (2, .ref t), (1, .int tv), (0, .ref b)] := lv_sub hl2 [6, 7, 8, 9, 10, 11, 12] rfl
        exact kk _ _ _ (jMs v j) (tm + j) k h21 (hJ.ms j) (by omega) (by omega) hl22
      | succ q ih =>
        intro j hj H2 locs2 ls2 hh2 hl2
        refine lv_iload hx hcb dw_355 (lv_at hl2 0 rfl) ?_
        refine lv_iload hx hcb dw_357 (lv_at hl2 4 rfl) ?_
        refine lv_icmp_gt (tgt := 426) hx hcb dw_359 (by decide) (fun y => absurd y (nI_nlt (a := n) (b := j + 1) (by omega) (by omega))) (fun _ => ?_)
        refine lv_iload hx hcb dw_362 (lv_at hl2 1 rfl) ?_
        refine lv_aload hx hcb dw_364 (lv_at hl2 8 rfl) ?_
        refine lv_iconst (v := nI 1) hx hcb dw_366 rfl ?_
        refine ld_x (rest := [.int (jBs v j)]) (as := [.inl (.int (nI 1))]) C hh2 c_X5_pass (lS_pass (n := 1) (hJ.ms j).1.1 (by decide) (by omega)).r dw_367 q_473 q_474 q_475 q_476 (kn := 1) (by decide +kernel) rfl (List.forall_mem_cons.mpr ⟨trivial, fun _ h => nomatch h⟩) (by decide) (show (1 + 0 : Nat) ≤ 8 by decide) hcc hcs hl2.1 (fun H31 locs31 h31 => ?_)
        have h31s : lH s D Dx tx ax ay b t o k (jMs v (j + 1)) v H31 locs31 := by rw [← jMs_add]; exact h31
        refine lv_iadd hx hcb dw_370 ?_
        rw [← jBs_s]
        refine lv_istore (lv' := [(18, .int (jBs v (j + 1))), (19, .int (nI (j + 1))), (17, .int W0), (11, .int sf), (10, .int (nI n)), (9, .int (nI g)), (6, .int (nI i)), (5, .int hr), (4, .ref (ax (0, 0, 0))), (3, .ref o), (2, .ref t), (1, .int tv), (0, .ref b)]) hx hcb dw_371 hl2 (by decide) rfl (fun ls32 hl32 => ?_)
        refine lv_aload hx hcb dw_373 (lv_at hl32 8 rfl) ?_
        refine lv_iload hx hcb dw_375 (lv_at hl32 5 rfl) ?_
        refine lv_iconst (v := nI 5) hx hcb dw_377 rfl ?_
        refine ld_x (rest := []) (as := [.inl (.int (nI g)), .inl (.int (nI 5))]) C h31s c_X5_ofGroup (lS_ofGroup (hJ.ms (j + 1)).1 hg (x := nI 5) (vp_in_nI (by decide) (by decide))).r dw_378 q_344 q_464 q_346 q_347 (kn := 2) (by decide +kernel) rfl (List.forall_mem_cons.mpr ⟨trivial, List.forall_mem_cons.mpr ⟨trivial, fun _ h => nomatch h⟩⟩) (by decide) (by decide) hcc hcs hl32.1 (fun H33 locs33 h33 => ?_)
        rw [jOfG_5]
        have hmid2 : ∀ I0 : Int32, ((I0 = 1 ∧ jSafe (jMs v (j + 1)) g) ∨ (I0 = 0 ∧ ¬ jSafe (jMs v (j + 1)) g)) → W p l e room_1 s m args below meth c H33 locs33 ck cn Q (F0 m 389 ls32 [.int I0]) := by
          intro I0 hI0
          refine lv_istore (lv' := [(20, .int I0), (18, .int (jBs v (j + 1))), (19, .int (nI (j + 1))), (17, .int W0), (11, .int sf), (10, .int (nI n)), (9, .int (nI g)), (6, .int (nI i)), (5, .int hr), (4, .ref (ax (0, 0, 0))), (3, .ref o), (2, .ref t), (1, .int tv), (0, .ref b)]) hx hcb dw_389 hl32 (by decide) rfl (fun ls34 hl34 => ?_)
          refine kl_chk hx hcb (lv_at hl34 3 rfl) (lv_at hl34 0 rfl) (lv_at hl34 4 rfl) (lv_at hl34 2 rfl) ?_ ?_
          · rcases hW0 with y | ⟨_, y⟩
            · exact Or.inl y
            · have hb := jSafeN_is (v := v) (g := g) (m := n) (x := j + 1) hn.2 y ⟨by omega, by omega⟩
              rw [← hsf] at hb
              rcases hI0 with ⟨e1, y1⟩ | ⟨e0, y0⟩
              · exact Or.inr (Or.inl ⟨e1, hb.mp y1⟩)
              · exact Or.inr (Or.inr ⟨e0, fun z => y0 (hb.mpr z)⟩)
          · refine lv_iinc (k := 2) (v := nI (j + 1 + 1)) (lv' := [(19, .int (nI (j + 1 + 1))), (20, .int I0), (18, .int (jBs v (j + 1))), (17, .int W0), (11, .int sf), (10, .int (nI n)), (9, .int (nI g)), (6, .int (nI i)), (5, .int hr), (4, .ref (ax (0, 0, 0))), (3, .ref o), (2, .ref t), (1, .int tv), (0, .ref b)]) hx hcb dw_420 hl34 rfl (nI_succ (j + 1)).symm (by decide) rfl (fun ls35 hl35 => ?_)
            refine lv_goto (tgt := 355) hx hcb dw_423 (by decide) ?_
            have hl99 : lv_has _ 21 [(19, .int (nI (j + 1 + 1))), (18, .int (jBs v (j + 1))), (17, .int W0), (11, .int sf), (10, .int (nI n)), (9, .int (nI g)), (6, .int (nI i)), (5, .int hr), (4, .ref (ax (0, 0, 0))), (3, .ref o), (2, .ref t), (1, .int tv), (0, .ref b)] := lv_sub hl35 [0, 2, 3, 4, 5, 6, 7, 8, 9, 10, 11, 12, 13] rfl
            exact ih (j + 1) (by omega) _ _ _ h33 hl99
        refine lv_if_lt (tgt := 388) hx hcb dw_381 (by decide) (fun z => ?_) (fun z => ?_)
        · refine lv_iconst (v := 0) hx hcb dw_388 rfl ?_
          exact hmid2 0 (Or.inr ⟨rfl, fun q => absurd z (((hJ.ms (j + 1)).2.ge g).mpr q)⟩)
        · refine lv_iconst (v := 1) hx hcb dw_384 rfl ?_
          refine lv_goto (tgt := 389) hx hcb dw_385 (by decide) ?_
          exact hmid2 1 (Or.inl ⟨rfl, ((hJ.ms (j + 1)).2.ge g).mp z⟩)
    exact loop n 0 (by omega) _ _ _ (by rw [jMs_0]; exact h1) hl4
  refine lv_if_lt (tgt := 346) hx hcb dw_339 (by decide) (fun z => ?_) (fun z => ?_)
  · refine lv_iconst (v := 0) hx hcb dw_346 rfl ?_
    exact hmid 0 (Or.inr ⟨rfl, fun q => absurd z ((hJ.2.ge g).mpr q)⟩)
  · refine lv_iconst (v := 1) hx hcb dw_342 rfl ?_
    refine lv_goto (tgt := 347) hx hcb dw_343 (by decide) ?_
    exact hmid 1 (Or.inl (by decide))
end LK3
