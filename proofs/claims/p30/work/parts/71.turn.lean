-- words of the tables, and what stands at each place of the methods' code (laid by program)
theorem q_477 : Cond.code yX5_digest cX5_digest 5 (some .long) ∈ ww_tb := by decide +kernel
theorem q_478 : Cond.methodLink RL 31 yX5_digest ∈ ww_tb := by decide +kernel
theorem q_479 : Cond.instanceMethod yX5_digest ∈ ww_tb := by decide +kernel
theorem q_480 : Cond.selects RX5 yX5_digest yX5_digest ∈ ww_tb := by decide +kernel
theorem q_481 : Cond.methodLink RL 35 yX5_safeIn ∈ ww_tb := by decide +kernel
theorem q_482 : Cond.methodLink RL 39 yX5_sirenWould ∈ ww_tb := by decide +kernel
/-! a turn of the law's inner loop -/
section LK4
variable {p : Program} {l : Launch} {e : Env} {s : State} {m : MethodId} {args : Array Value} {below : List Frame} {meth : Method} {c : Code} {H : Heap} {locs : List Loc} {Q : State → Prop} {ck cn : Nat}
variable {pc : Nat} {ls : Array Slot} {rest : List Value} {b L : Nat} {xs : Nat → Int32} {D Dx : va_G} {cI cG cH : ClassId} {tx : List (ClassId × FieldType)} {ax ay : vgN → Nat} {t o k : Nat} {v u : jN}
variable {tm i : Nat} {hr tv : Int32}
theorem lq_cmp0 (x : Int64) : lg_cmp x x = 0 := by simp [lg_cmp]
theorem kl_in (C : lC p s m args c b L xs D Dx cI cG cH tx ax ay t o) (h : lH s D Dx tx ax ay b t o k v v H locs) (hJ : jJ v tm) (hk : k < 860) (htm : tm + 9 ≤ 9999) (hl : lv_has ls 21 [(6, .int (nI i)), (5, .int hr), (4, .ref (ax (0, 0, 0))), (3, .ref o), (2, .ref t), (1, .int tv), (0, .ref b)]) (hcc : ck ≤ 600086) (hcs : cn ≤ 7301442)
    (kk : ∀ (H1 : Heap) (locs1 : List Loc) (ls1 : Array Slot) (v1 : jN) (tm1 k1 : Nat), lH s D Dx tx ax ay b t o k1 v1 v1 H1 locs1 → jJ v1 tm1 → tm1 ≤ tm + 9 → k1 ≤ k + 7 → lv_has ls1 21 [(6, .int (nI i)), (5, .int hr), (4, .ref (ax (0, 0, 0))), (3, .ref o), (2, .ref t), (1, .int tv), (0, .ref b)] → W p l e room_1 s m args below meth c H1 locs1 ck cn Q (F0 m 442 ls1 [])) : W p l e room_1 s m args below meth c H locs ck cn Q (F0 m 102 ls []) := by
  have C9 := C
  obtain ⟨⟨hx, hcb, hml, hown, hts⟩, ⟨-, -, -⟩, ⟨htx, hU, hUo⟩, -⟩ := C9
  refine lv_aload hx hcb dw_102 (lv_at hl 2 rfl) ?_
  refine ld_x (rest := []) (as := []) C h d_X5_digest (lR_digest hJ.1) dw_104 q_477 q_478 q_479 q_480 (kn := 0) (by decide +kernel) rfl (fun _ h => nomatch h) (by decide) (by decide) hcc hcs hl.1 (fun H1 locs1 h1 => ?_)
  refine lv_lstore (lv' := [(7, .long (jDig v)), (6, .int (nI i)), (5, .int hr), (4, .ref (ax (0, 0, 0))), (3, .ref o), (2, .ref t), (1, .int tv), (0, .ref b)]) hx hcb dw_107 hl (by decide) rfl (fun ls2 hl2 => ?_)
  refine lv_lload hx hcb dw_109 (lv_at hl2 0 rfl) ?_
  refine lv_aload_n hx hcb dw_111 rfl (lv_at hl2 4 rfl) ?_
  refine ld_get C h1 dw_112 ?_
  refine ld_y (rest := [.long (jDig v)]) (as := []) C h1 d_X5_digest (lR_digest hJ.1) dw_115 q_477 q_478 q_479 q_480 (kn := 0) (by decide +kernel) rfl (fun _ h => nomatch h) (by decide) (show (2 + 0 : Nat) ≤ 8 by decide) hcc hcs hl2.1 (fun H3 locs3 h3 => ?_)
  refine W.lcmp hx hcb dw_118 ?_
  rw [lq_cmp0]
  refine lv_if_eq (tgt := 124) hx hcb dw_119 (by decide) (fun _ => ?_) (fun y => absurd rfl y)
  refine lv_aload_n hx hcb dw_124 rfl (lv_at hl2 5 rfl) ?_
  refine lv_iconst (v := nI 5) hx hcb dw_125 rfl ?_
  refine ld_draw (N := 5) C h3 (by omega) (by decide) dw_126 (by decide) hcc hcs hl2.1 (fun H4 locs4 h4 => ?_)
  obtain ⟨g, hg, eg⟩ := jDr_in xs L (k) (N := 5) (by decide) (by decide)
  rw [eg]
  refine lv_istore (lv' := [(9, .int (nI g)), (7, .long (jDig v)), (6, .int (nI i)), (5, .int hr), (4, .ref (ax (0, 0, 0))), (3, .ref o), (2, .ref t), (1, .int tv), (0, .ref b)]) hx hcb dw_129 hl2 (by decide) rfl (fun ls5 hl5 => ?_)
  refine lv_iconst (v := nI 1) hx hcb dw_131 rfl ?_
  refine lv_aload_n hx hcb dw_132 rfl (lv_at hl5 6 rfl) ?_
  refine lv_bipush (v := nI 9) hx hcb dw_133 (by decide) ?_
  refine ld_draw (N := 9) C h4 (by omega) (by decide) dw_135 (show (1 + 0 : Nat) ≤ 8 by decide) hcc hcs hl5.1 (fun H6 locs6 h6 => ?_)
  obtain ⟨jn, hjn, ejn⟩ := jDr_in xs L (k + 1) (N := 9) (by decide) (by decide)
  rw [ejn]
  refine lv_iadd hx hcb dw_138 ?_
  rw [nI_add]
  have hn9 : 1 ≤ 1 + jn ∧ 1 + jn ≤ 60 := by omega
  obtain ⟨n, hn⟩ : ∃ n, n = 1 + jn := ⟨_, rfl⟩
  rw [← hn] at hn9 ⊢
  refine lv_istore (lv' := [(10, .int (nI n)), (9, .int (nI g)), (7, .long (jDig v)), (6, .int (nI i)), (5, .int hr), (4, .ref (ax (0, 0, 0))), (3, .ref o), (2, .ref t), (1, .int tv), (0, .ref b)]) hx hcb dw_139 hl5 (by decide) rfl (fun ls7 hl7 => ?_)
  refine lv_aload hx hcb dw_141 (lv_at hl7 5 rfl) ?_
  refine lv_iload hx hcb dw_143 (lv_at hl7 1 rfl) ?_
  refine lv_iload hx hcb dw_145 (lv_at hl7 0 rfl) ?_
  refine ld_x (rest := []) (as := [.inl (.int (nI g)), .inl (.int (nI n))]) C h6 c_X5_safeIn (lS_safeIn hJ.1 hg hn9).r dw_147 q_348 q_481 q_350 q_351 (kn := 2) (by decide +kernel) rfl (List.forall_mem_cons.mpr ⟨trivial, List.forall_mem_cons.mpr ⟨trivial, fun _ h => nomatch h⟩⟩) (by decide) (by decide) hcc hcs hl7.1 (fun H8 locs8 h8 => ?_)
  refine lv_istore (lv' := [(11, .int (jSafeN v g n)), (10, .int (nI n)), (9, .int (nI g)), (7, .long (jDig v)), (6, .int (nI i)), (5, .int hr), (4, .ref (ax (0, 0, 0))), (3, .ref o), (2, .ref t), (1, .int tv), (0, .ref b)]) hx hcb dw_150 hl7 (by decide) rfl (fun ls9 hl9 => ?_)
  refine lv_aload hx hcb dw_152 (lv_at hl9 6 rfl) ?_
  refine lv_aload_n hx hcb dw_154 rfl (lv_at hl9 8 rfl) ?_
  refine lv_bipush (v := nI 16) hx hcb dw_155 (by decide) ?_
  refine ld_draw (N := 16) C h8 (by omega) (by decide) dw_157 (show (1 + 0 : Nat) ≤ 8 by decide) hcc hcs hl9.1 (fun H10 locs10 h10 => ?_)
  obtain ⟨jc, hjc, ejc⟩ := jDr_in xs L (k + 1 + 1) (N := 16) (by decide) (by decide)
  rw [ejc]
  refine lv_aload_n hx hcb dw_160 rfl (lv_at hl9 8 rfl) ?_
  refine lv_iconst (v := nI 4) hx hcb dw_161 rfl ?_
  refine ld_draw (N := 4) C h10 (by omega) (by decide) dw_162 (show (1 + 1 + 0 : Nat) ≤ 8 by decide) hcc hcs hl9.1 (fun H11 locs11 h11 => ?_)
  obtain ⟨jr, hjr, ejr⟩ := jDr_in xs L (k + 1 + 1 + 1) (N := 4) (by decide) (by decide)
  rw [ejr]
  have hr9 : ¬ nI jr < 0 ∧ nI jr ≤ 3 := ⟨nI_nlt (a := jr) (b := 0) (by omega) (by omega), nI_le (b := 3) (by omega) (by decide)⟩
  refine lv_iload hx hcb dw_165 (lv_at hl9 1 rfl) ?_
  refine ld_x (rest := []) (as := [.inl (.int (nI jc)), .inl (.int (nI jr)), .inl (.int (nI n))]) C h11 c_X5_sirenWould (lS_would hJ.1 (vp_in_nI hjc (by decide)) hr9 hn9).r dw_167 q_368 q_482 q_370 q_371 (kn := 3) (by decide +kernel) rfl (List.forall_mem_cons.mpr ⟨trivial, List.forall_mem_cons.mpr ⟨trivial, List.forall_mem_cons.mpr ⟨trivial, fun _ h => nomatch h⟩⟩⟩) (by decide) (by decide) hcc hcs hl9.1 (fun H12 locs12 h12 => ?_)
  refine lv_istore (lv' := [(12, .int (jWouldN v (nI jc) (nI jr) n)), (11, .int (jSafeN v g n)), (10, .int (nI n)), (9, .int (nI g)), (7, .long (jDig v)), (6, .int (nI i)), (5, .int hr), (4, .ref (ax (0, 0, 0))), (3, .ref o), (2, .ref t), (1, .int tv), (0, .ref b)]) hx hcb dw_170 hl9 (by decide) rfl (fun ls13 hl13 => ?_)
  refine lv_aload hx hcb dw_172 (lv_at hl13 7 rfl) ?_
  refine ld_x (rest := []) (as := []) C h12 d_X5_digest (lR_digest hJ.1) dw_174 q_477 q_478 q_479 q_480 (kn := 0) (by decide +kernel) rfl (fun _ h => nomatch h) (by decide) (by decide) hcc hcs hl13.1 (fun H14 locs14 h14 => ?_)
  refine lv_lload hx hcb dw_177 (lv_at hl13 4 rfl) ?_
  refine W.lcmp hx hcb dw_179 ?_
  rw [lq_cmp0]
  refine lv_if_ne (tgt := 201) hx hcb dw_180 (by decide) (fun y => absurd rfl y) (fun _ => ?_)
  refine lv_iload hx hcb dw_183 (lv_at hl13 1 rfl) ?_
  refine lv_iload hx hcb dw_185 (lv_at hl13 2 rfl) ?_
  refine lv_icmp_gt (tgt := 201) hx hcb dw_187 (by decide) (fun y => absurd y (Int32.not_lt.mpr (jSafeN_le hn9.2))) (fun _ => ?_)
  refine lv_iload hx hcb dw_190 (lv_at hl13 0 rfl) ?_
  refine lv_aload hx hcb dw_192 (lv_at hl13 7 rfl) ?_
  refine lv_iconst (v := nI 3) hx hcb dw_194 rfl ?_
  refine ld_x (rest := [.int (jWouldN v (nI jc) (nI jr) n)]) (as := [.inl (.int (nI 3))]) C h14 c_X5_many (lS_many hJ.1 (x := nI 3) (vp_in_nI (by decide) (by decide))).r dw_195 q_340 q_463 q_342 q_343 (kn := 1) (by decide +kernel) rfl (List.forall_mem_cons.mpr ⟨trivial, fun _ h => nomatch h⟩) (by decide) (show (1 + 0 : Nat) ≤ 8 by decide) hcc hcs hl13.1 (fun H15 locs15 h15 => ?_)
  refine lv_icmp_le (tgt := 203) hx hcb dw_198 (by decide) (fun _ => ?_) (fun y => absurd (jWouldN_le hJ.1.1.1 hJ.1.1.pp (nI jc) (nI jr) n) y)
  refine lv_aload_n hx hcb dw_203 rfl (lv_at hl13 9 rfl) ?_
  refine lv_iconst (v := nI 4) hx hcb dw_204 rfl ?_
  refine ld_draw (N := 4) C h15 (by omega) (by decide) dw_205 (by decide) hcc hcs hl13.1 (fun H16 locs16 h16 => ?_)
  obtain ⟨jw, hjw, ejw⟩ := jDr_in xs L (k + 1 + 1 + 1 + 1) (N := 4) (by decide) (by decide)
  rw [ejw]
  have hl17 : lv_has _ 21 [(11, .int (jSafeN v g n)), (10, .int (nI n)), (9, .int (nI g)), (6, .int (nI i)), (5, .int hr), (4, .ref (ax (0, 0, 0))), (3, .ref o), (2, .ref t), (1, .int tv), (0, .ref b)] := lv_sub hl13 [1, 2, 3, 5, 6, 7, 8, 9, 10, 11] rfl
  have hjw4 : jw = 0 ∨ jw = 1 ∨ jw = 2 ∨ jw = 3 := by omega
  rcases hjw4 with rfl | rfl | rfl | rfl
  · exact lv_lookup (tgt := 236) hx hcb dw_208 (by decide) rfl (by decide) (kl_0 C h16 hJ (by omega) hl17 hcc hcs (fun H9 locs9 ls9 v9 tm9 k9 h9 j9 t9 q9 l9 => kk H9 locs9 ls9 v9 tm9 k9 h9 j9 (by omega) (by omega) l9))
  · exact lv_lookup (tgt := 290) hx hcb dw_208 (by decide) rfl (by decide) (kl_1 C h16 hJ (by omega) hl17 hcc hcs (fun H9 locs9 ls9 v9 tm9 k9 h9 j9 t9 q9 l9 => kk H9 locs9 ls9 v9 tm9 k9 h9 j9 (by omega) (by omega) l9))
  · exact lv_lookup (tgt := 331) hx hcb dw_208 (by decide) rfl (by decide) (kl_2 C h16 hJ (by omega) hl17 hcc hcs hg hn9 rfl (by omega) (fun H9 locs9 ls9 v9 tm9 k9 h9 j9 t9 q9 l9 => kk H9 locs9 ls9 v9 tm9 k9 h9 j9 (by omega) (by omega) l9))
  · exact lv_lookup (tgt := 331) hx hcb dw_208 (by decide) rfl (by decide) (kl_2 C h16 hJ (by omega) hl17 hcc hcs hg hn9 rfl (by omega) (fun H9 locs9 ls9 v9 tm9 k9 h9 j9 t9 q9 l9 => kk H9 locs9 ls9 v9 tm9 k9 h9 j9 (by omega) (by omega) l9))
/-- .. and the inner loop itself -/
theorem kl_loop : ∀ (q j : Nat), q + j = 8 → ∀ (H : Heap) (locs : List Loc) (ls : Array Slot) (v : jN) (tm k : Nat), lC p s m args c b L xs D Dx cI cG cH tx ax ay t o → lH s D Dx tx ax ay b t o k v v H locs → jJ v tm → k + 7 * q < 860 → tm + 9 * q ≤ 9980 → lv_has ls 21 [(6, .int (nI j)), (5, .int hr), (4, .ref (ax (0, 0, 0))), (3, .ref o), (2, .ref t), (1, .int tv), (0, .ref b)] → ck ≤ 600086 → cn ≤ 7301442 →
    (∀ (H1 : Heap) (locs1 : List Loc) (ls1 : Array Slot) (v1 : jN) (tm1 k1 : Nat), lH s D Dx tx ax ay b t o k1 v1 v1 H1 locs1 → jJ v1 tm1 → tm1 ≤ tm + 9 * q → k1 ≤ k + 7 * q → lv_has ls1 21 [(5, .int hr), (4, .ref (ax (0, 0, 0))), (3, .ref o), (2, .ref t), (1, .int tv), (0, .ref b)] → W p l e room_1 s m args below meth c H1 locs1 ck cn Q (F0 m 448 ls1 [])) → W p l e room_1 s m args below meth c H locs ck cn Q (F0 m 95 ls []) := by
  intro q
  induction q with
  | zero =>
    intro j hj H locs ls v tm k C h hJ hk htm hl hcc hcs kk
    have ej : j = 8 := by omega
    subst ej
    have C9 := C
    obtain ⟨⟨hx, hcb, hml, hown, hts⟩, -⟩ := C9
    refine lv_iload hx hcb dw_95 (lv_at hl 0 rfl) ?_
    refine lv_bipush (v := nI 8) hx hcb dw_97 (by decide) ?_
    refine lv_icmp_ge (tgt := 448) hx hcb dw_99 (by decide) (fun _ => ?_) (fun y => absurd (by decide) y)
    exact kk _ _ _ v tm k h hJ (by omega) (by omega) (lv_sub hl [1, 2, 3, 4, 5, 6] rfl)
  | succ q ih =>
    intro j hj H locs ls v tm k C h hJ hk htm hl hcc hcs kk
    have C9 := C
    obtain ⟨⟨hx, hcb, hml, hown, hts⟩, -⟩ := C9
    refine lv_iload hx hcb dw_95 (lv_at hl 0 rfl) ?_
    refine lv_bipush (v := nI 8) hx hcb dw_97 (by decide) ?_
    refine lv_icmp_ge (tgt := 448) hx hcb dw_99 (by decide) (fun y => absurd y (nI_ge (a := j) (b := 8) (by omega) (by decide))) (fun _ => ?_)
    refine kl_in C h hJ (by omega) (by omega) hl hcc hcs (fun H1 locs1 ls1 v1 tm1 k1 h1 hJ1 ht1 hk1 hl1 => ?_)
    refine lv_iinc (k := 0) (v := nI (j + 1)) (lv' := [(6, .int (nI (j + 1))), (5, .int hr), (4, .ref (ax (0, 0, 0))), (3, .ref o), (2, .ref t), (1, .int tv), (0, .ref b)]) hx hcb dw_442 hl1 rfl (nI_succ j).symm (by decide) rfl (fun ls2 hl2 => ?_)
    refine lv_goto (tgt := 95) hx hcb dw_445 (by decide) ?_
    exact ih (j + 1) (by omega) H1 locs1 ls2 v1 tm1 k1 C h1 hJ1 (by omega) (by omega) hl2 hcc hcs (fun H9 locs9 ls9 v9 tm9 k9 h9 j9 t9 q9 l9 => kk H9 locs9 ls9 v9 tm9 k9 h9 j9 (by omega) (by omega) l9)
end LK4
