-- words of the tables, and what stands at each place of the methods' code (laid by program)
theorem q_496 : Cond.code yX5_until cX5_until 4 (some .int) ∈ ww_tb := by decide +kernel
theorem q_497 : Cond.methodLink RL 26 yX5_until ∈ ww_tb := by decide +kernel
theorem q_498 : Cond.instanceMethod yX5_until ∈ ww_tb := by decide +kernel
theorem q_499 : Cond.selects RX5 yX5_until yX5_until ∈ ww_tb := by decide +kernel
/-! the start of a turn of the law's outer loop -/
section LK6
variable {p : Program} {l : Launch} {e : Env} {s : State} {m : MethodId} {args : Array Value} {below : List Frame} {meth : Method} {c : Code} {H : Heap} {locs : List Loc} {Q : State → Prop} {ck cn : Nat}
variable {pc : Nat} {ls : Array Slot} {rest : List Value} {b L : Nat} {xs : Nat → Int32} {D Dx : va_G} {cI cG cH : ClassId} {tx : List (ClassId × FieldType)} {ax ay : vgN → Nat} {t o k : Nat} {v u : jN}
theorem kl_start {j : Nat} (hj : j < 3) (hx : p.tables.exec = Jvm.exec) (hcb : c.code = code) (hml : c.maxLocals = 21) (hown : s.vm.findClass RL = some m.cls) (hts : ∀ w ∈ ww_tb, w.before args s = true) (hK : tK D cI cG cH s) (hnt : vg_nw tw_nw s) (hnw : vg_nw ww_nw s) (hKx : va_K Dx ww_cl tx s) (hnx : vh_nx wh_nx s) (htx : tx.map (fun q => q.2) = ww_tyl) (hX : va_X b L xs s s.heap) (hb0 : b < s.heap.size) (hL : L < 1000) (hS : va_S (fun q => s.heap.size ≤ q) s.heap H locs) (hl : lv_has ls 21 [(1, .int (nI j)), (0, .ref b)]) (hcc0 : ck + 1 + 173 + 1 + 173 + 78 + 78 ≤ 600086) (hcs0 : cn + 15 + 1750 + 15 + 1750 + 433 + 433 ≤ 7301442)
    (kk : ∀ (t o : Nat) (ax ay : vgN → Nat) (H1 : Heap) (locs1 : List Loc) (ls1 : Array Slot) (v : jN) (k tm : Nat) (hr : Int32), lC p s m args c b L xs D Dx cI cG cH tx ax ay t o → lH s D Dx tx ax ay b t o k v v H1 locs1 → jJ v tm → tm ≤ 1400 → k ≤ 200 → lv_has ls1 21 [(6, .int (nI 0)), (5, .int hr), (4, .ref (ax (0, 0, 0))), (3, .ref o), (2, .ref t), (1, .int (nI j)), (0, .ref b)] → W p l e room_1 s m args below meth c H1 locs1 (ck + 1 + 173 + 1 + 173 + 78 + 78) (cn + 15 + 1750 + 15 + 1750 + 433 + 433) Q (F0 m 95 ls1 [])) : W p l e room_1 s m args below meth c H locs ck cn Q (F0 m 7 ls []) := by
  refine ln_new hx hcb hml hown hts hK hKx hnx htx hj hS (lv_at hl 1 rfl) (lv_at hl 0 rfl) dw_7 dw_10 dw_11 dw_12 dw_14 dw_15 dw_16 dw_18 dw_19 (by omega) (by omega) hl.1 (fun t ax hi1 Ha locsa a1 a2 a3 a4 a5 a6 a7 a8 => ?_)
  refine lv_astore_n (i := 2) (lv' := [(2, .ref t), (1, .int (nI j)), (0, .ref b)]) hx hcb dw_22 rfl hl (by decide) rfl (fun ls1 hl1 => ?_)
  refine ln_new hx hcb hml hown hts hK hKx hnx htx hj a7 (lv_at hl1 2 rfl) (lv_at hl1 1 rfl) dw_23 dw_26 dw_27 dw_28 dw_30 dw_31 dw_32 dw_34 dw_35 (by omega) (by omega) hl1.1 (fun o ay hi2 Hb locsb b1 b2 b3 b4 b5 b6 b7 b8 => ?_)
  refine lv_astore_n (i := 3) (lv' := [(3, .ref o), (2, .ref t), (1, .int (nI j)), (0, .ref b)]) hx hcb dw_38 rfl hl1 (by decide) rfl (fun ls2 hl2 => ?_)
  have hz := hS.1
  have hUx : tU D cI cG cH Dx tx ax s := ⟨hK, hnt, hnw, hKx, a5⟩
  have hUy : tU D cI cG cH Dx tx ay s := ⟨hK, hnt, hnw, hKx, b5⟩
  obtain ⟨At, hAt⟩ : ∃ At : Nat → Prop, At = fun q => q = t ∨ (hi1 ≤ q ∧ q < Ha.size) ∨ Hb.size ≤ q := ⟨_, rfl⟩
  have hWt : tW D cI cG cH At Dx tx ax t b (31 * j + 7) 0 0 0 0 wy_σ Hb := a6.mono (fun q h1 h2 => by
    rw [hAt]
    rcases h1 with h1 | h1
    · exact Or.inl h1
    · exact Or.inr (Or.inl ⟨h1, h2⟩)) (fun q h1 _ => b8 q h1)
  refine lv_aload_n hx hcb dw_39 rfl (lv_at hl2 1 rfl) ?_
  obtain ⟨gr, wa, he, sh, sm, si, ma, da, hTt⟩ := hWt.T
  refine lt_get (k := 0) (v := .ref (ax (0, 0, 0))) hx hcb hts hown hK hTt dw_40 q_449 (by decide) rfl rfl ?_
  refine lv_astore (lv' := [(4, .ref (ax (0, 0, 0))), (3, .ref o), (2, .ref t), (1, .int (nI j)), (0, .ref b)]) hx hcb dw_43 hl2 (by decide) rfl (fun ls3 hl3 => ?_)
  refine lv_aload_n hx hcb dw_45 rfl (lv_at hl3 2 rfl) ?_
  refine lv_iconst (v := 5) hx hcb dw_46 rfl ?_
  refine ln_found hx hcb hml hown hts hUx htx hWt hX hb0 hL b7 (fun q h => ?_) (fun q h => ?_) (fun n hn h => ?_) (fun n hn => ?_) (by omega) dw_47 (by omega) (by omega) hl3.1 (fun Hc locsc c1 c2 c3 c4 => ?_)
  · rw [hAt] at h
    rcases h with h | h | h
    · omega
    · omega
    · omega
  · rw [hAt]
    exact Or.inr (Or.inr h)
  · rw [hAt] at h
    have := a4 n hn
    rcases h with h | h | h
    · omega
    · omega
    · omega
  · have := a4 n hn
    omega
  refine lv_if_eq (tgt := 61) hx hcb dw_50 (by decide) (fun y => absurd y (by decide)) (fun _ => ?_)
  obtain ⟨Fq, hFq⟩ : ∃ Fq, Fq = jFound xs L (jV wy_σ 0, 31 * j + 7) := ⟨_, rfl⟩
  rw [← hFq] at c1
  have fI := jFound_I xs L (v := jV wy_σ 0) (k := 31 * j + 7) wy_inv wy_ct
  rw [← hFq] at fI
  have f6 : jS6 Fq.1 := by
    rw [hFq]
    exact jFound_j6 xs L (jV wy_σ 0, 31 * j + 7) wy_s6
  obtain ⟨Ao, hAo⟩ : ∃ Ao : Nat → Prop, Ao = fun q => q = o ∨ (hi2 ≤ q ∧ q < Hb.size) ∨ Hc.size ≤ q := ⟨_, rfl⟩
  have hWo : tW D cI cG cH Ao Dx tx ay o b (31 * j + 7) 0 0 0 0 wy_σ Hc := b6.mono (fun q h1 h2 => by
    rw [hAo]
    rcases h1 with h1 | h1
    · exact Or.inl h1
    · exact Or.inr (Or.inl ⟨h1, h2⟩)) (fun q h1 h2 => c4 q h1 (fun z => by
      have hq : o ≤ q := by
        rcases h2 with (h2 | h2) | ⟨n, hn, h2⟩
        · omega
        · omega
        · have := b4 n hn
          omega
      rcases z with z | ⟨n, hn, z⟩ | z
      · rw [hAt] at z
        rcases z with z | z | z
        · omega
        · omega
        · omega
      · have := a4 n hn
        omega
      · omega))
  refine lv_aload_n hx hcb dw_53 rfl (lv_at hl3 1 rfl) ?_
  refine lv_iconst (v := 5) hx hcb dw_54 rfl ?_
  refine ln_found hx hcb hml hown hts hUy htx hWo hX hb0 hL c2 (fun q h => ?_) (fun q h => ?_) (fun n hn h => ?_) (fun n hn => ?_) (by omega) dw_55 (by omega) (by omega) hl3.1 (fun Hd locsd d1 d2 d3 d4 => ?_)
  · rw [hAo] at h
    rcases h with h | h | h
    · omega
    · omega
    · omega
  · rw [hAo]
    exact Or.inr (Or.inr h)
  · rw [hAo] at h
    have := b4 n hn
    rcases h with h | h | h
    · omega
    · omega
    · omega
  · have := b4 n hn
    omega
  refine lv_if_ne (tgt := 63) hx hcb dw_58 (by decide) (fun _ => ?_) (fun y => absurd y (by decide))
  rw [← hFq] at d1
  have hlow : ∀ q, q < Ha.size → q ≠ o → q < hi2 → ¬ tF Ao ay Hc.size q := fun q h1 h2 h3 z => by
    rcases z with z | ⟨n, hn, z⟩ | z
    · rw [hAo] at z
      rcases z with z | z | z
      · omega
      · omega
      · omega
    · have := b4 n hn
      omega
    · omega
  have hv0 : lV (jV wy_σ 0) wy_σ := ⟨rfl, wy_pl 1 (by decide)⟩
  have C : lC p s m args c b L xs D Dx cI cG cH tx ax ay t o := by
    refine ⟨⟨hx, hcb, hml, hown, hts⟩, ⟨hX, hb0, hL⟩, ⟨htx, hUx, hUy⟩, ⟨by omega, by omega, by omega⟩, fun n hn => ?_, fun n hn => ?_, fun n hn n' hn' => ?_⟩
    · have := a4 n hn
      exact ⟨by omega, by omega, by omega⟩
    · have := b4 n hn
      exact ⟨by omega, by omega, by omega⟩
    · have h1 := a4 n hn
      have h2 := b4 n' hn'
      omega
  have htc := c1.a_lt
  have h : lH s D Dx tx ax ay b t o Fq.2 Fq.1 Fq.1 Hd locsd := by
    refine ⟨c1.T.at (d4 t htc (hlow t (by omega) (by omega) (by omega))), ⟨_, d1.T⟩, ⟨_, lV.put0 hv0, lq_kw c1.2 (B := fun q => tF Ao ay Hc.size q) (fun n hn z => ?_) (fun q h1 h2 => d4 q h1 h2)⟩, ⟨_, lV.put0 hv0, d1.2⟩, d2⟩
    have := a4 n hn
    exact hlow (ax n) (by omega) (by omega) (by omega) z
  have hk : Fq.2 < 200 := by
    have := fI.2.2
    omega
  obtain ⟨v, hv⟩ : ∃ v, v = Fq.1 := ⟨_, rfl⟩
  obtain ⟨k, hkk⟩ : ∃ k, k = Fq.2 := ⟨_, rfl⟩
  rw [← hv, ← hkk] at h
  rw [← hv] at f6 fI
  rw [← hkk] at hk
  have hcc : ck + 1 + 173 + 1 + 173 + 78 + 78 ≤ 600086 := hcc0
  have hcs : cn + 15 + 1750 + 15 + 1750 + 433 + 433 ≤ 7301442 := hcs0
  refine lv_bipush (v := nI 6) hx hcb dw_63 (by decide) ?_
  refine lv_aload_n hx hcb dw_65 rfl (lv_at hl3 2 rfl) ?_
  refine lv_bipush (v := nI 18) hx hcb dw_66 (by decide) ?_
  refine ld_draw (N := 18) C h (by omega) (by decide) dw_68 (show (1 + 0 : Nat) ≤ 8 by decide) hcc hcs hl3.1 (fun H51 locs51 h51 => ?_)
  obtain ⟨jh, hjh, ejh⟩ := jDr_in xs L (k) (N := 18) (by decide) (by decide)
  rw [ejh]
  refine lv_iadd hx hcb dw_71 ?_
  rw [nI_add]
  have hq9 : 6 ≤ 6 + jh ∧ 6 + jh < 24 := by omega
  obtain ⟨hq, hhq⟩ : ∃ hq, hq = 6 + jh := ⟨_, rfl⟩
  rw [← hhq] at hq9 ⊢
  refine lv_istore (lv' := [(5, .int (nI hq)), (4, .ref (ax (0, 0, 0))), (3, .ref o), (2, .ref t), (1, .int (nI j)), (0, .ref b)]) hx hcb dw_72 hl3 (by decide) rfl (fun ls52 hl52 => ?_)
  refine lv_aload hx hcb dw_74 (lv_at hl52 1 rfl) ?_
  refine lv_iload hx hcb dw_76 (lv_at hl52 0 rfl) ?_
  refine ld_x (rest := []) (as := [.inl (.int (nI hq))]) C h51 c_X5_until (lS_until fI.1 fI.2.1 hq9).r dw_78 q_496 q_497 q_498 q_499 (kn := 1) (by decide +kernel) rfl (List.forall_mem_cons.mpr ⟨trivial, fun _ h => nomatch h⟩) (by decide) (by decide) hcc hcs hl52.1 (fun H53 locs53 h53 => ?_)
  refine lv_pop hx hcb dw_81 rfl ?_
  refine lv_aload_n hx hcb dw_82 rfl (lv_at hl52 2 rfl) ?_
  refine ld_get C h53 dw_83 ?_
  refine lv_iload hx hcb dw_86 (lv_at hl52 0 rfl) ?_
  refine ld_y (rest := []) (as := [.inl (.int (nI hq))]) C h53 c_X5_until (lS_until fI.1 fI.2.1 hq9).r dw_88 q_496 q_497 q_498 q_499 (kn := 1) (by decide +kernel) rfl (List.forall_mem_cons.mpr ⟨trivial, fun _ h => nomatch h⟩) (by decide) (by decide) hcc hcs hl52.1 (fun H54 locs54 h54 => ?_)
  refine lv_pop hx hcb dw_91 rfl ?_
  refine lv_iconst (v := nI 0) hx hcb dw_92 rfl ?_
  refine lv_istore (lv' := [(6, .int (nI 0)), (5, .int (nI hq)), (4, .ref (ax (0, 0, 0))), (3, .ref o), (2, .ref t), (1, .int (nI j)), (0, .ref b)]) hx hcb dw_93 hl52 (by decide) rfl (fun ls55 hl55 => ?_)
  have hJ : jJ v 0 := ⟨fI.1, f6⟩
  exact kk t o ax ay _ _ _ (jUp v 1 0 0 (nI (hq * 60))) (k + 1) (hq * 60) (nI hq) C h54 hJ.now (by omega) (by omega) hl55
end LK6
