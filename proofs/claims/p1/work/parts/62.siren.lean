-- words of the tables, and what stands at each place of the methods' code (laid by program)
theorem u_304 : Cond.code yX6_believers cX6_believers 3 (some .int) ∈ ww_tb := by decide +kernel
theorem u_305 : Cond.methodLink RX7 182 yX6_believers ∈ ww_tb := by decide +kernel
theorem u_306 : Cond.instanceMethod yX6_believers ∈ ww_tb := by decide +kernel
theorem u_307 : Cond.selects RX6 yX6_believers yX6_believers ∈ ww_tb := by decide +kernel
theorem u_308 : Cond.methodLink RX7 175 yX6_copy ∈ ww_tb := by decide +kernel
theorem dX7_sirenNow_0 : decode cX7_sirenNow 0 = .ok (.aload_n 0, 1) := by decide +kernel
theorem dX7_sirenNow_1 : decode cX7_sirenNow 1 = .ok (.getfield 10, 3) := by decide +kernel
theorem dX7_sirenNow_4 : decode cX7_sirenNow 4 = .ok (.invokevirtual 175, 3) := by decide +kernel
theorem dX7_sirenNow_7 : decode cX7_sirenNow 7 = .ok (.astore 4, 2) := by decide +kernel
theorem dX7_sirenNow_9 : decode cX7_sirenNow 9 = .ok (.aload_n 0, 1) := by decide +kernel
theorem dX7_sirenNow_10 : decode cX7_sirenNow 10 = .ok (.getfield 10, 3) := by decide +kernel
theorem dX7_sirenNow_13 : decode cX7_sirenNow 13 = .ok (.invokevirtual 175, 3) := by decide +kernel
theorem dX7_sirenNow_16 : decode cX7_sirenNow 16 = .ok (.astore 5, 2) := by decide +kernel
theorem dX7_sirenNow_18 : decode cX7_sirenNow 18 = .ok (.aload 5, 2) := by decide +kernel
theorem dX7_sirenNow_20 : decode cX7_sirenNow 20 = .ok (.getfield 76, 3) := by decide +kernel
theorem dX7_sirenNow_23 : decode cX7_sirenNow 23 = .ok (.aload 5, 2) := by decide +kernel
theorem dX7_sirenNow_25 : decode cX7_sirenNow 25 = .ok (.dup, 1) := by decide +kernel
theorem dX7_sirenNow_26 : decode cX7_sirenNow 26 = .ok (.getfield 73, 3) := by decide +kernel
theorem dX7_sirenNow_29 : decode cX7_sirenNow 29 = .ok (.dup_x1, 1) := by decide +kernel
theorem dX7_sirenNow_30 : decode cX7_sirenNow 30 = .ok (.iconst 1, 1) := by decide +kernel
theorem dX7_sirenNow_31 : decode cX7_sirenNow 31 = .ok (.iadd, 1) := by decide +kernel
theorem dX7_sirenNow_32 : decode cX7_sirenNow 32 = .ok (.putfield 73, 3) := by decide +kernel
theorem dX7_sirenNow_35 : decode cX7_sirenNow 35 = .ok (.aaload, 1) := by decide +kernel
theorem dX7_sirenNow_36 : decode cX7_sirenNow 36 = .ok (.iload_n 1, 1) := by decide +kernel
theorem dX7_sirenNow_37 : decode cX7_sirenNow 37 = .ok (.iload_n 2, 1) := by decide +kernel
theorem dX7_sirenNow_38 : decode cX7_sirenNow 38 = .ok (.invokestatic 79, 3) := by decide +kernel
theorem dX7_sirenNow_41 : decode cX7_sirenNow 41 = .ok (.iconst 0, 1) := by decide +kernel
theorem dX7_sirenNow_42 : decode cX7_sirenNow 42 = .ok (.istore 6, 2) := by decide +kernel
theorem dX7_sirenNow_44 : decode cX7_sirenNow 44 = .ok (.iload 6, 2) := by decide +kernel
theorem dX7_sirenNow_46 : decode cX7_sirenNow 46 = .ok (.iload_n 3, 1) := by decide +kernel
theorem dX7_sirenNow_47 : decode cX7_sirenNow 47 = .ok (.if_icmp .ge 21, 3) := by decide +kernel
theorem dX7_sirenNow_50 : decode cX7_sirenNow 50 = .ok (.aload 4, 2) := by decide +kernel
theorem dX7_sirenNow_52 : decode cX7_sirenNow 52 = .ok (.invokevirtual 147, 3) := by decide +kernel
theorem dX7_sirenNow_55 : decode cX7_sirenNow 55 = .ok (.pop, 1) := by decide +kernel
theorem dX7_sirenNow_56 : decode cX7_sirenNow 56 = .ok (.aload 5, 2) := by decide +kernel
theorem dX7_sirenNow_58 : decode cX7_sirenNow 58 = .ok (.invokevirtual 147, 3) := by decide +kernel
theorem dX7_sirenNow_61 : decode cX7_sirenNow 61 = .ok (.pop, 1) := by decide +kernel
theorem dX7_sirenNow_62 : decode cX7_sirenNow 62 = .ok (.iinc 6 1, 3) := by decide +kernel
theorem dX7_sirenNow_65 : decode cX7_sirenNow 65 = .ok (.goto (-21), 3) := by decide +kernel
theorem dX7_sirenNow_68 : decode cX7_sirenNow 68 = .ok (.aload 5, 2) := by decide +kernel
theorem dX7_sirenNow_70 : decode cX7_sirenNow 70 = .ok (.invokevirtual 182, 3) := by decide +kernel
theorem dX7_sirenNow_73 : decode cX7_sirenNow 73 = .ok (.aload 4, 2) := by decide +kernel
theorem dX7_sirenNow_75 : decode cX7_sirenNow 75 = .ok (.invokevirtual 182, 3) := by decide +kernel
theorem dX7_sirenNow_78 : decode cX7_sirenNow 78 = .ok (.isub, 1) := by decide +kernel
theorem dX7_sirenNow_79 : decode cX7_sirenNow 79 = .ok (.ireturn, 1) := by decide +kernel
/-! what one siren more would do, on a land without people -/
def k_X7_sirenNow : List (Nat × vgF) := [(0, vi_aload 0 1), (1, vi_get mm_shp 0 1 4), (4, vi_no), (7, vi_astore 4 9), (9, vi_aload 0 10), (10, vi_get mm_shp 0 1 13), (13, vi_no), (16, vi_astore 5 18), (18, vi_aload 5 20), (20, vi_get mm_shp 1 4 23), (23, vi_aload 5 25), (25, vi_dup 26), (26, vi_get mm_shp 1 12 29), (29, vi_dupx1 30), (30, vi_icst (1) 31), (31, vi_bin (fun x y => x + y) 32), (32, vi_put mm_shp 1 12 35), (35, vi_aald mm_shp 2 36), (36, vi_iload 1 37), (37, vi_iload 2 38), (38, vi_callS sp_X7_lay 3 41), (41, vi_icst (0) 42), (42, vi_istore 6 44), (44, vi_iload 6 46), (46, vi_iload 3 47), (47, vi_cmp (fun x y => y ≤ x) 68 50), (50, vi_aload 4 52), (52, vi_no), (55, vi_pop 56), (56, vi_aload 5 58), (58, vi_no), (61, vi_pop 62), (62, vi_iinc 6 (1) 65), (65, vi_goto 44), (68, vi_aload 5 70), (70, vi_callV mm_shp 1 sp_X6_believers 0 73), (73, vi_aload 4 75), (75, vi_callV mm_shp 1 sp_X6_believers 0 78), (78, vi_bin (fun x y => x - y) 79), (79, vi_ret)]
set_option maxRecDepth 20000 in
theorem s_X7_sirenNow {nm : List vgN} (hcl : vg_closed mm_shp nm) : ∀ q ∈ k_X7_sirenNow, vm_Snd false ww_tb [] [] [] mm_shp nm mm_cl mm_tyl cX7_sirenNow 7 RX7 (some .int) 3 q.1 q.2 := by
  refine vg_cons (vt_aload_n dX7_sirenNow_0 rfl rfl) ?_
  refine vg_cons (vt_getfield (T := TX7) dX7_sirenNow_1 rfl (by decide) mm_inX7 u_202 rfl) ?_
  refine vg_cons (vt_no) ?_
  refine vg_cons (vt_astore dX7_sirenNow_7 (by decide) rfl) ?_
  refine vg_cons (vt_aload_n dX7_sirenNow_9 rfl rfl) ?_
  refine vg_cons (vt_getfield (T := TX7) dX7_sirenNow_10 rfl (by decide) mm_inX7 u_202 rfl) ?_
  refine vg_cons (vt_no) ?_
  refine vg_cons (vt_astore dX7_sirenNow_16 (by decide) rfl) ?_
  refine vg_cons (vt_aload dX7_sirenNow_18 rfl) ?_
  refine vg_cons (vt_getfield (T := TX6) dX7_sirenNow_20 rfl (by decide) mm_inX6 u_224 rfl) ?_
  refine vg_cons (vt_aload dX7_sirenNow_23 rfl) ?_
  refine vg_cons (vt_dup dX7_sirenNow_25 rfl) ?_
  refine vg_cons (vt_getfield (T := TX6) dX7_sirenNow_26 rfl (by decide) mm_inX6 u_223 rfl) ?_
  refine vg_cons (vt_dup_x1 dX7_sirenNow_29 rfl) ?_
  refine vg_cons (vt_iconst dX7_sirenNow_30 rfl rfl) ?_
  refine vg_cons (vt_iadd dX7_sirenNow_31 rfl) ?_
  refine vg_cons (vt_putfield (T := TX6) tyX6 dX7_sirenNow_32 rfl (by decide) mm_inX6 tyX6_ok nmX6 rfl rfl u_223 rfl) ?_
  refine vg_cons (vt_aaloadA dX7_sirenNow_35 rfl rfl rfl) ?_
  refine vg_cons (vt_iload_n dX7_sirenNow_36 rfl rfl) ?_
  refine vg_cons (vt_iload_n dX7_sirenNow_37 rfl rfl) ?_
  refine vg_cons (vt_callS (c_X7_lay hcl) dX7_sirenNow_38 ww_good u_225 u_198 u_227 u_226 (by decide +kernel) (by decide) rfl) ?_
  refine vg_cons (vt_iconst dX7_sirenNow_41 rfl rfl) ?_
  refine vg_cons (vt_istore dX7_sirenNow_42 (by decide) rfl) ?_
  refine vg_cons (vt_iload dX7_sirenNow_44 rfl) ?_
  refine vg_cons (vt_iload_n dX7_sirenNow_46 rfl rfl) ?_
  refine vg_cons (vt_cmp_ge dX7_sirenNow_47 (by decide) rfl) ?_
  refine vg_cons (vt_aload dX7_sirenNow_50 rfl) ?_
  refine vg_cons (vt_no) ?_
  refine vg_cons (vt_pop dX7_sirenNow_55 rfl) ?_
  refine vg_cons (vt_aload dX7_sirenNow_56 rfl) ?_
  refine vg_cons (vt_no) ?_
  refine vg_cons (vt_pop dX7_sirenNow_61 rfl) ?_
  refine vg_cons (vt_iinc dX7_sirenNow_62 rfl rfl) ?_
  refine vg_cons (vt_goto dX7_sirenNow_65 (by decide)) ?_
  refine vg_cons (vt_aload dX7_sirenNow_68 rfl) ?_
  refine vg_cons (vt_callV (T := TX6) (c_X6_believers hcl) dX7_sirenNow_70 rfl ww_good u_304 u_267 u_305 u_306 u_307 (by decide +kernel) (by decide) rfl) ?_
  refine vg_cons (vt_aload dX7_sirenNow_73 rfl) ?_
  refine vg_cons (vt_callV (T := TX6) (c_X6_believers hcl) dX7_sirenNow_75 rfl ww_good u_304 u_267 u_305 u_306 u_307 (by decide +kernel) (by decide) rfl) ?_
  refine vg_cons (vt_isub dX7_sirenNow_78 rfl) ?_
  refine vg_cons (vt_ireturn dX7_sirenNow_79 rfl) ?_
  exact fun _ h => absurd h List.not_mem_nil
theorem m_X7_sirenNow : vg_Code k_X7_sirenNow := fun q h => (s_X7_sirenNow (nm := []) (fun n hn => nomatch hn) q h).1

/-- the world between: two copies without people, land 0 as it was -/
def sn_I (σ σ' : vgS) : Prop := (σ' (41, 1, 0) 9 = 0 ∧ σ' (41, 1, 0) 10 = 0 ∧ σ' (41, 2, 0) 9 = 0 ∧ σ' (41, 2, 0) 10 = 0) ∧ ∀ n k, n.2.1 = 0 → n.1 < 60 → σ' n k = σ n k
theorem sn_min {b : Nat} {σ σ1 σ' : vgS} (hb : ¬ 0 = b) (h : sn_I σ σ1) (hmk : mm_mk b σ1 σ') : sn_I σ σ' :=
  ⟨⟨(hmk (41, 1, 0) 9 (show (41 : Nat) < 60 by decide) (fun z => by omega)).trans h.1.1, (hmk (41, 1, 0) 10 (show (41 : Nat) < 60 by decide) (fun z => by omega)).trans h.1.2.1, (hmk (41, 2, 0) 9 (show (41 : Nat) < 60 by decide) (fun z => by omega)).trans h.1.2.2.1, (hmk (41, 2, 0) 10 (show (41 : Nat) < 60 by decide) (fun z => by omega)).trans h.1.2.2.2⟩,
    fun n k hn hk => (hmk n k hk (fun z => hb (by rw [← hn, z.1]))).trans (h.2 n k hn hk)⟩
def pm_X7_sirenNow : vgT → vgS → Prop := fun av σ => match av with
  | [.inr (40, 0, 0), .inl (.int c), .inl (.int r), .inl (.int m)] => mm_c0 0 σ ∧ wp_r m 1 60
  | _ => False
def po_X7_sirenNow : vgT → vgS → vgO := fun av σ r σ' => r = some (.inl (.int 0)) ∧ ∀ n k, n.2.1 = 0 → n.1 < 60 → σ' n k = σ n k
theorem wm_X7_sirenNow : ∀ av σ, pm_X7_sirenNow av σ → vg_wd av ≤ 7 := by
  intro av σ h
  unfold pm_X7_sirenNow at h
  split at h
  · exact Nat.le_of_ble_eq_true rfl
  · exact h.elim
abbrev mm_nmA : List vgN := mm_nm ++ mm_nm1 1
abbrev mm_nmB : List vgN := mm_nmA ++ mm_nm1 2
theorem mm_closedA : vg_closed mm_shp mm_nmA := vm_closed2 mm_closed (mm_clB 1 (Or.inl rfl))
theorem mm_closedB : vg_closed mm_shp mm_nmB := vm_closed2 mm_closedA (mm_clB 2 (Or.inr rfl))
theorem mm_f61 : (61, 0, 8) ∉ mm_nmB := by decide +kernel
theorem mm_f60 : (60, 0, 12) ∉ mm_nmB := by decide +kernel
abbrev lv_X7_sirenNow (c r m k : Int32) : vgL := [(0, .inr (40, 0, 0)), (1, .inl (.int c)), (2, .inl (.int r)), (3, .inl (.int m)), (4, .inr (41, 1, 0)), (5, .inr (41, 2, 0)), (6, .inl (.int k))]
section SN
variable {p : Program} {l : Launch} {e : Env} {R : Room} {s : State} {m : MethodId} {args : Array Value} {below : List Frame} {meth : Method} {c : Code} {D : va_G} {tys : List (ClassId × FieldType)} {ad : vgN → Nat} {A : Nat → Prop} {Z : State → Prop}
set_option maxRecDepth 20000 in
theorem pl_X7_sirenNow {σ0 : vgS} {x y : Int32} {M : Nat} (hM : M ≤ 60) (hRc : R.cells = 514) (hRs : R.slots = 4258)
    (C0 : vm_C ww_tb [] mm_shp mm_nmB mm_cl mm_tyl cX7_sirenNow 7 RX7 (some .int) 3 p R s m args meth c D tys ad A) (E0 : ∀ k n, k ≤ 514 → n ≤ 4258 → vm_E false ww_tb [] [] mm_shp mm_nmB mm_cl cX7_sirenNow RX7 (some .int) p l e R s m args below meth c D tys ad A (po_X7_sirenNow [] σ0) k n Z) :
    ∀ n k, n + k = M → ∀ σ : vgS, sn_I σ0 σ → vm_X mm_shp mm_nmB mm_cl 7 p l e R s m args below meth c D tys ad A (274 + 4 * k) (1858 + 40 * k) Z 44 (lv_X7_sirenNow x y (nI M) (nI k)) [] σ
  | 0, k, hk, σ, hI => by
    have e : k = M := by omega
    subst e
    refine vm_sound (ex := []) (s_X7_sirenNow mm_closedB) C0 (E0 (274 + 4 * k) (1858 + 40 * k) (by omega) (by omega)) (fun _ h => absurd h List.not_mem_nil) ?_
    refine vg_run (cuts := []) m_X7_sirenNow 20 ?_
    exact And.intro (fun _ => And.intro hI.1.2.2.1 (And.intro hI.1.1 ⟨rfl, hI.2⟩)) (fun z => absurd (Int32.le_refl _) z)
  | n + 1, k, hk, σ, hI => by
    have ih := pl_X7_sirenNow (x := x) (y := y) hM hRc hRs C0 E0 n (k + 1) (by omega)
    refine vm_sound (ex := [(52, vi_exit (fun lv st σ1 => lv = lv_X7_sirenNow x y (nI M) (nI k) ∧ st = [.inr (41, 1, 0)] ∧ σ1 = σ))]) (s_X7_sirenNow mm_closedB) C0 (E0 (274 + 4 * k) (1858 + 40 * k) (by omega) (by omega)) (fun q hq lv st σ1 hE => ?_) ?_
    · rw [List.mem_singleton.mp hq] at hE ⊢
      obtain ⟨rfl, rfl, rfl⟩ := hE
      refine vm_callM (as := []) (t := []) (m0 := (41, 1, 0)) (ci := 1) (T := TX6) (N := 16) C0 (a_X6_minute mm_closedB mm_f61 mm_f60) dX7_sirenNow_52 rfl ww_good u_271 u_267 u_272 u_273 u_274 (by decide +kernel) (by decide) rfl rfl rfl rfl (by decide) ⟨hI.1.1, hI.1.2.1⟩ (by rw [hRc]; omega) (by rw [hRs]; omega) (fun r σ' hr => ?_)
      have hr' : r = some (.inl (.int 0)) ∧ mm_mk 1 σ1 σ' := hr
      obtain ⟨rfl, hmk⟩ := hr'
      have hI2 := sn_min (by decide) hI hmk
      refine vm_sound (ex := [(58, vi_exit (fun lv st σ2 => lv = lv_X7_sirenNow x y (nI M) (nI k) ∧ st = [.inr (41, 2, 0)] ∧ σ2 = σ'))]) (s_X7_sirenNow mm_closedB) C0 (E0 (274 + 4 * k + 2) (1858 + 40 * k + 20) (by omega) (by omega)) (fun q hq lv st σ2 hE => ?_) ?_
      · rw [List.mem_singleton.mp hq] at hE ⊢
        obtain ⟨rfl, rfl, rfl⟩ := hE
        refine vm_callM (as := []) (t := []) (m0 := (41, 2, 0)) (ci := 1) (T := TX6) (N := 16) C0 (a_X6_minute mm_closedB mm_f61 mm_f60) dX7_sirenNow_58 rfl ww_good u_271 u_267 u_272 u_273 u_274 (by decide +kernel) (by decide) rfl rfl rfl rfl (by decide) ⟨hI2.1.2.2.1, hI2.1.2.2.2⟩ (by rw [hRc]; omega) (by rw [hRs]; omega) (fun r σ3 hr => ?_)
        have hr' : r = some (.inl (.int 0)) ∧ mm_mk 2 σ2 σ3 := hr
        obtain ⟨rfl, hmk2⟩ := hr'
        have hI3 := sn_min (by decide) hI2 hmk2
        refine vm_sound (ex := [(44, vi_exit (fun lv st σ4 => lv = lv_X7_sirenNow x y (nI M) (nI (k + 1)) ∧ st = [] ∧ σ4 = σ3))]) (s_X7_sirenNow mm_closedB) C0 (E0 (274 + 4 * k + 2 + 2) (1858 + 40 * k + 20 + 20) (by omega) (by omega)) (fun q hq lv st σ4 hE => ?_) ?_
        · rw [List.mem_singleton.mp hq] at hE ⊢
          obtain ⟨rfl, rfl, rfl⟩ := hE
          exact ih σ4 hI3
        · refine vg_run (cuts := [(44, [0, 1, 2, 3, 4, 5, 6])]) (vm_code1 m_X7_sirenNow) 10 ?_
          refine And.intro rfl ?_
          rw [← nI_1 k]
          refine vg_run (cuts := []) (vm_code1 m_X7_sirenNow) 1 ?_
          exact ⟨rfl, rfl, rfl⟩
      · refine vg_run (cuts := []) (vm_code1 m_X7_sirenNow) 10 ?_
        exact And.intro rfl ⟨rfl, rfl, rfl⟩
    · refine vg_run (cuts := []) (vm_code1 m_X7_sirenNow) 10 ?_
      refine And.intro (fun z => absurd ((jle (c := nI M) (x := nI k) rfl rfl (by omega) (by omega)).mp z) (by omega)) (fun _ => ?_)
      exact ⟨rfl, rfl, rfl⟩
end SN
set_option maxRecDepth 20000 in
set_option maxHeartbeats 1000000 in
theorem a_X7_sirenNow : vn_Met ww_tb wh_nx mm_shp mm_nm mm_cl mm_tyl yX7_sirenNow cX7_sirenNow 7 (some .int) 3 514 4258 pm_X7_sirenNow po_X7_sirenNow :=
  vn_met mm_closed (by decide +kernel) rfl wm_X7_sirenNow (fun p l e R s m args below meth c D tys ad A Z av σ hpre hnx hRc hRs C0 E0 => by
    unfold pm_X7_sirenNow at hpre
    split at hpre
    next x y m9 =>
      obtain ⟨h0, hm9⟩ := hpre
      obtain ⟨M, hM, rfl⟩ := wp_60 hm9
      refine vm_sound (ex := [(4, vi_exit (fun lv st σ1 => lv = [(0, .inr (40, 0, 0)), (1, .inl (.int x)), (2, .inl (.int y)), (3, .inl (.int (nI M)))] ∧ st = [.inr (41, 0, 0)] ∧ σ1 = σ))]) (s_X7_sirenNow mm_closed) C0 (E0 0 0 (Nat.zero_le _) (Nat.zero_le _)) (fun q hq lv st σ1 hE => ?_) ?_
      · rw [List.mem_singleton.mp hq] at hE ⊢
        obtain ⟨rfl, rfl, rfl⟩ := hE
        refine vm_callC (b := 1) (t := []) C0 hnx cp1_X6_copy dX7_sirenNow_4 u_308 (by decide) (by decide +kernel) (mm_clB 1 (Or.inl rfl)) (by decide) h0 (by rw [hRc]; decide) (by rw [hRs]; decide) (fun ad1 σ2 C1 hag1 hc1 => ?_)
        have E1 : ∀ k n, k ≤ 514 → n ≤ 4258 → vm_E false ww_tb [] [] mm_shp mm_nmA mm_cl cX7_sirenNow RX7 (some .int) p l e R s m args below meth c D tys ad1 A (po_X7_sirenNow [] σ1) k n Z := fun k n hk hn => vm_E_up2 mm_closed hag1 (E0 k n hk hn)
        have h1 : mm_c0 0 σ2 := by
          unfold mm_c0
          rw [hc1.2 (41, 0, 0) (by decide)]
          exact h0
        refine vm_sound (ex := [(13, vi_exit (fun lv st σ3 => lv = [(4, .inr (41, 1, 0)), (0, .inr (40, 0, 0)), (1, .inl (.int x)), (2, .inl (.int y)), (3, .inl (.int (nI M)))] ∧ st = [.inr (41, 0, 0)] ∧ σ3 = σ2))]) (s_X7_sirenNow mm_closedA) C1 (E1 137 929 (by decide) (by decide)) (fun q hq lv st σ3 hE => ?_) ?_
        · rw [List.mem_singleton.mp hq] at hE ⊢
          obtain ⟨rfl, rfl, rfl⟩ := hE
          refine vm_callC (b := 2) (t := []) C1 hnx cp2_X6_copy dX7_sirenNow_13 u_308 (by decide) (by decide +kernel) (mm_clB 2 (Or.inr rfl)) (by decide) h1 (by rw [hRc]; decide) (by rw [hRs]; decide) (fun ad2 σ4 C2 hag2 hc2 => ?_)
          have E2 : ∀ k n, k ≤ 514 → n ≤ 4258 → vm_E false ww_tb [] [] mm_shp mm_nmB mm_cl cX7_sirenNow RX7 (some .int) p l e R s m args below meth c D tys ad2 A (po_X7_sirenNow [] σ1) k n Z := fun k n hk hn => vm_E_up2 mm_closedA hag2 (E1 k n hk hn)
          have j0 : vp_in (σ4 (41, 2, 0) 12) 5 := mm_i 0 5 _ hc2.1.2.2 (by decide) (by decide)
          have g1 : σ4 (41, 1, 0) = σ3 (41, 1, 0) := hc2.2 (41, 1, 0) (by decide)
          have hI : ∀ τ : vgS, (∀ n k, n.2.1 = 0 → τ n k = σ4 n k) → τ (41, 1, 0) 9 = σ4 (41, 1, 0) 9 → τ (41, 1, 0) 10 = σ4 (41, 1, 0) 10 → τ (41, 2, 0) 9 = σ4 (41, 2, 0) 9 → τ (41, 2, 0) 10 = σ4 (41, 2, 0) 10 → sn_I σ1 τ := fun τ ht t1 t2 t3 t4 =>
            ⟨⟨t1.trans (by rw [g1]; exact hc1.1.1), t2.trans (by rw [g1]; exact hc1.1.2.1), t3.trans hc2.1.1, t4.trans hc2.1.2.1⟩, fun n k hn _ => (ht n k hn).trans (by rw [hc2.2 n (by omega), hc1.2 n (by omega)])⟩
          refine vm_sound (ex := [(44, vi_exit (fun lv st σ5 => lv = lv_X7_sirenNow x y (nI M) (nI 0) ∧ st = [] ∧ sn_I σ1 σ5))]) (s_X7_sirenNow mm_closedB) C2 (E2 274 1858 (by decide) (by decide)) (fun q hq lv st σ5 hE => ?_) ?_
          · rw [List.mem_singleton.mp hq] at hE ⊢
            obtain ⟨rfl, rfl, hI5⟩ := hE
            exact pl_X7_sirenNow hM hRc hRs C2 E2 M 0 rfl σ5 hI5
          · refine vg_run (cuts := [(44, [0, 1, 2, 3, 4, 5, 6])]) (vm_code1 m_X7_sirenNow) 40 ?_
            refine And.intro rfl (And.intro ⟨rfl, rfl⟩ (And.intro j0 (And.intro trivial ?_)))
            refine vg_run (cuts := []) (vm_code1 m_X7_sirenNow) 1 ?_
            refine ⟨rfl, rfl, hI _ (fun n k hn => ?_) ?_ ?_ ?_ ?_⟩
            · have a1 : ¬ n = (41, 2, 0) := fun z => absurd hn (by rw [z]; decide)
              have a2 : ∀ i, ¬ n = (56, 2, i) := fun i z => absurd hn (by rw [z]; exact (by decide : ¬ (2 : Nat) = 0))
              iterate 3 refine (vg_st_ne (fun z => a2 _ z.1)).trans ?_
              exact vg_st_ne (fun z => a1 z.1)
            all_goals (
              iterate 3 refine (vg_st_ne (fun z => absurd (congrArg Prod.fst z.1) (show ¬ (41 : Nat) = 56 by decide))).trans ?_
              exact vg_st_ne (fun z => absurd z (by decide)))
        · refine vg_run (cuts := [(13, [4, 0, 1, 2, 3])]) (vm_code1 m_X7_sirenNow) 10 ?_
          refine vg_run (cuts := []) (vm_code1 m_X7_sirenNow) 1 ?_
          exact ⟨rfl, rfl, rfl⟩
      · refine vg_run (cuts := []) (vm_code1 m_X7_sirenNow) 10 ?_
        exact ⟨rfl, rfl, rfl⟩
    next => exact hpre.elim)
