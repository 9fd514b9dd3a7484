-- words of the tables, and what stands at each place of the methods' code (laid by program)
theorem u_0 : Cond.methodLink RX3 1 Lib.objectInit ∈ ww_tb := by decide +kernel
theorem u_1 : Cond.instanceMethod Lib.objectInit ∈ ww_tb := by decide +kernel
theorem u_2 : Cond.code Lib.objectInit ⟨#[0xb1]⟩ 1 none ∈ ww_tb := by decide +kernel
theorem u_3 : Cond.methodLink RX4 3 Lib.objectInit ∈ ww_tb := by decide +kernel
theorem u_4 : Cond.fieldLink RX4 9 (TX4 1).1 (TX4 1).2.1 (TX4 1).2.2.1 ∈ ww_tb := by decide +kernel
theorem u_5 : Cond.fieldLink RX4 15 (TX4 6).1 (TX4 6).2.1 (TX4 6).2.2.1 ∈ ww_tb := by decide +kernel
theorem u_6 : Cond.methodLink RX2 3 Lib.objectInit ∈ ww_tb := by decide +kernel
theorem u_7 : Cond.arrayClass (newarray.typeOf .int) ∈ ww_tb := by decide +kernel
theorem u_8 : Cond.fieldLink RX2 9 (TX2 0).1 (TX2 0).2.1 (TX2 0).2.2.1 ∈ ww_tb := by decide +kernel
theorem u_9 : Cond.fieldLink RX2 15 (TX2 1).1 (TX2 1).2.1 (TX2 1).2.2.1 ∈ ww_tb := by decide +kernel
theorem u_10 : Cond.arrayClass (newarray.typeOf .boolean) ∈ ww_tb := by decide +kernel
theorem u_11 : Cond.fieldLink RX2 18 (TX2 2).1 (TX2 2).2.1 (TX2 2).2.2.1 ∈ ww_tb := by decide +kernel
theorem u_12 : Cond.methodLink RX0 3 Lib.objectInit ∈ ww_tb := by decide +kernel
theorem u_13 : Cond.fieldLink RX0 9 (TX0 3).1 (TX0 3).2.1 (TX0 3).2.2.1 ∈ ww_tb := by decide +kernel
theorem u_14 : Cond.fieldLink RX0 15 (TX0 6).1 (TX0 6).2.1 (TX0 6).2.2.1 ∈ ww_tb := by decide +kernel
theorem u_15 : Cond.fieldLink RX0 18 (TX0 8).1 (TX0 8).2.1 (TX0 8).2.2.1 ∈ ww_tb := by decide +kernel
theorem u_16 : Cond.fieldLink RX0 22 (TX0 9).1 (TX0 9).2.1 (TX0 9).2.2.1 ∈ ww_tb := by decide +kernel
theorem u_17 : Cond.fieldLink RX0 25 (TX0 10).1 (TX0 10).2.1 (TX0 10).2.2.1 ∈ ww_tb := by decide +kernel
theorem u_18 : Cond.fieldLink RX0 28 (TX0 11).1 (TX0 11).2.1 (TX0 11).2.2.1 ∈ ww_tb := by decide +kernel
theorem u_19 : Cond.fieldLink RX0 31 (TX0 12).1 (TX0 12).2.1 (TX0 12).2.2.1 ∈ ww_tb := by decide +kernel
theorem dX3_init_0 : decode cX3_init 0 = .ok (.aload_n 0, 1) := by decide +kernel
theorem dX3_init_1 : decode cX3_init 1 = .ok (.invokespecial 1, 3) := by decide +kernel
theorem dX3_init_4 : decode cX3_init 4 = .ok (.return_, 1) := by decide +kernel
theorem dX4_init_0 : decode cX4_init 0 = .ok (.aload_n 0, 1) := by decide +kernel
theorem dX4_init_1 : decode cX4_init 1 = .ok (.invokespecial 3, 3) := by decide +kernel
theorem dX4_init_4 : decode cX4_init 4 = .ok (.aload_n 0, 1) := by decide +kernel
theorem dX4_init_5 : decode cX4_init 5 = .ok (.iconst (-1), 1) := by decide +kernel
theorem dX4_init_6 : decode cX4_init 6 = .ok (.putfield 9, 3) := by decide +kernel
theorem dX4_init_9 : decode cX4_init 9 = .ok (.aload_n 0, 1) := by decide +kernel
theorem dX4_init_10 : decode cX4_init 10 = .ok (.iconst (-1), 1) := by decide +kernel
theorem dX4_init_11 : decode cX4_init 11 = .ok (.putfield 15, 3) := by decide +kernel
theorem dX4_init_14 : decode cX4_init 14 = .ok (.return_, 1) := by decide +kernel
theorem dX2_init_0 : decode cX2_init 0 = .ok (.aload_n 0, 1) := by decide +kernel
theorem dX2_init_1 : decode cX2_init 1 = .ok (.invokespecial 3, 3) := by decide +kernel
theorem dX2_init_4 : decode cX2_init 4 = .ok (.aload_n 0, 1) := by decide +kernel
theorem dX2_init_5 : decode cX2_init 5 = .ok (.iconst 5, 1) := by decide +kernel
theorem dX2_init_6 : decode cX2_init 6 = .ok (.newarray .int, 2) := by decide +kernel
theorem dX2_init_8 : decode cX2_init 8 = .ok (.putfield 9, 3) := by decide +kernel
theorem dX2_init_11 : decode cX2_init 11 = .ok (.aload_n 0, 1) := by decide +kernel
theorem dX2_init_12 : decode cX2_init 12 = .ok (.iconst 5, 1) := by decide +kernel
theorem dX2_init_13 : decode cX2_init 13 = .ok (.newarray .int, 2) := by decide +kernel
theorem dX2_init_15 : decode cX2_init 15 = .ok (.putfield 15, 3) := by decide +kernel
theorem dX2_init_18 : decode cX2_init 18 = .ok (.aload_n 0, 1) := by decide +kernel
theorem dX2_init_19 : decode cX2_init 19 = .ok (.iconst 5, 1) := by decide +kernel
theorem dX2_init_20 : decode cX2_init 20 = .ok (.newarray .boolean, 2) := by decide +kernel
theorem dX2_init_22 : decode cX2_init 22 = .ok (.putfield 18, 3) := by decide +kernel
theorem dX2_init_25 : decode cX2_init 25 = .ok (.return_, 1) := by decide +kernel
theorem dX0_init_0 : decode cX0_init 0 = .ok (.aload_n 0, 1) := by decide +kernel
theorem dX0_init_1 : decode cX0_init 1 = .ok (.invokespecial 3, 3) := by decide +kernel
theorem dX0_init_4 : decode cX0_init 4 = .ok (.aload_n 0, 1) := by decide +kernel
theorem dX0_init_5 : decode cX0_init 5 = .ok (.iconst 5, 1) := by decide +kernel
theorem dX0_init_6 : decode cX0_init 6 = .ok (.putfield 9, 3) := by decide +kernel
theorem dX0_init_9 : decode cX0_init 9 = .ok (.aload_n 0, 1) := by decide +kernel
theorem dX0_init_10 : decode cX0_init 10 = .ok (.iconst (-1), 1) := by decide +kernel
theorem dX0_init_11 : decode cX0_init 11 = .ok (.putfield 15, 3) := by decide +kernel
theorem dX0_init_14 : decode cX0_init 14 = .ok (.aload_n 0, 1) := by decide +kernel
theorem dX0_init_15 : decode cX0_init 15 = .ok (.bipush 12, 2) := by decide +kernel
theorem dX0_init_17 : decode cX0_init 17 = .ok (.newarray .int, 2) := by decide +kernel
theorem dX0_init_19 : decode cX0_init 19 = .ok (.putfield 18, 3) := by decide +kernel
theorem dX0_init_22 : decode cX0_init 22 = .ok (.aload_n 0, 1) := by decide +kernel
theorem dX0_init_23 : decode cX0_init 23 = .ok (.bipush 12, 2) := by decide +kernel
theorem dX0_init_25 : decode cX0_init 25 = .ok (.newarray .int, 2) := by decide +kernel
theorem dX0_init_27 : decode cX0_init 27 = .ok (.putfield 22, 3) := by decide +kernel
theorem dX0_init_30 : decode cX0_init 30 = .ok (.aload_n 0, 1) := by decide +kernel
theorem dX0_init_31 : decode cX0_init 31 = .ok (.bipush 12, 2) := by decide +kernel
theorem dX0_init_33 : decode cX0_init 33 = .ok (.newarray .int, 2) := by decide +kernel
theorem dX0_init_35 : decode cX0_init 35 = .ok (.putfield 25, 3) := by decide +kernel
theorem dX0_init_38 : decode cX0_init 38 = .ok (.aload_n 0, 1) := by decide +kernel
theorem dX0_init_39 : decode cX0_init 39 = .ok (.bipush 12, 2) := by decide +kernel
theorem dX0_init_41 : decode cX0_init 41 = .ok (.newarray .int, 2) := by decide +kernel
theorem dX0_init_43 : decode cX0_init 43 = .ok (.putfield 28, 3) := by decide +kernel
theorem dX0_init_46 : decode cX0_init 46 = .ok (.aload_n 0, 1) := by decide +kernel
theorem dX0_init_47 : decode cX0_init 47 = .ok (.bipush 12, 2) := by decide +kernel
theorem dX0_init_49 : decode cX0_init 49 = .ok (.newarray .int, 2) := by decide +kernel
theorem dX0_init_51 : decode cX0_init 51 = .ok (.putfield 31, 3) := by decide +kernel
theorem dX0_init_54 : decode cX0_init 54 = .ok (.iconst 0, 1) := by decide +kernel
theorem dX0_init_55 : decode cX0_init 55 = .ok (.istore_n 1, 1) := by decide +kernel
theorem dX0_init_56 : decode cX0_init 56 = .ok (.iload_n 1, 1) := by decide +kernel
theorem dX0_init_57 : decode cX0_init 57 = .ok (.bipush 12, 2) := by decide +kernel
theorem dX0_init_59 : decode cX0_init 59 = .ok (.if_icmp .ge 37, 3) := by decide +kernel
theorem dX0_init_62 : decode cX0_init 62 = .ok (.aload_n 0, 1) := by decide +kernel
theorem dX0_init_63 : decode cX0_init 63 = .ok (.getfield 22, 3) := by decide +kernel
theorem dX0_init_66 : decode cX0_init 66 = .ok (.iload_n 1, 1) := by decide +kernel
theorem dX0_init_67 : decode cX0_init 67 = .ok (.iconst (-1), 1) := by decide +kernel
theorem dX0_init_68 : decode cX0_init 68 = .ok (.iastore, 1) := by decide +kernel
theorem dX0_init_69 : decode cX0_init 69 = .ok (.aload_n 0, 1) := by decide +kernel
theorem dX0_init_70 : decode cX0_init 70 = .ok (.getfield 25, 3) := by decide +kernel
theorem dX0_init_73 : decode cX0_init 73 = .ok (.iload_n 1, 1) := by decide +kernel
theorem dX0_init_74 : decode cX0_init 74 = .ok (.iconst (-1), 1) := by decide +kernel
theorem dX0_init_75 : decode cX0_init 75 = .ok (.iastore, 1) := by decide +kernel
theorem dX0_init_76 : decode cX0_init 76 = .ok (.aload_n 0, 1) := by decide +kernel
theorem dX0_init_77 : decode cX0_init 77 = .ok (.getfield 28, 3) := by decide +kernel
theorem dX0_init_80 : decode cX0_init 80 = .ok (.iload_n 1, 1) := by decide +kernel
theorem dX0_init_81 : decode cX0_init 81 = .ok (.iconst (-1), 1) := by decide +kernel
theorem dX0_init_82 : decode cX0_init 82 = .ok (.iastore, 1) := by decide +kernel
theorem dX0_init_83 : decode cX0_init 83 = .ok (.aload_n 0, 1) := by decide +kernel
theorem dX0_init_84 : decode cX0_init 84 = .ok (.getfield 31, 3) := by decide +kernel
theorem dX0_init_87 : decode cX0_init 87 = .ok (.iload_n 1, 1) := by decide +kernel
theorem dX0_init_88 : decode cX0_init 88 = .ok (.iconst (-1), 1) := by decide +kernel
theorem dX0_init_89 : decode cX0_init 89 = .ok (.iastore, 1) := by decide +kernel
theorem dX0_init_90 : decode cX0_init 90 = .ok (.iinc 1 1, 3) := by decide +kernel
theorem dX0_init_93 : decode cX0_init 93 = .ok (.goto (-37), 3) := by decide +kernel
theorem dX0_init_96 : decode cX0_init 96 = .ok (.return_, 1) := by decide +kernel
/-! the constructors of the class: which cells they leave -/
def wh_nx : vhW := (ww_nw ++ [(RX1, 38, yX2_init, "WarnWave"), (RX1, 54, yX3_init, "WarnWave"), (RX1, 55, yX4_init, "WarnWave")], [RX0, RX3, RX4], true)
/-- counting up from 0 -/
def wi : Nat → Int32
  | 0 => 0
  | k + 1 => wi k + 1
theorem wi_nat : ∀ k, k < 17 → (wi k).toNatClampNeg = k := by decide +kernel
theorem wi_lt8 : ∀ k, k < 8 → ¬ (8 : Int32) ≤ wi k := by decide +kernel
theorem wi_lt3 : ∀ k, k < 3 → ¬ (3 : Int32) ≤ wi k := by decide +kernel
theorem wi_lt12 : ∀ k, k < 12 → ¬ (12 : Int32) ≤ wi k := by decide +kernel
theorem wi_lt16 : ∀ k, k < 16 → ¬ (16 : Int32) ≤ wi k := by decide +kernel
theorem wi_ge : (8 : Int32) ≤ wi 8 ∧ (3 : Int32) ≤ wi 3 ∧ (12 : Int32) ≤ wi 12 ∧ (16 : Int32) ≤ wi 16 := by decide +kernel
theorem wi_in {k n : Nat} (hk : k < n) (hn : n < 17) : vp_in (wi k) n := by
  rintro (h | h)
  · have : ∀ k, k < 17 → ¬ wi k < 0 := by decide +kernel
    exact this k (by omega) h
  · rw [wi_nat k (by omega)] at h
    omega
/-- 'NONE' written to the first k places -/
def wh_f : Nat → Nat → Int32
  | 0 => fun _ => 0
  | k + 1 => upd (wh_f k) (wi k).toNatClampNeg (-1)
/-- the places b, b + st .. written to the first k places of a row -/
def wl_f (b st : Nat) : Nat → Nat → Option Nat
  | 0 => fun _ => none
  | k + 1 => va_up (wl_f b st k) (wi k).toNatClampNeg (some (b + st * k))
def wc_z (t n : Nat) : vhC := .inr (t, n, .inl (fun _ => 0))
def vi_ (x : Int32) : vgV := .inl (.int x)
/-! Shelter, Warning -/
def fs_X3 : List Value := [.int 0, .int 0]
def cs_X3 : vhS := [.inl (3, [vi_ 0, vi_ 0])]
def fs_X4 : List Value := [.int 0, .int 0, .int 0, .int 0, .int 0, .int 0, .int 0, .int 0]
def cs_X4 : vhS := [.inl (4, [vi_ 0, vi_ (-1), vi_ 0, vi_ 0, vi_ 0, vi_ 0, vi_ (-1), vi_ 0])]
theorem vh_okI {n : Nat} : ∀ {l : List vgV}, l.all (fun v => match v with | .inl _ => true | .inr z => decide (z ∈ vh_N n)) = true → ∀ v ∈ l, vg_ok (vh_N n) v := by
  intro l h v hv
  have h2 := List.all_eq_true.mp h v hv
  cases v with
  | inl v => trivial
  | inr z =>
    show z ∈ vh_N n
    exact of_decide_eq_true h2
theorem wf_X3 : vh_wf cs_X3 := by
  intro c hc
  rw [List.mem_singleton.mp hc]
  exact vh_okI (by decide +kernel)
theorem wf_X4 : vh_wf cs_X4 := by
  intro c hc
  rw [List.mem_singleton.mp hc]
  exact vh_okI (by decide +kernel)
def k_X3_init : List (Nat × vhF) := [(0, hi_aload 0 1), (1, hi_oinit 4), (4, hi_retV)]
set_option maxRecDepth 20000 in
theorem s_X3_init : ∀ q ∈ k_X3_init, vh_Snd ww_tb wh_nx ww_cl ww_tyl cX3_init 1 RX3 none 1 0 0 true q.1 q.2 := by
  refine vg_cons (ht_aload_n dX3_init_0 rfl rfl) ?_
  refine vg_cons (ht_oinit dX3_init_1 u_0 u_1 u_2 (by decide) rfl) ?_
  refine vg_cons (ht_return dX3_init_4 rfl) ?_
  exact fun _ h => absurd h List.not_mem_nil
theorem m_X3_init : vh_Code k_X3_init := fun q h => (s_X3_init q h).1

theorem go_X3_init : vh_Go k_X3_init (fun r σ => r = none ∧ σ.1 = cs_X3 ∧ σ.2.1 ≤ 0 ∧ σ.2.2 ≤ 0) 0 [(0, .inr (vh_n 0))] [] ([.inl (3, fs_X3.map .inl)], 0, 0) := by
  refine vh_run (cuts := []) m_X3_init 10 ?_
  exact ⟨rfl, rfl, Nat.le_refl _, Nat.le_refl _⟩
theorem I_X3_init : vh_Ini ww_tb wh_nx ww_cl ww_tyl yX3_init cX3_init 1 1 0 0 3 fs_X3 cs_X3 := vh_ini wf_X3 (by decide +kernel) rfl rfl (by decide) s_X3_init go_X3_init
def k_X4_init : List (Nat × vhF) := [(0, hi_aload 0 1), (1, hi_oinit 4), (4, hi_aload 0 5), (5, hi_icst (-1) 6), (6, hi_putI 4 1 9), (9, hi_aload 0 10), (10, hi_icst (-1) 11), (11, hi_putI 4 6 14), (14, hi_retV)]
set_option maxRecDepth 20000 in
theorem s_X4_init : ∀ q ∈ k_X4_init, vh_Snd ww_tb wh_nx ww_cl ww_tyl cX4_init 1 RX4 none 1 0 0 true q.1 q.2 := by
  refine vg_cons (ht_aload_n dX4_init_0 rfl rfl) ?_
  refine vg_cons (ht_oinit dX4_init_1 u_3 u_1 u_2 (by decide) rfl) ?_
  refine vg_cons (ht_aload_n dX4_init_4 rfl rfl) ?_
  refine vg_cons (ht_iconst dX4_init_5 rfl rfl) ?_
  refine vg_cons (ht_putI (T := TX4) tyX4 dX4_init_6 rfl (by decide) ww_inX4 tyX4_ok nmX4 rfl rfl u_4 rfl) ?_
  refine vg_cons (ht_aload_n dX4_init_9 rfl rfl) ?_
  refine vg_cons (ht_iconst dX4_init_10 rfl rfl) ?_
  refine vg_cons (ht_putI (T := TX4) tyX4 dX4_init_11 rfl (by decide) ww_inX4 tyX4_ok nmX4 rfl rfl u_5 rfl) ?_
  refine vg_cons (ht_return dX4_init_14 rfl) ?_
  exact fun _ h => absurd h List.not_mem_nil
theorem m_X4_init : vh_Code k_X4_init := fun q h => (s_X4_init q h).1

theorem go_X4_init : vh_Go k_X4_init (fun r σ => r = none ∧ σ.1 = cs_X4 ∧ σ.2.1 ≤ 0 ∧ σ.2.2 ≤ 0) 0 [(0, .inr (vh_n 0))] [] ([.inl (4, fs_X4.map .inl)], 0, 0) := by
  refine vh_run (cuts := []) m_X4_init 20 ?_
  exact ⟨rfl, rfl, Nat.le_refl _, Nat.le_refl _⟩
theorem I_X4_init : vh_Ini ww_tb wh_nx ww_cl ww_tyl yX4_init cX4_init 1 1 0 0 4 fs_X4 cs_X4 := vh_ini wf_X4 (by decide +kernel) rfl rfl (by decide) s_X4_init go_X4_init
/-! Senders -/
def fs_X2 : List Value := [.null, .null, .null, .int 0]
def cs_X2 : vhS := [.inl (2, [.inr (vh_n 1), .inr (vh_n 2), .inr (vh_n 3), vi_ 0]), wc_z 0 5, wc_z 0 5, wc_z 1 5]
theorem wf_X2 : vh_wf cs_X2 := by
  intro c hc
  rcases List.mem_cons.mp hc with rfl | hc
  · exact vh_okI (by decide +kernel)
  rcases List.mem_cons.mp hc with rfl | hc
  · trivial
  rcases List.mem_cons.mp hc with rfl | hc
  · trivial
  rw [List.mem_singleton.mp hc]
  trivial
def k_X2_init : List (Nat × vhF) := [(0, hi_aload 0 1), (1, hi_oinit 4), (4, hi_aload 0 5), (5, hi_icst (5) 6), (6, hi_newa 0 3 15 8), (8, hi_putR 2 0 11), (11, hi_aload 0 12), (12, hi_icst (5) 13), (13, hi_newa 0 3 15 15), (15, hi_putR 2 1 18), (18, hi_aload 0 19), (19, hi_icst (5) 20), (20, hi_newa 1 3 15 22), (22, hi_putR 2 2 25), (25, hi_retV)]
set_option maxRecDepth 20000 in
theorem s_X2_init : ∀ q ∈ k_X2_init, vh_Snd ww_tb wh_nx ww_cl ww_tyl cX2_init 1 RX2 none 1 3 15 true q.1 q.2 := by
  refine vg_cons (ht_aload_n dX2_init_0 rfl rfl) ?_
  refine vg_cons (ht_oinit dX2_init_1 u_6 u_1 u_2 (by decide) rfl) ?_
  refine vg_cons (ht_aload_n dX2_init_4 rfl rfl) ?_
  refine vg_cons (ht_iconst dX2_init_5 rfl rfl) ?_
  refine vg_cons (ht_newa (atype := .int) rfl (fun _ _ => rfl) (by decide) rfl u_7 dX2_init_6 rfl) ?_
  refine vg_cons (ht_putF (T := TX2) tyX2 rfl dX2_init_8 rfl (by decide) ww_inX2 tyX2_ok nmX2 rfl rfl (fun _ => ⟨rfl, rfl⟩) u_8 rfl) ?_
  refine vg_cons (ht_aload_n dX2_init_11 rfl rfl) ?_
  refine vg_cons (ht_iconst dX2_init_12 rfl rfl) ?_
  refine vg_cons (ht_newa (atype := .int) rfl (fun _ _ => rfl) (by decide) rfl u_7 dX2_init_13 rfl) ?_
  refine vg_cons (ht_putF (T := TX2) tyX2 rfl dX2_init_15 rfl (by decide) ww_inX2 tyX2_ok nmX2 rfl rfl (fun _ => ⟨rfl, rfl⟩) u_9 rfl) ?_
  refine vg_cons (ht_aload_n dX2_init_18 rfl rfl) ?_
  refine vg_cons (ht_iconst dX2_init_19 rfl rfl) ?_
  refine vg_cons (ht_newa (atype := .boolean) rfl (fun _ _ => rfl) (by decide) rfl u_10 dX2_init_20 rfl) ?_
  refine vg_cons (ht_putF (T := TX2) tyX2 rfl dX2_init_22 rfl (by decide) ww_inX2 tyX2_ok nmX2 rfl rfl (fun _ => ⟨rfl, rfl⟩) u_11 rfl) ?_
  refine vg_cons (ht_return dX2_init_25 rfl) ?_
  exact fun _ h => absurd h List.not_mem_nil
theorem m_X2_init : vh_Code k_X2_init := fun q h => (s_X2_init q h).1

theorem wi_5 : ¬ (5 : Int32) < 0 ∧ (5 : Int32).toNatClampNeg ≤ 1000 := by decide +kernel
theorem go_X2_init : vh_Go k_X2_init (fun r σ => r = none ∧ σ.1 = cs_X2 ∧ σ.2.1 ≤ 3 ∧ σ.2.2 ≤ 15) 0 [(0, .inr (vh_n 0))] [] ([.inl (2, fs_X2.map .inl)], 0, 0) := by
  refine vh_run (cuts := []) m_X2_init 30 ?_
  refine And.intro ⟨by decide, by decide, by decide, by decide⟩ (And.intro ⟨by decide, by decide, by decide, by decide⟩ (And.intro ⟨by decide, by decide, by decide, by decide⟩ ?_))
  exact ⟨rfl, rfl, by decide, by decide⟩
theorem I_X2_init : vh_Ini ww_tb wh_nx ww_cl ww_tyl yX2_init cX2_init 1 1 3 15 2 fs_X2 cs_X2 := vh_ini wf_X2 (by decide +kernel) rfl rfl (by decide) s_X2_init go_X2_init
/-! Group -/
def fs_X0 : List Value := [.int 0, .int 0, .int 0, .int 0, .int 0, .int 0, .int 0, .int 0, .null, .null, .null, .null, .null]
def wg_S (k : Nat) : vhS := [.inl (5, [vi_ 0, vi_ 0, vi_ 0, vi_ 5, vi_ 0, vi_ 0, vi_ (-1), vi_ 0, .inr (vh_n 1), .inr (vh_n 2), .inr (vh_n 3), .inr (vh_n 4), .inr (vh_n 5)]), wc_z 0 12, .inr (0, 12, .inl (wh_f k)), .inr (0, 12, .inl (wh_f k)), .inr (0, 12, .inl (wh_f k)), .inr (0, 12, .inl (wh_f k))]
def cs_X0 : vhS := wg_S 12
theorem wf_X0 : vh_wf cs_X0 := by
  intro c hc
  rcases List.mem_cons.mp hc with rfl | hc
  · exact vh_okI (by decide +kernel)
  rcases List.mem_cons.mp hc with rfl | hc
  · trivial
  rcases List.mem_cons.mp hc with rfl | hc
  · trivial
  rcases List.mem_cons.mp hc with rfl | hc
  · trivial
  rcases List.mem_cons.mp hc with rfl | hc
  · trivial
  rw [List.mem_singleton.mp hc]
  trivial
def k_X0_init : List (Nat × vhF) := [(0, hi_aload 0 1), (1, hi_oinit 4), (4, hi_aload 0 5), (5, hi_icst (5) 6), (6, hi_putI 5 3 9), (9, hi_aload 0 10), (10, hi_icst (-1) 11), (11, hi_putI 5 6 14), (14, hi_aload 0 15), (15, hi_icst (12) 17), (17, hi_newa 0 5 60 19), (19, hi_putR 5 8 22), (22, hi_aload 0 23), (23, hi_icst (12) 25), (25, hi_newa 0 5 60 27), (27, hi_putR 5 9 30), (30, hi_aload 0 31), (31, hi_icst (12) 33), (33, hi_newa 0 5 60 35), (35, hi_putR 5 10 38), (38, hi_aload 0 39), (39, hi_icst (12) 41), (41, hi_newa 0 5 60 43), (43, hi_putR 5 11 46), (46, hi_aload 0 47), (47, hi_icst (12) 49), (49, hi_newa 0 5 60 51), (51, hi_putR 5 12 54), (54, hi_icst (0) 55), (55, hi_istore 1 56), (56, hi_iload 1 57), (57, hi_icst (12) 59), (59, hi_cmp (fun x y => y ≤ x) 96 62), (62, hi_aload 0 63), (63, hi_get 5 9 66), (66, hi_iload 1 67), (67, hi_icst (-1) 68), (68, hi_iast 0 69), (69, hi_aload 0 70), (70, hi_get 5 10 73), (73, hi_iload 1 74), (74, hi_icst (-1) 75), (75, hi_iast 0 76), (76, hi_aload 0 77), (77, hi_get 5 11 80), (80, hi_iload 1 81), (81, hi_icst (-1) 82), (82, hi_iast 0 83), (83, hi_aload 0 84), (84, hi_get 5 12 87), (87, hi_iload 1 88), (88, hi_icst (-1) 89), (89, hi_iast 0 90), (90, hi_iinc 1 (1) 93), (93, hi_goto 56), (96, hi_retV)]
set_option maxRecDepth 20000 in
theorem s_X0_init : ∀ q ∈ k_X0_init, vh_Snd ww_tb wh_nx ww_cl ww_tyl cX0_init 2 RX0 none 1 5 60 true q.1 q.2 := by
  refine vg_cons (ht_aload_n dX0_init_0 rfl rfl) ?_
  refine vg_cons (ht_oinit dX0_init_1 u_12 u_1 u_2 (by decide) rfl) ?_
  refine vg_cons (ht_aload_n dX0_init_4 rfl rfl) ?_
  refine vg_cons (ht_iconst dX0_init_5 rfl rfl) ?_
  refine vg_cons (ht_putI (T := TX0) tyX0 dX0_init_6 rfl (by decide) ww_inX0 tyX0_ok nmX0 rfl rfl u_13 rfl) ?_
  refine vg_cons (ht_aload_n dX0_init_9 rfl rfl) ?_
  refine vg_cons (ht_iconst dX0_init_10 rfl rfl) ?_
  refine vg_cons (ht_putI (T := TX0) tyX0 dX0_init_11 rfl (by decide) ww_inX0 tyX0_ok nmX0 rfl rfl u_14 rfl) ?_
  refine vg_cons (ht_aload_n dX0_init_14 rfl rfl) ?_
  refine vg_cons (ht_bipush dX0_init_15 (by decide) rfl) ?_
  refine vg_cons (ht_newa (atype := .int) rfl (fun _ _ => rfl) (by decide) rfl u_7 dX0_init_17 rfl) ?_
  refine vg_cons (ht_putF (T := TX0) tyX0 rfl dX0_init_19 rfl (by decide) ww_inX0 tyX0_ok nmX0 rfl rfl (fun _ => ⟨rfl, rfl⟩) u_15 rfl) ?_
  refine vg_cons (ht_aload_n dX0_init_22 rfl rfl) ?_
  refine vg_cons (ht_bipush dX0_init_23 (by decide) rfl) ?_
  refine vg_cons (ht_newa (atype := .int) rfl (fun _ _ => rfl) (by decide) rfl u_7 dX0_init_25 rfl) ?_
  refine vg_cons (ht_putF (T := TX0) tyX0 rfl dX0_init_27 rfl (by decide) ww_inX0 tyX0_ok nmX0 rfl rfl (fun _ => ⟨rfl, rfl⟩) u_16 rfl) ?_
  refine vg_cons (ht_aload_n dX0_init_30 rfl rfl) ?_
  refine vg_cons (ht_bipush dX0_init_31 (by decide) rfl) ?_
  refine vg_cons (ht_newa (atype := .int) rfl (fun _ _ => rfl) (by decide) rfl u_7 dX0_init_33 rfl) ?_
  refine vg_cons (ht_putF (T := TX0) tyX0 rfl dX0_init_35 rfl (by decide) ww_inX0 tyX0_ok nmX0 rfl rfl (fun _ => ⟨rfl, rfl⟩) u_17 rfl) ?_
  refine vg_cons (ht_aload_n dX0_init_38 rfl rfl) ?_
  refine vg_cons (ht_bipush dX0_init_39 (by decide) rfl) ?_
  refine vg_cons (ht_newa (atype := .int) rfl (fun _ _ => rfl) (by decide) rfl u_7 dX0_init_41 rfl) ?_
  refine vg_cons (ht_putF (T := TX0) tyX0 rfl dX0_init_43 rfl (by decide) ww_inX0 tyX0_ok nmX0 rfl rfl (fun _ => ⟨rfl, rfl⟩) u_18 rfl) ?_
  refine vg_cons (ht_aload_n dX0_init_46 rfl rfl) ?_
  refine vg_cons (ht_bipush dX0_init_47 (by decide) rfl) ?_
  refine vg_cons (ht_newa (atype := .int) rfl (fun _ _ => rfl) (by decide) rfl u_7 dX0_init_49 rfl) ?_
  refine vg_cons (ht_putF (T := TX0) tyX0 rfl dX0_init_51 rfl (by decide) ww_inX0 tyX0_ok nmX0 rfl rfl (fun _ => ⟨rfl, rfl⟩) u_19 rfl) ?_
  refine vg_cons (ht_iconst dX0_init_54 rfl rfl) ?_
  refine vg_cons (ht_istore_n dX0_init_55 rfl (by decide) rfl) ?_
  refine vg_cons (ht_iload_n dX0_init_56 rfl rfl) ?_
  refine vg_cons (ht_bipush dX0_init_57 (by decide) rfl) ?_
  refine vg_cons (ht_cmp_ge dX0_init_59 (by decide) rfl) ?_
  refine vg_cons (ht_aload_n dX0_init_62 rfl rfl) ?_
  refine vg_cons (ht_getfield (T := TX0) dX0_init_63 rfl (by decide) ww_inX0 u_16 rfl) ?_
  refine vg_cons (ht_iload_n dX0_init_66 rfl rfl) ?_
  refine vg_cons (ht_iconst dX0_init_67 rfl rfl) ?_
  refine vg_cons (ht_iast dX0_init_68 rfl rfl) ?_
  refine vg_cons (ht_aload_n dX0_init_69 rfl rfl) ?_
  refine vg_cons (ht_getfield (T := TX0) dX0_init_70 rfl (by decide) ww_inX0 u_17 rfl) ?_
  refine vg_cons (ht_iload_n dX0_init_73 rfl rfl) ?_
  refine vg_cons (ht_iconst dX0_init_74 rfl rfl) ?_
  refine vg_cons (ht_iast dX0_init_75 rfl rfl) ?_
  refine vg_cons (ht_aload_n dX0_init_76 rfl rfl) ?_
  refine vg_cons (ht_getfield (T := TX0) dX0_init_77 rfl (by decide) ww_inX0 u_18 rfl) ?_
  refine vg_cons (ht_iload_n dX0_init_80 rfl rfl) ?_
  refine vg_cons (ht_iconst dX0_init_81 rfl rfl) ?_
  refine vg_cons (ht_iast dX0_init_82 rfl rfl) ?_
  refine vg_cons (ht_aload_n dX0_init_83 rfl rfl) ?_
  refine vg_cons (ht_getfield (T := TX0) dX0_init_84 rfl (by decide) ww_inX0 u_19 rfl) ?_
  refine vg_cons (ht_iload_n dX0_init_87 rfl rfl) ?_
  refine vg_cons (ht_iconst dX0_init_88 rfl rfl) ?_
  refine vg_cons (ht_iast dX0_init_89 rfl rfl) ?_
  refine vg_cons (ht_iinc dX0_init_90 rfl rfl) ?_
  refine vg_cons (ht_goto dX0_init_93 (by decide)) ?_
  refine vg_cons (ht_return dX0_init_96 rfl) ?_
  exact fun _ h => absurd h List.not_mem_nil
theorem m_X0_init : vh_Code k_X0_init := fun q h => (s_X0_init q h).1

abbrev wg_P : vhO := fun r σ => r = none ∧ σ.1 = cs_X0 ∧ σ.2.1 ≤ 5 ∧ σ.2.2 ≤ 60
theorem wg_loop : ∀ n k, n + k = 12 → vh_Go k_X0_init wg_P 56 [(0, .inr (vh_n 0)), (1, .inl (.int (wi k)))] [] (wg_S k, 5, 60)
  | 0, k, h => by
    have hk : k = 12 := by omega
    subst hk
    refine vh_run (cuts := [(56, [0, 1])]) m_X0_init 6 ?_
    exact And.intro (fun _ => ⟨rfl, rfl, Nat.le_refl _, Nat.le_refl _⟩) (fun hc => absurd wi_ge.2.2.1 hc)
  | n + 1, k, h => by
    have hv : vp_in (wi k) 12 := wi_in (by omega) (by decide)
    refine vh_run (cuts := [(56, [0, 1])]) m_X0_init 40 ?_
    refine And.intro (fun hc => absurd hc (wi_lt12 k (by omega))) (fun _ => And.intro hv (And.intro hv (And.intro hv (And.intro hv ?_))))
    exact wg_loop n (k + 1) (by omega)
theorem go_X0_init : vh_Go k_X0_init wg_P 0 [(0, .inr (vh_n 0))] [] ([.inl (5, fs_X0.map .inl)], 0, 0) := by
  refine vh_run (cuts := [(56, [0, 1])]) m_X0_init 60 ?_
  refine And.intro ⟨by decide, by decide, by decide, by decide⟩ (And.intro ⟨by decide, by decide, by decide, by decide⟩ (And.intro ⟨by decide, by decide, by decide, by decide⟩ (And.intro ⟨by decide, by decide, by decide, by decide⟩ (And.intro ⟨by decide, by decide, by decide, by decide⟩ ?_))))
  exact wg_loop 12 0 rfl
theorem I_X0_init : vh_Ini ww_tb wh_nx ww_cl ww_tyl yX0_init cX0_init 2 1 5 60 5 fs_X0 cs_X0 := vh_ini wf_X0 (by decide +kernel) rfl rfl (by decide) s_X0_init go_X0_init
