-- words of the tables, and what stands at each place of the methods' code (laid by program)
theorem q_0 : Cond.methodLink RX5 344 Lib.Math.abs.name ∈ ww_tb := by decide +kernel
theorem q_1 : Cond.static Lib.Math.abs.name ∈ ww_tb := by decide +kernel
theorem q_2 : Cond.initialized "java/lang/Math" ∈ ww_tb := by decide +kernel
theorem q_3 : Cond.code Lib.Math.abs.name Lib.Math.abs.code 1 (some .int) ∈ ww_tb := by decide +kernel
theorem dX5_isIn_0 : decode cX5_isIn 0 = .ok (.iload_n 0, 1) := by decide +kernel
theorem dX5_isIn_1 : decode cX5_isIn 1 = .ok (.iload_n 1, 1) := by decide +kernel
theorem dX5_isIn_2 : decode cX5_isIn 2 = .ok (.ishr, 1) := by decide +kernel
theorem dX5_isIn_3 : decode cX5_isIn 3 = .ok (.iconst 1, 1) := by decide +kernel
theorem dX5_isIn_4 : decode cX5_isIn 4 = .ok (.iand, 1) := by decide +kernel
theorem dX5_isIn_5 : decode cX5_isIn 5 = .ok (.iconst 1, 1) := by decide +kernel
theorem dX5_isIn_6 : decode cX5_isIn 6 = .ok (.if_icmp .ne 7, 3) := by decide +kernel
theorem dX5_isIn_9 : decode cX5_isIn 9 = .ok (.iconst 1, 1) := by decide +kernel
theorem dX5_isIn_10 : decode cX5_isIn 10 = .ok (.goto 4, 3) := by decide +kernel
theorem dX5_isIn_13 : decode cX5_isIn 13 = .ok (.iconst 0, 1) := by decide +kernel
theorem dX5_isIn_14 : decode cX5_isIn 14 = .ok (.ireturn, 1) := by decide +kernel
theorem dX5_distance_0 : decode cX5_distance 0 = .ok (.iload_n 0, 1) := by decide +kernel
theorem dX5_distance_1 : decode cX5_distance 1 = .ok (.iconst 4, 1) := by decide +kernel
theorem dX5_distance_2 : decode cX5_distance 2 = .ok (.idiv, 1) := by decide +kernel
theorem dX5_distance_3 : decode cX5_distance 3 = .ok (.iload_n 1, 1) := by decide +kernel
theorem dX5_distance_4 : decode cX5_distance 4 = .ok (.iconst 4, 1) := by decide +kernel
theorem dX5_distance_5 : decode cX5_distance 5 = .ok (.idiv, 1) := by decide +kernel
theorem dX5_distance_6 : decode cX5_distance 6 = .ok (.isub, 1) := by decide +kernel
theorem dX5_distance_7 : decode cX5_distance 7 = .ok (.invokestatic 344, 3) := by decide +kernel
theorem dX5_distance_10 : decode cX5_distance 10 = .ok (.iload_n 0, 1) := by decide +kernel
theorem dX5_distance_11 : decode cX5_distance 11 = .ok (.iconst 4, 1) := by decide +kernel
theorem dX5_distance_12 : decode cX5_distance 12 = .ok (.irem, 1) := by decide +kernel
theorem dX5_distance_13 : decode cX5_distance 13 = .ok (.iload_n 1, 1) := by decide +kernel
theorem dX5_distance_14 : decode cX5_distance 14 = .ok (.iconst 4, 1) := by decide +kernel
theorem dX5_distance_15 : decode cX5_distance 15 = .ok (.irem, 1) := by decide +kernel
theorem dX5_distance_16 : decode cX5_distance 16 = .ok (.isub, 1) := by decide +kernel
theorem dX5_distance_17 : decode cX5_distance 17 = .ok (.invokestatic 344, 3) := by decide +kernel
theorem dX5_distance_20 : decode cX5_distance 20 = .ok (.iadd, 1) := by decide +kernel
theorem dX5_distance_21 : decode cX5_distance 21 = .ok (.ireturn, 1) := by decide +kernel
theorem dX5_stepTowards_0 : decode cX5_stepTowards 0 = .ok (.iload_n 0, 1) := by decide +kernel
theorem dX5_stepTowards_1 : decode cX5_stepTowards 1 = .ok (.iconst 4, 1) := by decide +kernel
theorem dX5_stepTowards_2 : decode cX5_stepTowards 2 = .ok (.idiv, 1) := by decide +kernel
theorem dX5_stepTowards_3 : decode cX5_stepTowards 3 = .ok (.iload_n 1, 1) := by decide +kernel
theorem dX5_stepTowards_4 : decode cX5_stepTowards 4 = .ok (.iconst 4, 1) := by decide +kernel
theorem dX5_stepTowards_5 : decode cX5_stepTowards 5 = .ok (.idiv, 1) := by decide +kernel
theorem dX5_stepTowards_6 : decode cX5_stepTowards 6 = .ok (.if_icmp .eq 18, 3) := by decide +kernel
theorem dX5_stepTowards_9 : decode cX5_stepTowards 9 = .ok (.iload_n 1, 1) := by decide +kernel
theorem dX5_stepTowards_10 : decode cX5_stepTowards 10 = .ok (.iload_n 0, 1) := by decide +kernel
theorem dX5_stepTowards_11 : decode cX5_stepTowards 11 = .ok (.if_icmp .le 9, 3) := by decide +kernel
theorem dX5_stepTowards_14 : decode cX5_stepTowards 14 = .ok (.iload_n 0, 1) := by decide +kernel
theorem dX5_stepTowards_15 : decode cX5_stepTowards 15 = .ok (.iconst 4, 1) := by decide +kernel
theorem dX5_stepTowards_16 : decode cX5_stepTowards 16 = .ok (.iadd, 1) := by decide +kernel
theorem dX5_stepTowards_17 : decode cX5_stepTowards 17 = .ok (.goto 6, 3) := by decide +kernel
theorem dX5_stepTowards_20 : decode cX5_stepTowards 20 = .ok (.iload_n 0, 1) := by decide +kernel
theorem dX5_stepTowards_21 : decode cX5_stepTowards 21 = .ok (.iconst 4, 1) := by decide +kernel
theorem dX5_stepTowards_22 : decode cX5_stepTowards 22 = .ok (.isub, 1) := by decide +kernel
theorem dX5_stepTowards_23 : decode cX5_stepTowards 23 = .ok (.ireturn, 1) := by decide +kernel
theorem dX5_stepTowards_24 : decode cX5_stepTowards 24 = .ok (.iload_n 0, 1) := by decide +kernel
theorem dX5_stepTowards_25 : decode cX5_stepTowards 25 = .ok (.iload_n 1, 1) := by decide +kernel
theorem dX5_stepTowards_26 : decode cX5_stepTowards 26 = .ok (.if_icmp .eq 18, 3) := by decide +kernel
theorem dX5_stepTowards_29 : decode cX5_stepTowards 29 = .ok (.iload_n 1, 1) := by decide +kernel
theorem dX5_stepTowards_30 : decode cX5_stepTowards 30 = .ok (.iload_n 0, 1) := by decide +kernel
theorem dX5_stepTowards_31 : decode cX5_stepTowards 31 = .ok (.if_icmp .le 9, 3) := by decide +kernel
theorem dX5_stepTowards_34 : decode cX5_stepTowards 34 = .ok (.iload_n 0, 1) := by decide +kernel
theorem dX5_stepTowards_35 : decode cX5_stepTowards 35 = .ok (.iconst 1, 1) := by decide +kernel
theorem dX5_stepTowards_36 : decode cX5_stepTowards 36 = .ok (.iadd, 1) := by decide +kernel
theorem dX5_stepTowards_37 : decode cX5_stepTowards 37 = .ok (.goto 6, 3) := by decide +kernel
theorem dX5_stepTowards_40 : decode cX5_stepTowards 40 = .ok (.iload_n 0, 1) := by decide +kernel
theorem dX5_stepTowards_41 : decode cX5_stepTowards 41 = .ok (.iconst 1, 1) := by decide +kernel
theorem dX5_stepTowards_42 : decode cX5_stepTowards 42 = .ok (.isub, 1) := by decide +kernel
theorem dX5_stepTowards_43 : decode cX5_stepTowards 43 = .ok (.ireturn, 1) := by decide +kernel
theorem dX5_stepTowards_44 : decode cX5_stepTowards 44 = .ok (.iload_n 0, 1) := by decide +kernel
theorem dX5_stepTowards_45 : decode cX5_stepTowards 45 = .ok (.ireturn, 1) := by decide +kernel
/-! the small static methods -/
/-- what a contract of a pure function is to show -/
abbrev vg_G (k : List (Nat × vgF)) (sp : vgC) : Prop := ∀ av σ, (sp av σ).1 → vg_Go k (fun r σ' => r = (sp av σ).2.1 ∧ σ' = (sp av σ).2.2) 0 (vg_args 0 av) [] σ
abbrev vg_Wd (sp : vgC) (n : Nat) : Prop := ∀ av σ, (sp av σ).1 → vg_wd av ≤ n
def jIn (s i : Int32) : Int32 := if (s >>> (i &&& 31)) &&& 1 = 1 then 1 else 0
theorem jIn_01 (s i : Int32) : jIn s i = 0 ∨ jIn s i = 1 := by
  unfold jIn
  split
  · exact Or.inr rfl
  · exact Or.inl rfl
def sp_X5_isIn : vgC := fun av σ => match av with
  | [.inl (.int s), .inl (.int i)] => (True, some (.inl (.int (jIn s i))), σ)
  | _ => (False, none, σ)
def k_X5_isIn : List (Nat × vgF) := [(0, vi_iload 0 1), (1, vi_iload 1 2), (2, vi_bin (fun x y => x >>> (y &&& 31)) 3), (3, vi_icst (1) 4), (4, vi_bin (fun x y => x &&& y) 5), (5, vi_icst (1) 6), (6, vi_cmp (fun x y => x = y) 9 13), (9, vi_icst (1) 10), (10, vi_goto 14), (13, vi_icst (0) 14), (14, vi_retZ)]
set_option maxRecDepth 20000 in
theorem s_X5_isIn : ∀ q ∈ k_X5_isIn, vg_Snd ww_tb ww_nw ww_shp ww_nm ww_cl ww_tyl cX5_isIn 2 RX5 (some .boolean) 0 q.1 q.2 := by
  refine vg_cons (vs_iload_n dX5_isIn_0 rfl rfl) ?_
  refine vg_cons (vs_iload_n dX5_isIn_1 rfl rfl) ?_
  refine vg_cons (vs_ishr dX5_isIn_2 rfl) ?_
  refine vg_cons (vs_iconst dX5_isIn_3 rfl rfl) ?_
  refine vg_cons (vs_iand dX5_isIn_4 rfl) ?_
  refine vg_cons (vs_iconst dX5_isIn_5 rfl rfl) ?_
  refine vg_cons (vs_cmp_ne dX5_isIn_6 (by decide) rfl) ?_
  refine vg_cons (vs_iconst dX5_isIn_9 rfl rfl) ?_
  refine vg_cons (vs_goto dX5_isIn_10 (by decide)) ?_
  refine vg_cons (vs_iconst dX5_isIn_13 rfl rfl) ?_
  refine vg_cons (vs_zreturn dX5_isIn_14 rfl) ?_
  exact fun _ h => absurd h List.not_mem_nil
theorem m_X5_isIn : vg_Code k_X5_isIn := fun q h => (s_X5_isIn q h).1

theorem w_X5_isIn : vg_Wd sp_X5_isIn 2 := by
  intro av σ h
  unfold sp_X5_isIn at h
  split at h
  · exact Nat.le_of_ble_eq_true rfl
  · exact h.elim
theorem g_X5_isIn : vg_G k_X5_isIn sp_X5_isIn := by
  intro av σ h
  unfold sp_X5_isIn at h ⊢
  split at h
  next s i =>
    refine vg_run (cuts := []) m_X5_isIn 20 ?_
    refine And.intro (fun hc => ?_) (fun hc => ?_)
    · refine And.intro (Or.inr rfl) (And.intro ?_ rfl)
      show some (Sum.inl (Value.int 1)) = some (Sum.inl (Value.int (jIn s i)))
      rw [jIn, if_pos hc]
    · refine And.intro (Or.inl rfl) (And.intro ?_ rfl)
      show some (Sum.inl (Value.int 0)) = some (Sum.inl (Value.int (jIn s i)))
      rw [jIn, if_neg hc]
  next => exact h.elim
theorem c_X5_isIn : vg_MetF ww_tb ww_nw ww_shp ww_nm ww_cl ww_tyl yX5_isIn cX5_isIn 2 (some .boolean) 0 sp_X5_isIn := vg_met ww_closed (by decide +kernel) rfl s_X5_isIn w_X5_isIn g_X5_isIn
def jAbs (x : Int32) : Int32 := if 0 ≤ x then x else 0 - x
def jDist (a b : Int32) : Int32 := jAbs (a / 4 - b / 4) + jAbs ((a - a / 4 * 4) - (b - b / 4 * 4))
def sp_X5_distance : vgC := fun av σ => match av with
  | [.inl (.int a), .inl (.int b)] => (True, some (.inl (.int (jDist a b))), σ)
  | _ => (False, none, σ)
def k_X5_distance : List (Nat × vgF) := [(0, vi_iload 0 1), (1, vi_icst (4) 2), (2, vi_div (fun x y => x / y) 3), (3, vi_iload 1 4), (4, vi_icst (4) 5), (5, vi_div (fun x y => x / y) 6), (6, vi_bin (fun x y => x - y) 7), (7, vi_abs 10), (10, vi_iload 0 11), (11, vi_icst (4) 12), (12, vi_div (fun x y => x - x / y * y) 13), (13, vi_iload 1 14), (14, vi_icst (4) 15), (15, vi_div (fun x y => x - x / y * y) 16), (16, vi_bin (fun x y => x - y) 17), (17, vi_abs 20), (20, vi_bin (fun x y => x + y) 21), (21, vi_ret)]
set_option maxRecDepth 20000 in
theorem s_X5_distance : ∀ q ∈ k_X5_distance, vg_Snd ww_tb ww_nw ww_shp ww_nm ww_cl ww_tyl cX5_distance 2 RX5 (some .int) 1 q.1 q.2 := by
  refine vg_cons (vs_iload_n dX5_distance_0 rfl rfl) ?_
  refine vg_cons (vs_iconst dX5_distance_1 rfl rfl) ?_
  refine vg_cons (vs_idiv dX5_distance_2 rfl) ?_
  refine vg_cons (vs_iload_n dX5_distance_3 rfl rfl) ?_
  refine vg_cons (vs_iconst dX5_distance_4 rfl rfl) ?_
  refine vg_cons (vs_idiv dX5_distance_5 rfl) ?_
  refine vg_cons (vs_isub dX5_distance_6 rfl) ?_
  refine vg_cons (vs_abs dX5_distance_7 q_0 q_1 q_2 q_3 (by decide) rfl) ?_
  refine vg_cons (vs_iload_n dX5_distance_10 rfl rfl) ?_
  refine vg_cons (vs_iconst dX5_distance_11 rfl rfl) ?_
  refine vg_cons (vs_irem dX5_distance_12 rfl) ?_
  refine vg_cons (vs_iload_n dX5_distance_13 rfl rfl) ?_
  refine vg_cons (vs_iconst dX5_distance_14 rfl rfl) ?_
  refine vg_cons (vs_irem dX5_distance_15 rfl) ?_
  refine vg_cons (vs_isub dX5_distance_16 rfl) ?_
  refine vg_cons (vs_abs dX5_distance_17 q_0 q_1 q_2 q_3 (by decide) rfl) ?_
  refine vg_cons (vs_iadd dX5_distance_20 rfl) ?_
  refine vg_cons (vs_ireturn dX5_distance_21 rfl) ?_
  exact fun _ h => absurd h List.not_mem_nil
theorem m_X5_distance : vg_Code k_X5_distance := fun q h => (s_X5_distance q h).1

theorem w_X5_distance : vg_Wd sp_X5_distance 2 := by
  intro av σ h
  unfold sp_X5_distance at h
  split at h
  · exact Nat.le_of_ble_eq_true rfl
  · exact h.elim
theorem g_X5_distance : vg_G k_X5_distance sp_X5_distance := by
  intro av σ h
  unfold sp_X5_distance at h ⊢
  split at h
  next s i =>
    refine vg_run (cuts := []) m_X5_distance 40 ?_
    exact And.intro (by decide) (And.intro (by decide) (And.intro (by decide) (And.intro (by decide) (And.intro rfl rfl))))
  next => exact h.elim
theorem c_X5_distance : vg_MetF ww_tb ww_nw ww_shp ww_nm ww_cl ww_tyl yX5_distance cX5_distance 2 (some .int) 1 sp_X5_distance := vg_met ww_closed (by decide +kernel) rfl s_X5_distance w_X5_distance g_X5_distance
def jStep (a b : Int32) : Int32 := if a / 4 = b / 4 then (if a = b then a else if b ≤ a then a - 1 else a + 1) else if b ≤ a then a - 4 else a + 4
def sp_X5_stepTowards : vgC := fun av σ => match av with
  | [.inl (.int a), .inl (.int b)] => (True, some (.inl (.int (jStep a b))), σ)
  | _ => (False, none, σ)
def k_X5_stepTowards : List (Nat × vgF) := [(0, vi_iload 0 1), (1, vi_icst (4) 2), (2, vi_div (fun x y => x / y) 3), (3, vi_iload 1 4), (4, vi_icst (4) 5), (5, vi_div (fun x y => x / y) 6), (6, vi_cmp (fun x y => x = y) 24 9), (9, vi_iload 1 10), (10, vi_iload 0 11), (11, vi_cmp (fun x y => x ≤ y) 20 14), (14, vi_iload 0 15), (15, vi_icst (4) 16), (16, vi_bin (fun x y => x + y) 17), (17, vi_goto 23), (20, vi_iload 0 21), (21, vi_icst (4) 22), (22, vi_bin (fun x y => x - y) 23), (23, vi_ret), (24, vi_iload 0 25), (25, vi_iload 1 26), (26, vi_cmp (fun x y => x = y) 44 29), (29, vi_iload 1 30), (30, vi_iload 0 31), (31, vi_cmp (fun x y => x ≤ y) 40 34), (34, vi_iload 0 35), (35, vi_icst (1) 36), (36, vi_bin (fun x y => x + y) 37), (37, vi_goto 43), (40, vi_iload 0 41), (41, vi_icst (1) 42), (42, vi_bin (fun x y => x - y) 43), (43, vi_ret), (44, vi_iload 0 45), (45, vi_ret)]
set_option maxRecDepth 20000 in
theorem s_X5_stepTowards : ∀ q ∈ k_X5_stepTowards, vg_Snd ww_tb ww_nw ww_shp ww_nm ww_cl ww_tyl cX5_stepTowards 2 RX5 (some .int) 0 q.1 q.2 := by
  refine vg_cons (vs_iload_n dX5_stepTowards_0 rfl rfl) ?_
  refine vg_cons (vs_iconst dX5_stepTowards_1 rfl rfl) ?_
  refine vg_cons (vs_idiv dX5_stepTowards_2 rfl) ?_
  refine vg_cons (vs_iload_n dX5_stepTowards_3 rfl rfl) ?_
  refine vg_cons (vs_iconst dX5_stepTowards_4 rfl rfl) ?_
  refine vg_cons (vs_idiv dX5_stepTowards_5 rfl) ?_
  refine vg_cons (vs_cmp_eq dX5_stepTowards_6 (by decide) rfl) ?_
  refine vg_cons (vs_iload_n dX5_stepTowards_9 rfl rfl) ?_
  refine vg_cons (vs_iload_n dX5_stepTowards_10 rfl rfl) ?_
  refine vg_cons (vs_cmp_le dX5_stepTowards_11 (by decide) rfl) ?_
  refine vg_cons (vs_iload_n dX5_stepTowards_14 rfl rfl) ?_
  refine vg_cons (vs_iconst dX5_stepTowards_15 rfl rfl) ?_
  refine vg_cons (vs_iadd dX5_stepTowards_16 rfl) ?_
  refine vg_cons (vs_goto dX5_stepTowards_17 (by decide)) ?_
  refine vg_cons (vs_iload_n dX5_stepTowards_20 rfl rfl) ?_
  refine vg_cons (vs_iconst dX5_stepTowards_21 rfl rfl) ?_
  refine vg_cons (vs_isub dX5_stepTowards_22 rfl) ?_
  refine vg_cons (vs_ireturn dX5_stepTowards_23 rfl) ?_
  refine vg_cons (vs_iload_n dX5_stepTowards_24 rfl rfl) ?_
  refine vg_cons (vs_iload_n dX5_stepTowards_25 rfl rfl) ?_
  refine vg_cons (vs_cmp_eq dX5_stepTowards_26 (by decide) rfl) ?_
  refine vg_cons (vs_iload_n dX5_stepTowards_29 rfl rfl) ?_
  refine vg_cons (vs_iload_n dX5_stepTowards_30 rfl rfl) ?_
  refine vg_cons (vs_cmp_le dX5_stepTowards_31 (by decide) rfl) ?_
  refine vg_cons (vs_iload_n dX5_stepTowards_34 rfl rfl) ?_
  refine vg_cons (vs_iconst dX5_stepTowards_35 rfl rfl) ?_
  refine vg_cons (vs_iadd dX5_stepTowards_36 rfl) ?_
  refine vg_cons (vs_goto dX5_stepTowards_37 (by decide)) ?_
  refine vg_cons (vs_iload_n dX5_stepTowards_40 rfl rfl) ?_
  refine vg_cons (vs_iconst dX5_stepTowards_41 rfl rfl) ?_
  refine vg_cons (vs_isub dX5_stepTowards_42 rfl) ?_
  refine vg_cons (vs_ireturn dX5_stepTowards_43 rfl) ?_
  refine vg_cons (vs_iload_n dX5_stepTowards_44 rfl rfl) ?_
  refine vg_cons (vs_ireturn dX5_stepTowards_45 rfl) ?_
  exact fun _ h => absurd h List.not_mem_nil
theorem m_X5_stepTowards : vg_Code k_X5_stepTowards := fun q h => (s_X5_stepTowards q h).1

theorem w_X5_stepTowards : vg_Wd sp_X5_stepTowards 2 := by
  intro av σ h
  unfold sp_X5_stepTowards at h
  split at h
  · exact Nat.le_of_ble_eq_true rfl
  · exact h.elim
theorem g_X5_stepTowards : vg_G k_X5_stepTowards sp_X5_stepTowards := by
  intro av σ h
  unfold sp_X5_stepTowards at h ⊢
  split at h
  next a b =>
    refine vg_run (cuts := []) m_X5_stepTowards 60 ?_
    refine And.intro (by decide) (And.intro (by decide) (And.intro (fun hc => ?_) (fun hc => ?_)))
    · refine And.intro (fun hd => ?_) (fun hd => ?_)
      · refine And.intro ?_ rfl
        show some (Sum.inl (Value.int a)) = some (Sum.inl (Value.int (jStep a b)))
        rw [jStep, if_pos hc, if_pos hd]
      · refine And.intro (fun he => ?_) (fun he => ?_)
        · refine And.intro ?_ rfl
          show some (Sum.inl (Value.int (a - 1))) = some (Sum.inl (Value.int (jStep a b)))
          rw [jStep, if_pos hc, if_neg hd, if_pos he]
        · refine And.intro ?_ rfl
          show some (Sum.inl (Value.int (a + 1))) = some (Sum.inl (Value.int (jStep a b)))
          rw [jStep, if_pos hc, if_neg hd, if_neg he]
    · refine And.intro (fun he => ?_) (fun he => ?_)
      · refine And.intro ?_ rfl
        show some (Sum.inl (Value.int (a - 4))) = some (Sum.inl (Value.int (jStep a b)))
        rw [jStep, if_neg hc, if_pos he]
      · refine And.intro ?_ rfl
        show some (Sum.inl (Value.int (a + 4))) = some (Sum.inl (Value.int (jStep a b)))
        rw [jStep, if_neg hc, if_neg he]
  next => exact h.elim
theorem c_X5_stepTowards : vg_MetF ww_tb ww_nw ww_shp ww_nm ww_cl ww_tyl yX5_stepTowards cX5_stepTowards 2 (some .int) 0 sp_X5_stepTowards := vg_met ww_closed (by decide +kernel) rfl s_X5_stepTowards w_X5_stepTowards g_X5_stepTowards
