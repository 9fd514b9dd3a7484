-- words of the tables, and what stands at each place of the methods' code (laid by program)
theorem q_170 : Cond.fieldLink RX1 134 (TX4 5).1 (TX4 5).2.1 (TX4 5).2.2.1 ∈ ww_tb := by decide +kernel
theorem q_171 : Cond.fieldLink RX1 15 (TX1 2).1 (TX1 2).2.1 (TX1 2).2.2.1 ∈ ww_tb := by decide +kernel
theorem q_172 : Cond.methodLink RX1 143 Lib.Math.max.name ∈ ww_tb := by decide +kernel
theorem q_173 : Cond.fieldLink RX1 160 (TX4 1).1 (TX4 1).2.1 (TX4 1).2.2.1 ∈ ww_tb := by decide +kernel
theorem q_174 : Cond.code yX1_keysLacking cX1_keysLacking 2 (some .int) ∈ ww_tb := by decide +kernel
theorem q_175 : Cond.methodLink RX1 152 yX1_keysLacking ∈ ww_tb := by decide +kernel
theorem q_176 : Cond.instanceMethod yX1_keysLacking ∈ ww_tb := by decide +kernel
theorem q_177 : Cond.selects RX1 yX1_keysLacking yX1_keysLacking ∈ ww_tb := by decide +kernel
theorem q_178 : Cond.code yX1_isStillAbout cX1_isStillAbout 3 (some .boolean) ∈ ww_tb := by decide +kernel
theorem q_179 : Cond.methodLink RX1 156 yX1_isStillAbout ∈ ww_tb := by decide +kernel
theorem q_180 : Cond.instanceMethod yX1_isStillAbout ∈ ww_tb := by decide +kernel
theorem q_181 : Cond.selects RX1 yX1_isStillAbout yX1_isStillAbout ∈ ww_tb := by decide +kernel
theorem q_182 : Cond.fieldLink RX1 163 (TX4 0).1 (TX4 0).2.1 (TX4 0).2.2.1 ∈ ww_tb := by decide +kernel
theorem dX2_becomeLike_0 : decode cX2_becomeLike 0 = .ok (.aload_n 0, 1) := by decide +kernel
theorem dX2_becomeLike_1 : decode cX2_becomeLike 1 = .ok (.aload_n 1, 1) := by decide +kernel
theorem dX2_becomeLike_2 : decode cX2_becomeLike 2 = .ok (.getfield 22, 3) := by decide +kernel
theorem dX2_becomeLike_5 : decode cX2_becomeLike 5 = .ok (.putfield 22, 3) := by decide +kernel
theorem dX2_becomeLike_8 : decode cX2_becomeLike 8 = .ok (.iconst 0, 1) := by decide +kernel
theorem dX2_becomeLike_9 : decode cX2_becomeLike 9 = .ok (.istore_n 2, 1) := by decide +kernel
theorem dX2_becomeLike_10 : decode cX2_becomeLike 10 = .ok (.iload_n 2, 1) := by decide +kernel
theorem dX2_becomeLike_11 : decode cX2_becomeLike 11 = .ok (.aload_n 0, 1) := by decide +kernel
theorem dX2_becomeLike_12 : decode cX2_becomeLike 12 = .ok (.getfield 22, 3) := by decide +kernel
theorem dX2_becomeLike_15 : decode cX2_becomeLike 15 = .ok (.if_icmp .ge 45, 3) := by decide +kernel
theorem dX2_becomeLike_18 : decode cX2_becomeLike 18 = .ok (.aload_n 0, 1) := by decide +kernel
theorem dX2_becomeLike_19 : decode cX2_becomeLike 19 = .ok (.getfield 9, 3) := by decide +kernel
theorem dX2_becomeLike_22 : decode cX2_becomeLike 22 = .ok (.iload_n 2, 1) := by decide +kernel
theorem dX2_becomeLike_23 : decode cX2_becomeLike 23 = .ok (.aload_n 1, 1) := by decide +kernel
theorem dX2_becomeLike_24 : decode cX2_becomeLike 24 = .ok (.getfield 9, 3) := by decide +kernel
theorem dX2_becomeLike_27 : decode cX2_becomeLike 27 = .ok (.iload_n 2, 1) := by decide +kernel
theorem dX2_becomeLike_28 : decode cX2_becomeLike 28 = .ok (.iaload, 1) := by decide +kernel
theorem dX2_becomeLike_29 : decode cX2_becomeLike 29 = .ok (.iastore, 1) := by decide +kernel
theorem dX2_becomeLike_30 : decode cX2_becomeLike 30 = .ok (.aload_n 0, 1) := by decide +kernel
theorem dX2_becomeLike_31 : decode cX2_becomeLike 31 = .ok (.getfield 15, 3) := by decide +kernel
theorem dX2_becomeLike_34 : decode cX2_becomeLike 34 = .ok (.iload_n 2, 1) := by decide +kernel
theorem dX2_becomeLike_35 : decode cX2_becomeLike 35 = .ok (.aload_n 1, 1) := by decide +kernel
theorem dX2_becomeLike_36 : decode cX2_becomeLike 36 = .ok (.getfield 15, 3) := by decide +kernel
theorem dX2_becomeLike_39 : decode cX2_becomeLike 39 = .ok (.iload_n 2, 1) := by decide +kernel
theorem dX2_becomeLike_40 : decode cX2_becomeLike 40 = .ok (.iaload, 1) := by decide +kernel
theorem dX2_becomeLike_41 : decode cX2_becomeLike 41 = .ok (.iastore, 1) := by decide +kernel
theorem dX2_becomeLike_42 : decode cX2_becomeLike 42 = .ok (.aload_n 0, 1) := by decide +kernel
theorem dX2_becomeLike_43 : decode cX2_becomeLike 43 = .ok (.getfield 18, 3) := by decide +kernel
theorem dX2_becomeLike_46 : decode cX2_becomeLike 46 = .ok (.iload_n 2, 1) := by decide +kernel
theorem dX2_becomeLike_47 : decode cX2_becomeLike 47 = .ok (.aload_n 1, 1) := by decide +kernel
theorem dX2_becomeLike_48 : decode cX2_becomeLike 48 = .ok (.getfield 18, 3) := by decide +kernel
theorem dX2_becomeLike_51 : decode cX2_becomeLike 51 = .ok (.iload_n 2, 1) := by decide +kernel
theorem dX2_becomeLike_52 : decode cX2_becomeLike 52 = .ok (.baload, 1) := by decide +kernel
theorem dX2_becomeLike_53 : decode cX2_becomeLike 53 = .ok (.bastore, 1) := by decide +kernel
theorem dX2_becomeLike_54 : decode cX2_becomeLike 54 = .ok (.iinc 2 1, 3) := by decide +kernel
theorem dX2_becomeLike_57 : decode cX2_becomeLike 57 = .ok (.goto (-47), 3) := by decide +kernel
theorem dX2_becomeLike_60 : decode cX2_becomeLike 60 = .ok (.return_, 1) := by decide +kernel
theorem dX2_add_0 : decode cX2_add 0 = .ok (.aload_n 0, 1) := by decide +kernel
theorem dX2_add_1 : decode cX2_add 1 = .ok (.getfield 22, 3) := by decide +kernel
theorem dX2_add_4 : decode cX2_add 4 = .ok (.iconst 4, 1) := by decide +kernel
theorem dX2_add_5 : decode cX2_add 5 = .ok (.if_icmp .le 5, 3) := by decide +kernel
theorem dX2_add_8 : decode cX2_add 8 = .ok (.iconst (-1), 1) := by decide +kernel
theorem dX2_add_9 : decode cX2_add 9 = .ok (.ireturn, 1) := by decide +kernel
theorem dX2_add_10 : decode cX2_add 10 = .ok (.aload_n 0, 1) := by decide +kernel
theorem dX2_add_11 : decode cX2_add 11 = .ok (.getfield 9, 3) := by decide +kernel
theorem dX2_add_14 : decode cX2_add 14 = .ok (.aload_n 0, 1) := by decide +kernel
theorem dX2_add_15 : decode cX2_add 15 = .ok (.getfield 22, 3) := by decide +kernel
theorem dX2_add_18 : decode cX2_add 18 = .ok (.iload_n 1, 1) := by decide +kernel
theorem dX2_add_19 : decode cX2_add 19 = .ok (.iastore, 1) := by decide +kernel
theorem dX2_add_20 : decode cX2_add 20 = .ok (.aload_n 0, 1) := by decide +kernel
theorem dX2_add_21 : decode cX2_add 21 = .ok (.getfield 15, 3) := by decide +kernel
theorem dX2_add_24 : decode cX2_add 24 = .ok (.aload_n 0, 1) := by decide +kernel
theorem dX2_add_25 : decode cX2_add 25 = .ok (.getfield 22, 3) := by decide +kernel
theorem dX2_add_28 : decode cX2_add 28 = .ok (.iload_n 2, 1) := by decide +kernel
theorem dX2_add_29 : decode cX2_add 29 = .ok (.iastore, 1) := by decide +kernel
theorem dX2_add_30 : decode cX2_add 30 = .ok (.aload_n 0, 1) := by decide +kernel
theorem dX2_add_31 : decode cX2_add 31 = .ok (.getfield 18, 3) := by decide +kernel
theorem dX2_add_34 : decode cX2_add 34 = .ok (.aload_n 0, 1) := by decide +kernel
theorem dX2_add_35 : decode cX2_add 35 = .ok (.getfield 22, 3) := by decide +kernel
theorem dX2_add_38 : decode cX2_add 38 = .ok (.iconst 1, 1) := by decide +kernel
theorem dX2_add_39 : decode cX2_add 39 = .ok (.bastore, 1) := by decide +kernel
theorem dX2_add_40 : decode cX2_add 40 = .ok (.aload_n 0, 1) := by decide +kernel
theorem dX2_add_41 : decode cX2_add 41 = .ok (.dup, 1) := by decide +kernel
theorem dX2_add_42 : decode cX2_add 42 = .ok (.getfield 22, 3) := by decide +kernel
theorem dX2_add_45 : decode cX2_add 45 = .ok (.dup_x1, 1) := by decide +kernel
theorem dX2_add_46 : decode cX2_add 46 = .ok (.iconst 1, 1) := by decide +kernel
theorem dX2_add_47 : decode cX2_add 47 = .ok (.iadd, 1) := by decide +kernel
theorem dX2_add_48 : decode cX2_add 48 = .ok (.putfield 22, 3) := by decide +kernel
theorem dX2_add_51 : decode cX2_add 51 = .ok (.ireturn, 1) := by decide +kernel
theorem dX1_keysLacking_0 : decode cX1_keysLacking 0 = .ok (.iconst 0, 1) := by decide +kernel
theorem dX1_keysLacking_1 : decode cX1_keysLacking 1 = .ok (.iconst 2, 1) := by decide +kernel
theorem dX1_keysLacking_2 : decode cX1_keysLacking 2 = .ok (.aload_n 1, 1) := by decide +kernel
theorem dX1_keysLacking_3 : decode cX1_keysLacking 3 = .ok (.getfield 134, 3) := by decide +kernel
theorem dX1_keysLacking_6 : decode cX1_keysLacking 6 = .ok (.aload_n 0, 1) := by decide +kernel
theorem dX1_keysLacking_7 : decode cX1_keysLacking 7 = .ok (.getfield 15, 3) := by decide +kernel
theorem dX1_keysLacking_10 : decode cX1_keysLacking 10 = .ok (.iand, 1) := by decide +kernel
theorem dX1_keysLacking_11 : decode cX1_keysLacking 11 = .ok (.invokestatic 137, 3) := by decide +kernel
theorem dX1_keysLacking_14 : decode cX1_keysLacking 14 = .ok (.isub, 1) := by decide +kernel
theorem dX1_keysLacking_15 : decode cX1_keysLacking 15 = .ok (.invokestatic 143, 3) := by decide +kernel
theorem dX1_keysLacking_18 : decode cX1_keysLacking 18 = .ok (.ireturn, 1) := by decide +kernel
theorem dX1_isStillAbout_0 : decode cX1_isStillAbout 0 = .ok (.aload_n 1, 1) := by decide +kernel
theorem dX1_isStillAbout_1 : decode cX1_isStillAbout 1 = .ok (.getfield 160, 3) := by decide +kernel
theorem dX1_isStillAbout_4 : decode cX1_isStillAbout 4 = .ok (.istore_n 2, 1) := by decide +kernel
theorem dX1_isStillAbout_5 : decode cX1_isStillAbout 5 = .ok (.iload_n 2, 1) := by decide +kernel
theorem dX1_isStillAbout_6 : decode cX1_isStillAbout 6 = .ok (.ifCond .lt 23, 3) := by decide +kernel
theorem dX1_isStillAbout_9 : decode cX1_isStillAbout 9 = .ok (.iload_n 2, 1) := by decide +kernel
theorem dX1_isStillAbout_10 : decode cX1_isStillAbout 10 = .ok (.aload_n 0, 1) := by decide +kernel
theorem dX1_isStillAbout_11 : decode cX1_isStillAbout 11 = .ok (.getfield 68, 3) := by decide +kernel
theorem dX1_isStillAbout_14 : decode cX1_isStillAbout 14 = .ok (.if_icmp .ge 15, 3) := by decide +kernel
theorem dX1_isStillAbout_17 : decode cX1_isStillAbout 17 = .ok (.aload_n 0, 1) := by decide +kernel
theorem dX1_isStillAbout_18 : decode cX1_isStillAbout 18 = .ok (.getfield 32, 3) := by decide +kernel
theorem dX1_isStillAbout_21 : decode cX1_isStillAbout 21 = .ok (.iload_n 2, 1) := by decide +kernel
theorem dX1_isStillAbout_22 : decode cX1_isStillAbout 22 = .ok (.aaload, 1) := by decide +kernel
theorem dX1_isStillAbout_23 : decode cX1_isStillAbout 23 = .ok (.getfield 112, 3) := by decide +kernel
theorem dX1_isStillAbout_26 : decode cX1_isStillAbout 26 = .ok (.ifCond .eq 7, 3) := by decide +kernel
theorem dX1_isStillAbout_29 : decode cX1_isStillAbout 29 = .ok (.iconst 1, 1) := by decide +kernel
theorem dX1_isStillAbout_30 : decode cX1_isStillAbout 30 = .ok (.goto 4, 3) := by decide +kernel
theorem dX1_isStillAbout_33 : decode cX1_isStillAbout 33 = .ok (.iconst 0, 1) := by decide +kernel
theorem dX1_isStillAbout_34 : decode cX1_isStillAbout 34 = .ok (.ireturn, 1) := by decide +kernel
theorem dX1_isSendable_0 : decode cX1_isSendable 0 = .ok (.aload_n 1, 1) := by decide +kernel
theorem dX1_isSendable_1 : decode cX1_isSendable 1 = .ok (.getfield 149, 3) := by decide +kernel
theorem dX1_isSendable_4 : decode cX1_isSendable 4 = .ok (.iconst (-1), 1) := by decide +kernel
theorem dX1_isSendable_5 : decode cX1_isSendable 5 = .ok (.if_icmp .ne 23, 3) := by decide +kernel
theorem dX1_isSendable_8 : decode cX1_isSendable 8 = .ok (.aload_n 0, 1) := by decide +kernel
theorem dX1_isSendable_9 : decode cX1_isSendable 9 = .ok (.aload_n 1, 1) := by decide +kernel
theorem dX1_isSendable_10 : decode cX1_isSendable 10 = .ok (.invokevirtual 152, 3) := by decide +kernel
theorem dX1_isSendable_13 : decode cX1_isSendable 13 = .ok (.ifCond .ne 15, 3) := by decide +kernel
theorem dX1_isSendable_16 : decode cX1_isSendable 16 = .ok (.aload_n 0, 1) := by decide +kernel
theorem dX1_isSendable_17 : decode cX1_isSendable 17 = .ok (.aload_n 1, 1) := by decide +kernel
theorem dX1_isSendable_18 : decode cX1_isSendable 18 = .ok (.invokevirtual 156, 3) := by decide +kernel
theorem dX1_isSendable_21 : decode cX1_isSendable 21 = .ok (.ifCond .eq 7, 3) := by decide +kernel
theorem dX1_isSendable_24 : decode cX1_isSendable 24 = .ok (.iconst 1, 1) := by decide +kernel
theorem dX1_isSendable_25 : decode cX1_isSendable 25 = .ok (.goto 4, 3) := by decide +kernel
theorem dX1_isSendable_28 : decode cX1_isSendable 28 = .ok (.iconst 0, 1) := by decide +kernel
theorem dX1_isSendable_29 : decode cX1_isSendable 29 = .ok (.ireturn, 1) := by decide +kernel
theorem dX1_sendOut_0 : decode cX1_sendOut 0 = .ok (.aload_n 1, 1) := by decide +kernel
theorem dX1_sendOut_1 : decode cX1_sendOut 1 = .ok (.getfield 160, 3) := by decide +kernel
theorem dX1_sendOut_4 : decode cX1_sendOut 4 = .ok (.istore_n 2, 1) := by decide +kernel
theorem dX1_sendOut_5 : decode cX1_sendOut 5 = .ok (.aload_n 1, 1) := by decide +kernel
theorem dX1_sendOut_6 : decode cX1_sendOut 6 = .ok (.aload_n 0, 1) := by decide +kernel
theorem dX1_sendOut_7 : decode cX1_sendOut 7 = .ok (.getfield 56, 3) := by decide +kernel
theorem dX1_sendOut_10 : decode cX1_sendOut 10 = .ok (.putfield 149, 3) := by decide +kernel
theorem dX1_sendOut_13 : decode cX1_sendOut 13 = .ok (.aload_n 1, 1) := by decide +kernel
theorem dX1_sendOut_14 : decode cX1_sendOut 14 = .ok (.aload_n 1, 1) := by decide +kernel
theorem dX1_sendOut_15 : decode cX1_sendOut 15 = .ok (.getfield 163, 3) := by decide +kernel
theorem dX1_sendOut_18 : decode cX1_sendOut 18 = .ok (.iconst 2, 1) := by decide +kernel
theorem dX1_sendOut_19 : decode cX1_sendOut 19 = .ok (.if_icmp .eq 7, 3) := by decide +kernel
theorem dX1_sendOut_22 : decode cX1_sendOut 22 = .ok (.iconst 1, 1) := by decide +kernel
theorem dX1_sendOut_23 : decode cX1_sendOut 23 = .ok (.goto 4, 3) := by decide +kernel
theorem dX1_sendOut_26 : decode cX1_sendOut 26 = .ok (.iconst 0, 1) := by decide +kernel
theorem dX1_sendOut_27 : decode cX1_sendOut 27 = .ok (.putfield 112, 3) := by decide +kernel
theorem dX1_sendOut_30 : decode cX1_sendOut 30 = .ok (.iload_n 2, 1) := by decide +kernel
theorem dX1_sendOut_31 : decode cX1_sendOut 31 = .ok (.ifCond .lt 11, 3) := by decide +kernel
theorem dX1_sendOut_34 : decode cX1_sendOut 34 = .ok (.iload_n 2, 1) := by decide +kernel
theorem dX1_sendOut_35 : decode cX1_sendOut 35 = .ok (.aload_n 0, 1) := by decide +kernel
theorem dX1_sendOut_36 : decode cX1_sendOut 36 = .ok (.getfield 68, 3) := by decide +kernel
theorem dX1_sendOut_39 : decode cX1_sendOut 39 = .ok (.if_icmp .lt 4, 3) := by decide +kernel
theorem dX1_sendOut_42 : decode cX1_sendOut 42 = .ok (.return_, 1) := by decide +kernel
theorem dX1_sendOut_43 : decode cX1_sendOut 43 = .ok (.aload_n 0, 1) := by decide +kernel
theorem dX1_sendOut_44 : decode cX1_sendOut 44 = .ok (.getfield 32, 3) := by decide +kernel
theorem dX1_sendOut_47 : decode cX1_sendOut 47 = .ok (.iload_n 2, 1) := by decide +kernel
theorem dX1_sendOut_48 : decode cX1_sendOut 48 = .ok (.aaload, 1) := by decide +kernel
theorem dX1_sendOut_49 : decode cX1_sendOut 49 = .ok (.iconst 0, 1) := by decide +kernel
theorem dX1_sendOut_50 : decode cX1_sendOut 50 = .ok (.putfield 112, 3) := by decide +kernel
theorem dX1_sendOut_53 : decode cX1_sendOut 53 = .ok (.aload_n 1, 1) := by decide +kernel
theorem dX1_sendOut_54 : decode cX1_sendOut 54 = .ok (.getfield 163, 3) := by decide +kernel
theorem dX1_sendOut_57 : decode cX1_sendOut 57 = .ok (.iconst 2, 1) := by decide +kernel
theorem dX1_sendOut_58 : decode cX1_sendOut 58 = .ok (.if_icmp .ne 12, 3) := by decide +kernel
theorem dX1_sendOut_61 : decode cX1_sendOut 61 = .ok (.aload_n 0, 1) := by decide +kernel
theorem dX1_sendOut_62 : decode cX1_sendOut 62 = .ok (.iload_n 2, 1) := by decide +kernel
theorem dX1_sendOut_63 : decode cX1_sendOut 63 = .ok (.invokevirtual 166, 3) := by decide +kernel
theorem dX1_sendOut_66 : decode cX1_sendOut 66 = .ok (.aload_n 0, 1) := by decide +kernel
theorem dX1_sendOut_67 : decode cX1_sendOut 67 = .ok (.invokevirtual 170, 3) := by decide +kernel
theorem dX1_sendOut_70 : decode cX1_sendOut 70 = .ok (.return_, 1) := by decide +kernel
/-! senders become like others; what can be sent, and sending -/
theorem jinW {x c : Int32} {n N : Nat} (h0 : ¬ x < 0) (h1 : ¬ c ≤ x) (hc : c = nI n) (hn : n ≤ N) (hN : N < 1000) : vp_in x N := by
  rw [vp_in_iff]
  have a := Int32.not_lt.mp h0
  have d := Int32.not_le.mp h1
  rw [Int32.le_iff_toInt_le] at a
  rw [hc, Int32.lt_iff_toInt_lt, nI_toInt (by omega)] at d
  have z : (0 : Int32).toInt = 0 := by decide
  omega
def jRo (R : Nat → Nat → Nat → Bool) (k i s : Nat) : Nat → Nat → Nat → Bool := fun k' i' s' => R k' i' s' || (k' == k && i' == i && s' == s)
theorem jCp_up {R : Nat → Nat → Nat → Bool} {w v : jN} {k i s : Nat} {x : Int32} (hx : x = w k i s) : jUp (jCp R w v) k i s x = jCp (jRo R k i s) w v := by
  subst hx
  funext k' i' s'
  unfold jUp jCp jRo
  by_cases h : k' = k ∧ i' = i ∧ s' = s
  · obtain ⟨rfl, rfl, rfl⟩ := h
    simp
  · rw [if_neg h]
    have e : (k' == k && i' == i && s' == s) = false := by
      rw [Bool.eq_false_iff]
      intro z
      simp only [Bool.and_eq_true, beq_iff_eq] at z
      exact h ⟨z.1.1, z.1.2, z.2⟩
    rw [e, Bool.or_false]
theorem jCp_cg {R R' : Nat → Nat → Nat → Bool} {w v : jN} (h : ∀ k i s, (R k i s = true ↔ R' k i s = true)) : jCp R w v = jCp R' w v := by
  funext k i s
  unfold jCp
  rw [Bool.eq_iff_iff.mpr (h k i s)]
theorem jCp_cp {R R' : Nat → Nat → Nat → Bool} {w v : jN} : jCp R w (jCp R' w v) = jCp (fun k i s => R k i s || R' k i s) w v := by
  funext k i s
  unfold jCp
  by_cases h : R k i s = true
  · simp [h]
  · simp [h]
theorem jCp_t {R : Nat → Nat → Nat → Bool} {w v : jN} {k i s : Nat} (h : R k i s = true) : jCp R w v k i s = w k i s := if_pos h
theorem jCp_f {R : Nat → Nat → Nat → Bool} {w v : jN} {k i s : Nat} (h : ¬ R k i s = true) : jCp R w v k i s = v k i s := if_neg h
def jRS (j n : Nat) : Nat → Nat → Nat → Bool := fun k i s => i == j && ((k == 5 && s == 3) || ((k == 7 || k == 13 || k == 8) && decide (s < n)))
theorem jRS_0 {w v : jN} {j : Nat} {x : Int32} (hx : x = w 5 j 3) : jUp v 5 j 3 x = jCp (jRS j 0) w v := by
  subst hx
  funext k i s
  unfold jUp jCp jRS
  by_cases h : k = 5 ∧ i = j ∧ s = 3
  · obtain ⟨rfl, rfl, rfl⟩ := h
    simp
  · rw [if_neg h, if_neg ?_]
    intro z
    simp only [Bool.and_eq_true, Bool.or_eq_true, beq_iff_eq, decide_eq_true_eq] at z
    omega
theorem jRS_s {w v : jN} {j n : Nat} : jCp (jRo (jRo (jRo (jRS j n) 7 j n) 13 j n) 8 j n) w v = jCp (jRS j (n + 1)) w v := by
  refine jCp_cg (fun k i s => ?_)
  unfold jRo jRS
  simp only [Bool.and_eq_true, Bool.or_eq_true, beq_iff_eq, decide_eq_true_eq]
  omega
def sp_X2_becomeLike : vgC := fun av σ => match av with
  | [.inr (5, b, j), .inr (5, b', j')] => (j' = j ∧ ¬ b' = b ∧ (jV σ b' 5 j 3 = nI (jNc (jV σ b') j) ∧ jNc (jV σ b') j ≤ 5) ∧ ∀ s, s < 5 → jV σ b' 8 j s = 0 ∨ jV σ b' 8 j s = 1, none, jPut σ b (jCp (jRS j (jNc (jV σ b') j)) (jV σ b') (jV σ b)))
  | _ => (False, none, σ)
def k_X2_becomeLike : List (Nat × vgF) := [(0, vi_aload 0 1), (1, vi_aload 1 2), (2, vi_get ww_shp 2 3 5), (5, vi_put ww_shp 2 3 8), (8, vi_icst (0) 9), (9, vi_istore 2 10), (10, vi_iload 2 11), (11, vi_aload 0 12), (12, vi_get ww_shp 2 3 15), (15, vi_cmp (fun x y => y ≤ x) 60 18), (18, vi_aload 0 19), (19, vi_get ww_shp 2 0 22), (22, vi_iload 2 23), (23, vi_aload 1 24), (24, vi_get ww_shp 2 0 27), (27, vi_iload 2 28), (28, vi_ald ww_shp 0 29), (29, vi_ast ww_shp 0 30), (30, vi_aload 0 31), (31, vi_get ww_shp 2 1 34), (34, vi_iload 2 35), (35, vi_aload 1 36), (36, vi_get ww_shp 2 1 39), (39, vi_iload 2 40), (40, vi_ald ww_shp 0 41), (41, vi_ast ww_shp 0 42), (42, vi_aload 0 43), (43, vi_get ww_shp 2 2 46), (46, vi_iload 2 47), (47, vi_aload 1 48), (48, vi_get ww_shp 2 2 51), (51, vi_iload 2 52), (52, vi_ald ww_shp 1 53), (53, vi_astZ ww_shp 1 54), (54, vi_iinc 2 (1) 57), (57, vi_goto 10), (60, vi_retV)]
set_option maxRecDepth 20000 in
theorem s_X2_becomeLike : ∀ q ∈ k_X2_becomeLike, vg_Snd ww_tb ww_nw ww_shp ww_nm ww_cl ww_tyl cX2_becomeLike 3 RX2 none 0 q.1 q.2 := by
  refine vg_cons (vs_aload_n dX2_becomeLike_0 rfl rfl) ?_
  refine vg_cons (vs_aload_n dX2_becomeLike_1 rfl rfl) ?_
  refine vg_cons (vs_getfield (T := TX2) dX2_becomeLike_2 rfl (by decide) ww_inX2 q_64 rfl) ?_
  refine vg_cons (vs_putfield (T := TX2) tyX2 dX2_becomeLike_5 rfl (by decide) ww_inX2 tyX2_ok nmX2 rfl rfl q_64 rfl) ?_
  refine vg_cons (vs_iconst dX2_becomeLike_8 rfl rfl) ?_
  refine vg_cons (vs_istore_n dX2_becomeLike_9 rfl (by decide) rfl) ?_
  refine vg_cons (vs_iload_n dX2_becomeLike_10 rfl rfl) ?_
  refine vg_cons (vs_aload_n dX2_becomeLike_11 rfl rfl) ?_
  refine vg_cons (vs_getfield (T := TX2) dX2_becomeLike_12 rfl (by decide) ww_inX2 q_64 rfl) ?_
  refine vg_cons (vs_cmp_ge dX2_becomeLike_15 (by decide) rfl) ?_
  refine vg_cons (vs_aload_n dX2_becomeLike_18 rfl rfl) ?_
  refine vg_cons (vs_getfield (T := TX2) dX2_becomeLike_19 rfl (by decide) ww_inX2 q_66 rfl) ?_
  refine vg_cons (vs_iload_n dX2_becomeLike_22 rfl rfl) ?_
  refine vg_cons (vs_aload_n dX2_becomeLike_23 rfl rfl) ?_
  refine vg_cons (vs_getfield (T := TX2) dX2_becomeLike_24 rfl (by decide) ww_inX2 q_66 rfl) ?_
  refine vg_cons (vs_iload_n dX2_becomeLike_27 rfl rfl) ?_
  refine vg_cons (vs_iaload dX2_becomeLike_28 rfl rfl) ?_
  refine vg_cons (vs_iastore dX2_becomeLike_29 rfl rfl) ?_
  refine vg_cons (vs_aload_n dX2_becomeLike_30 rfl rfl) ?_
  refine vg_cons (vs_getfield (T := TX2) dX2_becomeLike_31 rfl (by decide) ww_inX2 q_67 rfl) ?_
  refine vg_cons (vs_iload_n dX2_becomeLike_34 rfl rfl) ?_
  refine vg_cons (vs_aload_n dX2_becomeLike_35 rfl rfl) ?_
  refine vg_cons (vs_getfield (T := TX2) dX2_becomeLike_36 rfl (by decide) ww_inX2 q_67 rfl) ?_
  refine vg_cons (vs_iload_n dX2_becomeLike_39 rfl rfl) ?_
  refine vg_cons (vs_iaload dX2_becomeLike_40 rfl rfl) ?_
  refine vg_cons (vs_iastore dX2_becomeLike_41 rfl rfl) ?_
  refine vg_cons (vs_aload_n dX2_becomeLike_42 rfl rfl) ?_
  refine vg_cons (vs_getfield (T := TX2) dX2_becomeLike_43 rfl (by decide) ww_inX2 q_65 rfl) ?_
  refine vg_cons (vs_iload_n dX2_becomeLike_46 rfl rfl) ?_
  refine vg_cons (vs_aload_n dX2_becomeLike_47 rfl rfl) ?_
  refine vg_cons (vs_getfield (T := TX2) dX2_becomeLike_48 rfl (by decide) ww_inX2 q_65 rfl) ?_
  refine vg_cons (vs_iload_n dX2_becomeLike_51 rfl rfl) ?_
  refine vg_cons (vs_zaload dX2_becomeLike_52 rfl rfl) ?_
  refine vg_cons (vs_zastore dX2_becomeLike_53 rfl rfl) ?_
  refine vg_cons (vs_iinc dX2_becomeLike_54 rfl rfl) ?_
  refine vg_cons (vs_goto dX2_becomeLike_57 (by decide)) ?_
  refine vg_cons (vs_return dX2_becomeLike_60 rfl) ?_
  exact fun _ h => absurd h List.not_mem_nil
theorem m_X2_becomeLike : vg_Code k_X2_becomeLike := fun q h => (s_X2_becomeLike q h).1

theorem w_X2_becomeLike : vg_Wd sp_X2_becomeLike 3 := by
  intro av σ h
  unfold sp_X2_becomeLike at h
  split at h
  · exact Nat.le_of_ble_eq_true rfl
  · exact h.elim
theorem g_X2_becomeLike : vg_G k_X2_becomeLike sp_X2_becomeLike := by
  intro av σ h
  unfold sp_X2_becomeLike at h ⊢
  split at h
  next b j b' j' =>
    obtain ⟨rfl, hbb, hn, hz⟩ := h
    have h5 := hn.2
    refine vg_run (cuts := [(10, [0, 1, 2])]) m_X2_becomeLike 20 ?_
    refine vg_loop (fun i lv σ' => ∃ x, σ' = jPut σ b (jCp (jRS j' i) (jV σ b') (jV σ b)) ∧ x = nI i ∧ lv = [(0, .inr (5, b, j')), (1, .inr (5, b', j')), (2, .inl (.int x))]) (jNc (jV σ b') j') ?_ ?_ 0 _ _ (Nat.zero_le _) ⟨0, ?_, rfl, rfl⟩
    · rintro i lv σ' hi ⟨x, rfl, hx, rfl⟩ ih
      have hc0 : x.toNatClampNeg = i := jcl hx (by omega)
      have hv : vp_in x 5 := jin hx (by omega) (by decide)
      have hcnt : jPut σ b (jCp (jRS j' i) (jV σ b') (jV σ b)) (5, b, j') 3 = nI (jNc (jV σ b') j') := by rw [jPut_at, jCp_t (by simp [jRS])]; exact hn.1
      have hr : ∀ v k s, jPut σ b v (k, b', j') s = jV σ b' k j' s := fun v k s => jPut_ne hbb
      refine vg_run (cuts := [(10, [0, 1, 2])]) m_X2_becomeLike 60 ?_
      refine And.intro (fun hc => absurd ((jle hcnt hx (by omega) (by omega)).mp hc) (by omega)) (fun _ => ?_)
      refine And.intro hv (And.intro hv (And.intro hv (And.intro hv (And.intro hv (And.intro (And.intro hv ?_) ?_)))))
      · dsimp only
        rw [hc0, jst, jst, hr]
        exact hz i (by omega)
      · refine ih _ _ ⟨x + 1, ?_, jinc hx, rfl⟩
        dsimp only
        rw [hc0, jst, jst, jst, hr, hr, hr, jCp_up rfl, jCp_up rfl, jCp_up rfl, jRS_s]
    · rintro lv σ' ⟨x, rfl, hx, rfl⟩
      have hcnt : jPut σ b (jCp (jRS j' (jNc (jV σ b') j')) (jV σ b') (jV σ b)) (5, b, j') 3 = nI (jNc (jV σ b') j') := by rw [jPut_at, jCp_t (by simp [jRS])]; exact hn.1
      refine vg_run (cuts := [(10, [0, 1, 2])]) m_X2_becomeLike 20 ?_
      exact And.intro (fun _ => And.intro rfl rfl) (fun hc => absurd ((jle hcnt hx (by omega) (by omega)).mpr (Nat.le_refl _)) hc)
    · rw [jst0]
      exact congrArg _ (jRS_0 rfl)
  next => exact h.elim
theorem c_X2_becomeLike : vg_MetF ww_tb ww_nw ww_shp ww_nm ww_cl ww_tyl yX2_becomeLike cX2_becomeLike 3 none 0 sp_X2_becomeLike := vg_met ww_closed (by decide +kernel) rfl s_X2_becomeLike w_X2_becomeLike g_X2_becomeLike
/-- one more siren or mast -/
def jAddS (v : jN) (j : Nat) (c r : Int32) : jN := jUp (jUp (jUp (jUp v 7 j (jNc v j) c) 13 j (jNc v j) r) 8 j (jNc v j) 1) 5 j 3 (v 5 j 3 + 1)
def sp_X2_add : vgC := fun av σ => match av with
  | [.inr (5, b, j), .inl (.int c), .inl (.int r)] => (jV σ b 5 j 3 = nI (jNc (jV σ b) j) ∧ jNc (jV σ b) j ≤ 4, some (.inl (.int (jV σ b 5 j 3))), jPut σ b (jAddS (jV σ b) j c r))
  | _ => (False, none, σ)
def k_X2_add : List (Nat × vgF) := [(0, vi_aload 0 1), (1, vi_get ww_shp 2 3 4), (4, vi_icst (4) 5), (5, vi_cmp (fun x y => x ≤ y) 10 8), (8, vi_icst (-1) 9), (9, vi_ret), (10, vi_aload 0 11), (11, vi_get ww_shp 2 0 14), (14, vi_aload 0 15), (15, vi_get ww_shp 2 3 18), (18, vi_iload 1 19), (19, vi_ast ww_shp 0 20), (20, vi_aload 0 21), (21, vi_get ww_shp 2 1 24), (24, vi_aload 0 25), (25, vi_get ww_shp 2 3 28), (28, vi_iload 2 29), (29, vi_ast ww_shp 0 30), (30, vi_aload 0 31), (31, vi_get ww_shp 2 2 34), (34, vi_aload 0 35), (35, vi_get ww_shp 2 3 38), (38, vi_icst (1) 39), (39, vi_astZ ww_shp 1 40), (40, vi_aload 0 41), (41, vi_dup 42), (42, vi_get ww_shp 2 3 45), (45, vi_dupx1 46), (46, vi_icst (1) 47), (47, vi_bin (fun x y => x + y) 48), (48, vi_put ww_shp 2 3 51), (51, vi_ret)]
set_option maxRecDepth 20000 in
theorem s_X2_add : ∀ q ∈ k_X2_add, vg_Snd ww_tb ww_nw ww_shp ww_nm ww_cl ww_tyl cX2_add 3 RX2 (some .int) 0 q.1 q.2 := by
  refine vg_cons (vs_aload_n dX2_add_0 rfl rfl) ?_
  refine vg_cons (vs_getfield (T := TX2) dX2_add_1 rfl (by decide) ww_inX2 q_64 rfl) ?_
  refine vg_cons (vs_iconst dX2_add_4 rfl rfl) ?_
  refine vg_cons (vs_cmp_le dX2_add_5 (by decide) rfl) ?_
  refine vg_cons (vs_iconst dX2_add_8 rfl rfl) ?_
  refine vg_cons (vs_ireturn dX2_add_9 rfl) ?_
  refine vg_cons (vs_aload_n dX2_add_10 rfl rfl) ?_
  refine vg_cons (vs_getfield (T := TX2) dX2_add_11 rfl (by decide) ww_inX2 q_66 rfl) ?_
  refine vg_cons (vs_aload_n dX2_add_14 rfl rfl) ?_
  refine vg_cons (vs_getfield (T := TX2) dX2_add_15 rfl (by decide) ww_inX2 q_64 rfl) ?_
  refine vg_cons (vs_iload_n dX2_add_18 rfl rfl) ?_
  refine vg_cons (vs_iastore dX2_add_19 rfl rfl) ?_
  refine vg_cons (vs_aload_n dX2_add_20 rfl rfl) ?_
  refine vg_cons (vs_getfield (T := TX2) dX2_add_21 rfl (by decide) ww_inX2 q_67 rfl) ?_
  refine vg_cons (vs_aload_n dX2_add_24 rfl rfl) ?_
  refine vg_cons (vs_getfield (T := TX2) dX2_add_25 rfl (by decide) ww_inX2 q_64 rfl) ?_
  refine vg_cons (vs_iload_n dX2_add_28 rfl rfl) ?_
  refine vg_cons (vs_iastore dX2_add_29 rfl rfl) ?_
  refine vg_cons (vs_aload_n dX2_add_30 rfl rfl) ?_
  refine vg_cons (vs_getfield (T := TX2) dX2_add_31 rfl (by decide) ww_inX2 q_65 rfl) ?_
  refine vg_cons (vs_aload_n dX2_add_34 rfl rfl) ?_
  refine vg_cons (vs_getfield (T := TX2) dX2_add_35 rfl (by decide) ww_inX2 q_64 rfl) ?_
  refine vg_cons (vs_iconst dX2_add_38 rfl rfl) ?_
  refine vg_cons (vs_zastore dX2_add_39 rfl rfl) ?_
  refine vg_cons (vs_aload_n dX2_add_40 rfl rfl) ?_
  refine vg_cons (vs_dup dX2_add_41 rfl) ?_
  refine vg_cons (vs_getfield (T := TX2) dX2_add_42 rfl (by decide) ww_inX2 q_64 rfl) ?_
  refine vg_cons (vs_dup_x1 dX2_add_45 rfl) ?_
  refine vg_cons (vs_iconst dX2_add_46 rfl rfl) ?_
  refine vg_cons (vs_iadd dX2_add_47 rfl) ?_
  refine vg_cons (vs_putfield (T := TX2) tyX2 dX2_add_48 rfl (by decide) ww_inX2 tyX2_ok nmX2 rfl rfl q_64 rfl) ?_
  refine vg_cons (vs_ireturn dX2_add_51 rfl) ?_
  exact fun _ h => absurd h List.not_mem_nil
theorem m_X2_add : vg_Code k_X2_add := fun q h => (s_X2_add q h).1

theorem w_X2_add : vg_Wd sp_X2_add 3 := by
  intro av σ h
  unfold sp_X2_add at h
  split at h
  · exact Nat.le_of_ble_eq_true rfl
  · exact h.elim
theorem g_X2_add : vg_G k_X2_add sp_X2_add := by
  intro av σ h
  unfold sp_X2_add at h ⊢
  split at h
  next b j c r =>
    obtain ⟨hn, h4⟩ := h
    have hv : vp_in (jV σ b 5 j 3) 5 := jin hn (by omega) (by decide)
    refine vg_run (cuts := []) m_X2_add 60 ?_
    refine And.intro (fun _ => ?_) (fun hc => absurd ((jle (n := jNc (jV σ b) j) (i := 4) hn rfl (by omega) (by omega)).mpr h4) hc)
    have hr : ∀ (σ' : vgS) k x y, ¬ 5 = k → vg_st σ' (k, b, j) x y (5, b, j) 3 = σ' (5, b, j) 3 := by
      intro σ' k x y hk
      rw [vg_st_eq, if_neg]
      exact fun z => hk (congrArg Prod.fst z.1)
    refine And.intro hv (And.intro ?_ (And.intro (And.intro ?_ (Or.inr rfl)) (And.intro rfl (And.intro ⟨rfl, rfl⟩ ?_))))
    · dsimp only
      rw [hr _ _ _ _ (by decide)]
      exact hv
    · dsimp only
      rw [hr _ _ _ _ (by decide), hr _ _ _ _ (by decide)]
      exact hv
    · refine And.intro ?_ ?_
      · dsimp only
        rw [hr _ _ _ _ (by decide), hr _ _ _ _ (by decide), hr _ _ _ _ (by decide)]
        rfl
      · dsimp only
        simp only [hr _ 7 _ _ (by decide), hr _ 13 _ _ (by decide), hr _ 8 _ _ (by decide)]
        rw [jst0 (k := 7), jst, jst, jst]
        rfl
  next => exact h.elim
theorem c_X2_add : vg_MetF ww_tb ww_nw ww_shp ww_nm ww_cl ww_tyl yX2_add cX2_add 3 (some .int) 0 sp_X2_add := vg_met ww_closed (by decide +kernel) rfl s_X2_add w_X2_add g_X2_add
/-- how many approvals in hand are lacking -/
def jLack (v : jN) (w : Nat) : Int32 := if (0 : Int32) < 2 - jBits (v 11 w 5 &&& v 1 0 2) then 2 - jBits (v 11 w 5 &&& v 1 0 2) else 0
abbrev jStill (v : jN) (w : Nat) : Prop := v 11 w 1 < 0 ∨ v 1 0 6 ≤ v 11 w 1 ∨ ¬ v 11 (v 11 w 1).toNatClampNeg 7 = 0

abbrev jCan (v : jN) (w : Nat) : Prop := v 11 w 6 = -1 ∧ jLack v w = 0 ∧ jStill v w

def sp_X1_keysLacking : vgC := fun av σ => match av with
  | [.inr (1, b, 0), .inr (11, b', w)] => (b' = b, some (.inl (.int (jLack (jV σ b) w))), σ)
  | _ => (False, none, σ)
def k_X1_keysLacking : List (Nat × vgF) := [(0, vi_icst (0) 1), (1, vi_icst (2) 2), (2, vi_aload 1 3), (3, vi_get ww_shp 4 5 6), (6, vi_aload 0 7), (7, vi_get ww_shp 1 2 10), (10, vi_bin (fun x y => x &&& y) 11), (11, vi_callS sp_J6_bitCount_0f7a4 1 14), (14, vi_bin (fun x y => x - y) 15), (15, vi_max 18), (18, vi_ret)]
set_option maxRecDepth 20000 in
theorem s_X1_keysLacking : ∀ q ∈ k_X1_keysLacking, vg_Snd ww_tb ww_nw ww_shp ww_nm ww_cl ww_tyl cX1_keysLacking 2 RX1 (some .int) 1 q.1 q.2 := by
  refine vg_cons (vs_iconst dX1_keysLacking_0 rfl rfl) ?_
  refine vg_cons (vs_iconst dX1_keysLacking_1 rfl rfl) ?_
  refine vg_cons (vs_aload_n dX1_keysLacking_2 rfl rfl) ?_
  refine vg_cons (vs_getfield (T := TX4) dX1_keysLacking_3 rfl (by decide) ww_inX4 q_170 rfl) ?_
  refine vg_cons (vs_aload_n dX1_keysLacking_6 rfl rfl) ?_
  refine vg_cons (vs_getfield (T := TX1) dX1_keysLacking_7 rfl (by decide) ww_inX1 q_171 rfl) ?_
  refine vg_cons (vs_iand dX1_keysLacking_10 rfl) ?_
  refine vg_cons (vs_callS c_J6_bitCount_0f7a4 dX1_keysLacking_11 ww_good q_108 q_109 q_111 q_110 (by decide +kernel) (by decide) rfl) ?_
  refine vg_cons (vs_isub dX1_keysLacking_14 rfl) ?_
  refine vg_cons (vs_max dX1_keysLacking_15 q_172 q_8 q_2 q_9 (by decide) rfl) ?_
  refine vg_cons (vs_ireturn dX1_keysLacking_18 rfl) ?_
  exact fun _ h => absurd h List.not_mem_nil
theorem m_X1_keysLacking : vg_Code k_X1_keysLacking := fun q h => (s_X1_keysLacking q h).1

theorem w_X1_keysLacking : vg_Wd sp_X1_keysLacking 2 := by
  intro av σ h
  unfold sp_X1_keysLacking at h
  split at h
  · exact Nat.le_of_ble_eq_true rfl
  · exact h.elim
theorem g_X1_keysLacking : vg_G k_X1_keysLacking sp_X1_keysLacking := by
  intro av σ h
  unfold sp_X1_keysLacking at h ⊢
  split at h
  next b b' w =>
    subst h
    refine vg_run (cuts := []) m_X1_keysLacking 30 ?_
    exact And.intro trivial (And.intro rfl rfl)
  next => exact h.elim
theorem c_X1_keysLacking : vg_MetF ww_tb ww_nw ww_shp ww_nm ww_cl ww_tyl yX1_keysLacking cX1_keysLacking 2 (some .int) 1 sp_X1_keysLacking := vg_met ww_closed (by decide +kernel) rfl s_X1_keysLacking w_X1_keysLacking g_X1_keysLacking
def sp_X1_isStillAbout : vgC := fun av σ => match av with
  | [.inr (1, b, 0), .inr (11, b', w)] => (b' = b ∧ jWf (jV σ b), some (.inl (.int (jb (jStill (jV σ b) w)))), σ)
  | _ => (False, none, σ)
def k_X1_isStillAbout : List (Nat × vgF) := [(0, vi_aload 1 1), (1, vi_get ww_shp 4 1 4), (4, vi_istore 2 5), (5, vi_iload 2 6), (6, vi_if (fun x => x < 0) 29 9), (9, vi_iload 2 10), (10, vi_aload 0 11), (11, vi_get ww_shp 1 6 14), (14, vi_cmp (fun x y => y ≤ x) 29 17), (17, vi_aload 0 18), (18, vi_get ww_shp 1 9 21), (21, vi_iload 2 22), (22, vi_aald ww_shp 4 23), (23, vi_get ww_shp 4 7 26), (26, vi_if (fun x => x = 0) 33 29), (29, vi_icst (1) 30), (30, vi_goto 34), (33, vi_icst (0) 34), (34, vi_retZ)]
set_option maxRecDepth 20000 in
theorem s_X1_isStillAbout : ∀ q ∈ k_X1_isStillAbout, vg_Snd ww_tb ww_nw ww_shp ww_nm ww_cl ww_tyl cX1_isStillAbout 3 RX1 (some .boolean) 0 q.1 q.2 := by
  refine vg_cons (vs_aload_n dX1_isStillAbout_0 rfl rfl) ?_
  refine vg_cons (vs_getfield (T := TX4) dX1_isStillAbout_1 rfl (by decide) ww_inX4 q_173 rfl) ?_
  refine vg_cons (vs_istore_n dX1_isStillAbout_4 rfl (by decide) rfl) ?_
  refine vg_cons (vs_iload_n dX1_isStillAbout_5 rfl rfl) ?_
  refine vg_cons (vs_if_lt dX1_isStillAbout_6 (by decide) rfl) ?_
  refine vg_cons (vs_iload_n dX1_isStillAbout_9 rfl rfl) ?_
  refine vg_cons (vs_aload_n dX1_isStillAbout_10 rfl rfl) ?_
  refine vg_cons (vs_getfield (T := TX1) dX1_isStillAbout_11 rfl (by decide) ww_inX1 q_16 rfl) ?_
  refine vg_cons (vs_cmp_ge dX1_isStillAbout_14 (by decide) rfl) ?_
  refine vg_cons (vs_aload_n dX1_isStillAbout_17 rfl rfl) ?_
  refine vg_cons (vs_getfield (T := TX1) dX1_isStillAbout_18 rfl (by decide) ww_inX1 q_17 rfl) ?_
  refine vg_cons (vs_iload_n dX1_isStillAbout_21 rfl rfl) ?_
  refine vg_cons (vs_aaload dX1_isStillAbout_22 rfl rfl) ?_
  refine vg_cons (vs_getfield (T := TX4) dX1_isStillAbout_23 rfl (by decide) ww_inX4 q_18 rfl) ?_
  refine vg_cons (vs_if_eq dX1_isStillAbout_26 (by decide) rfl) ?_
  refine vg_cons (vs_iconst dX1_isStillAbout_29 rfl rfl) ?_
  refine vg_cons (vs_goto dX1_isStillAbout_30 (by decide)) ?_
  refine vg_cons (vs_iconst dX1_isStillAbout_33 rfl rfl) ?_
  refine vg_cons (vs_zreturn dX1_isStillAbout_34 rfl) ?_
  exact fun _ h => absurd h List.not_mem_nil
theorem m_X1_isStillAbout : vg_Code k_X1_isStillAbout := fun q h => (s_X1_isStillAbout q h).1

theorem w_X1_isStillAbout : vg_Wd sp_X1_isStillAbout 3 := by
  intro av σ h
  unfold sp_X1_isStillAbout at h
  split at h
  · exact Nat.le_of_ble_eq_true rfl
  · exact h.elim
theorem g_X1_isStillAbout : vg_G k_X1_isStillAbout sp_X1_isStillAbout := by
  intro av σ h
  unfold sp_X1_isStillAbout at h ⊢
  split at h
  next b b' w =>
    obtain ⟨rfl, hw⟩ := h
    have h12 := hw.2.2.1
    refine vg_run (cuts := []) m_X1_isStillAbout 40 ?_
    have T : jStill (jV σ b') w → (some (Sum.inl (Value.int 1)) : Option vgV) = some (Sum.inl (Value.int (jb (jStill (jV σ b') w)))) := fun z => by rw [jb_t z]
    refine And.intro (fun h0 => And.intro (Or.inr rfl) (And.intro (T (Or.inl h0)) rfl)) (fun h0 => And.intro (fun h1 => And.intro (Or.inr rfl) (And.intro (T (Or.inr (Or.inl h1))) rfl)) (fun h1 => ?_))
    have hv : vp_in (jV σ b' 11 w 1) 12 := by
      exact jinW h0 h1 h12.1 h12.2 (by decide)
    refine And.intro hv (And.intro (fun h2 => And.intro (Or.inl rfl) (And.intro ?_ rfl)) (fun h2 => And.intro (Or.inr rfl) (And.intro (T (Or.inr (Or.inr h2))) rfl)))
    have N : ¬ jStill (jV σ b') w := fun z => z.elim h0 (fun z => z.elim h1 (fun z => z h2))
    rw [jb_f N]
  next => exact h.elim
theorem c_X1_isStillAbout : vg_MetF ww_tb ww_nw ww_shp ww_nm ww_cl ww_tyl yX1_isStillAbout cX1_isStillAbout 3 (some .boolean) 0 sp_X1_isStillAbout := vg_met ww_closed (by decide +kernel) rfl s_X1_isStillAbout w_X1_isStillAbout g_X1_isStillAbout
def sp_X1_isSendable : vgC := fun av σ => match av with
  | [.inr (1, b, 0), .inr (11, b', w)] => (b' = b ∧ jWf (jV σ b), some (.inl (.int (jb (jCan (jV σ b) w)))), σ)
  | _ => (False, none, σ)
def k_X1_isSendable : List (Nat × vgF) := [(0, vi_aload 1 1), (1, vi_get ww_shp 4 6 4), (4, vi_icst (-1) 5), (5, vi_cmp (fun x y => x = y) 8 28), (8, vi_aload 0 9), (9, vi_aload 1 10), (10, vi_callV ww_shp 1 sp_X1_keysLacking 1 13), (13, vi_if (fun x => x = 0) 16 28), (16, vi_aload 0 17), (17, vi_aload 1 18), (18, vi_callV ww_shp 1 sp_X1_isStillAbout 1 21), (21, vi_if (fun x => x = 0) 28 24), (24, vi_icst (1) 25), (25, vi_goto 29), (28, vi_icst (0) 29), (29, vi_retZ)]
set_option maxRecDepth 20000 in
theorem s_X1_isSendable : ∀ q ∈ k_X1_isSendable, vg_Snd ww_tb ww_nw ww_shp ww_nm ww_cl ww_tyl cX1_isSendable 2 RX1 (some .boolean) 2 q.1 q.2 := by
  refine vg_cons (vs_aload_n dX1_isSendable_0 rfl rfl) ?_
  refine vg_cons (vs_getfield (T := TX4) dX1_isSendable_1 rfl (by decide) ww_inX4 q_68 rfl) ?_
  refine vg_cons (vs_iconst dX1_isSendable_4 rfl rfl) ?_
  refine vg_cons (vs_cmp_ne dX1_isSendable_5 (by decide) rfl) ?_
  refine vg_cons (vs_aload_n dX1_isSendable_8 rfl rfl) ?_
  refine vg_cons (vs_aload_n dX1_isSendable_9 rfl rfl) ?_
  refine vg_cons (vs_callV (T := TX1) c_X1_keysLacking dX1_isSendable_10 rfl ww_good q_174 q_12 q_175 q_176 q_177 (by decide +kernel) (by decide) rfl) ?_
  refine vg_cons (vs_if_ne dX1_isSendable_13 (by decide) rfl) ?_
  refine vg_cons (vs_aload_n dX1_isSendable_16 rfl rfl) ?_
  refine vg_cons (vs_aload_n dX1_isSendable_17 rfl rfl) ?_
  refine vg_cons (vs_callV (T := TX1) c_X1_isStillAbout dX1_isSendable_18 rfl ww_good q_178 q_12 q_179 q_180 q_181 (by decide +kernel) (by decide) rfl) ?_
  refine vg_cons (vs_if_eq dX1_isSendable_21 (by decide) rfl) ?_
  refine vg_cons (vs_iconst dX1_isSendable_24 rfl rfl) ?_
  refine vg_cons (vs_goto dX1_isSendable_25 (by decide)) ?_
  refine vg_cons (vs_iconst dX1_isSendable_28 rfl rfl) ?_
  refine vg_cons (vs_zreturn dX1_isSendable_29 rfl) ?_
  exact fun _ h => absurd h List.not_mem_nil
theorem m_X1_isSendable : vg_Code k_X1_isSendable := fun q h => (s_X1_isSendable q h).1

theorem w_X1_isSendable : vg_Wd sp_X1_isSendable 2 := by
  intro av σ h
  unfold sp_X1_isSendable at h
  split at h
  · exact Nat.le_of_ble_eq_true rfl
  · exact h.elim
theorem g_X1_isSendable : vg_G k_X1_isSendable sp_X1_isSendable := by
  intro av σ h
  unfold sp_X1_isSendable at h ⊢
  split at h
  next b b' w =>
    obtain ⟨rfl, hw⟩ := h
    refine vg_run (cuts := []) m_X1_isSendable 40 ?_
    have T : jCan (jV σ b') w → (some (Sum.inl (Value.int 1)) : Option vgV) = some (Sum.inl (Value.int (jb (jCan (jV σ b') w)))) := fun z => by rw [jb_t z]
    have F : ¬ jCan (jV σ b') w → (some (Sum.inl (Value.int 0)) : Option vgV) = some (Sum.inl (Value.int (jb (jCan (jV σ b') w)))) := fun z => by rw [jb_f z]
    refine And.intro (fun h0 => And.intro rfl (And.intro (fun h1 => And.intro ⟨rfl, hw⟩ (And.intro (fun h2 => And.intro (Or.inl rfl) (And.intro (F ?_) rfl)) (fun h2 => And.intro (Or.inr rfl) (And.intro (T ?_) rfl)))) (fun h1 => And.intro (Or.inl rfl) (And.intro (F (fun z => h1 z.2.1)) rfl)))) (fun h0 => And.intro (Or.inl rfl) (And.intro (F (fun z => h0 z.1)) rfl))
    · exact fun z => jb_0.mp h2 z.2.2
    · exact ⟨h0, h1, Classical.byContradiction (fun z => h2 (jb_f z))⟩
  next => exact h.elim
theorem c_X1_isSendable : vg_MetF ww_tb ww_nw ww_shp ww_nm ww_cl ww_tyl yX1_isSendable cX1_isSendable 2 (some .boolean) 2 sp_X1_isSendable := vg_met ww_closed (by decide +kernel) rfl s_X1_isSendable w_X1_isSendable g_X1_isSendable
def sp_X1_sendOut : vgC := fun av σ => match av with
  | [.inr (1, b, 0), .inr (11, b', w)] => (b' = b ∧ jV σ b 11 w 1 = -1 ∧ ¬ jV σ b 11 w 0 = 2, none, jPut σ b (jUp (jUp (jV σ b) 11 w 6 (jV σ b 1 0 0)) 11 w 7 1))
  | _ => (False, none, σ)
def k_X1_sendOut : List (Nat × vgF) := [(0, vi_aload 1 1), (1, vi_get ww_shp 4 1 4), (4, vi_istore 2 5), (5, vi_aload 1 6), (6, vi_aload 0 7), (7, vi_get ww_shp 1 0 10), (10, vi_put ww_shp 4 6 13), (13, vi_aload 1 14), (14, vi_aload 1 15), (15, vi_get ww_shp 4 0 18), (18, vi_icst (2) 19), (19, vi_cmp (fun x y => x = y) 26 22), (22, vi_icst (1) 23), (23, vi_goto 27), (26, vi_icst (0) 27), (27, vi_putZ ww_shp 4 7 30), (30, vi_iload 2 31), (31, vi_if (fun x => x < 0) 42 34), (34, vi_iload 2 35), (35, vi_aload 0 36), (36, vi_get ww_shp 1 6 39), (39, vi_cmp (fun x y => x < y) 43 42), (42, vi_retV), (43, vi_aload 0 44), (44, vi_get ww_shp 1 9 47), (47, vi_iload 2 48), (48, vi_aald ww_shp 4 49), (49, vi_icst (0) 50), (50, vi_putZ ww_shp 4 7 53), (53, vi_aload 1 54), (54, vi_get ww_shp 4 0 57), (57, vi_icst (2) 58), (58, vi_cmp (fun x y => x = y) 61 70), (61, vi_aload 0 62), (62, vi_iload 2 63), (63, vi_no), (66, vi_aload 0 67), (67, vi_no), (70, vi_retV)]
set_option maxRecDepth 20000 in
theorem s_X1_sendOut : ∀ q ∈ k_X1_sendOut, vg_Snd ww_tb ww_nw ww_shp ww_nm ww_cl ww_tyl cX1_sendOut 3 RX1 none 0 q.1 q.2 := by
  refine vg_cons (vs_aload_n dX1_sendOut_0 rfl rfl) ?_
  refine vg_cons (vs_getfield (T := TX4) dX1_sendOut_1 rfl (by decide) ww_inX4 q_173 rfl) ?_
  refine vg_cons (vs_istore_n dX1_sendOut_4 rfl (by decide) rfl) ?_
  refine vg_cons (vs_aload_n dX1_sendOut_5 rfl rfl) ?_
  refine vg_cons (vs_aload_n dX1_sendOut_6 rfl rfl) ?_
  refine vg_cons (vs_getfield (T := TX1) dX1_sendOut_7 rfl (by decide) ww_inX1 q_10 rfl) ?_
  refine vg_cons (vs_putfield (T := TX4) tyX4 dX1_sendOut_10 rfl (by decide) ww_inX4 tyX4_ok nmX4 rfl rfl q_68 rfl) ?_
  refine vg_cons (vs_aload_n dX1_sendOut_13 rfl rfl) ?_
  refine vg_cons (vs_aload_n dX1_sendOut_14 rfl rfl) ?_
  refine vg_cons (vs_getfield (T := TX4) dX1_sendOut_15 rfl (by decide) ww_inX4 q_182 rfl) ?_
  refine vg_cons (vs_iconst dX1_sendOut_18 rfl rfl) ?_
  refine vg_cons (vs_cmp_eq dX1_sendOut_19 (by decide) rfl) ?_
  refine vg_cons (vs_iconst dX1_sendOut_22 rfl rfl) ?_
  refine vg_cons (vs_goto dX1_sendOut_23 (by decide)) ?_
  refine vg_cons (vs_iconst dX1_sendOut_26 rfl rfl) ?_
  refine vg_cons (vs_putfieldZ (T := TX4) tyX4 dX1_sendOut_27 rfl (by decide) ww_inX4 tyX4_ok nmX4 rfl rfl q_18 rfl) ?_
  refine vg_cons (vs_iload_n dX1_sendOut_30 rfl rfl) ?_
  refine vg_cons (vs_if_lt dX1_sendOut_31 (by decide) rfl) ?_
  refine vg_cons (vs_iload_n dX1_sendOut_34 rfl rfl) ?_
  refine vg_cons (vs_aload_n dX1_sendOut_35 rfl rfl) ?_
  refine vg_cons (vs_getfield (T := TX1) dX1_sendOut_36 rfl (by decide) ww_inX1 q_16 rfl) ?_
  refine vg_cons (vs_cmp_lt dX1_sendOut_39 (by decide) rfl) ?_
  refine vg_cons (vs_return dX1_sendOut_42 rfl) ?_
  refine vg_cons (vs_aload_n dX1_sendOut_43 rfl rfl) ?_
  refine vg_cons (vs_getfield (T := TX1) dX1_sendOut_44 rfl (by decide) ww_inX1 q_17 rfl) ?_
  refine vg_cons (vs_iload_n dX1_sendOut_47 rfl rfl) ?_
  refine vg_cons (vs_aaload dX1_sendOut_48 rfl rfl) ?_
  refine vg_cons (vs_iconst dX1_sendOut_49 rfl rfl) ?_
  refine vg_cons (vs_putfieldZ (T := TX4) tyX4 dX1_sendOut_50 rfl (by decide) ww_inX4 tyX4_ok nmX4 rfl rfl q_18 rfl) ?_
  refine vg_cons (vs_aload_n dX1_sendOut_53 rfl rfl) ?_
  refine vg_cons (vs_getfield (T := TX4) dX1_sendOut_54 rfl (by decide) ww_inX4 q_182 rfl) ?_
  refine vg_cons (vs_iconst dX1_sendOut_57 rfl rfl) ?_
  refine vg_cons (vs_cmp_ne dX1_sendOut_58 (by decide) rfl) ?_
  refine vg_cons (vs_aload_n dX1_sendOut_61 rfl rfl) ?_
  refine vg_cons (vs_iload_n dX1_sendOut_62 rfl rfl) ?_
  refine vg_cons (vs_no) ?_
  refine vg_cons (vs_aload_n dX1_sendOut_66 rfl rfl) ?_
  refine vg_cons (vs_no) ?_
  refine vg_cons (vs_return dX1_sendOut_70 rfl) ?_
  exact fun _ h => absurd h List.not_mem_nil
theorem m_X1_sendOut : vg_Code k_X1_sendOut := fun q h => (s_X1_sendOut q h).1

theorem w_X1_sendOut : vg_Wd sp_X1_sendOut 3 := by
  intro av σ h
  unfold sp_X1_sendOut at h
  split at h
  · exact Nat.le_of_ble_eq_true rfl
  · exact h.elim
theorem g_X1_sendOut : vg_G k_X1_sendOut sp_X1_sendOut := by
  intro av σ h
  unfold sp_X1_sendOut at h ⊢
  split at h
  next b b' w =>
    obtain ⟨rfl, ho, hk⟩ := h
    have ho' : σ (11, b', w) 1 = -1 := ho
    have hk' : ¬ σ (11, b', w) 0 = 2 := hk
    refine vg_run (cuts := []) m_X1_sendOut 60 ?_
    have e0 : vg_st σ (11, b', w) 6 (σ (1, b', 0) 0) (11, b', w) 0 = σ (11, b', w) 0 := if_neg (fun z => absurd z.2 (by decide))
    refine And.intro (fun hc => absurd (e0.symm.trans hc) hk) (fun _ => And.intro (Or.inr rfl) (And.intro (fun _ => And.intro rfl ?_) (fun hc => absurd (show σ (11, b', w) 1 < 0 by rw [ho']; decide) hc)))
    dsimp only
    rw [jst0 (s := 6), jst]
    rfl
  next => exact h.elim
theorem c_X1_sendOut : vg_MetF ww_tb ww_nw ww_shp ww_nm ww_cl ww_tyl yX1_sendOut cX1_sendOut 3 none 0 sp_X1_sendOut := vg_met ww_closed (by decide +kernel) rfl s_X1_sendOut w_X1_sendOut g_X1_sendOut
