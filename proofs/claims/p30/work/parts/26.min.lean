-- words of the tables, and what stands at each place of the methods' code (laid by program)
theorem q_132 : Cond.code yX1_chooseCalls cX1_chooseCalls 3 none ∈ ww_tb := by decide +kernel
theorem q_133 : Cond.methodLink RX1 188 yX1_chooseCalls ∈ ww_tb := by decide +kernel
theorem q_134 : Cond.instanceMethod yX1_chooseCalls ∈ ww_tb := by decide +kernel
theorem q_135 : Cond.selects RX1 yX1_chooseCalls yX1_chooseCalls ∈ ww_tb := by decide +kernel
theorem q_136 : Cond.code yX1_hearAll cX1_hearAll 10 none ∈ ww_tb := by decide +kernel
theorem q_137 : Cond.methodLink RX1 191 yX1_hearAll ∈ ww_tb := by decide +kernel
theorem q_138 : Cond.instanceMethod yX1_hearAll ∈ ww_tb := by decide +kernel
theorem q_139 : Cond.selects RX1 yX1_hearAll yX1_hearAll ∈ ww_tb := by decide +kernel
theorem q_140 : Cond.code yX1_believeAll cX1_believeAll 3 (some .int) ∈ ww_tb := by decide +kernel
theorem q_141 : Cond.methodLink RX1 194 yX1_believeAll ∈ ww_tb := by decide +kernel
theorem q_142 : Cond.instanceMethod yX1_believeAll ∈ ww_tb := by decide +kernel
theorem q_143 : Cond.selects RX1 yX1_believeAll yX1_believeAll ∈ ww_tb := by decide +kernel
theorem q_144 : Cond.code yX1_goAll cX1_goAll 4 none ∈ ww_tb := by decide +kernel
theorem q_145 : Cond.methodLink RX1 197 yX1_goAll ∈ ww_tb := by decide +kernel
theorem q_146 : Cond.instanceMethod yX1_goAll ∈ ww_tb := by decide +kernel
theorem q_147 : Cond.selects RX1 yX1_goAll yX1_goAll ∈ ww_tb := by decide +kernel
theorem q_148 : Cond.code yX1_harmAll cX1_harmAll 3 none ∈ ww_tb := by decide +kernel
theorem q_149 : Cond.methodLink RX1 200 yX1_harmAll ∈ ww_tb := by decide +kernel
theorem q_150 : Cond.instanceMethod yX1_harmAll ∈ ww_tb := by decide +kernel
theorem q_151 : Cond.selects RX1 yX1_harmAll yX1_harmAll ∈ ww_tb := by decide +kernel
theorem q_152 : Cond.fieldLink RX4 18 (TX4 0).1 (TX4 0).2.1 (TX4 0).2.2.1 ∈ ww_tb := by decide +kernel
theorem q_153 : Cond.fieldLink RX4 9 (TX4 1).1 (TX4 1).2.1 (TX4 1).2.2.1 ∈ ww_tb := by decide +kernel
theorem q_154 : Cond.fieldLink RX4 21 (TX4 2).1 (TX4 2).2.1 (TX4 2).2.2.1 ∈ ww_tb := by decide +kernel
theorem q_155 : Cond.fieldLink RX4 24 (TX4 3).1 (TX4 3).2.1 (TX4 3).2.2.1 ∈ ww_tb := by decide +kernel
theorem q_156 : Cond.fieldLink RX4 27 (TX4 4).1 (TX4 4).2.1 (TX4 4).2.2.1 ∈ ww_tb := by decide +kernel
theorem q_157 : Cond.fieldLink RX4 30 (TX4 5).1 (TX4 5).2.1 (TX4 5).2.2.1 ∈ ww_tb := by decide +kernel
theorem q_158 : Cond.fieldLink RX4 15 (TX4 6).1 (TX4 6).2.1 (TX4 6).2.2.1 ∈ ww_tb := by decide +kernel
theorem q_159 : Cond.fieldLink RX4 33 (TX4 7).1 (TX4 7).2.1 (TX4 7).2.2.1 ∈ ww_tb := by decide +kernel
theorem q_160 : Cond.fieldLink RX0 34 (TX0 0).1 (TX0 0).2.1 (TX0 0).2.2.1 ∈ ww_tb := by decide +kernel
theorem q_161 : Cond.fieldLink RX0 37 (TX0 1).1 (TX0 1).2.1 (TX0 1).2.2.1 ∈ ww_tb := by decide +kernel
theorem q_162 : Cond.fieldLink RX0 40 (TX0 2).1 (TX0 2).2.1 (TX0 2).2.2.1 ∈ ww_tb := by decide +kernel
theorem q_163 : Cond.fieldLink RX0 43 (TX0 4).1 (TX0 4).2.1 (TX0 4).2.2.1 ∈ ww_tb := by decide +kernel
theorem q_164 : Cond.fieldLink RX0 47 (TX0 5).1 (TX0 5).2.1 (TX0 5).2.2.1 ∈ ww_tb := by decide +kernel
theorem q_165 : Cond.methodLink RX0 53 arraycopyName ∈ ww_tb := by decide +kernel
theorem q_166 : Cond.native arraycopyName ∈ ww_tb := by decide +kernel
theorem q_167 : Cond.static arraycopyName ∈ ww_tb := by decide +kernel
theorem q_168 : Cond.initialized "java/lang/System" ∈ ww_tb := by decide +kernel
theorem q_169 : Cond.fieldLink RX0 31 (TX0 12).1 (TX0 12).2.1 (TX0 12).2.2.1 ∈ ww_tb := by decide +kernel
theorem dX1_playMinutes_0 : decode cX1_playMinutes 0 = .ok (.iconst 0, 1) := by decide +kernel
theorem dX1_playMinutes_1 : decode cX1_playMinutes 1 = .ok (.istore_n 2, 1) := by decide +kernel
theorem dX1_playMinutes_2 : decode cX1_playMinutes 2 = .ok (.iconst 0, 1) := by decide +kernel
theorem dX1_playMinutes_3 : decode cX1_playMinutes 3 = .ok (.istore_n 3, 1) := by decide +kernel
theorem dX1_playMinutes_4 : decode cX1_playMinutes 4 = .ok (.iload_n 3, 1) := by decide +kernel
theorem dX1_playMinutes_5 : decode cX1_playMinutes 5 = .ok (.iload_n 1, 1) := by decide +kernel
theorem dX1_playMinutes_6 : decode cX1_playMinutes 6 = .ok (.if_icmp .ge 42, 3) := by decide +kernel
theorem dX1_playMinutes_9 : decode cX1_playMinutes 9 = .ok (.aload_n 0, 1) := by decide +kernel
theorem dX1_playMinutes_10 : decode cX1_playMinutes 10 = .ok (.dup, 1) := by decide +kernel
theorem dX1_playMinutes_11 : decode cX1_playMinutes 11 = .ok (.getfield 56, 3) := by decide +kernel
theorem dX1_playMinutes_14 : decode cX1_playMinutes 14 = .ok (.iconst 1, 1) := by decide +kernel
theorem dX1_playMinutes_15 : decode cX1_playMinutes 15 = .ok (.iadd, 1) := by decide +kernel
theorem dX1_playMinutes_16 : decode cX1_playMinutes 16 = .ok (.putfield 56, 3) := by decide +kernel
theorem dX1_playMinutes_19 : decode cX1_playMinutes 19 = .ok (.aload_n 0, 1) := by decide +kernel
theorem dX1_playMinutes_20 : decode cX1_playMinutes 20 = .ok (.invokevirtual 188, 3) := by decide +kernel
theorem dX1_playMinutes_23 : decode cX1_playMinutes 23 = .ok (.aload_n 0, 1) := by decide +kernel
theorem dX1_playMinutes_24 : decode cX1_playMinutes 24 = .ok (.invokevirtual 191, 3) := by decide +kernel
theorem dX1_playMinutes_27 : decode cX1_playMinutes 27 = .ok (.iload_n 2, 1) := by decide +kernel
theorem dX1_playMinutes_28 : decode cX1_playMinutes 28 = .ok (.aload_n 0, 1) := by decide +kernel
theorem dX1_playMinutes_29 : decode cX1_playMinutes 29 = .ok (.invokevirtual 194, 3) := by decide +kernel
theorem dX1_playMinutes_32 : decode cX1_playMinutes 32 = .ok (.iadd, 1) := by decide +kernel
theorem dX1_playMinutes_33 : decode cX1_playMinutes 33 = .ok (.istore_n 2, 1) := by decide +kernel
theorem dX1_playMinutes_34 : decode cX1_playMinutes 34 = .ok (.aload_n 0, 1) := by decide +kernel
theorem dX1_playMinutes_35 : decode cX1_playMinutes 35 = .ok (.invokevirtual 197, 3) := by decide +kernel
theorem dX1_playMinutes_38 : decode cX1_playMinutes 38 = .ok (.aload_n 0, 1) := by decide +kernel
theorem dX1_playMinutes_39 : decode cX1_playMinutes 39 = .ok (.invokevirtual 200, 3) := by decide +kernel
theorem dX1_playMinutes_42 : decode cX1_playMinutes 42 = .ok (.iinc 3 1, 3) := by decide +kernel
theorem dX1_playMinutes_45 : decode cX1_playMinutes 45 = .ok (.goto (-41), 3) := by decide +kernel
theorem dX1_playMinutes_48 : decode cX1_playMinutes 48 = .ok (.iload_n 2, 1) := by decide +kernel
theorem dX1_playMinutes_49 : decode cX1_playMinutes 49 = .ok (.ireturn, 1) := by decide +kernel
theorem dX4_becomeLike_0 : decode cX4_becomeLike 0 = .ok (.aload_n 0, 1) := by decide +kernel
theorem dX4_becomeLike_1 : decode cX4_becomeLike 1 = .ok (.aload_n 1, 1) := by decide +kernel
theorem dX4_becomeLike_2 : decode cX4_becomeLike 2 = .ok (.getfield 18, 3) := by decide +kernel
theorem dX4_becomeLike_5 : decode cX4_becomeLike 5 = .ok (.putfield 18, 3) := by decide +kernel
theorem dX4_becomeLike_8 : decode cX4_becomeLike 8 = .ok (.aload_n 0, 1) := by decide +kernel
theorem dX4_becomeLike_9 : decode cX4_becomeLike 9 = .ok (.aload_n 1, 1) := by decide +kernel
theorem dX4_becomeLike_10 : decode cX4_becomeLike 10 = .ok (.getfield 9, 3) := by decide +kernel
theorem dX4_becomeLike_13 : decode cX4_becomeLike 13 = .ok (.putfield 9, 3) := by decide +kernel
theorem dX4_becomeLike_16 : decode cX4_becomeLike 16 = .ok (.aload_n 0, 1) := by decide +kernel
theorem dX4_becomeLike_17 : decode cX4_becomeLike 17 = .ok (.aload_n 1, 1) := by decide +kernel
theorem dX4_becomeLike_18 : decode cX4_becomeLike 18 = .ok (.getfield 21, 3) := by decide +kernel
theorem dX4_becomeLike_21 : decode cX4_becomeLike 21 = .ok (.putfield 21, 3) := by decide +kernel
theorem dX4_becomeLike_24 : decode cX4_becomeLike 24 = .ok (.aload_n 0, 1) := by decide +kernel
theorem dX4_becomeLike_25 : decode cX4_becomeLike 25 = .ok (.aload_n 1, 1) := by decide +kernel
theorem dX4_becomeLike_26 : decode cX4_becomeLike 26 = .ok (.getfield 24, 3) := by decide +kernel
theorem dX4_becomeLike_29 : decode cX4_becomeLike 29 = .ok (.putfield 24, 3) := by decide +kernel
theorem dX4_becomeLike_32 : decode cX4_becomeLike 32 = .ok (.aload_n 0, 1) := by decide +kernel
theorem dX4_becomeLike_33 : decode cX4_becomeLike 33 = .ok (.aload_n 1, 1) := by decide +kernel
theorem dX4_becomeLike_34 : decode cX4_becomeLike 34 = .ok (.getfield 27, 3) := by decide +kernel
theorem dX4_becomeLike_37 : decode cX4_becomeLike 37 = .ok (.putfield 27, 3) := by decide +kernel
theorem dX4_becomeLike_40 : decode cX4_becomeLike 40 = .ok (.aload_n 0, 1) := by decide +kernel
theorem dX4_becomeLike_41 : decode cX4_becomeLike 41 = .ok (.aload_n 1, 1) := by decide +kernel
theorem dX4_becomeLike_42 : decode cX4_becomeLike 42 = .ok (.getfield 30, 3) := by decide +kernel
theorem dX4_becomeLike_45 : decode cX4_becomeLike 45 = .ok (.putfield 30, 3) := by decide +kernel
theorem dX4_becomeLike_48 : decode cX4_becomeLike 48 = .ok (.aload_n 0, 1) := by decide +kernel
theorem dX4_becomeLike_49 : decode cX4_becomeLike 49 = .ok (.aload_n 1, 1) := by decide +kernel
theorem dX4_becomeLike_50 : decode cX4_becomeLike 50 = .ok (.getfield 15, 3) := by decide +kernel
theorem dX4_becomeLike_53 : decode cX4_becomeLike 53 = .ok (.putfield 15, 3) := by decide +kernel
theorem dX4_becomeLike_56 : decode cX4_becomeLike 56 = .ok (.aload_n 0, 1) := by decide +kernel
theorem dX4_becomeLike_57 : decode cX4_becomeLike 57 = .ok (.aload_n 1, 1) := by decide +kernel
theorem dX4_becomeLike_58 : decode cX4_becomeLike 58 = .ok (.getfield 33, 3) := by decide +kernel
theorem dX4_becomeLike_61 : decode cX4_becomeLike 61 = .ok (.putfield 33, 3) := by decide +kernel
theorem dX4_becomeLike_64 : decode cX4_becomeLike 64 = .ok (.return_, 1) := by decide +kernel
theorem dX0_becomeLike_0 : decode cX0_becomeLike 0 = .ok (.aload_n 0, 1) := by decide +kernel
theorem dX0_becomeLike_1 : decode cX0_becomeLike 1 = .ok (.aload_n 1, 1) := by decide +kernel
theorem dX0_becomeLike_2 : decode cX0_becomeLike 2 = .ok (.getfield 34, 3) := by decide +kernel
theorem dX0_becomeLike_5 : decode cX0_becomeLike 5 = .ok (.putfield 34, 3) := by decide +kernel
theorem dX0_becomeLike_8 : decode cX0_becomeLike 8 = .ok (.aload_n 0, 1) := by decide +kernel
theorem dX0_becomeLike_9 : decode cX0_becomeLike 9 = .ok (.aload_n 1, 1) := by decide +kernel
theorem dX0_becomeLike_10 : decode cX0_becomeLike 10 = .ok (.getfield 37, 3) := by decide +kernel
theorem dX0_becomeLike_13 : decode cX0_becomeLike 13 = .ok (.putfield 37, 3) := by decide +kernel
theorem dX0_becomeLike_16 : decode cX0_becomeLike 16 = .ok (.aload_n 0, 1) := by decide +kernel
theorem dX0_becomeLike_17 : decode cX0_becomeLike 17 = .ok (.aload_n 1, 1) := by decide +kernel
theorem dX0_becomeLike_18 : decode cX0_becomeLike 18 = .ok (.getfield 40, 3) := by decide +kernel
theorem dX0_becomeLike_21 : decode cX0_becomeLike 21 = .ok (.putfield 40, 3) := by decide +kernel
theorem dX0_becomeLike_24 : decode cX0_becomeLike 24 = .ok (.aload_n 0, 1) := by decide +kernel
theorem dX0_becomeLike_25 : decode cX0_becomeLike 25 = .ok (.aload_n 1, 1) := by decide +kernel
theorem dX0_becomeLike_26 : decode cX0_becomeLike 26 = .ok (.getfield 9, 3) := by decide +kernel
theorem dX0_becomeLike_29 : decode cX0_becomeLike 29 = .ok (.putfield 9, 3) := by decide +kernel
theorem dX0_becomeLike_32 : decode cX0_becomeLike 32 = .ok (.aload_n 0, 1) := by decide +kernel
theorem dX0_becomeLike_33 : decode cX0_becomeLike 33 = .ok (.aload_n 1, 1) := by decide +kernel
theorem dX0_becomeLike_34 : decode cX0_becomeLike 34 = .ok (.getfield 43, 3) := by decide +kernel
theorem dX0_becomeLike_37 : decode cX0_becomeLike 37 = .ok (.putfield 43, 3) := by decide +kernel
theorem dX0_becomeLike_40 : decode cX0_becomeLike 40 = .ok (.aload_n 0, 1) := by decide +kernel
theorem dX0_becomeLike_41 : decode cX0_becomeLike 41 = .ok (.aload_n 1, 1) := by decide +kernel
theorem dX0_becomeLike_42 : decode cX0_becomeLike 42 = .ok (.getfield 47, 3) := by decide +kernel
theorem dX0_becomeLike_45 : decode cX0_becomeLike 45 = .ok (.putfield 47, 3) := by decide +kernel
theorem dX0_becomeLike_48 : decode cX0_becomeLike 48 = .ok (.aload_n 0, 1) := by decide +kernel
theorem dX0_becomeLike_49 : decode cX0_becomeLike 49 = .ok (.aload_n 1, 1) := by decide +kernel
theorem dX0_becomeLike_50 : decode cX0_becomeLike 50 = .ok (.getfield 15, 3) := by decide +kernel
theorem dX0_becomeLike_53 : decode cX0_becomeLike 53 = .ok (.putfield 15, 3) := by decide +kernel
theorem dX0_becomeLike_56 : decode cX0_becomeLike 56 = .ok (.aload_n 0, 1) := by decide +kernel
theorem dX0_becomeLike_57 : decode cX0_becomeLike 57 = .ok (.aload_n 1, 1) := by decide +kernel
theorem dX0_becomeLike_58 : decode cX0_becomeLike 58 = .ok (.getfield 50, 3) := by decide +kernel
theorem dX0_becomeLike_61 : decode cX0_becomeLike 61 = .ok (.putfield 50, 3) := by decide +kernel
theorem dX0_becomeLike_64 : decode cX0_becomeLike 64 = .ok (.aload_n 1, 1) := by decide +kernel
theorem dX0_becomeLike_65 : decode cX0_becomeLike 65 = .ok (.getfield 18, 3) := by decide +kernel
theorem dX0_becomeLike_68 : decode cX0_becomeLike 68 = .ok (.iconst 0, 1) := by decide +kernel
theorem dX0_becomeLike_69 : decode cX0_becomeLike 69 = .ok (.aload_n 0, 1) := by decide +kernel
theorem dX0_becomeLike_70 : decode cX0_becomeLike 70 = .ok (.getfield 18, 3) := by decide +kernel
theorem dX0_becomeLike_73 : decode cX0_becomeLike 73 = .ok (.iconst 0, 1) := by decide +kernel
theorem dX0_becomeLike_74 : decode cX0_becomeLike 74 = .ok (.bipush 12, 2) := by decide +kernel
theorem dX0_becomeLike_76 : decode cX0_becomeLike 76 = .ok (.invokestatic 53, 3) := by decide +kernel
theorem dX0_becomeLike_79 : decode cX0_becomeLike 79 = .ok (.aload_n 1, 1) := by decide +kernel
theorem dX0_becomeLike_80 : decode cX0_becomeLike 80 = .ok (.getfield 22, 3) := by decide +kernel
theorem dX0_becomeLike_83 : decode cX0_becomeLike 83 = .ok (.iconst 0, 1) := by decide +kernel
theorem dX0_becomeLike_84 : decode cX0_becomeLike 84 = .ok (.aload_n 0, 1) := by decide +kernel
theorem dX0_becomeLike_85 : decode cX0_becomeLike 85 = .ok (.getfield 22, 3) := by decide +kernel
theorem dX0_becomeLike_88 : decode cX0_becomeLike 88 = .ok (.iconst 0, 1) := by decide +kernel
theorem dX0_becomeLike_89 : decode cX0_becomeLike 89 = .ok (.bipush 12, 2) := by decide +kernel
theorem dX0_becomeLike_91 : decode cX0_becomeLike 91 = .ok (.invokestatic 53, 3) := by decide +kernel
theorem dX0_becomeLike_94 : decode cX0_becomeLike 94 = .ok (.aload_n 1, 1) := by decide +kernel
theorem dX0_becomeLike_95 : decode cX0_becomeLike 95 = .ok (.getfield 25, 3) := by decide +kernel
theorem dX0_becomeLike_98 : decode cX0_becomeLike 98 = .ok (.iconst 0, 1) := by decide +kernel
theorem dX0_becomeLike_99 : decode cX0_becomeLike 99 = .ok (.aload_n 0, 1) := by decide +kernel
theorem dX0_becomeLike_100 : decode cX0_becomeLike 100 = .ok (.getfield 25, 3) := by decide +kernel
theorem dX0_becomeLike_103 : decode cX0_becomeLike 103 = .ok (.iconst 0, 1) := by decide +kernel
theorem dX0_becomeLike_104 : decode cX0_becomeLike 104 = .ok (.bipush 12, 2) := by decide +kernel
theorem dX0_becomeLike_106 : decode cX0_becomeLike 106 = .ok (.invokestatic 53, 3) := by decide +kernel
theorem dX0_becomeLike_109 : decode cX0_becomeLike 109 = .ok (.aload_n 1, 1) := by decide +kernel
theorem dX0_becomeLike_110 : decode cX0_becomeLike 110 = .ok (.getfield 28, 3) := by decide +kernel
theorem dX0_becomeLike_113 : decode cX0_becomeLike 113 = .ok (.iconst 0, 1) := by decide +kernel
theorem dX0_becomeLike_114 : decode cX0_becomeLike 114 = .ok (.aload_n 0, 1) := by decide +kernel
theorem dX0_becomeLike_115 : decode cX0_becomeLike 115 = .ok (.getfield 28, 3) := by decide +kernel
theorem dX0_becomeLike_118 : decode cX0_becomeLike 118 = .ok (.iconst 0, 1) := by decide +kernel
theorem dX0_becomeLike_119 : decode cX0_becomeLike 119 = .ok (.bipush 12, 2) := by decide +kernel
theorem dX0_becomeLike_121 : decode cX0_becomeLike 121 = .ok (.invokestatic 53, 3) := by decide +kernel
theorem dX0_becomeLike_124 : decode cX0_becomeLike 124 = .ok (.aload_n 1, 1) := by decide +kernel
theorem dX0_becomeLike_125 : decode cX0_becomeLike 125 = .ok (.getfield 31, 3) := by decide +kernel
theorem dX0_becomeLike_128 : decode cX0_becomeLike 128 = .ok (.iconst 0, 1) := by decide +kernel
theorem dX0_becomeLike_129 : decode cX0_becomeLike 129 = .ok (.aload_n 0, 1) := by decide +kernel
theorem dX0_becomeLike_130 : decode cX0_becomeLike 130 = .ok (.getfield 31, 3) := by decide +kernel
theorem dX0_becomeLike_133 : decode cX0_becomeLike 133 = .ok (.iconst 0, 1) := by decide +kernel
theorem dX0_becomeLike_134 : decode cX0_becomeLike 134 = .ok (.bipush 12, 2) := by decide +kernel
theorem dX0_becomeLike_136 : decode cX0_becomeLike 136 = .ok (.invokestatic 53, 3) := by decide +kernel
theorem dX0_becomeLike_139 : decode cX0_becomeLike 139 = .ok (.return_, 1) := by decide +kernel
/-! minutes; becoming like another land -/
theorem jStep_in : ∀ i : Fin 16, ∀ j : Fin 16, (decide (jStep (nI i.val) (nI j.val) < 0) || Nat.ble 16 (jStep (nI i.val) (nI j.val)).toNatClampNeg) = false := by decide +kernel
theorem jStep_vp {a b : Int32} (ha : vp_in a 16) (hb : vp_in b 16) : vp_in (jStep a b) 16 := by
  obtain ⟨i, hi, rfl⟩ := vp_in_of ha (by decide)
  obtain ⟨j, hj, rfl⟩ := vp_in_of hb (by decide)
  have h := jStep_in ⟨i, hi⟩ ⟨j, hj⟩
  simp only [Bool.or_eq_false_iff, decide_eq_false_iff_not] at h
  intro z
  rcases z with z | z
  · exact h.1 z
  · have := Nat.ble_eq_true_of_le z
    rw [h.2] at this
    cases this
theorem jIt2_pl {f : Nat → jN × Int32 → jN × Int32} (hf : ∀ i q, jPl q.1 → jPl (f i q).1) {q : jN × Int32} (h : jPl q.1) : ∀ n, jPl (jIt f n q).1
  | 0 => h
  | n + 1 => hf n _ (jIt2_pl hf h n)
theorem jNote_pl {v : jN} (g w : Nat) (nw nb t : Int32) (h : jPl v) : jPl (jNote v g w nw nb t) := by
  unfold jNote
  refine jPl.up ?_ (by omega)
  unfold jNote0
  split
  · exact ((h.up (by omega)).up (by omega)).up (by omega)
  · exact h
theorem jHearAll_pl {v : jN} (h : jPl v) : jPl (jHearAll v) := jIt_pl (fun g u hu => by
  unfold jHearG
  split
  · exact hu
  · refine jIt_pl (fun w u hu => ?_) hu _
    unfold jHearW
    split
    · exact hu
    · exact jNote_pl _ _ _ _ _ hu) h _
theorem jChooseAll_pl {v : jN} (h : jPl v) : jPl (jChooseAll v) := jIt2_pl (q := (v, v 1 0 1)) (fun w q hq => by
  unfold jChoose
  split
  · exact hq.up (by omega)
  · exact (hq.up (by omega)).up (by omega)) h _
theorem jBelAll_pl {v : jN} (h : jPl v) : jPl (jBelAll v).1 := jIt2_pl (q := (v, 0)) (fun g q hq => by
  unfold jBelG
  split
  · exact hq
  · refine jIt2_pl (q := (q.1, 0)) (fun w q hq => ?_) hq _
    unfold jBel1
    split
    · exact hq
    · split
      · split
        · exact hq
        · exact hq.up (by omega)
      · exact hq) h _
theorem jNear_in (v : jN) (g : Nat) : ∀ n, (jNear v g n).1 = -1 ∨ ∃ j, j < n ∧ (jNear v g n).1 = nI j
  | 0 => Or.inl rfl
  | n + 1 => by
    have ih : (jNear v g n).1 = -1 ∨ ∃ j, j < n + 1 ∧ (jNear v g n).1 = nI j := (jNear_in v g n).imp id (fun ⟨j, h1, h2⟩ => ⟨j, by omega, h2⟩)
    unfold jNear
    split
    · exact ih
    · split
      · exact ih
      · exact Or.inr ⟨n, by omega, rfl⟩
theorem jGoAll_pl {v : jN} (hsc : jSc v ≤ 3) (h : jPl v) : jPl (jGoAll v) := by
  have key : ∀ n, jPl (jIt jGoG n v) ∧ jKeep v (jIt jGoG n v) := by
    intro n
    induction n with
    | zero => exact ⟨h, jKeep.rf⟩
    | succ n ih =>
      obtain ⟨hp, hk⟩ := ih
      refine ⟨?_, hk.tr (jGoG_keep _ _)⟩
      have hs : jSc (jIt jGoG n v) ≤ 3 := by rw [hk.sc]; exact hsc
      show jPl (jGoG n (jIt jGoG n v))
      generalize jIt jGoG n v = u at hp hs
      unfold jGoG
      split
      · exact hp
      · split
        · exact hp
        · split
          · unfold jGoOne
            split
            · exact hp
            · next h0 =>
              split
              · split
                · exact (hp.up (by omega)).up (by omega)
                · rcases jNear_in u n (jSc u) with z | ⟨j, hj, e⟩
                  · refine absurd ?_ h0
                    have z2 : jGoal u n = -1 := z
                    rw [z2]; decide
                  · have hc : vp_in (jStep (u 9 n 0) (u 10 (jGoal u n).toNatClampNeg 0)) 16 ∨ ¬ n < 8 := by
                      by_cases hn : n < 8
                      · refine Or.inl (jStep_vp (hp.1 n hn) ?_)
                        rw [show (jGoal u n).toNatClampNeg = j from jcl e (by omega)]
                        exact hp.2 j (by omega)
                      · exact Or.inr hn
                    refine ⟨fun g hg => ?_, fun s hs2 => ?_⟩
                    · by_cases hgn : g = n
                      · subst hgn
                        rw [jUp_at]
                        rcases hc with hc | hc
                        · exact hc
                        · exact absurd hg hc
                      · rw [jUp_i hgn]
                        exact hp.1 g hg
                    · rw [jUp_k (by omega)]
                      exact hp.2 s hs2
              · exact hp
          · exact hp
  exact (key _).1
theorem jHarmAll_keep (v : jN) : jKeep v (jHarmAll v) := jIt_keep jHarm_keep _ _
theorem jHarmAll_pl {v : jN} (h : jPl v) : jPl (jHarmAll v) := jIt_pl (fun i v => jHarm_pl) h _

/-- a minute -/
def jM3 (v : jN) : jN := jHearAll (jChooseAll (jUp v 1 0 0 (v 1 0 0 + 1)))
def jM4 (v : jN) : jN := (jBelAll (jM3 v)).1
def jM5 (v : jN) : jN := jGoAll (jM4 v)
def jMin (v : jN) : jN := jHarmAll (jM5 v)
def jMinT (v : jN) : Int32 := (jBelAll (jM3 v)).2
def jPlay1 (_ : Nat) (q : jN × Int32) : jN × Int32 := (jMin q.1, q.2 + jMinT q.1)
def jPlay (v : jN) (n : Nat) : jN × Int32 := jIt jPlay1 n (v, 0)
theorem jPlay_s (n : Nat) (q : jN × Int32) : jIt jPlay1 (n + 1) q = (jMin (jIt jPlay1 n q).1, (jIt jPlay1 n q).2 + jMinT (jIt jPlay1 n q).1) := rfl
theorem jPlay_n {i : Nat} {u : jN} {t : Int32} {v : jN} (h : (u, t) = jIt jPlay1 i (v, (0 : Int32))) : (jMin u, t + jMinT u) = jIt jPlay1 (i + 1) (v, (0 : Int32)) := by
  have e := jPlay_s i (v, (0 : Int32))
  generalize jIt jPlay1 i (v, (0 : Int32)) = q at h e
  subst h
  exact e.symm
theorem jPlay_e (v : jN) (n : Nat) : jPlay v n = jIt jPlay1 n (v, (0 : Int32)) := rfl
theorem jTick_keep (v : jN) : jKeep v (jUp v 1 0 0 (v 1 0 0 + 1)) := jKeep.rf.up (by omega)
theorem jM3_keep (v : jN) : jKeep v (jM3 v) := by
  unfold jM3
  exact ((jTick_keep v).tr (jChooseAll_keep _)).tr (jHearAll_keep _)
theorem jM4_keep (v : jN) : jKeep v (jM4 v) := by
  unfold jM4
  exact (jM3_keep v).tr (jBelAll_keep _)
theorem jM5_keep (v : jN) : jKeep v (jM5 v) := by
  unfold jM5
  exact (jM4_keep v).tr (jGoAll_keep _)
theorem jMin_keep (v : jN) : jKeep v (jMin v) := by
  unfold jMin
  exact (jM5_keep v).tr (jHarmAll_keep _)
theorem jM3_pl {v : jN} (h : jPl v) : jPl (jM3 v) := by
  unfold jM3
  exact jHearAll_pl (jChooseAll_pl (h.up (by omega)))
theorem jM4_pl {v : jN} (h : jPl v) : jPl (jM4 v) := by
  unfold jM4
  exact jBelAll_pl (jM3_pl h)
theorem jM5_pl {v : jN} (hs : jSc v ≤ 3) (h : jPl v) : jPl (jM5 v) := by
  unfold jM5
  exact jGoAll_pl (by rw [(jM4_keep v).sc]; exact hs) (jM4_pl h)
theorem jMin_pl {v : jN} (hs : jSc v ≤ 3) (h : jPl v) : jPl (jMin v) := by
  unfold jMin
  exact jHarmAll_pl (jM5_pl hs h)
theorem jPlay_inv {v : jN} (hw : jWf v) (h : jPl v) (n : Nat) : jKeep v (jIt jPlay1 n (v, (0 : Int32))).1 ∧ jPl (jIt jPlay1 n (v, (0 : Int32))).1 := by
  induction n with
  | zero => exact ⟨jKeep.rf, h⟩
  | succ n ih =>
    obtain ⟨h1, h2⟩ := ih
    rw [jPlay_s]
    generalize jIt jPlay1 n (v, (0 : Int32)) = q at h1 h2 ⊢
    dsimp only
    have hs : jSc q.1 ≤ 3 := by rw [h1.sc]; exact hw.2.1.2
    exact ⟨h1.tr (jMin_keep q.1), jMin_pl hs h2⟩
def sp_X1_playMinutes : vgC := fun av σ => match av with
  | [.inr (1, b, 0), .inl (.int m)] => (jWf (jV σ b) ∧ jPl (jV σ b) ∧ vp_in m 1000, some (.inl (.int ((jPlay (jV σ b) m.toNatClampNeg).2))), jPut σ b (jPlay (jV σ b) m.toNatClampNeg).1)
  | _ => (False, none, σ)
def k_X1_playMinutes : List (Nat × vgF) := [(0, vi_icst (0) 1), (1, vi_istore 2 2), (2, vi_icst (0) 3), (3, vi_istore 3 4), (4, vi_iload 3 5), (5, vi_iload 1 6), (6, vi_cmp (fun x y => y ≤ x) 48 9), (9, vi_aload 0 10), (10, vi_dup 11), (11, vi_get ww_shp 1 0 14), (14, vi_icst (1) 15), (15, vi_bin (fun x y => x + y) 16), (16, vi_put ww_shp 1 0 19), (19, vi_aload 0 20), (20, vi_callV ww_shp 1 sp_X1_chooseCalls 0 23), (23, vi_aload 0 24), (24, vi_callV ww_shp 1 sp_X1_hearAll 0 27), (27, vi_iload 2 28), (28, vi_aload 0 29), (29, vi_callV ww_shp 1 sp_X1_believeAll 0 32), (32, vi_bin (fun x y => x + y) 33), (33, vi_istore 2 34), (34, vi_aload 0 35), (35, vi_callV ww_shp 1 sp_X1_goAll 0 38), (38, vi_aload 0 39), (39, vi_callV ww_shp 1 sp_X1_harmAll 0 42), (42, vi_iinc 3 (1) 45), (45, vi_goto 4), (48, vi_iload 2 49), (49, vi_ret)]
set_option maxRecDepth 20000 in
theorem s_X1_playMinutes : ∀ q ∈ k_X1_playMinutes, vg_Snd ww_tb ww_nw ww_shp ww_nm ww_cl ww_tyl cX1_playMinutes 4 RX1 (some .int) 5 q.1 q.2 := by
  refine vg_cons (vs_iconst dX1_playMinutes_0 rfl rfl) ?_
  refine vg_cons (vs_istore_n dX1_playMinutes_1 rfl (by decide) rfl) ?_
  refine vg_cons (vs_iconst dX1_playMinutes_2 rfl rfl) ?_
  refine vg_cons (vs_istore_n dX1_playMinutes_3 rfl (by decide) rfl) ?_
  refine vg_cons (vs_iload_n dX1_playMinutes_4 rfl rfl) ?_
  refine vg_cons (vs_iload_n dX1_playMinutes_5 rfl rfl) ?_
  refine vg_cons (vs_cmp_ge dX1_playMinutes_6 (by decide) rfl) ?_
  refine vg_cons (vs_aload_n dX1_playMinutes_9 rfl rfl) ?_
  refine vg_cons (vs_dup dX1_playMinutes_10 rfl) ?_
  refine vg_cons (vs_getfield (T := TX1) dX1_playMinutes_11 rfl (by decide) ww_inX1 q_10 rfl) ?_
  refine vg_cons (vs_iconst dX1_playMinutes_14 rfl rfl) ?_
  refine vg_cons (vs_iadd dX1_playMinutes_15 rfl) ?_
  refine vg_cons (vs_putfield (T := TX1) tyX1 dX1_playMinutes_16 rfl (by decide) ww_inX1 tyX1_ok nmX1 rfl rfl q_10 rfl) ?_
  refine vg_cons (vs_aload_n dX1_playMinutes_19 rfl rfl) ?_
  refine vg_cons (vs_callV (T := TX1) c_X1_chooseCalls dX1_playMinutes_20 rfl ww_good q_132 q_12 q_133 q_134 q_135 (by decide +kernel) (by decide) rfl) ?_
  refine vg_cons (vs_aload_n dX1_playMinutes_23 rfl rfl) ?_
  refine vg_cons (vs_callV (T := TX1) c_X1_hearAll dX1_playMinutes_24 rfl ww_good q_136 q_12 q_137 q_138 q_139 (by decide +kernel) (by decide) rfl) ?_
  refine vg_cons (vs_iload_n dX1_playMinutes_27 rfl rfl) ?_
  refine vg_cons (vs_aload_n dX1_playMinutes_28 rfl rfl) ?_
  refine vg_cons (vs_callV (T := TX1) c_X1_believeAll dX1_playMinutes_29 rfl ww_good q_140 q_12 q_141 q_142 q_143 (by decide +kernel) (by decide) rfl) ?_
  refine vg_cons (vs_iadd dX1_playMinutes_32 rfl) ?_
  refine vg_cons (vs_istore_n dX1_playMinutes_33 rfl (by decide) rfl) ?_
  refine vg_cons (vs_aload_n dX1_playMinutes_34 rfl rfl) ?_
  refine vg_cons (vs_callV (T := TX1) c_X1_goAll dX1_playMinutes_35 rfl ww_good q_144 q_12 q_145 q_146 q_147 (by decide +kernel) (by decide) rfl) ?_
  refine vg_cons (vs_aload_n dX1_playMinutes_38 rfl rfl) ?_
  refine vg_cons (vs_callV (T := TX1) c_X1_harmAll dX1_playMinutes_39 rfl ww_good q_148 q_12 q_149 q_150 q_151 (by decide +kernel) (by decide) rfl) ?_
  refine vg_cons (vs_iinc dX1_playMinutes_42 rfl rfl) ?_
  refine vg_cons (vs_goto dX1_playMinutes_45 (by decide)) ?_
  refine vg_cons (vs_iload_n dX1_playMinutes_48 rfl rfl) ?_
  refine vg_cons (vs_ireturn dX1_playMinutes_49 rfl) ?_
  exact fun _ h => absurd h List.not_mem_nil
theorem m_X1_playMinutes : vg_Code k_X1_playMinutes := fun q h => (s_X1_playMinutes q h).1

theorem w_X1_playMinutes : vg_Wd sp_X1_playMinutes 4 := by
  intro av σ h
  unfold sp_X1_playMinutes at h
  split at h
  · exact Nat.le_of_ble_eq_true rfl
  · exact h.elim
theorem g_X1_playMinutes : vg_G k_X1_playMinutes sp_X1_playMinutes := by
  intro av σ h
  unfold sp_X1_playMinutes at h ⊢
  split at h
  next b m =>
    obtain ⟨hw, hpl, hm⟩ := h
    obtain ⟨N, hN, rfl⟩ := vp_in_of hm (by decide)
    have eN : (nI N).toNatClampNeg = N := jcl rfl hN
    rw [eN, jPlay_e]
    refine vg_run (cuts := [(4, [0, 1, 2, 3])]) m_X1_playMinutes 20 ?_
    refine vg_loop (fun i lv σ' => ∃ x u t, (u, t) = jIt jPlay1 i (jV σ b, (0 : Int32)) ∧ σ' = jPut σ b u ∧ x = nI i ∧ lv = [(0, .inr (1, b, 0)), (1, .inl (.int (nI N))), (2, .inl (.int t)), (3, .inl (.int x))]) N ?_ ?_ 0 _ _ (Nat.zero_le _) ⟨0, jV σ b, 0, rfl, jPut_jV.symm, rfl, rfl⟩
    · rintro i lv σ' hi ⟨x, u, t, hvi, rfl, hx, rfl⟩ ih
      obtain ⟨hK, hP⟩ := jPlay_inv hw hpl i
      rw [← hvi] at hK hP
      dsimp only at hK hP
      have hwf := hK.wf hw
      have k1 := jTick_keep u
      have k2 := k1.tr (jChooseAll_keep _)
      have k3 := jM3_keep u
      have k4 := jM4_keep u
      have k5 := jM5_keep u
      have p5 := jM5_pl (hwf.2.1.2) hP
      have e1 : vg_st (jPut σ b u) (1, b, 0) 0 (jPut σ b u (1, b, 0) 0 + 1) = jPut σ b (jUp u 1 0 0 (u 1 0 0 + 1)) := by rw [jst, jPut_at]
      have e2 : jPut (vg_st (jPut σ b u) (1, b, 0) 0 (jPut σ b u (1, b, 0) 0 + 1)) b (jChooseAll (jV (vg_st (jPut σ b u) (1, b, 0) 0 (jPut σ b u (1, b, 0) 0 + 1)) b)) = jPut σ b (jChooseAll (jUp u 1 0 0 (u 1 0 0 + 1))) := by rw [e1, jPut_put, jV_put]
      have e3 : jPut (jPut σ b (jChooseAll (jUp u 1 0 0 (u 1 0 0 + 1)))) b (jHearAll (jV (jPut σ b (jChooseAll (jUp u 1 0 0 (u 1 0 0 + 1)))) b)) = jPut σ b (jM3 u) := by
        rw [jPut_put, jV_put]
        unfold jM3
        rfl
      have e4 : jPut (jPut σ b (jM3 u)) b (jBelAll (jV (jPut σ b (jM3 u)) b)).1 = jPut σ b (jM4 u) := by
        rw [jPut_put, jV_put]
        unfold jM4
        rfl
      have e4t : t + (jBelAll (jV (jPut σ b (jM3 u)) b)).2 = t + jMinT u := by
        rw [jV_put]
        unfold jMinT
        rfl
      have e5 : jPut (jPut σ b (jM4 u)) b (jGoAll (jV (jPut σ b (jM4 u)) b)) = jPut σ b (jM5 u) := by
        rw [jPut_put, jV_put]
        unfold jM5
        rfl
      have e6 : jPut (jPut σ b (jM5 u)) b (jHarmAll (jV (jPut σ b (jM5 u)) b)) = jPut σ b (jMin u) := by
        rw [jPut_put, jV_put]
        unfold jMin
        rfl
      refine vg_run (cuts := [(4, [0, 1, 2, 3]), (23, [0, 1, 2, 3]), (27, [0, 1, 2, 3]), (34, [0, 1, 2, 3]), (38, [0, 1, 2, 3]), (42, [0, 1, 2, 3])]) m_X1_playMinutes 60 ?_
      refine And.intro (fun hc => absurd ((jle rfl hx (by omega) (by omega)).mp hc) (by omega)) (fun _ => And.intro rfl ?_)
      refine And.intro (by rw [e1, jV_put]; exact k1.wf hwf) ?_
      show vg_Go k_X1_playMinutes _ 23 [(0, .inr (1, b, 0)), (1, .inl (.int (nI N))), (2, .inl (.int (t))), (3, .inl (.int x))] [] (jPut (vg_st (jPut σ b u) (1, b, 0) 0 (jPut σ b u (1, b, 0) 0 + 1)) b (jChooseAll (jV (vg_st (jPut σ b u) (1, b, 0) 0 (jPut σ b u (1, b, 0) 0 + 1)) b)))
      rw [e2]
      refine vg_run (cuts := [(4, [0, 1, 2, 3]), (23, [0, 1, 2, 3]), (27, [0, 1, 2, 3]), (34, [0, 1, 2, 3]), (38, [0, 1, 2, 3]), (42, [0, 1, 2, 3])]) m_X1_playMinutes 60 ?_
      refine And.intro (by rw [jV_put]; exact k2.wf hwf) ?_
      show vg_Go k_X1_playMinutes _ 27 [(0, .inr (1, b, 0)), (1, .inl (.int (nI N))), (2, .inl (.int (t))), (3, .inl (.int x))] [] (jPut (jPut σ b (jChooseAll (jUp u 1 0 0 (u 1 0 0 + 1)))) b (jHearAll (jV (jPut σ b (jChooseAll (jUp u 1 0 0 (u 1 0 0 + 1)))) b)))
      rw [e3]
      refine vg_run (cuts := [(4, [0, 1, 2, 3]), (23, [0, 1, 2, 3]), (27, [0, 1, 2, 3]), (34, [0, 1, 2, 3]), (38, [0, 1, 2, 3]), (42, [0, 1, 2, 3])]) m_X1_playMinutes 60 ?_
      refine And.intro (by rw [jV_put]; exact k3.wf hwf) ?_
      show vg_Go k_X1_playMinutes _ 34 [(0, .inr (1, b, 0)), (1, .inl (.int (nI N))), (2, .inl (.int (t + (jBelAll (jV (jPut σ b (jM3 u)) b)).2))), (3, .inl (.int x))] [] (jPut (jPut σ b (jM3 u)) b (jBelAll (jV (jPut σ b (jM3 u)) b)).1)
      rw [e4, e4t]
      refine vg_run (cuts := [(4, [0, 1, 2, 3]), (23, [0, 1, 2, 3]), (27, [0, 1, 2, 3]), (34, [0, 1, 2, 3]), (38, [0, 1, 2, 3]), (42, [0, 1, 2, 3])]) m_X1_playMinutes 60 ?_
      refine And.intro (by rw [jV_put]; exact k4.wf hwf) ?_
      show vg_Go k_X1_playMinutes _ 38 [(0, .inr (1, b, 0)), (1, .inl (.int (nI N))), (2, .inl (.int (t + jMinT u))), (3, .inl (.int x))] [] (jPut (jPut σ b (jM4 u)) b (jGoAll (jV (jPut σ b (jM4 u)) b)))
      rw [e5]
      refine vg_run (cuts := [(4, [0, 1, 2, 3]), (23, [0, 1, 2, 3]), (27, [0, 1, 2, 3]), (34, [0, 1, 2, 3]), (38, [0, 1, 2, 3]), (42, [0, 1, 2, 3])]) m_X1_playMinutes 60 ?_
      refine And.intro (by rw [jV_put]; exact ⟨k5.wf hwf, p5⟩) ?_
      show vg_Go k_X1_playMinutes _ 42 [(0, .inr (1, b, 0)), (1, .inl (.int (nI N))), (2, .inl (.int (t + jMinT u))), (3, .inl (.int x))] [] (jPut (jPut σ b (jM5 u)) b (jHarmAll (jV (jPut σ b (jM5 u)) b)))
      rw [e6]
      refine vg_run (cuts := [(4, [0, 1, 2, 3]), (23, [0, 1, 2, 3]), (27, [0, 1, 2, 3]), (34, [0, 1, 2, 3]), (38, [0, 1, 2, 3]), (42, [0, 1, 2, 3])]) m_X1_playMinutes 60 ?_
      exact ih _ _ ⟨x + 1, jMin u, t + jMinT u, jPlay_n hvi, rfl, jinc hx, rfl⟩
    · rintro lv σ' ⟨x, u, t, hvi, rfl, hx, rfl⟩
      refine vg_run (cuts := [(4, [0, 1, 2, 3])]) m_X1_playMinutes 20 ?_
      exact And.intro (fun _ => And.intro (by rw [← hvi]) (by rw [← hvi])) (fun hc => absurd ((jle rfl hx (by omega) (by omega)).mpr (Nat.le_refl _)) hc)
  next => exact h.elim
theorem c_X1_playMinutes : vg_MetF ww_tb ww_nw ww_shp ww_nm ww_cl ww_tyl yX1_playMinutes cX1_playMinutes 4 (some .int) 5 sp_X1_playMinutes := vg_met ww_closed (by decide +kernel) rfl s_X1_playMinutes w_X1_playMinutes g_X1_playMinutes
/-- w's numbers where R says so, else v's -/
def jCp (R : Nat → Nat → Nat → Bool) (w v : jN) : jN := fun k i s => if R k i s = true then w k i s else v k i s
def jRG (g : Nat) : Nat → Nat → Nat → Bool := fun k i s => i == g && ((k == 9 && decide (s < 8)) || (decide (14 ≤ k) && decide (k ≤ 18) && decide (s < 12)))
def jRW (w : Nat) : Nat → Nat → Nat → Bool := fun k i s => i == w && k == 11 && decide (s < 8)
theorem vg_st_eq {σ : vgS} {n n' : vgN} {k j : Nat} {x : Int32} : vg_st σ n k x n' j = if n' = n ∧ j = k then x else σ n' j := rfl
def sp_X4_becomeLike : vgC := fun av σ => match av with
  | [.inr (11, b, w), .inr (11, b', w')] => (w' = w ∧ ¬ b' = b ∧ (jV σ b' 11 w 7 = 0 ∨ jV σ b' 11 w 7 = 1), none, jPut σ b (jCp (jRW w) (jV σ b') (jV σ b)))
  | _ => (False, none, σ)
def k_X4_becomeLike : List (Nat × vgF) := [(0, vi_aload 0 1), (1, vi_aload 1 2), (2, vi_get ww_shp 4 0 5), (5, vi_put ww_shp 4 0 8), (8, vi_aload 0 9), (9, vi_aload 1 10), (10, vi_get ww_shp 4 1 13), (13, vi_put ww_shp 4 1 16), (16, vi_aload 0 17), (17, vi_aload 1 18), (18, vi_get ww_shp 4 2 21), (21, vi_put ww_shp 4 2 24), (24, vi_aload 0 25), (25, vi_aload 1 26), (26, vi_get ww_shp 4 3 29), (29, vi_put ww_shp 4 3 32), (32, vi_aload 0 33), (33, vi_aload 1 34), (34, vi_get ww_shp 4 4 37), (37, vi_put ww_shp 4 4 40), (40, vi_aload 0 41), (41, vi_aload 1 42), (42, vi_get ww_shp 4 5 45), (45, vi_put ww_shp 4 5 48), (48, vi_aload 0 49), (49, vi_aload 1 50), (50, vi_get ww_shp 4 6 53), (53, vi_put ww_shp 4 6 56), (56, vi_aload 0 57), (57, vi_aload 1 58), (58, vi_get ww_shp 4 7 61), (61, vi_putZ ww_shp 4 7 64), (64, vi_retV)]
set_option maxRecDepth 20000 in
theorem s_X4_becomeLike : ∀ q ∈ k_X4_becomeLike, vg_Snd ww_tb ww_nw ww_shp ww_nm ww_cl ww_tyl cX4_becomeLike 2 RX4 none 0 q.1 q.2 := by
  refine vg_cons (vs_aload_n dX4_becomeLike_0 rfl rfl) ?_
  refine vg_cons (vs_aload_n dX4_becomeLike_1 rfl rfl) ?_
  refine vg_cons (vs_getfield (T := TX4) dX4_becomeLike_2 rfl (by decide) ww_inX4 q_152 rfl) ?_
  refine vg_cons (vs_putfield (T := TX4) tyX4 dX4_becomeLike_5 rfl (by decide) ww_inX4 tyX4_ok nmX4 rfl rfl q_152 rfl) ?_
  refine vg_cons (vs_aload_n dX4_becomeLike_8 rfl rfl) ?_
  refine vg_cons (vs_aload_n dX4_becomeLike_9 rfl rfl) ?_
  refine vg_cons (vs_getfield (T := TX4) dX4_becomeLike_10 rfl (by decide) ww_inX4 q_153 rfl) ?_
  refine vg_cons (vs_putfield (T := TX4) tyX4 dX4_becomeLike_13 rfl (by decide) ww_inX4 tyX4_ok nmX4 rfl rfl q_153 rfl) ?_
  refine vg_cons (vs_aload_n dX4_becomeLike_16 rfl rfl) ?_
  refine vg_cons (vs_aload_n dX4_becomeLike_17 rfl rfl) ?_
  refine vg_cons (vs_getfield (T := TX4) dX4_becomeLike_18 rfl (by decide) ww_inX4 q_154 rfl) ?_
  refine vg_cons (vs_putfield (T := TX4) tyX4 dX4_becomeLike_21 rfl (by decide) ww_inX4 tyX4_ok nmX4 rfl rfl q_154 rfl) ?_
  refine vg_cons (vs_aload_n dX4_becomeLike_24 rfl rfl) ?_
  refine vg_cons (vs_aload_n dX4_becomeLike_25 rfl rfl) ?_
  refine vg_cons (vs_getfield (T := TX4) dX4_becomeLike_26 rfl (by decide) ww_inX4 q_155 rfl) ?_
  refine vg_cons (vs_putfield (T := TX4) tyX4 dX4_becomeLike_29 rfl (by decide) ww_inX4 tyX4_ok nmX4 rfl rfl q_155 rfl) ?_
  refine vg_cons (vs_aload_n dX4_becomeLike_32 rfl rfl) ?_
  refine vg_cons (vs_aload_n dX4_becomeLike_33 rfl rfl) ?_
  refine vg_cons (vs_getfield (T := TX4) dX4_becomeLike_34 rfl (by decide) ww_inX4 q_156 rfl) ?_
  refine vg_cons (vs_putfield (T := TX4) tyX4 dX4_becomeLike_37 rfl (by decide) ww_inX4 tyX4_ok nmX4 rfl rfl q_156 rfl) ?_
  refine vg_cons (vs_aload_n dX4_becomeLike_40 rfl rfl) ?_
  refine vg_cons (vs_aload_n dX4_becomeLike_41 rfl rfl) ?_
  refine vg_cons (vs_getfield (T := TX4) dX4_becomeLike_42 rfl (by decide) ww_inX4 q_157 rfl) ?_
  refine vg_cons (vs_putfield (T := TX4) tyX4 dX4_becomeLike_45 rfl (by decide) ww_inX4 tyX4_ok nmX4 rfl rfl q_157 rfl) ?_
  refine vg_cons (vs_aload_n dX4_becomeLike_48 rfl rfl) ?_
  refine vg_cons (vs_aload_n dX4_becomeLike_49 rfl rfl) ?_
  refine vg_cons (vs_getfield (T := TX4) dX4_becomeLike_50 rfl (by decide) ww_inX4 q_158 rfl) ?_
  refine vg_cons (vs_putfield (T := TX4) tyX4 dX4_becomeLike_53 rfl (by decide) ww_inX4 tyX4_ok nmX4 rfl rfl q_158 rfl) ?_
  refine vg_cons (vs_aload_n dX4_becomeLike_56 rfl rfl) ?_
  refine vg_cons (vs_aload_n dX4_becomeLike_57 rfl rfl) ?_
  refine vg_cons (vs_getfield (T := TX4) dX4_becomeLike_58 rfl (by decide) ww_inX4 q_159 rfl) ?_
  refine vg_cons (vs_putfieldZ (T := TX4) tyX4 dX4_becomeLike_61 rfl (by decide) ww_inX4 tyX4_ok nmX4 rfl rfl q_159 rfl) ?_
  refine vg_cons (vs_return dX4_becomeLike_64 rfl) ?_
  exact fun _ h => absurd h List.not_mem_nil
theorem m_X4_becomeLike : vg_Code k_X4_becomeLike := fun q h => (s_X4_becomeLike q h).1

theorem w_X4_becomeLike : vg_Wd sp_X4_becomeLike 2 := by
  intro av σ h
  unfold sp_X4_becomeLike at h
  split at h
  · exact Nat.le_of_ble_eq_true rfl
  · exact h.elim
theorem g_X4_becomeLike : vg_G k_X4_becomeLike sp_X4_becomeLike := by
  intro av σ h
  unfold sp_X4_becomeLike at h ⊢
  split at h
  next b w b' w' =>
    obtain ⟨rfl, hbb, hz⟩ := h
    refine vg_run (cuts := []) m_X4_becomeLike 60 ?_
    refine And.intro ?_ (And.intro rfl ?_)
    · simp only [vg_st_eq]
      simp
      exact hz
    · funext n s
      obtain ⟨k, b0, i⟩ := n
      simp only [vg_st_eq, jPut, jCp, jRW, jV]
      by_cases h1 : b0 = b
      · subst h1
        by_cases h2 : i = w'
        · subst h2
          by_cases h3 : k = 11
          · subst h3
            match s with
            | 0 | 1 | 2 | 3 | 4 | 5 | 6 | 7 => simp
            | s + 8 =>
              simp
              intro z
              omega
          · simp [h3]
        · simp [h2]
      · simp [h1]
  next => exact h.elim
theorem c_X4_becomeLike : vg_MetF ww_tb ww_nw ww_shp ww_nm ww_cl ww_tyl yX4_becomeLike cX4_becomeLike 2 none 0 sp_X4_becomeLike := vg_met ww_closed (by decide +kernel) rfl s_X4_becomeLike w_X4_becomeLike g_X4_becomeLike
def sp_X0_becomeLike : vgC := fun av σ => match av with
  | [.inr (9, b, g), .inr (9, b', g')] => (g' = g ∧ ¬ b' = b ∧ (jV σ b' 9 g 4 = 0 ∨ jV σ b' 9 g 4 = 1) ∧ (jV σ b' 9 g 5 = 0 ∨ jV σ b' 9 g 5 = 1), none, jPut σ b (jCp (jRG g) (jV σ b') (jV σ b)))
  | _ => (False, none, σ)
def k_X0_becomeLike : List (Nat × vgF) := [(0, vi_aload 0 1), (1, vi_aload 1 2), (2, vi_get ww_shp 5 0 5), (5, vi_put ww_shp 5 0 8), (8, vi_aload 0 9), (9, vi_aload 1 10), (10, vi_get ww_shp 5 1 13), (13, vi_put ww_shp 5 1 16), (16, vi_aload 0 17), (17, vi_aload 1 18), (18, vi_get ww_shp 5 2 21), (21, vi_put ww_shp 5 2 24), (24, vi_aload 0 25), (25, vi_aload 1 26), (26, vi_get ww_shp 5 3 29), (29, vi_put ww_shp 5 3 32), (32, vi_aload 0 33), (33, vi_aload 1 34), (34, vi_get ww_shp 5 4 37), (37, vi_putZ ww_shp 5 4 40), (40, vi_aload 0 41), (41, vi_aload 1 42), (42, vi_get ww_shp 5 5 45), (45, vi_putZ ww_shp 5 5 48), (48, vi_aload 0 49), (49, vi_aload 1 50), (50, vi_get ww_shp 5 6 53), (53, vi_put ww_shp 5 6 56), (56, vi_aload 0 57), (57, vi_aload 1 58), (58, vi_get ww_shp 5 7 61), (61, vi_put ww_shp 5 7 64), (64, vi_aload 1 65), (65, vi_get ww_shp 5 8 68), (68, vi_icst (0) 69), (69, vi_aload 0 70), (70, vi_get ww_shp 5 8 73), (73, vi_icst (0) 74), (74, vi_icst (12) 76), (76, vi_cpy ww_shp 0 79), (79, vi_aload 1 80), (80, vi_get ww_shp 5 9 83), (83, vi_icst (0) 84), (84, vi_aload 0 85), (85, vi_get ww_shp 5 9 88), (88, vi_icst (0) 89), (89, vi_icst (12) 91), (91, vi_cpy ww_shp 0 94), (94, vi_aload 1 95), (95, vi_get ww_shp 5 10 98), (98, vi_icst (0) 99), (99, vi_aload 0 100), (100, vi_get ww_shp 5 10 103), (103, vi_icst (0) 104), (104, vi_icst (12) 106), (106, vi_cpy ww_shp 0 109), (109, vi_aload 1 110), (110, vi_get ww_shp 5 11 113), (113, vi_icst (0) 114), (114, vi_aload 0 115), (115, vi_get ww_shp 5 11 118), (118, vi_icst (0) 119), (119, vi_icst (12) 121), (121, vi_cpy ww_shp 0 124), (124, vi_aload 1 125), (125, vi_get ww_shp 5 12 128), (128, vi_icst (0) 129), (129, vi_aload 0 130), (130, vi_get ww_shp 5 12 133), (133, vi_icst (0) 134), (134, vi_icst (12) 136), (136, vi_cpy ww_shp 0 139), (139, vi_retV)]
set_option maxRecDepth 20000 in
theorem s_X0_becomeLike : ∀ q ∈ k_X0_becomeLike, vg_Snd ww_tb ww_nw ww_shp ww_nm ww_cl ww_tyl cX0_becomeLike 2 RX0 none 1 q.1 q.2 := by
  refine vg_cons (vs_aload_n dX0_becomeLike_0 rfl rfl) ?_
  refine vg_cons (vs_aload_n dX0_becomeLike_1 rfl rfl) ?_
  refine vg_cons (vs_getfield (T := TX0) dX0_becomeLike_2 rfl (by decide) ww_inX0 q_160 rfl) ?_
  refine vg_cons (vs_putfield (T := TX0) tyX0 dX0_becomeLike_5 rfl (by decide) ww_inX0 tyX0_ok nmX0 rfl rfl q_160 rfl) ?_
  refine vg_cons (vs_aload_n dX0_becomeLike_8 rfl rfl) ?_
  refine vg_cons (vs_aload_n dX0_becomeLike_9 rfl rfl) ?_
  refine vg_cons (vs_getfield (T := TX0) dX0_becomeLike_10 rfl (by decide) ww_inX0 q_161 rfl) ?_
  refine vg_cons (vs_putfield (T := TX0) tyX0 dX0_becomeLike_13 rfl (by decide) ww_inX0 tyX0_ok nmX0 rfl rfl q_161 rfl) ?_
  refine vg_cons (vs_aload_n dX0_becomeLike_16 rfl rfl) ?_
  refine vg_cons (vs_aload_n dX0_becomeLike_17 rfl rfl) ?_
  refine vg_cons (vs_getfield (T := TX0) dX0_becomeLike_18 rfl (by decide) ww_inX0 q_162 rfl) ?_
  refine vg_cons (vs_putfield (T := TX0) tyX0 dX0_becomeLike_21 rfl (by decide) ww_inX0 tyX0_ok nmX0 rfl rfl q_162 rfl) ?_
  refine vg_cons (vs_aload_n dX0_becomeLike_24 rfl rfl) ?_
  refine vg_cons (vs_aload_n dX0_becomeLike_25 rfl rfl) ?_
  refine vg_cons (vs_getfield (T := TX0) dX0_becomeLike_26 rfl (by decide) ww_inX0 q_6 rfl) ?_
  refine vg_cons (vs_putfield (T := TX0) tyX0 dX0_becomeLike_29 rfl (by decide) ww_inX0 tyX0_ok nmX0 rfl rfl q_6 rfl) ?_
  refine vg_cons (vs_aload_n dX0_becomeLike_32 rfl rfl) ?_
  refine vg_cons (vs_aload_n dX0_becomeLike_33 rfl rfl) ?_
  refine vg_cons (vs_getfield (T := TX0) dX0_becomeLike_34 rfl (by decide) ww_inX0 q_163 rfl) ?_
  refine vg_cons (vs_putfieldZ (T := TX0) tyX0 dX0_becomeLike_37 rfl (by decide) ww_inX0 tyX0_ok nmX0 rfl rfl q_163 rfl) ?_
  refine vg_cons (vs_aload_n dX0_becomeLike_40 rfl rfl) ?_
  refine vg_cons (vs_aload_n dX0_becomeLike_41 rfl rfl) ?_
  refine vg_cons (vs_getfield (T := TX0) dX0_becomeLike_42 rfl (by decide) ww_inX0 q_164 rfl) ?_
  refine vg_cons (vs_putfieldZ (T := TX0) tyX0 dX0_becomeLike_45 rfl (by decide) ww_inX0 tyX0_ok nmX0 rfl rfl q_164 rfl) ?_
  refine vg_cons (vs_aload_n dX0_becomeLike_48 rfl rfl) ?_
  refine vg_cons (vs_aload_n dX0_becomeLike_49 rfl rfl) ?_
  refine vg_cons (vs_getfield (T := TX0) dX0_becomeLike_50 rfl (by decide) ww_inX0 q_5 rfl) ?_
  refine vg_cons (vs_putfield (T := TX0) tyX0 dX0_becomeLike_53 rfl (by decide) ww_inX0 tyX0_ok nmX0 rfl rfl q_5 rfl) ?_
  refine vg_cons (vs_aload_n dX0_becomeLike_56 rfl rfl) ?_
  refine vg_cons (vs_aload_n dX0_becomeLike_57 rfl rfl) ?_
  refine vg_cons (vs_getfield (T := TX0) dX0_becomeLike_58 rfl (by decide) ww_inX0 q_4 rfl) ?_
  refine vg_cons (vs_putfield (T := TX0) tyX0 dX0_becomeLike_61 rfl (by decide) ww_inX0 tyX0_ok nmX0 rfl rfl q_4 rfl) ?_
  refine vg_cons (vs_aload_n dX0_becomeLike_64 rfl rfl) ?_
  refine vg_cons (vs_getfield (T := TX0) dX0_becomeLike_65 rfl (by decide) ww_inX0 q_71 rfl) ?_
  refine vg_cons (vs_iconst dX0_becomeLike_68 rfl rfl) ?_
  refine vg_cons (vs_aload_n dX0_becomeLike_69 rfl rfl) ?_
  refine vg_cons (vs_getfield (T := TX0) dX0_becomeLike_70 rfl (by decide) ww_inX0 q_71 rfl) ?_
  refine vg_cons (vs_iconst dX0_becomeLike_73 rfl rfl) ?_
  refine vg_cons (vs_bipush dX0_becomeLike_74 (by decide) rfl) ?_
  refine vg_cons (vs_acopy dX0_becomeLike_76 rfl q_165 q_166 q_167 q_168 (by decide) rfl) ?_
  refine vg_cons (vs_aload_n dX0_becomeLike_79 rfl rfl) ?_
  refine vg_cons (vs_getfield (T := TX0) dX0_becomeLike_80 rfl (by decide) ww_inX0 q_72 rfl) ?_
  refine vg_cons (vs_iconst dX0_becomeLike_83 rfl rfl) ?_
  refine vg_cons (vs_aload_n dX0_becomeLike_84 rfl rfl) ?_
  refine vg_cons (vs_getfield (T := TX0) dX0_becomeLike_85 rfl (by decide) ww_inX0 q_72 rfl) ?_
  refine vg_cons (vs_iconst dX0_becomeLike_88 rfl rfl) ?_
  refine vg_cons (vs_bipush dX0_becomeLike_89 (by decide) rfl) ?_
  refine vg_cons (vs_acopy dX0_becomeLike_91 rfl q_165 q_166 q_167 q_168 (by decide) rfl) ?_
  refine vg_cons (vs_aload_n dX0_becomeLike_94 rfl rfl) ?_
  refine vg_cons (vs_getfield (T := TX0) dX0_becomeLike_95 rfl (by decide) ww_inX0 q_73 rfl) ?_
  refine vg_cons (vs_iconst dX0_becomeLike_98 rfl rfl) ?_
  refine vg_cons (vs_aload_n dX0_becomeLike_99 rfl rfl) ?_
  refine vg_cons (vs_getfield (T := TX0) dX0_becomeLike_100 rfl (by decide) ww_inX0 q_73 rfl) ?_
  refine vg_cons (vs_iconst dX0_becomeLike_103 rfl rfl) ?_
  refine vg_cons (vs_bipush dX0_becomeLike_104 (by decide) rfl) ?_
  refine vg_cons (vs_acopy dX0_becomeLike_106 rfl q_165 q_166 q_167 q_168 (by decide) rfl) ?_
  refine vg_cons (vs_aload_n dX0_becomeLike_109 rfl rfl) ?_
  refine vg_cons (vs_getfield (T := TX0) dX0_becomeLike_110 rfl (by decide) ww_inX0 q_74 rfl) ?_
  refine vg_cons (vs_iconst dX0_becomeLike_113 rfl rfl) ?_
  refine vg_cons (vs_aload_n dX0_becomeLike_114 rfl rfl) ?_
  refine vg_cons (vs_getfield (T := TX0) dX0_becomeLike_115 rfl (by decide) ww_inX0 q_74 rfl) ?_
  refine vg_cons (vs_iconst dX0_becomeLike_118 rfl rfl) ?_
  refine vg_cons (vs_bipush dX0_becomeLike_119 (by decide) rfl) ?_
  refine vg_cons (vs_acopy dX0_becomeLike_121 rfl q_165 q_166 q_167 q_168 (by decide) rfl) ?_
  refine vg_cons (vs_aload_n dX0_becomeLike_124 rfl rfl) ?_
  refine vg_cons (vs_getfield (T := TX0) dX0_becomeLike_125 rfl (by decide) ww_inX0 q_169 rfl) ?_
  refine vg_cons (vs_iconst dX0_becomeLike_128 rfl rfl) ?_
  refine vg_cons (vs_aload_n dX0_becomeLike_129 rfl rfl) ?_
  refine vg_cons (vs_getfield (T := TX0) dX0_becomeLike_130 rfl (by decide) ww_inX0 q_169 rfl) ?_
  refine vg_cons (vs_iconst dX0_becomeLike_133 rfl rfl) ?_
  refine vg_cons (vs_bipush dX0_becomeLike_134 (by decide) rfl) ?_
  refine vg_cons (vs_acopy dX0_becomeLike_136 rfl q_165 q_166 q_167 q_168 (by decide) rfl) ?_
  refine vg_cons (vs_return dX0_becomeLike_139 rfl) ?_
  exact fun _ h => absurd h List.not_mem_nil
theorem m_X0_becomeLike : vg_Code k_X0_becomeLike := fun q h => (s_X0_becomeLike q h).1

theorem w_X0_becomeLike : vg_Wd sp_X0_becomeLike 2 := by
  intro av σ h
  unfold sp_X0_becomeLike at h
  split at h
  · exact Nat.le_of_ble_eq_true rfl
  · exact h.elim
theorem g_X0_becomeLike : vg_G k_X0_becomeLike sp_X0_becomeLike := by
  intro av σ h
  unfold sp_X0_becomeLike at h ⊢
  split at h
  next b g b' g' =>
    obtain ⟨rfl, hbb, hz4, hz5⟩ := h
    refine vg_run (cuts := []) m_X0_becomeLike 90 ?_
    refine And.intro ?_ (And.intro ?_ ?_)
    · simp only [vg_st_eq]
      simp
      exact hz4
    · simp only [vg_st_eq]
      simp
      exact hz5
    have A : (0 : Int32) = 0 ∧ (0 : Int32) = 0 ∧ ¬ (12 : Int32) < 0 ∧ (12 : Int32).toNatClampNeg ≤ 12 ∧ (12 : Int32).toNatClampNeg ≤ 12 := by decide
    refine And.intro A (And.intro A (And.intro A (And.intro A (And.intro A (And.intro rfl ?_)))))
    funext n s
    obtain ⟨k, b0, i⟩ := n
    have e12 : (12 : Int32).toNatClampNeg = 12 := by decide
    simp only [vg_st_eq, vg_cp, jPut, jCp, jRG, jV, e12]
    by_cases h1 : b0 = b
    · subst h1
      by_cases h2 : i = g'
      · subst h2
        by_cases h9 : k = 9
        · subst h9
          match s with
          | 0 | 1 | 2 | 3 | 4 | 5 | 6 | 7 => simp [hbb]
          | s + 8 =>
            simp [hbb]
            intro z
            omega
        · by_cases hr : 14 ≤ k ∧ k ≤ 18
          · rcases (show k = 14 ∨ k = 15 ∨ k = 16 ∨ k = 17 ∨ k = 18 by omega) with rfl | rfl | rfl | rfl | rfl
            all_goals (by_cases hs : s < 12 <;> simp [hs, hbb])
          · have n14 : ¬ k = 14 := by omega
            have n15 : ¬ k = 15 := by omega
            have n16 : ¬ k = 16 := by omega
            have n17 : ¬ k = 17 := by omega
            have n18 : ¬ k = 18 := by omega
            have hb2 : (decide (14 ≤ k) && decide (k ≤ 18)) = false := by
              simp only [Bool.and_eq_false_iff, decide_eq_false_iff_not]
              omega
            simp [h9, n14, n15, n16, n17, n18, hb2]
      · simp [h2]
    · simp [h1]
  next => exact h.elim
theorem c_X0_becomeLike : vg_MetF ww_tb ww_nw ww_shp ww_nm ww_cl ww_tyl yX0_becomeLike cX0_becomeLike 2 none 1 sp_X0_becomeLike := vg_met ww_closed (by decide +kernel) rfl s_X0_becomeLike w_X0_becomeLike g_X0_becomeLike
