-- words of the tables, and what stands at each place of the methods' code (laid by program)
theorem u_20 : Cond.methodLink RX1 3 Lib.objectInit ∈ ww_tb := by decide +kernel
theorem u_21 : Cond.fieldLink RX1 9 (TX1 1).1 (TX1 1).2.1 (TX1 1).2.2.1 ∈ ww_tb := by decide +kernel
theorem u_22 : Cond.fieldLink RX1 15 (TX1 2).1 (TX1 2).2.1 (TX1 2).2.2.1 ∈ ww_tb := by decide +kernel
theorem u_23 : Cond.classLink RX1 18 RX0 ∈ ww_tb := by decide +kernel
theorem u_24 : Cond.fieldLink RX1 20 (TX1 7).1 (TX1 7).2.1 (TX1 7).2.2.1 ∈ ww_tb := by decide +kernel
theorem u_25 : Cond.classLink RX1 24 RX3 ∈ ww_tb := by decide +kernel
theorem u_26 : Cond.fieldLink RX1 26 (TX1 8).1 (TX1 8).2.1 (TX1 8).2.2.1 ∈ ww_tb := by decide +kernel
theorem u_27 : Cond.classLink RX1 30 RX4 ∈ ww_tb := by decide +kernel
theorem u_28 : Cond.fieldLink RX1 32 (TX1 9).1 (TX1 9).2.1 (TX1 9).2.2.1 ∈ ww_tb := by decide +kernel
theorem u_29 : Cond.classLink RX1 36 RX2 ∈ ww_tb := by decide +kernel
theorem u_30 : Cond.instantiable RX2 4 ∈ ww_tb := by decide +kernel
theorem u_31 : Cond.initialized RX2 ∈ ww_tb := by decide +kernel
theorem u_32 : Cond.code yX2_init cX2_init 1 none ∈ ww_tb := by decide +kernel
theorem u_33 : Cond.instanceMethod yX2_init ∈ ww_tb := by decide +kernel
theorem u_34 : Cond.fieldLink RX1 39 (TX1 10).1 (TX1 10).2.1 (TX1 10).2.2.1 ∈ ww_tb := by decide +kernel
theorem u_35 : Cond.fieldLink RX1 43 (TX1 11).1 (TX1 11).2.1 (TX1 11).2.2.1 ∈ ww_tb := by decide +kernel
theorem u_36 : Cond.fieldLink RX1 46 (TX1 12).1 (TX1 12).2.1 (TX1 12).2.2.1 ∈ ww_tb := by decide +kernel
theorem u_37 : Cond.fieldLink RX1 50 (TX1 13).1 (TX1 13).2.1 (TX1 13).2.2.1 ∈ ww_tb := by decide +kernel
theorem u_38 : Cond.methodLink RX1 53 yX0_init ∈ ww_tb := by decide +kernel
theorem u_39 : Cond.instantiable RX0 13 ∈ ww_tb := by decide +kernel
theorem u_40 : Cond.initialized RX0 ∈ ww_tb := by decide +kernel
theorem u_41 : Cond.code yX0_init cX0_init 2 none ∈ ww_tb := by decide +kernel
theorem u_42 : Cond.instanceMethod yX0_init ∈ ww_tb := by decide +kernel
theorem u_43 : Cond.instantiable RX3 2 ∈ ww_tb := by decide +kernel
theorem u_44 : Cond.initialized RX3 ∈ ww_tb := by decide +kernel
theorem u_45 : Cond.code yX3_init cX3_init 1 none ∈ ww_tb := by decide +kernel
theorem u_46 : Cond.instanceMethod yX3_init ∈ ww_tb := by decide +kernel
theorem u_47 : Cond.instantiable RX4 8 ∈ ww_tb := by decide +kernel
theorem u_48 : Cond.initialized RX4 ∈ ww_tb := by decide +kernel
theorem u_49 : Cond.code yX4_init cX4_init 1 none ∈ ww_tb := by decide +kernel
theorem u_50 : Cond.instanceMethod yX4_init ∈ ww_tb := by decide +kernel
theorem u_51 : Cond.methodLink RX5 1 Lib.objectInit ∈ ww_tb := by decide +kernel
theorem u_52 : Cond.methodLink RX5 9 yX1_init ∈ ww_tb := by decide +kernel
theorem u_53 : Cond.classLink RX5 7 RX1 ∈ ww_tb := by decide +kernel
theorem u_54 : Cond.instantiable RX1 14 ∈ ww_tb := by decide +kernel
theorem u_55 : Cond.initialized RX1 ∈ ww_tb := by decide +kernel
theorem u_56 : Cond.code yX1_init cX1_init 2 none ∈ ww_tb := by decide +kernel
theorem u_57 : Cond.instanceMethod yX1_init ∈ ww_tb := by decide +kernel
theorem u_58 : Cond.fieldLink RX5 10 (TX5 0).1 (TX5 0).2.1 (TX5 0).2.2.1 ∈ ww_tb := by decide +kernel
theorem u_59 : Cond.fieldLink RX5 16 (TX5 1).1 (TX5 1).2.1 (TX5 1).2.2.1 ∈ ww_tb := by decide +kernel
theorem dX1_init_0 : decode cX1_init 0 = .ok (.aload_n 0, 1) := by decide +kernel
theorem dX1_init_1 : decode cX1_init 1 = .ok (.invokespecial 3, 3) := by decide +kernel
theorem dX1_init_4 : decode cX1_init 4 = .ok (.aload_n 0, 1) := by decide +kernel
theorem dX1_init_5 : decode cX1_init 5 = .ok (.iconst 1, 1) := by decide +kernel
theorem dX1_init_6 : decode cX1_init 6 = .ok (.putfield 9, 3) := by decide +kernel
theorem dX1_init_9 : decode cX1_init 9 = .ok (.aload_n 0, 1) := by decide +kernel
theorem dX1_init_10 : decode cX1_init 10 = .ok (.iconst 3, 1) := by decide +kernel
theorem dX1_init_11 : decode cX1_init 11 = .ok (.putfield 15, 3) := by decide +kernel
theorem dX1_init_14 : decode cX1_init 14 = .ok (.aload_n 0, 1) := by decide +kernel
theorem dX1_init_15 : decode cX1_init 15 = .ok (.bipush 8, 2) := by decide +kernel
theorem dX1_init_17 : decode cX1_init 17 = .ok (.anewarray 18, 3) := by decide +kernel
theorem dX1_init_20 : decode cX1_init 20 = .ok (.putfield 20, 3) := by decide +kernel
theorem dX1_init_23 : decode cX1_init 23 = .ok (.aload_n 0, 1) := by decide +kernel
theorem dX1_init_24 : decode cX1_init 24 = .ok (.iconst 3, 1) := by decide +kernel
theorem dX1_init_25 : decode cX1_init 25 = .ok (.anewarray 24, 3) := by decide +kernel
theorem dX1_init_28 : decode cX1_init 28 = .ok (.putfield 26, 3) := by decide +kernel
theorem dX1_init_31 : decode cX1_init 31 = .ok (.aload_n 0, 1) := by decide +kernel
theorem dX1_init_32 : decode cX1_init 32 = .ok (.bipush 12, 2) := by decide +kernel
theorem dX1_init_34 : decode cX1_init 34 = .ok (.anewarray 30, 3) := by decide +kernel
theorem dX1_init_37 : decode cX1_init 37 = .ok (.putfield 32, 3) := by decide +kernel
theorem dX1_init_40 : decode cX1_init 40 = .ok (.aload_n 0, 1) := by decide +kernel
theorem dX1_init_41 : decode cX1_init 41 = .ok (.new 36, 3) := by decide +kernel
theorem dX1_init_44 : decode cX1_init 44 = .ok (.dup, 1) := by decide +kernel
theorem dX1_init_45 : decode cX1_init 45 = .ok (.invokespecial 38, 3) := by decide +kernel
theorem dX1_init_48 : decode cX1_init 48 = .ok (.putfield 39, 3) := by decide +kernel
theorem dX1_init_51 : decode cX1_init 51 = .ok (.aload_n 0, 1) := by decide +kernel
theorem dX1_init_52 : decode cX1_init 52 = .ok (.new 36, 3) := by decide +kernel
theorem dX1_init_55 : decode cX1_init 55 = .ok (.dup, 1) := by decide +kernel
theorem dX1_init_56 : decode cX1_init 56 = .ok (.invokespecial 38, 3) := by decide +kernel
theorem dX1_init_59 : decode cX1_init 59 = .ok (.putfield 43, 3) := by decide +kernel
theorem dX1_init_62 : decode cX1_init 62 = .ok (.aload_n 0, 1) := by decide +kernel
theorem dX1_init_63 : decode cX1_init 63 = .ok (.bipush 16, 2) := by decide +kernel
theorem dX1_init_65 : decode cX1_init 65 = .ok (.newarray .int, 2) := by decide +kernel
theorem dX1_init_67 : decode cX1_init 67 = .ok (.putfield 46, 3) := by decide +kernel
theorem dX1_init_70 : decode cX1_init 70 = .ok (.aload_n 0, 1) := by decide +kernel
theorem dX1_init_71 : decode cX1_init 71 = .ok (.bipush 12, 2) := by decide +kernel
theorem dX1_init_73 : decode cX1_init 73 = .ok (.newarray .int, 2) := by decide +kernel
theorem dX1_init_75 : decode cX1_init 75 = .ok (.putfield 50, 3) := by decide +kernel
theorem dX1_init_78 : decode cX1_init 78 = .ok (.iconst 0, 1) := by decide +kernel
theorem dX1_init_79 : decode cX1_init 79 = .ok (.istore_n 1, 1) := by decide +kernel
theorem dX1_init_80 : decode cX1_init 80 = .ok (.iload_n 1, 1) := by decide +kernel
theorem dX1_init_81 : decode cX1_init 81 = .ok (.bipush 8, 2) := by decide +kernel
theorem dX1_init_83 : decode cX1_init 83 = .ok (.if_icmp .ge 22, 3) := by decide +kernel
theorem dX1_init_86 : decode cX1_init 86 = .ok (.aload_n 0, 1) := by decide +kernel
theorem dX1_init_87 : decode cX1_init 87 = .ok (.getfield 20, 3) := by decide +kernel
theorem dX1_init_90 : decode cX1_init 90 = .ok (.iload_n 1, 1) := by decide +kernel
theorem dX1_init_91 : decode cX1_init 91 = .ok (.new 18, 3) := by decide +kernel
theorem dX1_init_94 : decode cX1_init 94 = .ok (.dup, 1) := by decide +kernel
theorem dX1_init_95 : decode cX1_init 95 = .ok (.invokespecial 53, 3) := by decide +kernel
theorem dX1_init_98 : decode cX1_init 98 = .ok (.aastore, 1) := by decide +kernel
theorem dX1_init_99 : decode cX1_init 99 = .ok (.iinc 1 1, 3) := by decide +kernel
theorem dX1_init_102 : decode cX1_init 102 = .ok (.goto (-22), 3) := by decide +kernel
theorem dX1_init_105 : decode cX1_init 105 = .ok (.iconst 0, 1) := by decide +kernel
theorem dX1_init_106 : decode cX1_init 106 = .ok (.istore_n 1, 1) := by decide +kernel
theorem dX1_init_107 : decode cX1_init 107 = .ok (.iload_n 1, 1) := by decide +kernel
theorem dX1_init_108 : decode cX1_init 108 = .ok (.iconst 3, 1) := by decide +kernel
theorem dX1_init_109 : decode cX1_init 109 = .ok (.if_icmp .ge 22, 3) := by decide +kernel
theorem dX1_init_112 : decode cX1_init 112 = .ok (.aload_n 0, 1) := by decide +kernel
theorem dX1_init_113 : decode cX1_init 113 = .ok (.getfield 26, 3) := by decide +kernel
theorem dX1_init_116 : decode cX1_init 116 = .ok (.iload_n 1, 1) := by decide +kernel
theorem dX1_init_117 : decode cX1_init 117 = .ok (.new 24, 3) := by decide +kernel
theorem dX1_init_120 : decode cX1_init 120 = .ok (.dup, 1) := by decide +kernel
theorem dX1_init_121 : decode cX1_init 121 = .ok (.invokespecial 54, 3) := by decide +kernel
theorem dX1_init_124 : decode cX1_init 124 = .ok (.aastore, 1) := by decide +kernel
theorem dX1_init_125 : decode cX1_init 125 = .ok (.iinc 1 1, 3) := by decide +kernel
theorem dX1_init_128 : decode cX1_init 128 = .ok (.goto (-21), 3) := by decide +kernel
theorem dX1_init_131 : decode cX1_init 131 = .ok (.iconst 0, 1) := by decide +kernel
theorem dX1_init_132 : decode cX1_init 132 = .ok (.istore_n 1, 1) := by decide +kernel
theorem dX1_init_133 : decode cX1_init 133 = .ok (.iload_n 1, 1) := by decide +kernel
theorem dX1_init_134 : decode cX1_init 134 = .ok (.bipush 12, 2) := by decide +kernel
theorem dX1_init_136 : decode cX1_init 136 = .ok (.if_icmp .ge 22, 3) := by decide +kernel
theorem dX1_init_139 : decode cX1_init 139 = .ok (.aload_n 0, 1) := by decide +kernel
theorem dX1_init_140 : decode cX1_init 140 = .ok (.getfield 32, 3) := by decide +kernel
theorem dX1_init_143 : decode cX1_init 143 = .ok (.iload_n 1, 1) := by decide +kernel
theorem dX1_init_144 : decode cX1_init 144 = .ok (.new 30, 3) := by decide +kernel
theorem dX1_init_147 : decode cX1_init 147 = .ok (.dup, 1) := by decide +kernel
theorem dX1_init_148 : decode cX1_init 148 = .ok (.invokespecial 55, 3) := by decide +kernel
theorem dX1_init_151 : decode cX1_init 151 = .ok (.aastore, 1) := by decide +kernel
theorem dX1_init_152 : decode cX1_init 152 = .ok (.iinc 1 1, 3) := by decide +kernel
theorem dX1_init_155 : decode cX1_init 155 = .ok (.goto (-22), 3) := by decide +kernel
theorem dX1_init_158 : decode cX1_init 158 = .ok (.iconst 0, 1) := by decide +kernel
theorem dX1_init_159 : decode cX1_init 159 = .ok (.istore_n 1, 1) := by decide +kernel
theorem dX1_init_160 : decode cX1_init 160 = .ok (.iload_n 1, 1) := by decide +kernel
theorem dX1_init_161 : decode cX1_init 161 = .ok (.bipush 16, 2) := by decide +kernel
theorem dX1_init_163 : decode cX1_init 163 = .ok (.if_icmp .ge 16, 3) := by decide +kernel
theorem dX1_init_166 : decode cX1_init 166 = .ok (.aload_n 0, 1) := by decide +kernel
theorem dX1_init_167 : decode cX1_init 167 = .ok (.getfield 46, 3) := by decide +kernel
theorem dX1_init_170 : decode cX1_init 170 = .ok (.iload_n 1, 1) := by decide +kernel
theorem dX1_init_171 : decode cX1_init 171 = .ok (.iconst (-1), 1) := by decide +kernel
theorem dX1_init_172 : decode cX1_init 172 = .ok (.iastore, 1) := by decide +kernel
theorem dX1_init_173 : decode cX1_init 173 = .ok (.iinc 1 1, 3) := by decide +kernel
theorem dX1_init_176 : decode cX1_init 176 = .ok (.goto (-16), 3) := by decide +kernel
theorem dX1_init_179 : decode cX1_init 179 = .ok (.return_, 1) := by decide +kernel
theorem dX5_init_0 : decode cX5_init 0 = .ok (.aload_n 0, 1) := by decide +kernel
theorem dX5_init_1 : decode cX5_init 1 = .ok (.invokespecial 1, 3) := by decide +kernel
theorem dX5_init_4 : decode cX5_init 4 = .ok (.aload_n 0, 1) := by decide +kernel
theorem dX5_init_5 : decode cX5_init 5 = .ok (.new 7, 3) := by decide +kernel
theorem dX5_init_8 : decode cX5_init 8 = .ok (.dup, 1) := by decide +kernel
theorem dX5_init_9 : decode cX5_init 9 = .ok (.invokespecial 9, 3) := by decide +kernel
theorem dX5_init_12 : decode cX5_init 12 = .ok (.putfield 10, 3) := by decide +kernel
theorem dX5_init_15 : decode cX5_init 15 = .ok (.aload_n 0, 1) := by decide +kernel
theorem dX5_init_16 : decode cX5_init 16 = .ok (.new 7, 3) := by decide +kernel
theorem dX5_init_19 : decode cX5_init 19 = .ok (.dup, 1) := by decide +kernel
theorem dX5_init_20 : decode cX5_init 20 = .ok (.invokespecial 9, 3) := by decide +kernel
theorem dX5_init_23 : decode cX5_init 23 = .ok (.putfield 16, 3) := by decide +kernel
theorem dX5_init_26 : decode cX5_init 26 = .ok (.return_, 1) := by decide +kernel
/-! Land -/
def fs_X1 : List Value := [.int 0, .int 0, .int 0, .int 0, .int 0, .int 0, .int 0, .null, .null, .null, .null, .null, .null, .null]
def wl_B (fg fs fw : Nat → Option Nat) (fd : Nat → Int32) : vhS := [.inl (1, [vi_ 0, vi_ 1, vi_ 3, vi_ 0, vi_ 0, vi_ 0, vi_ 0, .inr (vh_n 1), .inr (vh_n 2), .inr (vh_n 3), .inr (vh_n 4), .inr (vh_n 8), .inr (vh_n 12), .inr (vh_n 13)]),
  .inr (2, 8, .inr (.inr fg)), .inr (3, 3, .inr (.inr fs)), .inr (4, 12, .inr (.inr fw)),
  .inl (2, [.inr (vh_n 5), .inr (vh_n 6), .inr (vh_n 7), vi_ 0]), wc_z 0 5, wc_z 0 5, wc_z 1 5,
  .inl (2, [.inr (vh_n 9), .inr (vh_n 10), .inr (vh_n 11), vi_ 0]), wc_z 0 5, wc_z 0 5, wc_z 1 5,
  .inr (0, 16, .inl fd), wc_z 0 12]
def wl_G : Nat → vhS
  | 0 => []
  | k + 1 => wl_G k ++ cs_X0.map (vh_sh (14 + 6 * k))
def wl_H : Nat → vhS
  | 0 => wl_G 8
  | k + 1 => wl_H k ++ cs_X3.map (vh_sh (62 + 1 * k))
def wl_W : Nat → vhS
  | 0 => wl_H 3
  | k + 1 => wl_W k ++ cs_X4.map (vh_sh (65 + 1 * k))
theorem wl_Gl : ∀ k, (wl_G k).length = 6 * k
  | 0 => rfl
  | k + 1 => by
    show (wl_G k ++ cs_X0.map (vh_sh (14 + 6 * k))).length = _
    rw [List.length_append, wl_Gl k, List.length_map]
    rfl
theorem wl_Hl : ∀ k, (wl_H k).length = 48 + 1 * k
  | 0 => wl_Gl 8
  | k + 1 => by
    show (wl_H k ++ cs_X3.map (vh_sh (62 + 1 * k))).length = _
    rw [List.length_append, wl_Hl k, List.length_map]
    show 48 + 1 * k + 1 = _
    omega
theorem wl_Wl : ∀ k, (wl_W k).length = 51 + 1 * k
  | 0 => wl_Hl 3
  | k + 1 => by
    show (wl_W k ++ cs_X4.map (vh_sh (65 + 1 * k))).length = _
    rw [List.length_append, wl_Wl k, List.length_map]
    show 51 + 1 * k + 1 = _
    omega
def wl_g (k : Nat) : Nat → Option Nat := wl_f 14 6 k
def wl_h (k : Nat) : Nat → Option Nat := wl_f 62 1 k
def wl_w (k : Nat) : Nat → Option Nat := wl_f 65 1 k
def cs_X1 : vhS := wl_B (wl_g 8) (wl_h 3) (wl_w 12) (wh_f 16) ++ wl_W 12
theorem wl_BL {fg fs fw : Nat → Option Nat} {fd : Nat → Int32} {T : vhS} {n : Nat} (h : T.length = n) : (wl_B fg fs fw fd ++ T).length = 14 + n := by
  rw [List.length_append, h]
  rfl
theorem wl_at {X Y : vhS} {n : Nat} (h : X.length = n) : vh_at (X ++ Y) n = vh_at Y 0 := by
  rw [vh_at_eq, vh_at_eq, List.getElem?_append_right (by omega), h, Nat.sub_self]
theorem wl_fb (b st m : Nat) : ∀ k, k ≤ m → ∀ i j, wl_f b st k i = some j → j < b + st * m + 1
  | 0, _, i, j, h => by cases h
  | k + 1, hk, i, j, h => by
    have h' : va_up (wl_f b st k) (wi k).toNatClampNeg (some (b + st * k)) i = some j := h
    unfold va_up at h'
    split at h'
    · cases h'
      have : st * k ≤ st * m := Nat.mul_le_mul_left _ (by omega)
      omega
    · exact wl_fb b st m k (by omega) i j h'
theorem wl_ok {n k b : Nat} {cs : vhS} (hc : vh_wf cs) (hb : b + cs.length ≤ n) : ∀ c ∈ cs.map (vh_sh b), vh_okC n c := by
  intro c h
  obtain ⟨x, hx, rfl⟩ := List.mem_map.mp h
  exact vh_okC_le hb (vh_sh_ok (hc x hx))
theorem wl_Gok : ∀ k, k ≤ 8 → ∀ c ∈ wl_G k, vh_okC 77 c
  | 0, _, c, h => by cases h
  | k + 1, hk, c, h => by
    rcases List.mem_append.mp (show c ∈ wl_G k ++ cs_X0.map (vh_sh (14 + 6 * k)) from h) with h | h
    · exact wl_Gok k (by omega) c h
    · exact wl_ok (k := 0) wf_X0 (by show 14 + 6 * k + 6 ≤ 77; omega) c h
theorem wl_Hok : ∀ k, k ≤ 3 → ∀ c ∈ wl_H k, vh_okC 77 c
  | 0, _, c, h => wl_Gok 8 (Nat.le_refl _) c h
  | k + 1, hk, c, h => by
    rcases List.mem_append.mp (show c ∈ wl_H k ++ cs_X3.map (vh_sh (62 + 1 * k)) from h) with h | h
    · exact wl_Hok k (by omega) c h
    · exact wl_ok (k := 0) wf_X3 (by show 62 + 1 * k + 1 ≤ 77; omega) c h
theorem wl_Wok : ∀ k, k ≤ 12 → ∀ c ∈ wl_W k, vh_okC 77 c
  | 0, _, c, h => wl_Hok 3 (Nat.le_refl _) c h
  | k + 1, hk, c, h => by
    rcases List.mem_append.mp (show c ∈ wl_W k ++ cs_X4.map (vh_sh (65 + 1 * k)) from h) with h | h
    · exact wl_Wok k (by omega) c h
    · exact wl_ok (k := 0) wf_X4 (by show 65 + 1 * k + 1 ≤ 77; omega) c h
theorem wl_Bok {n : Nat} (hn : 77 ≤ n) : ∀ c ∈ wl_B (wl_g 8) (wl_h 3) (wl_w 12) (wh_f 16), vh_okC n c := by
  intro c h
  refine vh_okC_le hn ?_
  rcases List.mem_cons.mp h with rfl | h
  · exact vh_okI (by decide +kernel)
  rcases List.mem_cons.mp h with rfl | h
  · intro i j hij
    have h2 := wl_fb 14 6 8 8 (Nat.le_refl _) i j hij
    omega
  rcases List.mem_cons.mp h with rfl | h
  · intro i j hij
    have h2 := wl_fb 62 1 3 3 (Nat.le_refl _) i j hij
    omega
  rcases List.mem_cons.mp h with rfl | h
  · intro i j hij
    have h2 : j < 65 + 1 * 12 + 1 := wl_fb 65 1 12 12 (Nat.le_refl _) i j hij
    have h3 : ∀ k, k ≤ 12 → ∀ i j, wl_f 65 1 k i = some j → j < 65 + k := by
      intro k
      induction k with
      | zero => intro _ i j h; cases h
      | succ k ih =>
        intro hk i j h
        have h' : va_up (wl_f 65 1 k) (wi k).toNatClampNeg (some (65 + 1 * k)) i = some j := h
        unfold va_up at h'
        split at h'
        · cases h'; omega
        · have := ih (by omega) i j h'; omega
    have h4 := h3 12 (Nat.le_refl _) i j hij
    omega
  rcases List.mem_cons.mp h with rfl | h
  · exact vh_okI (by decide +kernel)
  iterate 3
    rcases List.mem_cons.mp h with rfl | h
    · trivial
  rcases List.mem_cons.mp h with rfl | h
  · exact vh_okI (by decide +kernel)
  iterate 4
    rcases List.mem_cons.mp h with rfl | h
    · trivial
  rw [List.mem_singleton.mp h]
  trivial
theorem wl_len : cs_X1.length = 77 := by
  unfold cs_X1
  rw [wl_BL (wl_Wl 12)]
theorem wf_X1 : vh_wf cs_X1 := by
  intro c hc
  rw [wl_len]
  rcases List.mem_append.mp (show c ∈ wl_B (wl_g 8) (wl_h 3) (wl_w 12) (wh_f 16) ++ wl_W 12 from hc) with h | h
  · exact wl_Bok (Nat.le_refl _) c h
  · exact wl_Wok 12 (Nat.le_refl _) c h
def k_X1_init : List (Nat × vhF) := [(0, hi_aload 0 1), (1, hi_oinit 4), (4, hi_aload 0 5), (5, hi_icst (1) 6), (6, hi_putI 1 1 9), (9, hi_aload 0 10), (10, hi_icst (3) 11), (11, hi_putI 1 2 14), (14, hi_aload 0 15), (15, hi_icst (8) 17), (17, hi_newq 2 76 775 20), (20, hi_putR 1 7 23), (23, hi_aload 0 24), (24, hi_icst (3) 25), (25, hi_newq 3 76 775 28), (28, hi_putR 1 8 31), (31, hi_aload 0 32), (32, hi_icst (12) 34), (34, hi_newq 4 76 775 37), (37, hi_putR 1 9 40), (40, hi_aload 0 41), (41, hi_newc 76 775 4 3 15 cs_X2 48), (48, hi_putR 1 10 51), (51, hi_aload 0 52), (52, hi_newc 76 775 4 3 15 cs_X2 59), (59, hi_putR 1 11 62), (62, hi_aload 0 63), (63, hi_icst (16) 65), (65, hi_newa 0 76 775 67), (67, hi_putR 1 12 70), (70, hi_aload 0 71), (71, hi_icst (12) 73), (73, hi_newa 0 76 775 75), (75, hi_putR 1 13 78), (78, hi_icst (0) 79), (79, hi_istore 1 80), (80, hi_iload 1 81), (81, hi_icst (8) 83), (83, hi_cmp (fun x y => y ≤ x) 105 86), (86, hi_aload 0 87), (87, hi_get 1 7 90), (90, hi_iload 1 91), (91, hi_newc 76 775 13 5 60 cs_X0 98), (98, hi_aast 2 5 99), (99, hi_iinc 1 (1) 102), (102, hi_goto 80), (105, hi_icst (0) 106), (106, hi_istore 1 107), (107, hi_iload 1 108), (108, hi_icst (3) 109), (109, hi_cmp (fun x y => y ≤ x) 131 112), (112, hi_aload 0 113), (113, hi_get 1 8 116), (116, hi_iload 1 117), (117, hi_newc 76 775 2 0 0 cs_X3 124), (124, hi_aast 3 3 125), (125, hi_iinc 1 (1) 128), (128, hi_goto 107), (131, hi_icst (0) 132), (132, hi_istore 1 133), (133, hi_iload 1 134), (134, hi_icst (12) 136), (136, hi_cmp (fun x y => y ≤ x) 158 139), (139, hi_aload 0 140), (140, hi_get 1 9 143), (143, hi_iload 1 144), (144, hi_newc 76 775 8 0 0 cs_X4 151), (151, hi_aast 4 4 152), (152, hi_iinc 1 (1) 155), (155, hi_goto 133), (158, hi_icst (0) 159), (159, hi_istore 1 160), (160, hi_iload 1 161), (161, hi_icst (16) 163), (163, hi_cmp (fun x y => y ≤ x) 179 166), (166, hi_aload 0 167), (167, hi_get 1 12 170), (170, hi_iload 1 171), (171, hi_icst (-1) 172), (172, hi_iast 0 173), (173, hi_iinc 1 (1) 176), (176, hi_goto 160), (179, hi_retV)]
set_option maxRecDepth 20000 in
theorem s_X1_init : ∀ q ∈ k_X1_init, vh_Snd ww_tb wh_nx ww_cl ww_tyl cX1_init 2 RX1 none 2 76 775 true q.1 q.2 := by
  refine vg_cons (ht_aload_n dX1_init_0 rfl rfl) ?_
  refine vg_cons (ht_oinit dX1_init_1 u_20 u_1 u_2 (by decide) rfl) ?_
  refine vg_cons (ht_aload_n dX1_init_4 rfl rfl) ?_
  refine vg_cons (ht_iconst dX1_init_5 rfl rfl) ?_
  refine vg_cons (ht_putI (T := TX1) tyX1 dX1_init_6 rfl (by decide) ww_inX1 tyX1_ok nmX1 rfl rfl u_21 rfl) ?_
  refine vg_cons (ht_aload_n dX1_init_9 rfl rfl) ?_
  refine vg_cons (ht_iconst dX1_init_10 rfl rfl) ?_
  refine vg_cons (ht_putI (T := TX1) tyX1 dX1_init_11 rfl (by decide) ww_inX1 tyX1_ok nmX1 rfl rfl u_22 rfl) ?_
  refine vg_cons (ht_aload_n dX1_init_14 rfl rfl) ?_
  refine vg_cons (ht_bipush dX1_init_15 (by decide) rfl) ?_
  refine vg_cons (ht_newq (C := RX0) rfl u_23 (by decide +kernel) dX1_init_17 rfl) ?_
  refine vg_cons (ht_putF (T := TX1) tyX1 rfl dX1_init_20 rfl (by decide) ww_inX1 tyX1_ok nmX1 rfl rfl (fun _ => ⟨rfl, rfl⟩) u_24 rfl) ?_
  refine vg_cons (ht_aload_n dX1_init_23 rfl rfl) ?_
  refine vg_cons (ht_iconst dX1_init_24 rfl rfl) ?_
  refine vg_cons (ht_newq (C := RX3) rfl u_25 (by decide +kernel) dX1_init_25 rfl) ?_
  refine vg_cons (ht_putF (T := TX1) tyX1 rfl dX1_init_28 rfl (by decide) ww_inX1 tyX1_ok nmX1 rfl rfl (fun _ => ⟨rfl, rfl⟩) u_26 rfl) ?_
  refine vg_cons (ht_aload_n dX1_init_31 rfl rfl) ?_
  refine vg_cons (ht_bipush dX1_init_32 (by decide) rfl) ?_
  refine vg_cons (ht_newq (C := RX4) rfl u_27 (by decide +kernel) dX1_init_34 rfl) ?_
  refine vg_cons (ht_putF (T := TX1) tyX1 rfl dX1_init_37 rfl (by decide) ww_inX1 tyX1_ok nmX1 rfl rfl (fun _ => ⟨rfl, rfl⟩) u_28 rfl) ?_
  refine vg_cons (ht_aload_n dX1_init_40 rfl rfl) ?_
  refine vg_cons (ht_newcN (host := "WarnWave") (ci := 2) (T := TX2) (N := 4) tyX2 I_X2_init (by decide +kernel) dX1_init_41 dX1_init_44 dX1_init_45 rfl ww_inX2 tyX2_ok u_29 u_30 u_31 (by intro j hj; match j, hj with | 0, _ => exact rfl | 1, _ => exact rfl | 2, _ => exact rfl | 3, _ => exact rfl) ww_good u_32 rfl (by decide +kernel) u_33 rfl (by decide +kernel) (by decide) rfl) ?_
  refine vg_cons (ht_putF (T := TX1) tyX1 rfl dX1_init_48 rfl (by decide) ww_inX1 tyX1_ok nmX1 rfl rfl (fun _ => ⟨rfl, rfl⟩) u_34 rfl) ?_
  refine vg_cons (ht_aload_n dX1_init_51 rfl rfl) ?_
  refine vg_cons (ht_newcN (host := "WarnWave") (ci := 2) (T := TX2) (N := 4) tyX2 I_X2_init (by decide +kernel) dX1_init_52 dX1_init_55 dX1_init_56 rfl ww_inX2 tyX2_ok u_29 u_30 u_31 (by intro j hj; match j, hj with | 0, _ => exact rfl | 1, _ => exact rfl | 2, _ => exact rfl | 3, _ => exact rfl) ww_good u_32 rfl (by decide +kernel) u_33 rfl (by decide +kernel) (by decide) rfl) ?_
  refine vg_cons (ht_putF (T := TX1) tyX1 rfl dX1_init_59 rfl (by decide) ww_inX1 tyX1_ok nmX1 rfl rfl (fun _ => ⟨rfl, rfl⟩) u_35 rfl) ?_
  refine vg_cons (ht_aload_n dX1_init_62 rfl rfl) ?_
  refine vg_cons (ht_bipush dX1_init_63 (by decide) rfl) ?_
  refine vg_cons (ht_newa (atype := .int) rfl (fun _ _ => rfl) (by decide) rfl u_7 dX1_init_65 rfl) ?_
  refine vg_cons (ht_putF (T := TX1) tyX1 rfl dX1_init_67 rfl (by decide) ww_inX1 tyX1_ok nmX1 rfl rfl (fun _ => ⟨rfl, rfl⟩) u_36 rfl) ?_
  refine vg_cons (ht_aload_n dX1_init_70 rfl rfl) ?_
  refine vg_cons (ht_bipush dX1_init_71 (by decide) rfl) ?_
  refine vg_cons (ht_newa (atype := .int) rfl (fun _ _ => rfl) (by decide) rfl u_7 dX1_init_73 rfl) ?_
  refine vg_cons (ht_putF (T := TX1) tyX1 rfl dX1_init_75 rfl (by decide) ww_inX1 tyX1_ok nmX1 rfl rfl (fun _ => ⟨rfl, rfl⟩) u_37 rfl) ?_
  refine vg_cons (ht_iconst dX1_init_78 rfl rfl) ?_
  refine vg_cons (ht_istore_n dX1_init_79 rfl (by decide) rfl) ?_
  refine vg_cons (ht_iload_n dX1_init_80 rfl rfl) ?_
  refine vg_cons (ht_bipush dX1_init_81 (by decide) rfl) ?_
  refine vg_cons (ht_cmp_ge dX1_init_83 (by decide) rfl) ?_
  refine vg_cons (ht_aload_n dX1_init_86 rfl rfl) ?_
  refine vg_cons (ht_getfield (T := TX1) dX1_init_87 rfl (by decide) ww_inX1 u_24 rfl) ?_
  refine vg_cons (ht_iload_n dX1_init_90 rfl rfl) ?_
  refine vg_cons (ht_newc (ci := 5) (T := TX0) (N := 13) tyX0 I_X0_init (by decide +kernel) dX1_init_91 dX1_init_94 dX1_init_95 rfl ww_inX0 tyX0_ok u_23 u_39 u_40 (by intro j hj; match j, hj with | 0, _ => exact rfl | 1, _ => exact rfl | 2, _ => exact rfl | 3, _ => exact rfl | 4, _ => exact rfl | 5, _ => exact rfl | 6, _ => exact rfl | 7, _ => exact rfl | 8, _ => exact rfl | 9, _ => exact rfl | 10, _ => exact rfl | 11, _ => exact rfl | 12, _ => exact rfl) ww_good u_41 rfl u_38 u_42 rfl (by decide +kernel) (by decide) rfl) ?_
  refine vg_cons (ht_aast (C := RX0) (T := TX0) (N := 13) dX1_init_98 rfl rfl rfl) ?_
  refine vg_cons (ht_iinc dX1_init_99 rfl rfl) ?_
  refine vg_cons (ht_goto dX1_init_102 (by decide)) ?_
  refine vg_cons (ht_iconst dX1_init_105 rfl rfl) ?_
  refine vg_cons (ht_istore_n dX1_init_106 rfl (by decide) rfl) ?_
  refine vg_cons (ht_iload_n dX1_init_107 rfl rfl) ?_
  refine vg_cons (ht_iconst dX1_init_108 rfl rfl) ?_
  refine vg_cons (ht_cmp_ge dX1_init_109 (by decide) rfl) ?_
  refine vg_cons (ht_aload_n dX1_init_112 rfl rfl) ?_
  refine vg_cons (ht_getfield (T := TX1) dX1_init_113 rfl (by decide) ww_inX1 u_26 rfl) ?_
  refine vg_cons (ht_iload_n dX1_init_116 rfl rfl) ?_
  refine vg_cons (ht_newcN (host := "WarnWave") (ci := 3) (T := TX3) (N := 2) tyX3 I_X3_init (by decide +kernel) dX1_init_117 dX1_init_120 dX1_init_121 rfl ww_inX3 tyX3_ok u_25 u_43 u_44 (by intro j hj; match j, hj with | 0, _ => exact rfl | 1, _ => exact rfl) ww_good u_45 rfl (by decide +kernel) u_46 rfl (by decide +kernel) (by decide) rfl) ?_
  refine vg_cons (ht_aast (C := RX3) (T := TX3) (N := 2) dX1_init_124 rfl rfl rfl) ?_
  refine vg_cons (ht_iinc dX1_init_125 rfl rfl) ?_
  refine vg_cons (ht_goto dX1_init_128 (by decide)) ?_
  refine vg_cons (ht_iconst dX1_init_131 rfl rfl) ?_
  refine vg_cons (ht_istore_n dX1_init_132 rfl (by decide) rfl) ?_
  refine vg_cons (ht_iload_n dX1_init_133 rfl rfl) ?_
  refine vg_cons (ht_bipush dX1_init_134 (by decide) rfl) ?_
  refine vg_cons (ht_cmp_ge dX1_init_136 (by decide) rfl) ?_
  refine vg_cons (ht_aload_n dX1_init_139 rfl rfl) ?_
  refine vg_cons (ht_getfield (T := TX1) dX1_init_140 rfl (by decide) ww_inX1 u_28 rfl) ?_
  refine vg_cons (ht_iload_n dX1_init_143 rfl rfl) ?_
  refine vg_cons (ht_newcN (host := "WarnWave") (ci := 4) (T := TX4) (N := 8) tyX4 I_X4_init (by decide +kernel) dX1_init_144 dX1_init_147 dX1_init_148 rfl ww_inX4 tyX4_ok u_27 u_47 u_48 (by intro j hj; match j, hj with | 0, _ => exact rfl | 1, _ => exact rfl | 2, _ => exact rfl | 3, _ => exact rfl | 4, _ => exact rfl | 5, _ => exact rfl | 6, _ => exact rfl | 7, _ => exact rfl) ww_good u_49 rfl (by decide +kernel) u_50 rfl (by decide +kernel) (by decide) rfl) ?_
  refine vg_cons (ht_aast (C := RX4) (T := TX4) (N := 8) dX1_init_151 rfl rfl rfl) ?_
  refine vg_cons (ht_iinc dX1_init_152 rfl rfl) ?_
  refine vg_cons (ht_goto dX1_init_155 (by decide)) ?_
  refine vg_cons (ht_iconst dX1_init_158 rfl rfl) ?_
  refine vg_cons (ht_istore_n dX1_init_159 rfl (by decide) rfl) ?_
  refine vg_cons (ht_iload_n dX1_init_160 rfl rfl) ?_
  refine vg_cons (ht_bipush dX1_init_161 (by decide) rfl) ?_
  refine vg_cons (ht_cmp_ge dX1_init_163 (by decide) rfl) ?_
  refine vg_cons (ht_aload_n dX1_init_166 rfl rfl) ?_
  refine vg_cons (ht_getfield (T := TX1) dX1_init_167 rfl (by decide) ww_inX1 u_36 rfl) ?_
  refine vg_cons (ht_iload_n dX1_init_170 rfl rfl) ?_
  refine vg_cons (ht_iconst dX1_init_171 rfl rfl) ?_
  refine vg_cons (ht_iast dX1_init_172 rfl rfl) ?_
  refine vg_cons (ht_iinc dX1_init_173 rfl rfl) ?_
  refine vg_cons (ht_goto dX1_init_176 (by decide)) ?_
  refine vg_cons (ht_return dX1_init_179 rfl) ?_
  exact fun _ h => absurd h List.not_mem_nil
theorem m_X1_init : vh_Code k_X1_init := fun q h => (s_X1_init q h).1

abbrev wl_P : vhO := fun r σ => r = none ∧ σ.1 = cs_X1 ∧ σ.2.1 ≤ 76 ∧ σ.2.2 ≤ 775
theorem wl_loop4 : ∀ n k, n + k = 16 → vh_Go k_X1_init wl_P 160 [(0, .inr (vh_n 0)), (1, .inl (.int (wi k)))] [] (wl_B (wl_g 8) (wl_h 3) (wl_w 12) (wh_f k) ++ wl_W 12, 76, 775)
  | 0, k, h => by
    have hk : k = 16 := by omega
    subst hk
    refine vh_run (cuts := [(160, [0, 1])]) m_X1_init 6 ?_
    exact And.intro (fun _ => ⟨rfl, rfl, Nat.le_refl _, Nat.le_refl _⟩) (fun hc => absurd wi_ge.2.2.2 hc)
  | n + 1, k, h => by
    refine vh_run (cuts := [(160, [0, 1])]) m_X1_init 40 ?_
    refine And.intro (fun hc => absurd hc (wi_lt16 k (by omega))) (fun _ => And.intro (wi_in (by omega) (by decide)) ?_)
    exact wl_loop4 n (k + 1) (by omega)
theorem wl_loop3 : ∀ n k, n + k = 12 → vh_Go k_X1_init wl_P 133 [(0, .inr (vh_n 0)), (1, .inl (.int (wi k)))] [] (wl_B (wl_g 8) (wl_h 3) (wl_w k) (wh_f 0) ++ wl_W k, 64 + 1 * k, 679 + 8 * k)
  | 0, k, h => by
    have hk : k = 12 := by omega
    subst hk
    refine vh_run (cuts := [(160, [0, 1])]) m_X1_init 6 ?_
    exact And.intro (fun _ => wl_loop4 16 0 rfl) (fun hc => absurd wi_ge.2.2.1 hc)
  | n + 1, k, h => by
    refine vh_run (cuts := [(151, [0, 1])]) m_X1_init 12 ?_
    refine And.intro (fun hc => absurd hc (wi_lt12 k (by omega))) (fun _ => ?_)
    have hlen : (wl_B (wl_g 8) (wl_h 3) (wl_w k) (wh_f 0) ++ wl_W k).length = 65 + 1 * k := (wl_BL (wl_Wl k)).trans (by omega)
    refine And.intro ⟨by show 64 + 1 * k + 1 + 0 ≤ 76; omega, by show 679 + 8 * k + 8 + 0 ≤ 775; omega⟩ ?_
    dsimp only
    rw [hlen]
    refine vh_run (cuts := [(133, [0, 1])]) m_X1_init 12 ?_
    refine And.intro ⟨wi_in (by omega) (by decide), ⟨_, (wl_at hlen).trans rfl⟩⟩ ?_
    exact wl_loop3 n (k + 1) (by omega)
theorem wl_loop2 : ∀ n k, n + k = 3 → vh_Go k_X1_init wl_P 107 [(0, .inr (vh_n 0)), (1, .inl (.int (wi k)))] [] (wl_B (wl_g 8) (wl_h k) (wl_w 0) (wh_f 0) ++ wl_H k, 61 + 1 * k, 673 + 2 * k)
  | 0, k, h => by
    have hk : k = 3 := by omega
    subst hk
    refine vh_run (cuts := [(133, [0, 1])]) m_X1_init 6 ?_
    exact And.intro (fun _ => wl_loop3 12 0 rfl) (fun hc => absurd wi_ge.2.1 hc)
  | n + 1, k, h => by
    refine vh_run (cuts := [(124, [0, 1])]) m_X1_init 12 ?_
    refine And.intro (fun hc => absurd hc (wi_lt3 k (by omega))) (fun _ => ?_)
    have hlen : (wl_B (wl_g 8) (wl_h k) (wl_w 0) (wh_f 0) ++ wl_H k).length = 62 + 1 * k := (wl_BL (wl_Hl k)).trans (by omega)
    refine And.intro ⟨by show 61 + 1 * k + 1 + 0 ≤ 76; omega, by show 673 + 2 * k + 2 + 0 ≤ 775; omega⟩ ?_
    dsimp only
    rw [hlen]
    refine vh_run (cuts := [(107, [0, 1])]) m_X1_init 12 ?_
    refine And.intro ⟨wi_in (by omega) (by decide), ⟨_, (wl_at hlen).trans rfl⟩⟩ ?_
    exact wl_loop2 n (k + 1) (by omega)
theorem wl_loop1 : ∀ n k, n + k = 8 → vh_Go k_X1_init wl_P 80 [(0, .inr (vh_n 0)), (1, .inl (.int (wi k)))] [] (wl_B (wl_g k) (wl_h 0) (wl_w 0) (wh_f 0) ++ wl_G k, 13 + 6 * k, 89 + 73 * k)
  | 0, k, h => by
    have hk : k = 8 := by omega
    subst hk
    refine vh_run (cuts := [(107, [0, 1])]) m_X1_init 6 ?_
    exact And.intro (fun _ => wl_loop2 3 0 rfl) (fun hc => absurd wi_ge.1 hc)
  | n + 1, k, h => by
    refine vh_run (cuts := [(98, [0, 1])]) m_X1_init 12 ?_
    refine And.intro (fun hc => absurd hc (wi_lt8 k (by omega))) (fun _ => ?_)
    have hlen : (wl_B (wl_g k) (wl_h 0) (wl_w 0) (wh_f 0) ++ wl_G k).length = 14 + 6 * k := (wl_BL (wl_Gl k)).trans (by omega)
    refine And.intro ⟨by show 13 + 6 * k + 1 + 5 ≤ 76; omega, by show 89 + 73 * k + 13 + 60 ≤ 775; omega⟩ ?_
    dsimp only
    rw [hlen]
    refine vh_run (cuts := [(80, [0, 1])]) m_X1_init 12 ?_
    refine And.intro ⟨wi_in (by omega) (by decide), ⟨_, (wl_at hlen).trans rfl⟩⟩ ?_
    exact wl_loop1 n (k + 1) (by omega)
def wl_O (a b c d : vgV) : vhC := .inl (1, [vi_ 0, vi_ 1, vi_ 3, vi_ 0, vi_ 0, vi_ 0, vi_ 0, .inr (vh_n 1), .inr (vh_n 2), .inr (vh_n 3), a, b, c, d])
def wl_A : vhS := [.inr (2, 8, .inr (.inr (fun _ => none))), .inr (3, 3, .inr (.inr (fun _ => none))), .inr (4, 12, .inr (.inr (fun _ => none)))]
def wl_D (k : Nat) : vhS := [.inl (2, [.inr (vh_n (k + 1)), .inr (vh_n (k + 2)), .inr (vh_n (k + 3)), vi_ 0]), wc_z 0 5, wc_z 0 5, wc_z 1 5]
theorem go_X1_d : vh_Go k_X1_init wl_P 62 [(0, .inr (vh_n 0))] [] (wl_O (.inr (vh_n 4)) (.inr (vh_n 8)) (.inl .null) (.inl .null) :: (wl_A ++ (wl_D 4 ++ wl_D 8)), 11, 61) := by
  refine vh_run (cuts := [(80, [0, 1])]) m_X1_init 20 ?_
  refine And.intro ⟨by decide, by decide, by decide, by decide⟩ (And.intro ⟨by decide, by decide, by decide, by decide⟩ ?_)
  exact wl_loop1 8 0 rfl
theorem go_X1_c : vh_Go k_X1_init wl_P 51 [(0, .inr (vh_n 0))] [] (wl_O (.inr (vh_n 4)) (.inl .null) (.inl .null) (.inl .null) :: (wl_A ++ wl_D 4), 7, 42) := by
  refine vh_run (cuts := [(62, [0])]) m_X1_init 10 ?_
  refine And.intro ⟨by decide, by decide⟩ ?_
  exact go_X1_d
theorem go_X1_b : vh_Go k_X1_init wl_P 40 [(0, .inr (vh_n 0))] [] (wl_O (.inl .null) (.inl .null) (.inl .null) (.inl .null) :: wl_A, 3, 23) := by
  refine vh_run (cuts := [(51, [0])]) m_X1_init 10 ?_
  refine And.intro ⟨by decide, by decide⟩ ?_
  exact go_X1_c
theorem go_X1_init : vh_Go k_X1_init wl_P 0 [(0, .inr (vh_n 0))] [] ([.inl (1, fs_X1.map .inl)], 0, 0) := by
  refine vh_run (cuts := [(40, [0])]) m_X1_init 30 ?_
  refine And.intro ⟨by decide, by decide, by decide, by decide⟩ (And.intro ⟨by decide, by decide, by decide, by decide⟩ (And.intro ⟨by decide, by decide, by decide, by decide⟩ ?_))
  exact go_X1_b
theorem I_X1_init : vh_Ini ww_tb wh_nx ww_cl ww_tyl yX1_init cX1_init 2 2 76 775 1 fs_X1 cs_X1 := vh_ini wf_X1 (by decide +kernel) rfl rfl (by decide) s_X1_init go_X1_init
/-! WarnWave -/
def fs_X5 : List Value := [.null, .null]
def cs_X5 : vhS := [.inl (0, [.inr (vh_n 1), .inr (vh_n 78)])] ++ cs_X1.map (vh_sh 1) ++ cs_X1.map (vh_sh 78)
theorem wx_len : cs_X5.length = 155 := by
  unfold cs_X5
  rw [List.length_append, List.length_append, List.length_map, List.length_map, wl_len]
  rfl
theorem wf_X5 : vh_wf cs_X5 := by
  intro c hc
  rw [wx_len]
  rcases List.mem_append.mp (show c ∈ ([.inl (0, [.inr (vh_n 1), .inr (vh_n 78)])] ++ cs_X1.map (vh_sh 1)) ++ cs_X1.map (vh_sh 78) from hc) with h | h
  · rcases List.mem_append.mp h with h | h
    · rw [List.mem_singleton.mp h]
      exact vh_okI (by decide +kernel)
    · exact wl_ok (k := 0) wf_X1 (by rw [wl_len]; decide) c h
  · exact wl_ok (k := 0) wf_X1 (by rw [wl_len]; decide) c h
def k_X5_init : List (Nat × vhF) := [(0, hi_aload 0 1), (1, hi_oinit 4), (4, hi_aload 0 5), (5, hi_newc 154 1578 14 76 775 cs_X1 12), (12, hi_putR 0 0 15), (15, hi_aload 0 16), (16, hi_newc 154 1578 14 76 775 cs_X1 23), (23, hi_putR 0 1 26), (26, hi_retV)]
set_option maxRecDepth 20000 in
theorem s_X5_init : ∀ q ∈ k_X5_init, vh_Snd ww_tb wh_nx ww_cl ww_tyl cX5_init 1 RX5 none 3 154 1578 true q.1 q.2 := by
  refine vg_cons (ht_aload_n dX5_init_0 rfl rfl) ?_
  refine vg_cons (ht_oinit dX5_init_1 u_51 u_1 u_2 (by decide) rfl) ?_
  refine vg_cons (ht_aload_n dX5_init_4 rfl rfl) ?_
  refine vg_cons (ht_newc (ci := 1) (T := TX1) (N := 14) tyX1 I_X1_init (by decide +kernel) dX5_init_5 dX5_init_8 dX5_init_9 rfl ww_inX1 tyX1_ok u_53 u_54 u_55 (by intro j hj; match j, hj with | 0, _ => exact rfl | 1, _ => exact rfl | 2, _ => exact rfl | 3, _ => exact rfl | 4, _ => exact rfl | 5, _ => exact rfl | 6, _ => exact rfl | 7, _ => exact rfl | 8, _ => exact rfl | 9, _ => exact rfl | 10, _ => exact rfl | 11, _ => exact rfl | 12, _ => exact rfl | 13, _ => exact rfl) ww_good u_56 rfl u_52 u_57 rfl (by decide +kernel) (by decide) rfl) ?_
  refine vg_cons (ht_putF (T := TX5) tyX5 rfl dX5_init_12 rfl (by decide) ww_inX5 tyX5_ok nmX5 rfl rfl (fun _ => ⟨rfl, rfl⟩) u_58 rfl) ?_
  refine vg_cons (ht_aload_n dX5_init_15 rfl rfl) ?_
  refine vg_cons (ht_newc (ci := 1) (T := TX1) (N := 14) tyX1 I_X1_init (by decide +kernel) dX5_init_16 dX5_init_19 dX5_init_20 rfl ww_inX1 tyX1_ok u_53 u_54 u_55 (by intro j hj; match j, hj with | 0, _ => exact rfl | 1, _ => exact rfl | 2, _ => exact rfl | 3, _ => exact rfl | 4, _ => exact rfl | 5, _ => exact rfl | 6, _ => exact rfl | 7, _ => exact rfl | 8, _ => exact rfl | 9, _ => exact rfl | 10, _ => exact rfl | 11, _ => exact rfl | 12, _ => exact rfl | 13, _ => exact rfl) ww_good u_56 rfl u_52 u_57 rfl (by decide +kernel) (by decide) rfl) ?_
  refine vg_cons (ht_putF (T := TX5) tyX5 rfl dX5_init_23 rfl (by decide) ww_inX5 tyX5_ok nmX5 rfl rfl (fun _ => ⟨rfl, rfl⟩) u_59 rfl) ?_
  refine vg_cons (ht_return dX5_init_26 rfl) ?_
  exact fun _ h => absurd h List.not_mem_nil
theorem m_X5_init : vh_Code k_X5_init := fun q h => (s_X5_init q h).1

abbrev wx_P : vhO := fun r σ => r = none ∧ σ.1 = cs_X5 ∧ σ.2.1 ≤ 154 ∧ σ.2.2 ≤ 1578
theorem wx_l2 : ([Sum.inl (0, [.inr (vh_n 1), .inl .null])] ++ cs_X1.map (vh_sh 1) : vhS).length = 78 := by
  rw [List.length_append, List.length_map, wl_len]
  rfl
theorem go_X5_b : vh_Go k_X5_init wx_P 15 [(0, .inr (vh_n 0))] [] ([Sum.inl (0, [.inr (vh_n 1), .inl .null])] ++ cs_X1.map (vh_sh 1), 77, 789) := by
  refine vh_run (cuts := [(23, [0])]) m_X5_init 4 ?_
  refine And.intro ⟨by decide, by decide⟩ ?_
  dsimp only
  rw [wx_l2]
  refine vh_run (cuts := []) m_X5_init 4 ?_
  exact ⟨rfl, rfl, Nat.le_refl _, Nat.le_refl _⟩
theorem go_X5_init : vh_Go k_X5_init wx_P 0 [(0, .inr (vh_n 0))] [] ([.inl (0, fs_X5.map .inl)], 0, 0) := by
  refine vh_run (cuts := [(15, [0])]) m_X5_init 10 ?_
  refine And.intro ⟨by decide, by decide⟩ ?_
  exact go_X5_b
theorem I_X5_init : vh_Ini ww_tb wh_nx ww_cl ww_tyl yX5_init cX5_init 1 3 154 1578 0 fs_X5 cs_X5 := vh_ini wf_X5 (by decide +kernel) rfl rfl (by decide) s_X5_init go_X5_init
