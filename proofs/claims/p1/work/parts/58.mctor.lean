-- words of the tables, and what stands at each place of the methods' code (laid by program)
theorem u_281 : Cond.methodLink RX6 3 Lib.objectInit ∈ ww_tb := by decide +kernel
theorem u_282 : Cond.classLink RX6 9 ("[" ++ (FieldType.array FieldType.int).toString) ∈ ww_tb := by decide +kernel
theorem u_283 : Cond.arrayClass FieldType.int ∈ ww_tb := by decide +kernel
theorem u_284 : Cond.fieldLink RX6 16 (TX6 1).1 (TX6 1).2.1 (TX6 1).2.2.1 ∈ ww_tb := by decide +kernel
theorem u_285 : Cond.fieldLink RX6 19 (TX6 2).1 (TX6 2).2.1 (TX6 2).2.2.1 ∈ ww_tb := by decide +kernel
theorem u_286 : Cond.fieldLink RX6 22 (TX6 3).1 (TX6 3).2.1 (TX6 3).2.2.1 ∈ ww_tb := by decide +kernel
theorem u_287 : Cond.fieldLink RX6 25 (TX6 4).1 (TX6 4).2.1 (TX6 4).2.2.1 ∈ ww_tb := by decide +kernel
theorem u_288 : Cond.fieldLink RX6 28 (TX6 5).1 (TX6 5).2.1 (TX6 5).2.2.1 ∈ ww_tb := by decide +kernel
theorem u_289 : Cond.methodLink RX7 1 Lib.objectInit ∈ ww_tb := by decide +kernel
theorem u_290 : Cond.methodLink RX7 9 yX6_init ∈ ww_tb := by decide +kernel
theorem u_291 : Cond.classLink RX7 7 RX6 ∈ ww_tb := by decide +kernel
theorem u_292 : Cond.instantiable RX6 16 ∈ ww_tb := by decide +kernel
theorem u_293 : Cond.code yX6_init cX6_init 2 none ∈ ww_tb := by decide +kernel
theorem u_294 : Cond.instanceMethod yX6_init ∈ ww_tb := by decide +kernel
theorem dX6_init_0 : decode cX6_init 0 = .ok (.aload_n 0, 1) := by decide +kernel
theorem dX6_init_1 : decode cX6_init 1 = .ok (.invokespecial 3, 3) := by decide +kernel
theorem dX6_init_4 : decode cX6_init 4 = .ok (.aload_n 0, 1) := by decide +kernel
theorem dX6_init_5 : decode cX6_init 5 = .ok (.bipush 8, 2) := by decide +kernel
theorem dX6_init_7 : decode cX6_init 7 = .ok (.bipush 8, 2) := by decide +kernel
theorem dX6_init_9 : decode cX6_init 9 = .ok (.multianewarray 9 2, 4) := by decide +kernel
theorem dX6_init_13 : decode cX6_init 13 = .ok (.putfield 11, 3) := by decide +kernel
theorem dX6_init_16 : decode cX6_init 16 = .ok (.aload_n 0, 1) := by decide +kernel
theorem dX6_init_17 : decode cX6_init 17 = .ok (.bipush 12, 2) := by decide +kernel
theorem dX6_init_19 : decode cX6_init 19 = .ok (.bipush 8, 2) := by decide +kernel
theorem dX6_init_21 : decode cX6_init 21 = .ok (.multianewarray 9 2, 4) := by decide +kernel
theorem dX6_init_25 : decode cX6_init 25 = .ok (.putfield 16, 3) := by decide +kernel
theorem dX6_init_28 : decode cX6_init 28 = .ok (.aload_n 0, 1) := by decide +kernel
theorem dX6_init_29 : decode cX6_init 29 = .ok (.bipush 96, 2) := by decide +kernel
theorem dX6_init_31 : decode cX6_init 31 = .ok (.iconst 5, 1) := by decide +kernel
theorem dX6_init_32 : decode cX6_init 32 = .ok (.multianewarray 9 2, 4) := by decide +kernel
theorem dX6_init_36 : decode cX6_init 36 = .ok (.putfield 19, 3) := by decide +kernel
theorem dX6_init_39 : decode cX6_init 39 = .ok (.aload_n 0, 1) := by decide +kernel
theorem dX6_init_40 : decode cX6_init 40 = .ok (.iconst 3, 1) := by decide +kernel
theorem dX6_init_41 : decode cX6_init 41 = .ok (.iconst 2, 1) := by decide +kernel
theorem dX6_init_42 : decode cX6_init 42 = .ok (.multianewarray 9 2, 4) := by decide +kernel
theorem dX6_init_46 : decode cX6_init 46 = .ok (.putfield 22, 3) := by decide +kernel
theorem dX6_init_49 : decode cX6_init 49 = .ok (.aload_n 0, 1) := by decide +kernel
theorem dX6_init_50 : decode cX6_init 50 = .ok (.iconst 5, 1) := by decide +kernel
theorem dX6_init_51 : decode cX6_init 51 = .ok (.iconst 3, 1) := by decide +kernel
theorem dX6_init_52 : decode cX6_init 52 = .ok (.multianewarray 9 2, 4) := by decide +kernel
theorem dX6_init_56 : decode cX6_init 56 = .ok (.putfield 25, 3) := by decide +kernel
theorem dX6_init_59 : decode cX6_init 59 = .ok (.aload_n 0, 1) := by decide +kernel
theorem dX6_init_60 : decode cX6_init 60 = .ok (.iconst 4, 1) := by decide +kernel
theorem dX6_init_61 : decode cX6_init 61 = .ok (.iconst 3, 1) := by decide +kernel
theorem dX6_init_62 : decode cX6_init 62 = .ok (.multianewarray 9 2, 4) := by decide +kernel
theorem dX6_init_66 : decode cX6_init 66 = .ok (.putfield 28, 3) := by decide +kernel
theorem dX6_init_69 : decode cX6_init 69 = .ok (.aload_n 0, 1) := by decide +kernel
theorem dX6_init_70 : decode cX6_init 70 = .ok (.bipush 16, 2) := by decide +kernel
theorem dX6_init_72 : decode cX6_init 72 = .ok (.newarray .int, 2) := by decide +kernel
theorem dX6_init_74 : decode cX6_init 74 = .ok (.putfield 31, 3) := by decide +kernel
theorem dX6_init_77 : decode cX6_init 77 = .ok (.aload_n 0, 1) := by decide +kernel
theorem dX6_init_78 : decode cX6_init 78 = .ok (.bipush 96, 2) := by decide +kernel
theorem dX6_init_80 : decode cX6_init 80 = .ok (.newarray .boolean, 2) := by decide +kernel
theorem dX6_init_82 : decode cX6_init 82 = .ok (.putfield 35, 3) := by decide +kernel
theorem dX6_init_85 : decode cX6_init 85 = .ok (.aload_n 0, 1) := by decide +kernel
theorem dX6_init_86 : decode cX6_init 86 = .ok (.iconst 1, 1) := by decide +kernel
theorem dX6_init_87 : decode cX6_init 87 = .ok (.putfield 39, 3) := by decide +kernel
theorem dX6_init_90 : decode cX6_init 90 = .ok (.iconst 0, 1) := by decide +kernel
theorem dX6_init_91 : decode cX6_init 91 = .ok (.istore_n 1, 1) := by decide +kernel
theorem dX6_init_92 : decode cX6_init 92 = .ok (.iload_n 1, 1) := by decide +kernel
theorem dX6_init_93 : decode cX6_init 93 = .ok (.bipush 16, 2) := by decide +kernel
theorem dX6_init_95 : decode cX6_init 95 = .ok (.if_icmp .ge 16, 3) := by decide +kernel
theorem dX6_init_98 : decode cX6_init 98 = .ok (.aload_n 0, 1) := by decide +kernel
theorem dX6_init_99 : decode cX6_init 99 = .ok (.getfield 31, 3) := by decide +kernel
theorem dX6_init_102 : decode cX6_init 102 = .ok (.iload_n 1, 1) := by decide +kernel
theorem dX6_init_103 : decode cX6_init 103 = .ok (.iconst (-1), 1) := by decide +kernel
theorem dX6_init_104 : decode cX6_init 104 = .ok (.iastore, 1) := by decide +kernel
theorem dX6_init_105 : decode cX6_init 105 = .ok (.iinc 1 1, 3) := by decide +kernel
theorem dX6_init_108 : decode cX6_init 108 = .ok (.goto (-16), 3) := by decide +kernel
theorem dX6_init_111 : decode cX6_init 111 = .ok (.return_, 1) := by decide +kernel
theorem dX7_init_0 : decode cX7_init 0 = .ok (.aload_n 0, 1) := by decide +kernel
theorem dX7_init_1 : decode cX7_init 1 = .ok (.invokespecial 1, 3) := by decide +kernel
theorem dX7_init_4 : decode cX7_init 4 = .ok (.aload_n 0, 1) := by decide +kernel
theorem dX7_init_5 : decode cX7_init 5 = .ok (.new 7, 3) := by decide +kernel
theorem dX7_init_8 : decode cX7_init 8 = .ok (.dup, 1) := by decide +kernel
theorem dX7_init_9 : decode cX7_init 9 = .ok (.invokespecial 9, 3) := by decide +kernel
theorem dX7_init_12 : decode cX7_init 12 = .ok (.putfield 10, 3) := by decide +kernel
theorem dX7_init_15 : decode cX7_init 15 = .ok (.aload_n 0, 1) := by decide +kernel
theorem dX7_init_16 : decode cX7_init 16 = .ok (.iconst 3, 1) := by decide +kernel
theorem dX7_init_17 : decode cX7_init 17 = .ok (.putfield 16, 3) := by decide +kernel
theorem dX7_init_20 : decode cX7_init 20 = .ok (.return_, 1) := by decide +kernel
/-! the constructors of the reference -/
def ml_p (k N M : Nat) : vhS := (vh_mna 2 N M).map (vh_sh k)
def ml_O (a b c d e f g h : vgV) (l : Int32) : vhC := .inl (1, [a, b, c, d, e, f, g, h, vi_ 0, vi_ 0, vi_ 0, vi_ 0, vi_ 0, vi_ 0, vi_ l, vi_ 0])
def fs_X6 : List Value := [.null, .null, .null, .null, .null, .null, .null, .null, .int 0, .int 0, .int 0, .int 0, .int 0, .int 0, .int 0, .int 0]
def ml_T0 : vhS := []
def ml_T1 : vhS := ml_p 1 8 8
def ml_T2 : vhS := ml_T1 ++ ml_p 10 12 8
def ml_T3 : vhS := ml_T2 ++ ml_p 23 96 5
def ml_T4 : vhS := ml_T3 ++ ml_p 120 3 2
def ml_T5 : vhS := ml_T4 ++ ml_p 124 5 3
def ml_T6 : vhS := ml_T5 ++ ml_p 130 4 3
def ml_T7 (f : Nat → Int32) : vhS := ml_T6 ++ [.inr (0, 16, .inl f)]
def ml_T8 (f : Nat → Int32) : vhS := ml_T7 f ++ [wc_z 1 96]
def cs_X6 : vhS := ml_O (.inr (vh_n 1)) (.inr (vh_n 10)) (.inr (vh_n 23)) (.inr (vh_n 120)) (.inr (vh_n 124)) (.inr (vh_n 130)) (.inr (vh_n 135)) (.inr (vh_n 136)) 1 :: ml_T8 (wh_f 16)
theorem ml_l1 : (ml_O (.inr (vh_n 1)) (.inl .null) (.inl .null) (.inl .null) (.inl .null) (.inl .null) (.inl .null) (.inl .null) 0 :: ml_T1 : vhS).length = 10 := by decide +kernel
theorem ml_l2 : (ml_O (.inr (vh_n 1)) (.inr (vh_n 10)) (.inl .null) (.inl .null) (.inl .null) (.inl .null) (.inl .null) (.inl .null) 0 :: ml_T2 : vhS).length = 23 := by decide +kernel
theorem ml_l3 : (ml_O (.inr (vh_n 1)) (.inr (vh_n 10)) (.inr (vh_n 23)) (.inl .null) (.inl .null) (.inl .null) (.inl .null) (.inl .null) 0 :: ml_T3 : vhS).length = 120 := by decide +kernel
theorem ml_l4 : (ml_O (.inr (vh_n 1)) (.inr (vh_n 10)) (.inr (vh_n 23)) (.inr (vh_n 120)) (.inl .null) (.inl .null) (.inl .null) (.inl .null) 0 :: ml_T4 : vhS).length = 124 := by decide +kernel
theorem ml_l5 : (ml_O (.inr (vh_n 1)) (.inr (vh_n 10)) (.inr (vh_n 23)) (.inr (vh_n 120)) (.inr (vh_n 124)) (.inl .null) (.inl .null) (.inl .null) 0 :: ml_T5 : vhS).length = 130 := by decide +kernel
theorem ml_l6 : (ml_O (.inr (vh_n 1)) (.inr (vh_n 10)) (.inr (vh_n 23)) (.inr (vh_n 120)) (.inr (vh_n 124)) (.inr (vh_n 130)) (.inl .null) (.inl .null) 0 :: ml_T6 : vhS).length = 135 := by decide +kernel
theorem ml_l7 : (ml_O (.inr (vh_n 1)) (.inr (vh_n 10)) (.inr (vh_n 23)) (.inr (vh_n 120)) (.inr (vh_n 124)) (.inr (vh_n 130)) (.inr (vh_n 135)) (.inl .null) 0 :: ml_T7 (fun _ => 0) : vhS).length = 136 := by decide +kernel
theorem ml_l8 : (ml_O (.inr (vh_n 1)) (.inr (vh_n 10)) (.inr (vh_n 23)) (.inr (vh_n 120)) (.inr (vh_n 124)) (.inr (vh_n 130)) (.inr (vh_n 135)) (.inr (vh_n 136)) 0 :: ml_T8 (fun _ => 0) : vhS).length = 137 := by decide +kernel
theorem ml_len : cs_X6.length = 137 := by decide +kernel
theorem ml_pok {k N M n : Nat} (h : k + (N + 1) ≤ n) : ∀ c ∈ ml_p k N M, vh_okC n c := wl_ok (k := 0) vh_mna_wf (by rw [vh_mna_len]; exact h)
theorem wf_X6 : vh_wf cs_X6 := by
  intro c hc
  rw [ml_len]
  rcases List.mem_cons.mp hc with rfl | hc
  · exact vh_okI (by decide +kernel)
  rcases List.mem_append.mp (show c ∈ ml_T7 (wh_f 16) ++ [wc_z 1 96] from hc) with hc | hc
  · rcases List.mem_append.mp (show c ∈ ml_T6 ++ [.inr (0, 16, .inl (wh_f 16))] from hc) with hc | hc
    · rcases List.mem_append.mp (show c ∈ ml_T5 ++ ml_p 130 4 3 from hc) with hc | hc
      · rcases List.mem_append.mp (show c ∈ ml_T4 ++ ml_p 124 5 3 from hc) with hc | hc
        · rcases List.mem_append.mp (show c ∈ ml_T3 ++ ml_p 120 3 2 from hc) with hc | hc
          · rcases List.mem_append.mp (show c ∈ ml_T2 ++ ml_p 23 96 5 from hc) with hc | hc
            · rcases List.mem_append.mp (show c ∈ ml_p 1 8 8 ++ ml_p 10 12 8 from hc) with hc | hc
              · exact ml_pok (by decide) c hc
              · exact ml_pok (by decide) c hc
            · exact ml_pok (by decide) c hc
          · exact ml_pok (by decide) c hc
        · exact ml_pok (by decide) c hc
      · exact ml_pok (by decide) c hc
    · rw [List.mem_singleton.mp hc]
      trivial
  · rw [List.mem_singleton.mp hc]
    trivial
def k_X6_init : List (Nat × vhF) := [(0, hi_aload 0 1), (1, hi_oinit 4), (4, hi_aload 0 5), (5, hi_icst (8) 7), (7, hi_icst (8) 9), (9, hi_mna 2 136 913 13), (13, hi_putR 1 0 16), (16, hi_aload 0 17), (17, hi_icst (12) 19), (19, hi_icst (8) 21), (21, hi_mna 2 136 913 25), (25, hi_putR 1 1 28), (28, hi_aload 0 29), (29, hi_icst (96) 31), (31, hi_icst (5) 32), (32, hi_mna 2 136 913 36), (36, hi_putR 1 2 39), (39, hi_aload 0 40), (40, hi_icst (3) 41), (41, hi_icst (2) 42), (42, hi_mna 2 136 913 46), (46, hi_putR 1 3 49), (49, hi_aload 0 50), (50, hi_icst (5) 51), (51, hi_icst (3) 52), (52, hi_mna 2 136 913 56), (56, hi_putR 1 4 59), (59, hi_aload 0 60), (60, hi_icst (4) 61), (61, hi_icst (3) 62), (62, hi_mna 2 136 913 66), (66, hi_putR 1 5 69), (69, hi_aload 0 70), (70, hi_icst (16) 72), (72, hi_newa 0 136 913 74), (74, hi_putR 1 6 77), (77, hi_aload 0 78), (78, hi_icst (96) 80), (80, hi_newa 1 136 913 82), (82, hi_putR 1 7 85), (85, hi_aload 0 86), (86, hi_icst (1) 87), (87, hi_putI 1 14 90), (90, hi_icst (0) 91), (91, hi_istore 1 92), (92, hi_iload 1 93), (93, hi_icst (16) 95), (95, hi_cmp (fun x y => y ≤ x) 111 98), (98, hi_aload 0 99), (99, hi_get 1 6 102), (102, hi_iload 1 103), (103, hi_icst (-1) 104), (104, hi_iast 0 105), (105, hi_iinc 1 (1) 108), (108, hi_goto 92), (111, hi_retV)]
set_option maxRecDepth 20000 in
theorem s_X6_init : ∀ q ∈ k_X6_init, vh_Snd ww_tb wh_nx mm_cl mm_tyl cX6_init 2 RX6 none 1 136 913 true q.1 q.2 := by
  refine vg_cons (ht_aload_n dX6_init_0 rfl rfl) ?_
  refine vg_cons (ht_oinit dX6_init_1 u_281 u_1 u_2 (by decide) rfl) ?_
  refine vg_cons (ht_aload_n dX6_init_4 rfl rfl) ?_
  refine vg_cons (ht_bipush dX6_init_5 (by decide) rfl) ?_
  refine vg_cons (ht_bipush dX6_init_7 (by decide) rfl) ?_
  refine vg_cons (ht_mna rfl rfl rfl u_282 u_283 dX6_init_9 rfl) ?_
  refine vg_cons (ht_putF (T := TX6) tyX6 rfl dX6_init_13 rfl (by decide) mm_inX6 tyX6_ok nmX6 rfl rfl (fun _ => ⟨rfl, rfl⟩) u_237 rfl) ?_
  refine vg_cons (ht_aload_n dX6_init_16 rfl rfl) ?_
  refine vg_cons (ht_bipush dX6_init_17 (by decide) rfl) ?_
  refine vg_cons (ht_bipush dX6_init_19 (by decide) rfl) ?_
  refine vg_cons (ht_mna rfl rfl rfl u_282 u_283 dX6_init_21 rfl) ?_
  refine vg_cons (ht_putF (T := TX6) tyX6 rfl dX6_init_25 rfl (by decide) mm_inX6 tyX6_ok nmX6 rfl rfl (fun _ => ⟨rfl, rfl⟩) u_284 rfl) ?_
  refine vg_cons (ht_aload_n dX6_init_28 rfl rfl) ?_
  refine vg_cons (ht_bipush dX6_init_29 (by decide) rfl) ?_
  refine vg_cons (ht_iconst dX6_init_31 rfl rfl) ?_
  refine vg_cons (ht_mna rfl rfl rfl u_282 u_283 dX6_init_32 rfl) ?_
  refine vg_cons (ht_putF (T := TX6) tyX6 rfl dX6_init_36 rfl (by decide) mm_inX6 tyX6_ok nmX6 rfl rfl (fun _ => ⟨rfl, rfl⟩) u_285 rfl) ?_
  refine vg_cons (ht_aload_n dX6_init_39 rfl rfl) ?_
  refine vg_cons (ht_iconst dX6_init_40 rfl rfl) ?_
  refine vg_cons (ht_iconst dX6_init_41 rfl rfl) ?_
  refine vg_cons (ht_mna rfl rfl rfl u_282 u_283 dX6_init_42 rfl) ?_
  refine vg_cons (ht_putF (T := TX6) tyX6 rfl dX6_init_46 rfl (by decide) mm_inX6 tyX6_ok nmX6 rfl rfl (fun _ => ⟨rfl, rfl⟩) u_286 rfl) ?_
  refine vg_cons (ht_aload_n dX6_init_49 rfl rfl) ?_
  refine vg_cons (ht_iconst dX6_init_50 rfl rfl) ?_
  refine vg_cons (ht_iconst dX6_init_51 rfl rfl) ?_
  refine vg_cons (ht_mna rfl rfl rfl u_282 u_283 dX6_init_52 rfl) ?_
  refine vg_cons (ht_putF (T := TX6) tyX6 rfl dX6_init_56 rfl (by decide) mm_inX6 tyX6_ok nmX6 rfl rfl (fun _ => ⟨rfl, rfl⟩) u_287 rfl) ?_
  refine vg_cons (ht_aload_n dX6_init_59 rfl rfl) ?_
  refine vg_cons (ht_iconst dX6_init_60 rfl rfl) ?_
  refine vg_cons (ht_iconst dX6_init_61 rfl rfl) ?_
  refine vg_cons (ht_mna rfl rfl rfl u_282 u_283 dX6_init_62 rfl) ?_
  refine vg_cons (ht_putF (T := TX6) tyX6 rfl dX6_init_66 rfl (by decide) mm_inX6 tyX6_ok nmX6 rfl rfl (fun _ => ⟨rfl, rfl⟩) u_288 rfl) ?_
  refine vg_cons (ht_aload_n dX6_init_69 rfl rfl) ?_
  refine vg_cons (ht_bipush dX6_init_70 (by decide) rfl) ?_
  refine vg_cons (ht_newa (atype := .int) rfl (fun _ _ => rfl) (by decide) rfl u_7 dX6_init_72 rfl) ?_
  refine vg_cons (ht_putF (T := TX6) tyX6 rfl dX6_init_74 rfl (by decide) mm_inX6 tyX6_ok nmX6 rfl rfl (fun _ => ⟨rfl, rfl⟩) u_234 rfl) ?_
  refine vg_cons (ht_aload_n dX6_init_77 rfl rfl) ?_
  refine vg_cons (ht_bipush dX6_init_78 (by decide) rfl) ?_
  refine vg_cons (ht_newa (atype := .boolean) rfl (fun _ _ => rfl) (by decide) rfl u_10 dX6_init_80 rfl) ?_
  refine vg_cons (ht_putF (T := TX6) tyX6 rfl dX6_init_82 rfl (by decide) mm_inX6 tyX6_ok nmX6 rfl rfl (fun _ => ⟨rfl, rfl⟩) u_263 rfl) ?_
  refine vg_cons (ht_aload_n dX6_init_85 rfl rfl) ?_
  refine vg_cons (ht_iconst dX6_init_86 rfl rfl) ?_
  refine vg_cons (ht_putI (T := TX6) tyX6 dX6_init_87 rfl (by decide) mm_inX6 tyX6_ok nmX6 rfl rfl u_264 rfl) ?_
  refine vg_cons (ht_iconst dX6_init_90 rfl rfl) ?_
  refine vg_cons (ht_istore_n dX6_init_91 rfl (by decide) rfl) ?_
  refine vg_cons (ht_iload_n dX6_init_92 rfl rfl) ?_
  refine vg_cons (ht_bipush dX6_init_93 (by decide) rfl) ?_
  refine vg_cons (ht_cmp_ge dX6_init_95 (by decide) rfl) ?_
  refine vg_cons (ht_aload_n dX6_init_98 rfl rfl) ?_
  refine vg_cons (ht_getfield (T := TX6) dX6_init_99 rfl (by decide) mm_inX6 u_234 rfl) ?_
  refine vg_cons (ht_iload_n dX6_init_102 rfl rfl) ?_
  refine vg_cons (ht_iconst dX6_init_103 rfl rfl) ?_
  refine vg_cons (ht_iast dX6_init_104 rfl rfl) ?_
  refine vg_cons (ht_iinc dX6_init_105 rfl rfl) ?_
  refine vg_cons (ht_goto dX6_init_108 (by decide)) ?_
  refine vg_cons (ht_return dX6_init_111 rfl) ?_
  exact fun _ h => absurd h List.not_mem_nil
theorem m_X6_init : vh_Code k_X6_init := fun q h => (s_X6_init q h).1

abbrev ml_P : vhO := fun r σ => r = none ∧ σ.1 = cs_X6 ∧ σ.2.1 ≤ 136 ∧ σ.2.2 ≤ 913
theorem ml_loop : ∀ n k, n + k = 16 → vh_Go k_X6_init ml_P 92 [(0, .inr (vh_n 0)), (1, .inl (.int (wi k)))] [] (ml_O (.inr (vh_n 1)) (.inr (vh_n 10)) (.inr (vh_n 23)) (.inr (vh_n 120)) (.inr (vh_n 124)) (.inr (vh_n 130)) (.inr (vh_n 135)) (.inr (vh_n 136)) 1 :: ml_T8 (wh_f k), 136, 913)
  | 0, k, h => by
    have hk : k = 16 := by omega
    subst hk
    refine vh_run (cuts := [(92, [0, 1])]) m_X6_init 6 ?_
    exact And.intro (fun _ => ⟨rfl, rfl, Nat.le_refl _, Nat.le_refl _⟩) (fun hc => absurd wi_ge.2.2.2 hc)
  | n + 1, k, h => by
    refine vh_run (cuts := [(92, [0, 1])]) m_X6_init 40 ?_
    refine And.intro (fun hc => absurd hc (wi_lt16 k (by omega))) (fun _ => And.intro (wi_in (by omega) (by decide)) ?_)
    exact ml_loop n (k + 1) (by omega)
theorem go_X6_8 : vh_Go k_X6_init ml_P 85 [(0, .inr (vh_n 0))] [] (ml_O (.inr (vh_n 1)) (.inr (vh_n 10)) (.inr (vh_n 23)) (.inr (vh_n 120)) (.inr (vh_n 124)) (.inr (vh_n 130)) (.inr (vh_n 135)) (.inr (vh_n 136)) 0 :: ml_T8 (fun _ => 0), 136, 913) := by
  refine vh_run (cuts := [(92, [0, 1])]) m_X6_init 10 ?_
  exact ml_loop 16 0 rfl
theorem go_X6_7 : vh_Go k_X6_init ml_P 77 [(0, .inr (vh_n 0))] [] (ml_O (.inr (vh_n 1)) (.inr (vh_n 10)) (.inr (vh_n 23)) (.inr (vh_n 120)) (.inr (vh_n 124)) (.inr (vh_n 130)) (.inr (vh_n 135)) (.inl .null) 0 :: ml_T7 (fun _ => 0), 135, 817) := by
  refine vh_run (cuts := [(82, [0])]) m_X6_init 6 ?_
  refine And.intro ⟨by decide, by decide, by decide, by decide⟩ ?_
  dsimp only
  rw [ml_l7]
  refine vh_run (cuts := [(85, [0])]) m_X6_init 2 ?_
  exact go_X6_8
theorem go_X6_6 : vh_Go k_X6_init ml_P 69 [(0, .inr (vh_n 0))] [] (ml_O (.inr (vh_n 1)) (.inr (vh_n 10)) (.inr (vh_n 23)) (.inr (vh_n 120)) (.inr (vh_n 124)) (.inr (vh_n 130)) (.inl .null) (.inl .null) 0 :: ml_T6, 134, 801) := by
  refine vh_run (cuts := [(74, [0])]) m_X6_init 6 ?_
  refine And.intro ⟨by decide, by decide, by decide, by decide⟩ ?_
  dsimp only
  rw [ml_l6]
  refine vh_run (cuts := [(77, [0])]) m_X6_init 2 ?_
  exact go_X6_7
theorem go_X6_5 : vh_Go k_X6_init ml_P 59 [(0, .inr (vh_n 0))] [] (ml_O (.inr (vh_n 1)) (.inr (vh_n 10)) (.inr (vh_n 23)) (.inr (vh_n 120)) (.inr (vh_n 124)) (.inl .null) (.inl .null) (.inl .null) 0 :: ml_T5, 129, 785) := by
  refine vh_run (cuts := [(66, [0])]) m_X6_init 6 ?_
  refine And.intro ⟨by decide, by decide, by decide, by decide, by decide, by decide⟩ ?_
  dsimp only
  rw [ml_l5]
  refine vh_run (cuts := [(69, [0])]) m_X6_init 2 ?_
  exact go_X6_6
theorem go_X6_4 : vh_Go k_X6_init ml_P 49 [(0, .inr (vh_n 0))] [] (ml_O (.inr (vh_n 1)) (.inr (vh_n 10)) (.inr (vh_n 23)) (.inr (vh_n 120)) (.inl .null) (.inl .null) (.inl .null) (.inl .null) 0 :: ml_T4, 123, 765) := by
  refine vh_run (cuts := [(56, [0])]) m_X6_init 6 ?_
  refine And.intro ⟨by decide, by decide, by decide, by decide, by decide, by decide⟩ ?_
  dsimp only
  rw [ml_l4]
  refine vh_run (cuts := [(59, [0])]) m_X6_init 2 ?_
  exact go_X6_5
theorem go_X6_3 : vh_Go k_X6_init ml_P 39 [(0, .inr (vh_n 0))] [] (ml_O (.inr (vh_n 1)) (.inr (vh_n 10)) (.inr (vh_n 23)) (.inl .null) (.inl .null) (.inl .null) (.inl .null) (.inl .null) 0 :: ml_T3, 119, 756) := by
  refine vh_run (cuts := [(46, [0])]) m_X6_init 6 ?_
  refine And.intro ⟨by decide, by decide, by decide, by decide, by decide, by decide⟩ ?_
  dsimp only
  rw [ml_l3]
  refine vh_run (cuts := [(49, [0])]) m_X6_init 2 ?_
  exact go_X6_4
theorem go_X6_2 : vh_Go k_X6_init ml_P 28 [(0, .inr (vh_n 0))] [] (ml_O (.inr (vh_n 1)) (.inr (vh_n 10)) (.inl .null) (.inl .null) (.inl .null) (.inl .null) (.inl .null) (.inl .null) 0 :: ml_T2, 22, 180) := by
  refine vh_run (cuts := [(36, [0])]) m_X6_init 6 ?_
  refine And.intro ⟨by decide, by decide, by decide, by decide, by decide, by decide⟩ ?_
  dsimp only
  rw [ml_l2]
  refine vh_run (cuts := [(39, [0])]) m_X6_init 2 ?_
  exact go_X6_3
theorem go_X6_1 : vh_Go k_X6_init ml_P 16 [(0, .inr (vh_n 0))] [] (ml_O (.inr (vh_n 1)) (.inl .null) (.inl .null) (.inl .null) (.inl .null) (.inl .null) (.inl .null) (.inl .null) 0 :: ml_T1, 9, 72) := by
  refine vh_run (cuts := [(25, [0])]) m_X6_init 6 ?_
  refine And.intro ⟨by decide, by decide, by decide, by decide, by decide, by decide⟩ ?_
  dsimp only
  rw [ml_l1]
  refine vh_run (cuts := [(28, [0])]) m_X6_init 2 ?_
  exact go_X6_2
theorem go_X6_0 : vh_Go k_X6_init ml_P 4 [(0, .inr (vh_n 0))] [] (ml_O (.inl .null) (.inl .null) (.inl .null) (.inl .null) (.inl .null) (.inl .null) (.inl .null) (.inl .null) 0 :: ml_T0, 0, 0) := by
  refine vh_run (cuts := [(13, [0])]) m_X6_init 6 ?_
  refine And.intro ⟨by decide, by decide, by decide, by decide, by decide, by decide⟩ ?_
  refine vh_run (cuts := [(16, [0])]) m_X6_init 2 ?_
  exact go_X6_1
theorem go_X6_init : vh_Go k_X6_init ml_P 0 [(0, .inr (vh_n 0))] [] ([.inl (1, fs_X6.map .inl)], 0, 0) := by
  refine vh_run (cuts := [(4, [0])]) m_X6_init 4 ?_
  exact go_X6_0
theorem I_X6_init : vh_Ini ww_tb wh_nx mm_cl mm_tyl yX6_init cX6_init 2 1 136 913 1 fs_X6 cs_X6 := vh_ini wf_X6 (by decide +kernel) rfl rfl (by decide) s_X6_init go_X6_init
def fs_X7 : List Value := [.int 0, .null, .int 0]
def cs_X7 : vhS := .inl (0, [vi_ 0, .inr (vh_n 1), vi_ 3]) :: cs_X6.map (vh_sh 1)
theorem mx_len : cs_X7.length = 138 := by
  show (cs_X6.map (vh_sh 1)).length + 1 = 138
  rw [List.length_map, ml_len]
theorem wf_X7 : vh_wf cs_X7 := by
  intro c hc
  rw [mx_len]
  rcases List.mem_cons.mp hc with rfl | hc
  · exact vh_okI (by decide +kernel)
  · exact wl_ok (k := 0) wf_X6 (by rw [ml_len]; decide) c hc
def k_X7_init : List (Nat × vhF) := [(0, hi_aload 0 1), (1, hi_oinit 4), (4, hi_aload 0 5), (5, hi_newc 137 929 16 136 913 cs_X6 12), (12, hi_putR 0 1 15), (15, hi_aload 0 16), (16, hi_icst (3) 17), (17, hi_putI 0 2 20), (20, hi_retV)]
set_option maxRecDepth 20000 in
theorem s_X7_init : ∀ q ∈ k_X7_init, vh_Snd ww_tb wh_nx mm_cl mm_tyl cX7_init 1 RX7 none 2 137 929 true q.1 q.2 := by
  refine vg_cons (ht_aload_n dX7_init_0 rfl rfl) ?_
  refine vg_cons (ht_oinit dX7_init_1 u_289 u_1 u_2 (by decide) rfl) ?_
  refine vg_cons (ht_aload_n dX7_init_4 rfl rfl) ?_
  refine vg_cons (ht_newc (ci := 1) (T := TX6) (N := 16) tyX6 I_X6_init (by decide +kernel) dX7_init_5 dX7_init_8 dX7_init_9 rfl mm_inX6 tyX6_ok u_291 u_292 u_267 (by decide +kernel) ww_good u_293 rfl u_290 u_294 rfl (by decide +kernel) (by decide) rfl) ?_
  refine vg_cons (ht_putF (T := TX7) tyX7 rfl dX7_init_12 rfl (by decide) mm_inX7 tyX7_ok nmX7 rfl rfl (fun _ => ⟨rfl, rfl⟩) u_202 rfl) ?_
  refine vg_cons (ht_aload_n dX7_init_15 rfl rfl) ?_
  refine vg_cons (ht_iconst dX7_init_16 rfl rfl) ?_
  refine vg_cons (ht_putI (T := TX7) tyX7 dX7_init_17 rfl (by decide) mm_inX7 tyX7_ok nmX7 rfl rfl u_241 rfl) ?_
  refine vg_cons (ht_return dX7_init_20 rfl) ?_
  exact fun _ h => absurd h List.not_mem_nil
theorem m_X7_init : vh_Code k_X7_init := fun q h => (s_X7_init q h).1

abbrev mx_P : vhO := fun r σ => r = none ∧ σ.1 = cs_X7 ∧ σ.2.1 ≤ 137 ∧ σ.2.2 ≤ 929
theorem go_X7_init : vh_Go k_X7_init mx_P 0 [(0, .inr (vh_n 0))] [] ([.inl (0, fs_X7.map .inl)], 0, 0) := by
  refine vh_run (cuts := []) m_X7_init 20 ?_
  refine And.intro ⟨by decide, by decide⟩ ?_
  exact ⟨rfl, rfl, Nat.le_refl _, Nat.le_refl _⟩
theorem I_X7_init : vh_Ini ww_tb wh_nx mm_cl mm_tyl yX7_init cX7_init 1 2 137 929 0 fs_X7 cs_X7 := vh_ini wf_X7 (by decide +kernel) rfl rfl (by decide) s_X7_init go_X7_init
/-- the places of the model's cells, for a land that stands at place f -/
def mm_pos1 (f : Nat) (n : vgN) : Nat := f + (match n.1 with
  | 41 => 0 | 42 => 1 | 52 => 2 + n.2.2 | 43 => 10 | 53 => 11 + n.2.2 | 44 => 23 | 54 => 24 + n.2.2 | 45 => 120 | 55 => 121 + n.2.2 | 46 => 124 | 56 => 125 + n.2.2 | 47 => 130 | 57 => 131 + n.2.2 | 48 => 135 | _ => 136)
def mm_pos (n : vgN) : Nat := match n.1 with
  | 40 => 0
  | _ => mm_pos1 1 n
theorem mm_B : vh_allB mm_shp mm_nm mm_pos cs_X7 = true := by decide +kernel
theorem mm_nd : va_nd (mm_nm.map mm_pos) = true := by decide +kernel
def mm_σ : vgS := vh_σ mm_pos cs_X7
theorem mm_σfr : mm_fr mm_σ := by
  refine ⟨⟨?_, ?_, ?_, ?_, ?_, ?_, ?_, ?_⟩, ?_, ?_⟩
  all_goals decide +kernel
