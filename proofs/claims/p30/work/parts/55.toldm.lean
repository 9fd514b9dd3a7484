-- words of the tables, and what stands at each place of the methods' code (laid by program)
theorem q_383 : Cond.fieldLink RX6 27 RX6 (TX6 5).2.1 (TX6 5).2.2.1 ∈ ww_tb := by decide +kernel
theorem q_384 : Cond.fieldLink RX6 34 RX6 (TX6 8).2.1 (TX6 8).2.2.1 ∈ ww_tb := by decide +kernel
theorem q_385 : Cond.code yX6_plus cX6_plus 3 (some (.array (.array .int))) ∈ ww_tb := by decide +kernel
theorem q_386 : Cond.initialized RX6 ∈ ww_tb := by decide +kernel
theorem q_387 : Cond.methodLink RX6 72 yX6_plus ∈ ww_tb := by decide +kernel
theorem q_388 : Cond.static yX6_plus ∈ ww_tb := by decide +kernel
theorem q_389 : Cond.fieldLink RX6 10 RX6 (TX6 0).2.1 (TX6 0).2.2.1 ∈ ww_tb := by decide +kernel
theorem q_390 : Cond.code yX5_siren cX5_siren 3 (some .int) ∈ ww_tb := by decide +kernel
theorem q_391 : Cond.methodLink RX6 90 yX5_siren ∈ ww_tb := by decide +kernel
theorem q_392 : Cond.instanceMethod yX5_siren ∈ ww_tb := by decide +kernel
theorem q_393 : Cond.selects RX5 yX5_siren yX5_siren ∈ ww_tb := by decide +kernel
theorem q_394 : Cond.fieldLink RX6 37 RX6 (TX6 9).2.1 (TX6 9).2.2.1 ∈ ww_tb := by decide +kernel
theorem q_395 : Cond.code yX5_mast cX5_mast 3 (some .int) ∈ ww_tb := by decide +kernel
theorem q_396 : Cond.methodLink RX6 93 yX5_mast ∈ ww_tb := by decide +kernel
theorem q_397 : Cond.instanceMethod yX5_mast ∈ ww_tb := by decide +kernel
theorem q_398 : Cond.selects RX5 yX5_mast yX5_mast ∈ ww_tb := by decide +kernel
theorem dX6_group_0 : decode cX6_group 0 = .ok (.aload_n 0, 1) := by decide +kernel
theorem dX6_group_1 : decode cX6_group 1 = .ok (.aload_n 0, 1) := by decide +kernel
theorem dX6_group_2 : decode cX6_group 2 = .ok (.getfield 18, 3) := by decide +kernel
theorem dX6_group_5 : decode cX6_group 5 = .ok (.bipush 8, 2) := by decide +kernel
theorem dX6_group_7 : decode cX6_group 7 = .ok (.newarray .int, 2) := by decide +kernel
theorem dX6_group_9 : decode cX6_group 9 = .ok (.dup, 1) := by decide +kernel
theorem dX6_group_10 : decode cX6_group 10 = .ok (.iconst 0, 1) := by decide +kernel
theorem dX6_group_11 : decode cX6_group 11 = .ok (.iload_n 1, 1) := by decide +kernel
theorem dX6_group_12 : decode cX6_group 12 = .ok (.iastore, 1) := by decide +kernel
theorem dX6_group_13 : decode cX6_group 13 = .ok (.dup, 1) := by decide +kernel
theorem dX6_group_14 : decode cX6_group 14 = .ok (.iconst 1, 1) := by decide +kernel
theorem dX6_group_15 : decode cX6_group 15 = .ok (.iload_n 2, 1) := by decide +kernel
theorem dX6_group_16 : decode cX6_group 16 = .ok (.iastore, 1) := by decide +kernel
theorem dX6_group_17 : decode cX6_group 17 = .ok (.dup, 1) := by decide +kernel
theorem dX6_group_18 : decode cX6_group 18 = .ok (.iconst 2, 1) := by decide +kernel
theorem dX6_group_19 : decode cX6_group 19 = .ok (.iload_n 3, 1) := by decide +kernel
theorem dX6_group_20 : decode cX6_group 20 = .ok (.iastore, 1) := by decide +kernel
theorem dX6_group_21 : decode cX6_group 21 = .ok (.dup, 1) := by decide +kernel
theorem dX6_group_22 : decode cX6_group 22 = .ok (.iconst 3, 1) := by decide +kernel
theorem dX6_group_23 : decode cX6_group 23 = .ok (.iconst 5, 1) := by decide +kernel
theorem dX6_group_24 : decode cX6_group 24 = .ok (.iastore, 1) := by decide +kernel
theorem dX6_group_25 : decode cX6_group 25 = .ok (.dup, 1) := by decide +kernel
theorem dX6_group_26 : decode cX6_group 26 = .ok (.iconst 4, 1) := by decide +kernel
theorem dX6_group_27 : decode cX6_group 27 = .ok (.iload 4, 2) := by decide +kernel
theorem dX6_group_29 : decode cX6_group 29 = .ok (.iastore, 1) := by decide +kernel
theorem dX6_group_30 : decode cX6_group 30 = .ok (.dup, 1) := by decide +kernel
theorem dX6_group_31 : decode cX6_group 31 = .ok (.iconst 5, 1) := by decide +kernel
theorem dX6_group_32 : decode cX6_group 32 = .ok (.iload 5, 2) := by decide +kernel
theorem dX6_group_34 : decode cX6_group 34 = .ok (.iastore, 1) := by decide +kernel
theorem dX6_group_35 : decode cX6_group 35 = .ok (.dup, 1) := by decide +kernel
theorem dX6_group_36 : decode cX6_group 36 = .ok (.bipush 6, 2) := by decide +kernel
theorem dX6_group_38 : decode cX6_group 38 = .ok (.iconst (-1), 1) := by decide +kernel
theorem dX6_group_39 : decode cX6_group 39 = .ok (.iastore, 1) := by decide +kernel
theorem dX6_group_40 : decode cX6_group 40 = .ok (.dup, 1) := by decide +kernel
theorem dX6_group_41 : decode cX6_group 41 = .ok (.bipush 7, 2) := by decide +kernel
theorem dX6_group_43 : decode cX6_group 43 = .ok (.iconst 0, 1) := by decide +kernel
theorem dX6_group_44 : decode cX6_group 44 = .ok (.iastore, 1) := by decide +kernel
theorem dX6_group_45 : decode cX6_group 45 = .ok (.invokestatic 72, 3) := by decide +kernel
theorem dX6_group_48 : decode cX6_group 48 = .ok (.putfield 18, 3) := by decide +kernel
theorem dX6_group_51 : decode cX6_group 51 = .ok (.iconst 0, 1) := by decide +kernel
theorem dX6_group_52 : decode cX6_group 52 = .ok (.istore 6, 2) := by decide +kernel
theorem dX6_group_54 : decode cX6_group 54 = .ok (.iload 6, 2) := by decide +kernel
theorem dX6_group_56 : decode cX6_group 56 = .ok (.bipush 12, 2) := by decide +kernel
theorem dX6_group_58 : decode cX6_group 58 = .ok (.if_icmp .ge 22, 3) := by decide +kernel
theorem dX6_group_61 : decode cX6_group 61 = .ok (.aload_n 0, 1) := by decide +kernel
theorem dX6_group_62 : decode cX6_group 62 = .ok (.aload_n 0, 1) := by decide +kernel
theorem dX6_group_63 : decode cX6_group 63 = .ok (.getfield 18, 3) := by decide +kernel
theorem dX6_group_66 : decode cX6_group 66 = .ok (.arraylength, 1) := by decide +kernel
theorem dX6_group_67 : decode cX6_group 67 = .ok (.iconst 1, 1) := by decide +kernel
theorem dX6_group_68 : decode cX6_group 68 = .ok (.isub, 1) := by decide +kernel
theorem dX6_group_69 : decode cX6_group 69 = .ok (.iload 6, 2) := by decide +kernel
theorem dX6_group_71 : decode cX6_group 71 = .ok (.invokevirtual 76, 3) := by decide +kernel
theorem dX6_group_74 : decode cX6_group 74 = .ok (.iinc 6 1, 3) := by decide +kernel
theorem dX6_group_77 : decode cX6_group 77 = .ok (.goto (-23), 3) := by decide +kernel
theorem dX6_group_80 : decode cX6_group 80 = .ok (.aload_n 0, 1) := by decide +kernel
theorem dX6_group_81 : decode cX6_group 81 = .ok (.getfield 10, 3) := by decide +kernel
theorem dX6_group_84 : decode cX6_group 84 = .ok (.iload_n 1, 1) := by decide +kernel
theorem dX6_group_85 : decode cX6_group 85 = .ok (.iload_n 2, 1) := by decide +kernel
theorem dX6_group_86 : decode cX6_group 86 = .ok (.iload_n 3, 1) := by decide +kernel
theorem dX6_group_87 : decode cX6_group 87 = .ok (.iload 4, 2) := by decide +kernel
theorem dX6_group_89 : decode cX6_group 89 = .ok (.iconst 1, 1) := by decide +kernel
theorem dX6_group_90 : decode cX6_group 90 = .ok (.if_icmp .ne 7, 3) := by decide +kernel
theorem dX6_group_93 : decode cX6_group 93 = .ok (.iconst 1, 1) := by decide +kernel
theorem dX6_group_94 : decode cX6_group 94 = .ok (.goto 4, 3) := by decide +kernel
theorem dX6_group_97 : decode cX6_group 97 = .ok (.iconst 0, 1) := by decide +kernel
theorem dX6_group_98 : decode cX6_group 98 = .ok (.iload 5, 2) := by decide +kernel
theorem dX6_group_100 : decode cX6_group 100 = .ok (.iconst 1, 1) := by decide +kernel
theorem dX6_group_101 : decode cX6_group 101 = .ok (.if_icmp .ne 7, 3) := by decide +kernel
theorem dX6_group_104 : decode cX6_group 104 = .ok (.iconst 1, 1) := by decide +kernel
theorem dX6_group_105 : decode cX6_group 105 = .ok (.goto 4, 3) := by decide +kernel
theorem dX6_group_108 : decode cX6_group 108 = .ok (.iconst 0, 1) := by decide +kernel
theorem dX6_group_109 : decode cX6_group 109 = .ok (.invokevirtual 80, 3) := by decide +kernel
theorem dX6_group_112 : decode cX6_group 112 = .ok (.aload_n 0, 1) := by decide +kernel
theorem dX6_group_113 : decode cX6_group 113 = .ok (.getfield 18, 3) := by decide +kernel
theorem dX6_group_116 : decode cX6_group 116 = .ok (.arraylength, 1) := by decide +kernel
theorem dX6_group_117 : decode cX6_group 117 = .ok (.iconst 1, 1) := by decide +kernel
theorem dX6_group_118 : decode cX6_group 118 = .ok (.isub, 1) := by decide +kernel
theorem dX6_group_119 : decode cX6_group 119 = .ok (.if_icmp .ne 7, 3) := by decide +kernel
theorem dX6_group_122 : decode cX6_group 122 = .ok (.iconst 1, 1) := by decide +kernel
theorem dX6_group_123 : decode cX6_group 123 = .ok (.goto 4, 3) := by decide +kernel
theorem dX6_group_126 : decode cX6_group 126 = .ok (.iconst 0, 1) := by decide +kernel
theorem dX6_group_127 : decode cX6_group 127 = .ok (.ireturn, 1) := by decide +kernel
theorem dX6_shelter_0 : decode cX6_shelter 0 = .ok (.aload_n 0, 1) := by decide +kernel
theorem dX6_shelter_1 : decode cX6_shelter 1 = .ok (.getfield 31, 3) := by decide +kernel
theorem dX6_shelter_4 : decode cX6_shelter 4 = .ok (.aload_n 0, 1) := by decide +kernel
theorem dX6_shelter_5 : decode cX6_shelter 5 = .ok (.getfield 84, 3) := by decide +kernel
theorem dX6_shelter_8 : decode cX6_shelter 8 = .ok (.aaload, 1) := by decide +kernel
theorem dX6_shelter_9 : decode cX6_shelter 9 = .ok (.iconst 0, 1) := by decide +kernel
theorem dX6_shelter_10 : decode cX6_shelter 10 = .ok (.iload_n 1, 1) := by decide +kernel
theorem dX6_shelter_11 : decode cX6_shelter 11 = .ok (.iastore, 1) := by decide +kernel
theorem dX6_shelter_12 : decode cX6_shelter 12 = .ok (.aload_n 0, 1) := by decide +kernel
theorem dX6_shelter_13 : decode cX6_shelter 13 = .ok (.getfield 31, 3) := by decide +kernel
theorem dX6_shelter_16 : decode cX6_shelter 16 = .ok (.aload_n 0, 1) := by decide +kernel
theorem dX6_shelter_17 : decode cX6_shelter 17 = .ok (.dup, 1) := by decide +kernel
theorem dX6_shelter_18 : decode cX6_shelter 18 = .ok (.getfield 84, 3) := by decide +kernel
theorem dX6_shelter_21 : decode cX6_shelter 21 = .ok (.dup_x1, 1) := by decide +kernel
theorem dX6_shelter_22 : decode cX6_shelter 22 = .ok (.iconst 1, 1) := by decide +kernel
theorem dX6_shelter_23 : decode cX6_shelter 23 = .ok (.iadd, 1) := by decide +kernel
theorem dX6_shelter_24 : decode cX6_shelter 24 = .ok (.putfield 84, 3) := by decide +kernel
theorem dX6_shelter_27 : decode cX6_shelter 27 = .ok (.aaload, 1) := by decide +kernel
theorem dX6_shelter_28 : decode cX6_shelter 28 = .ok (.iconst 1, 1) := by decide +kernel
theorem dX6_shelter_29 : decode cX6_shelter 29 = .ok (.iload_n 2, 1) := by decide +kernel
theorem dX6_shelter_30 : decode cX6_shelter 30 = .ok (.iastore, 1) := by decide +kernel
theorem dX6_shelter_31 : decode cX6_shelter 31 = .ok (.aload_n 0, 1) := by decide +kernel
theorem dX6_shelter_32 : decode cX6_shelter 32 = .ok (.getfield 10, 3) := by decide +kernel
theorem dX6_shelter_35 : decode cX6_shelter 35 = .ok (.iload_n 1, 1) := by decide +kernel
theorem dX6_shelter_36 : decode cX6_shelter 36 = .ok (.iload_n 2, 1) := by decide +kernel
theorem dX6_shelter_37 : decode cX6_shelter 37 = .ok (.invokevirtual 87, 3) := by decide +kernel
theorem dX6_shelter_40 : decode cX6_shelter 40 = .ok (.aload_n 0, 1) := by decide +kernel
theorem dX6_shelter_41 : decode cX6_shelter 41 = .ok (.getfield 84, 3) := by decide +kernel
theorem dX6_shelter_44 : decode cX6_shelter 44 = .ok (.iconst 1, 1) := by decide +kernel
theorem dX6_shelter_45 : decode cX6_shelter 45 = .ok (.isub, 1) := by decide +kernel
theorem dX6_shelter_46 : decode cX6_shelter 46 = .ok (.if_icmp .ne 7, 3) := by decide +kernel
theorem dX6_shelter_49 : decode cX6_shelter 49 = .ok (.iconst 1, 1) := by decide +kernel
theorem dX6_shelter_50 : decode cX6_shelter 50 = .ok (.goto 4, 3) := by decide +kernel
theorem dX6_shelter_53 : decode cX6_shelter 53 = .ok (.iconst 0, 1) := by decide +kernel
theorem dX6_shelter_54 : decode cX6_shelter 54 = .ok (.ireturn, 1) := by decide +kernel
theorem dX6_siren_0 : decode cX6_siren 0 = .ok (.aload_n 0, 1) := by decide +kernel
theorem dX6_siren_1 : decode cX6_siren 1 = .ok (.aload_n 0, 1) := by decide +kernel
theorem dX6_siren_2 : decode cX6_siren 2 = .ok (.getfield 34, 3) := by decide +kernel
theorem dX6_siren_5 : decode cX6_siren 5 = .ok (.iconst 3, 1) := by decide +kernel
theorem dX6_siren_6 : decode cX6_siren 6 = .ok (.newarray .int, 2) := by decide +kernel
theorem dX6_siren_8 : decode cX6_siren 8 = .ok (.dup, 1) := by decide +kernel
theorem dX6_siren_9 : decode cX6_siren 9 = .ok (.iconst 0, 1) := by decide +kernel
theorem dX6_siren_10 : decode cX6_siren 10 = .ok (.iload_n 1, 1) := by decide +kernel
theorem dX6_siren_11 : decode cX6_siren 11 = .ok (.iastore, 1) := by decide +kernel
theorem dX6_siren_12 : decode cX6_siren 12 = .ok (.dup, 1) := by decide +kernel
theorem dX6_siren_13 : decode cX6_siren 13 = .ok (.iconst 1, 1) := by decide +kernel
theorem dX6_siren_14 : decode cX6_siren 14 = .ok (.iload_n 2, 1) := by decide +kernel
theorem dX6_siren_15 : decode cX6_siren 15 = .ok (.iastore, 1) := by decide +kernel
theorem dX6_siren_16 : decode cX6_siren 16 = .ok (.dup, 1) := by decide +kernel
theorem dX6_siren_17 : decode cX6_siren 17 = .ok (.iconst 2, 1) := by decide +kernel
theorem dX6_siren_18 : decode cX6_siren 18 = .ok (.iconst 1, 1) := by decide +kernel
theorem dX6_siren_19 : decode cX6_siren 19 = .ok (.iastore, 1) := by decide +kernel
theorem dX6_siren_20 : decode cX6_siren 20 = .ok (.invokestatic 72, 3) := by decide +kernel
theorem dX6_siren_23 : decode cX6_siren 23 = .ok (.putfield 34, 3) := by decide +kernel
theorem dX6_siren_26 : decode cX6_siren 26 = .ok (.aload_n 0, 1) := by decide +kernel
theorem dX6_siren_27 : decode cX6_siren 27 = .ok (.getfield 10, 3) := by decide +kernel
theorem dX6_siren_30 : decode cX6_siren 30 = .ok (.iload_n 1, 1) := by decide +kernel
theorem dX6_siren_31 : decode cX6_siren 31 = .ok (.iload_n 2, 1) := by decide +kernel
theorem dX6_siren_32 : decode cX6_siren 32 = .ok (.invokevirtual 90, 3) := by decide +kernel
theorem dX6_siren_35 : decode cX6_siren 35 = .ok (.aload_n 0, 1) := by decide +kernel
theorem dX6_siren_36 : decode cX6_siren 36 = .ok (.getfield 34, 3) := by decide +kernel
theorem dX6_siren_39 : decode cX6_siren 39 = .ok (.arraylength, 1) := by decide +kernel
theorem dX6_siren_40 : decode cX6_siren 40 = .ok (.iconst 1, 1) := by decide +kernel
theorem dX6_siren_41 : decode cX6_siren 41 = .ok (.isub, 1) := by decide +kernel
theorem dX6_siren_42 : decode cX6_siren 42 = .ok (.if_icmp .ne 7, 3) := by decide +kernel
theorem dX6_siren_45 : decode cX6_siren 45 = .ok (.iconst 1, 1) := by decide +kernel
theorem dX6_siren_46 : decode cX6_siren 46 = .ok (.goto 4, 3) := by decide +kernel
theorem dX6_siren_49 : decode cX6_siren 49 = .ok (.iconst 0, 1) := by decide +kernel
theorem dX6_siren_50 : decode cX6_siren 50 = .ok (.ireturn, 1) := by decide +kernel
theorem dX6_mast_0 : decode cX6_mast 0 = .ok (.aload_n 0, 1) := by decide +kernel
theorem dX6_mast_1 : decode cX6_mast 1 = .ok (.aload_n 0, 1) := by decide +kernel
theorem dX6_mast_2 : decode cX6_mast 2 = .ok (.getfield 37, 3) := by decide +kernel
theorem dX6_mast_5 : decode cX6_mast 5 = .ok (.iconst 3, 1) := by decide +kernel
theorem dX6_mast_6 : decode cX6_mast 6 = .ok (.newarray .int, 2) := by decide +kernel
theorem dX6_mast_8 : decode cX6_mast 8 = .ok (.dup, 1) := by decide +kernel
theorem dX6_mast_9 : decode cX6_mast 9 = .ok (.iconst 0, 1) := by decide +kernel
theorem dX6_mast_10 : decode cX6_mast 10 = .ok (.iload_n 1, 1) := by decide +kernel
theorem dX6_mast_11 : decode cX6_mast 11 = .ok (.iastore, 1) := by decide +kernel
theorem dX6_mast_12 : decode cX6_mast 12 = .ok (.dup, 1) := by decide +kernel
theorem dX6_mast_13 : decode cX6_mast 13 = .ok (.iconst 1, 1) := by decide +kernel
theorem dX6_mast_14 : decode cX6_mast 14 = .ok (.iload_n 2, 1) := by decide +kernel
theorem dX6_mast_15 : decode cX6_mast 15 = .ok (.iastore, 1) := by decide +kernel
theorem dX6_mast_16 : decode cX6_mast 16 = .ok (.dup, 1) := by decide +kernel
theorem dX6_mast_17 : decode cX6_mast 17 = .ok (.iconst 2, 1) := by decide +kernel
theorem dX6_mast_18 : decode cX6_mast 18 = .ok (.iconst 1, 1) := by decide +kernel
theorem dX6_mast_19 : decode cX6_mast 19 = .ok (.iastore, 1) := by decide +kernel
theorem dX6_mast_20 : decode cX6_mast 20 = .ok (.invokestatic 72, 3) := by decide +kernel
theorem dX6_mast_23 : decode cX6_mast 23 = .ok (.putfield 37, 3) := by decide +kernel
theorem dX6_mast_26 : decode cX6_mast 26 = .ok (.aload_n 0, 1) := by decide +kernel
theorem dX6_mast_27 : decode cX6_mast 27 = .ok (.getfield 10, 3) := by decide +kernel
theorem dX6_mast_30 : decode cX6_mast 30 = .ok (.iload_n 1, 1) := by decide +kernel
theorem dX6_mast_31 : decode cX6_mast 31 = .ok (.iload_n 2, 1) := by decide +kernel
theorem dX6_mast_32 : decode cX6_mast 32 = .ok (.invokevirtual 93, 3) := by decide +kernel
theorem dX6_mast_35 : decode cX6_mast 35 = .ok (.aload_n 0, 1) := by decide +kernel
theorem dX6_mast_36 : decode cX6_mast 36 = .ok (.getfield 37, 3) := by decide +kernel
theorem dX6_mast_39 : decode cX6_mast 39 = .ok (.arraylength, 1) := by decide +kernel
theorem dX6_mast_40 : decode cX6_mast 40 = .ok (.iconst 1, 1) := by decide +kernel
theorem dX6_mast_41 : decode cX6_mast 41 = .ok (.isub, 1) := by decide +kernel
theorem dX6_mast_42 : decode cX6_mast 42 = .ok (.if_icmp .ne 7, 3) := by decide +kernel
theorem dX6_mast_45 : decode cX6_mast 45 = .ok (.iconst 1, 1) := by decide +kernel
theorem dX6_mast_46 : decode cX6_mast 46 = .ok (.goto 4, 3) := by decide +kernel
theorem dX6_mast_49 : decode cX6_mast 49 = .ok (.iconst 0, 1) := by decide +kernel
theorem dX6_mast_50 : decode cX6_mast 50 = .ok (.ireturn, 1) := by decide +kernel
/-! .. and what it tells -/
/-- what stands of a Told, its land's state being σ -/
def tW (D : va_G) (cI cG cH : ClassId) (A : Nat → Prop) (Dx : va_G) (tx : List (ClassId × FieldType)) (ad : vgN → Nat) (a b k gn sm sn mn : Nat) (σ : vgS) (H : Heap) : Prop :=
  (A a ∧ ∃ gr wa he sh si ma da : Nat, va_P D tClT [(a, .inr (0, tf (ad (0, 0, 0)) b k gr wa he sh sm si ma da))] H ∧ tG cI cG A gn H gr ∧ tL cI cG cH A H he ∧ tS cI cG A H sh ∧ tG cI cG A sn H si ∧ tG cI cG A mn H ma) ∧ va_P Dx ww_cl (vg_ws ww_shp ww_nm ad tx σ) H
/-- what is known at a state of the classes and links -/
def tU (D : va_G) (cI cG cH : ClassId) (Dx : va_G) (tx : List (ClassId × FieldType)) (ad : vgN → Nat) (U : State) : Prop := tK D cI cG cH U ∧ vg_nw tw_nw U ∧ vg_nw ww_nw U ∧ va_K Dx ww_cl tx U ∧ va_D (fun _ => True) (vg_ws ww_shp ww_nm ad tx (fun _ _ => 0))
theorem tU.moved {D : va_G} {cI cG cH : ClassId} {Dx : va_G} {tx : List (ClassId × FieldType)} {ad : vgN → Nat} {u U : State} (hW : u.WarmedH U.vm) (h : tU D cI cG cH Dx tx ad u) : tU D cI cG cH Dx tx ad U := ⟨h.1.moved hW.alike, fun z hz => va_Nw.warmM hW (h.2.1 z hz), fun z hz => va_Nw.warmM hW (h.2.2.1 z hz), va_K.moved hW.alike h.2.2.2.1, h.2.2.2.2⟩
theorem tU.blind {D : va_G} {cI cG cH : ClassId} {Dx : va_G} {tx : List (ClassId × FieldType)} {ad : vgN → Nat} {a : Array Value} {U : State} {g : JFrame} {mk : MethodId} (h : tU D cI cG cH Dx tx ad U) : tU D cI cG cH Dx tx ad (U.calling g mk a) := ⟨tK.moved (u := U) (U := U.calling g mk a) (Vm.Alike.refl U.vm) h.1, fun z hz => va_Nw.same (u := U) (U := U.calling g mk a) rfl rfl (h.2.1 z hz), fun z hz => va_Nw.same (u := U) (U := U.calling g mk a) rfl rfl (h.2.2.1 z hz), va_K.moved (u := U) (U := U.calling g mk a) (Vm.Alike.refl U.vm) h.2.2.2.1, h.2.2.2.2⟩
/-- the places that a Told's method may change -/
def tF (A : Nat → Prop) (ad : vgN → Nat) (sz : Nat) : Nat → Prop := fun q => A q ∨ vg_A ww_nm ad sz q
theorem vg_lt {D : va_G} {cl : List vw_C} {shp : vgN → vgH} {nm : List vgN} {tys : List (ClassId × FieldType)} {ad : vgN → Nat} {σ : vgS} {H : Heap} (hP : va_P D cl (vg_ws shp nm ad tys σ) H) {n : vgN} (hn : n ∈ nm) : ad n < H.size := by
  obtain ⟨q0, _, hq⟩ := vg_ws_get (shp := shp) (ad := ad) (tys := tys) (σ := σ) hn
  exact (hP q0 _ hq).lt
theorem lq_kw {D : va_G} {cl : List vw_C} {shp : vgN → vgH} {nm : List vgN} {tys : List (ClassId × FieldType)} {ad : vgN → Nat} {σ : vgS} {H H1 : Heap} {B : Nat → Prop} (hP : va_P D cl (vg_ws shp nm ad tys σ) H) (hB : ∀ n ∈ nm, ¬ B (ad n)) (hk : ∀ q : Nat, q < H.size → ¬ B q → H1[q]? = H[q]?) : va_P D cl (vg_ws shp nm ad tys σ) H1 := by
  intro k x hx
  refine (hP k x hx).kept (hk x.1 (hP k x hx).lt ?_)
  have h1 : x ∈ vg_ws shp nm ad tys σ := List.mem_of_getElem? hx
  obtain ⟨n, hn, rfl⟩ := List.mem_map.mp h1
  exact hB n hn
theorem tT_keep {D : va_G} {c1 : ClassId} {a w : Nat} {fs : List Value} {x : vp_A} {H H1 : Heap} (hT : va_P D tClT [(a, .inr (0, fs))] H) (hw : H[w]? = some (vp_cell c1 x)) (hc : ¬ D.1 0 = c1) (hk : ∀ q, q ≠ w → H1[q]? = H[q]?) : a ≠ w ∧ va_P D tClT [(a, .inr (0, fs))] H1 := by
  have hay : a ≠ w := fun e => by
    obtain ⟨r, h1, cell, g1, g2, g3, -⟩ := hT 0 _ rfl
    have e2 : r = (RX6, TX6, 15) := (Option.some.inj h1).symm
    have e3 : H[w]? = some cell := by rw [← e]; exact g1
    have e4 := Option.some.inj (e3.symm.trans hw)
    have e5 : cell.cls = c1 := by
      rw [e4]
      obtain ⟨n, f | f | f | f | f⟩ := x <;> rfl
    exact hc (g2.symm.trans e5)
  refine ⟨hay, fun k2 x hx2 => ?_⟩
  have h9 : k2 < 1 := (List.getElem?_eq_some_iff.mp hx2).1
  have h8 : k2 = 0 := by omega
  subst h8
  cases hx2
  exact (hT 0 _ rfl).kept (hk a hay)
theorem tT_at {D : va_G} {a : Nat} {fs : List Value} {H H1 : Heap} (hT : va_P D tClT [(a, .inr (0, fs))] H) (hk : H1[a]? = H[a]?) : va_P D tClT [(a, .inr (0, fs))] H1 := by
  intro k2 x hx2
  have h9 : k2 < 1 := (List.getElem?_eq_some_iff.mp hx2).1
  have h8 : k2 = 0 := by omega
  subst h8
  cases hx2
  exact (hT 0 _ rfl).kept hk
section TWC
variable {p : Program} {l : Launch} {e : Env} {R : Room} {s : State} {m : MethodId} {args : Array Value} {below : List Frame} {meth : Method} {c : Code} {H H0 : Heap} {locs : List Loc} {Q : State → Prop} {ck cn : Nat}
variable {cc : ByteArray} {pc nL : Nat} {ls : Array Slot} {rest : List Value} {F : Nat → Prop} {own : String}
/-- a call of the class -/
theorem lt_ww {y : MethodName} {bytes : ByteArray} {mL d' ix kn : Nat} {rt : Option FieldType} {pre : vgT → vgS → Prop} {post : vgT → vgS → vgO} {Dx : va_G} {tx : List (ClassId × FieldType)} {ad : vgN → Nat} {σ : vgS} {as : vgT}
    (hx : p.tables.exec = Jvm.exec) (hcb : c.code = cc) (hml : c.maxLocals = nL) (hown : s.vm.findClass own = some m.cls) (hts : ∀ w ∈ ww_tb, w.before args s = true)
    (hM : vg_Met ww_tb ww_nw ww_shp ww_nm ww_cl ww_tyl y bytes mL rt d' pre post) (htx : tx.map (fun q => q.2) = ww_tyl) (hP : va_P Dx ww_cl (vg_ws ww_shp ww_nm ad tx σ) H) (hK : va_K Dx ww_cl tx s) (hD : va_D (fun _ => True) (vg_ws ww_shp ww_nm ad tx (fun _ _ => 0))) (hnw : vg_nw ww_nw s) (hS : va_S F H0 H locs) (hF : ∀ q, vg_A ww_nm ad H.size q → F q)
    (hd : decode cc pc = .ok (.invokevirtual ix, 3)) (hcw : Cond.code y bytes mL rt ∈ ww_tb) (hl : Cond.methodLink own ix y ∈ ww_tb) (hi : Cond.instanceMethod y ∈ ww_tb) (hse : Cond.selects RX5 y y ∈ ww_tb)
    (hy : y.cls = RX5 ∧ y.cls ≠ "java/lang/invoke/MethodHandle" ∧ y.cls ≠ "java/lang/invoke/VarHandle" ∧ (parseMethodDescriptor y.desc).map (fun d => d.parameters.length) = some kn) (hlen : as.length = kn) (hav : ∀ v ∈ as, vg_ok ww_nm v) (hpre : pre (.inr (0, 0, 0) :: as) σ) (hR : d' + 1 ≤ R.frames ∧ 8 + (mL + 11) + 32 * d' ≤ R.locals) (hwd : (rest.map fun v => v.category).sum ≤ 8) (hcc : ck ≤ R.cells) (hcs : cn ≤ R.slots) (hls : ls.size = nL)
    (k : ∀ (H1 : Heap) (locs1 : List Loc) (r : Option vgV) (σ' : vgS), post (.inr (0, 0, 0) :: as) σ r σ' → va_P Dx ww_cl (vg_ws ww_shp ww_nm ad tx σ') H1 → H.size ≤ H1.size → (∀ q : Nat, q < H.size → (∀ n ∈ ww_nm, ad n ≠ q) → H1[q]? = H[q]?) → va_S F H0 H1 locs1 → W p l e R s m args below meth c H1 locs1 ck cn Q (F0 m (pc + 3) ls ((r.map (vg_cv ad)).toList ++ rest))) :
    W p l e R s m args below meth c H locs ck cn Q (F0 m pc ls ((as.map (vg_cv ad)).reverse ++ .ref (ad (0, 0, 0)) :: rest)) := by
  have hx0 : ((0, 0, 0) : vgN) ∈ ww_nm := by decide +kernel
  obtain ⟨q0, hq0, hws⟩ := vg_ws_get (shp := ww_shp) (ad := ad) (tys := tx) (σ := σ) hx0
  have hws2 : (vg_ws ww_shp ww_nm ad tx σ)[q0]? = some (ad (0, 0, 0), .inr (0, vg_fs ad (σ (0, 0, 0)) 0 [some (1, 0, 0), some (1, 1, 0)])) := hws
  have hg : ∀ w ∈ ww_tb, goodWord w = true := fun w h => List.all_eq_true.mp ww_good w h
  have hDx := vg_ws_D hD σ
  have cb : CallB R s args own ix y bytes mL rt (.code y bytes mL rt :: ww_tb) (vg_rm d') 0 0 kn := by
    refine callB_of kn hts (fun w hw => ?_) rfl rfl rfl (hts _ (by rw [hy.1]; exact q_51)) (hts _ hl) hy.2 hR
    rcases List.mem_cons.mp hw with rfl | hw
    · exact ⟨hcw, good_of_word (hg _ hcw)⟩
    · exact ⟨hw, good_of_word (hg _ hw)⟩
  refine lt_run (Fc := vg_A ww_nm ad H.size) (va_runV (As := as.map (vg_cv ad)) (b := ad (0, 0, 0)) (rest := rest) (C := RX5) ⟨hx, hcb, hml, hown, hts⟩ (hM l Dx tx ad H.size (.inr (0, 0, 0) :: as) σ htx (List.forall_mem_cons.mpr ⟨hx0, hav⟩) hpre) ⟨cb, hts _ hi, hts _ hse⟩ ⟨fun a U g mk q => by
      obtain ⟨q0, q1, qP, qK, qD, qN⟩ := q
      exact ⟨q0, q1, qP, va_K.moved (u := U) (U := U.calling g mk a) (Vm.Alike.refl U.vm) qK, qD, fun z hz => va_Nw.same (u := U) (U := U.calling g mk a) rfl rfl (qN z hz)⟩, va_recv hK hP (ci := 0) (q0 := q0) (show ww_cl[0]? = some (RX5, TX5, 2) from rfl) hws2, fun U hU hW => ⟨rfl, by rw [hU], by rw [hU]; exact hP, va_K.moved hW.alike hK, hDx, fun z hz => va_Nw.warmM hW (hnw z hz)⟩⟩ rfl (by rw [List.length_map]; exact hlen) hls rfl (lv_room hwd) hd ⟨hcc, hcs⟩) hS hF (fun _ _ _ h => h.2) (fun st t v locs1 h0 hq hf hS1 => ?_)
  obtain ⟨⟨r, σ', hv, hp, _, hP1⟩, hz, hkp⟩ := hq
  cases hv
  rw [h0] at hz hkp
  exact k t.heap locs1 r σ' hp hP1 hz (fun q hq hn => hkp q hq (fun h => by
    rcases h with ⟨n, hn1, h⟩ | h
    · exact hn n hn1 h
    · omega)) hS1
end TWC
theorem lt_blank (l : Launch) (D : va_G) (cI cG cH : ClassId) (A : Nat → Prop) (sz a b k m gr wa he sh sm si ma da : Nat) (gi wi : Int32) (hA : ∀ q, sz ≤ q → A q) (hg : vp_in gi 8) (hw : vp_in wi 12) :
    Met l yX6_blank (.code yX6_blank cX6_blank 4 none :: ww_tb) { frames := 0, cells := 1, slots := 5, locals := 0 } (va_Pc [.ref a, .int gi, .int wi] (fun U => U.heap.size = sz ∧ tK D cI cG cH U ∧ va_P D tClT [(a, .inr (0, tf m b k gr wa he sh sm si ma da))] U.heap ∧ tL cI cG cH A U.heap he))
      (fun _ st oc t => (oc = .returned none ∧ va_P D tClT [(a, .inr (0, tf m b k gr wa he sh sm si ma da))] t.heap ∧ tE cI cG cH A st.heap t.heap) ∧ va_F A st t) 1 5 A := by
  refine Met.ofW (cc := cX6_blank) (maxL := 4) (ret := none) (by decide +kernel) rfl ?_
  intro p e s mm args below meth c s₁ B hml hv
  obtain ⟨rfl, hsz, hK, hT, hL⟩ := hv
  have hx := B.exec
  have hb := B.bytes
  have hr := B.returns
  have hlocks := B.notSynchronized
  have hts : ∀ w ∈ ww_tb, w.before ([Value.ref a, Value.int gi, Value.int wi] : List Value).toArray s = true := fun w h => atoms_spec (ws := .code yX6_blank cX6_blank 4 none :: ww_tb) B.pre w (List.mem_cons_of_mem _ h)
  have ho : s.vm.findClass RX6 = some mm.cls := findClass_of_methodNamed B.named
  subst hsz
  have hl := lv_entry ([Value.ref a, Value.int gi, Value.int wi] : List Value) (n := 4) (show (3 : Nat) ≤ 4 by decide)
  rw [lg_entry_eq]
  obtain ⟨FF, hFF⟩ : ∃ FF : Nat → Prop, FF = A := ⟨_, rfl⟩
  have hS0 : va_S FF s.heap s.heap [] := va_S.rf
  refine lv_iconst (v := 5) hx hb dX6_blank_0 rfl ?_
  refine lt_newI (A := A) (N := 5) hx hb hts hK hS0 rfl (by decide) (by decide) (by decide) dX6_blank_1 (fun q H1 hq0 hc1 hz1 ho1 hE1 hS1 => ?_)
  have hFq : FF q := by rw [hFF]; exact hA q hq0
  have hq1 : tR cI A 5 H1 q := ⟨hA q hq0, _, hc1⟩
  refine lv_dup hx hb dX6_blank_3 rfl ?_
  refine lv_iconst (v := 0) hx hb dX6_blank_4 rfl ?_
  refine lv_iconst (v := -1) hx hb dX6_blank_5 rfl ?_
  refine lt_iast (A := A) (F := FF) hx hb hK hq1 hFq hS1 (jin (i := 0) rfl (by decide) (by decide)) dX6_blank_6 (fun H2 locs2 hq2 hz2 hk2 hEa2 hS2 => ?_)
  have hE2 := tE.tr hE1 hEa2
  have ho2 : ∀ z, z < s.heap.size → H2[z]? = s.heap[z]? := fun z hz => (hk2 z (by omega)).trans (ho1 z hz)
  refine lv_dup hx hb dX6_blank_7 rfl ?_
  refine lv_iconst (v := 1) hx hb dX6_blank_8 rfl ?_
  refine lv_iconst (v := -1) hx hb dX6_blank_9 rfl ?_
  refine lt_iast (A := A) (F := FF) hx hb hK hq2 hFq hS2 (jin (i := 1) rfl (by decide) (by decide)) dX6_blank_10 (fun H3 locs3 hq3 hz3 hk3 hEa3 hS3 => ?_)
  have hE3 := tE.tr hE2 hEa3
  have ho3 : ∀ z, z < s.heap.size → H3[z]? = s.heap[z]? := fun z hz => (hk3 z (by omega)).trans (ho2 z hz)
  refine lv_dup hx hb dX6_blank_11 rfl ?_
  refine lv_iconst (v := 2) hx hb dX6_blank_12 rfl ?_
  refine lv_iconst (v := -1) hx hb dX6_blank_13 rfl ?_
  refine lt_iast (A := A) (F := FF) hx hb hK hq3 hFq hS3 (jin (i := 2) rfl (by decide) (by decide)) dX6_blank_14 (fun H4 locs4 hq4 hz4 hk4 hEa4 hS4 => ?_)
  have hE4 := tE.tr hE3 hEa4
  have ho4 : ∀ z, z < s.heap.size → H4[z]? = s.heap[z]? := fun z hz => (hk4 z (by omega)).trans (ho3 z hz)
  refine lv_dup hx hb dX6_blank_15 rfl ?_
  refine lv_iconst (v := 3) hx hb dX6_blank_16 rfl ?_
  refine lv_iconst (v := 0) hx hb dX6_blank_17 rfl ?_
  refine lt_iast (A := A) (F := FF) hx hb hK hq4 hFq hS4 (jin (i := 3) rfl (by decide) (by decide)) dX6_blank_18 (fun H5 locs5 hq5 hz5 hk5 hEa5 hS5 => ?_)
  have hE5 := tE.tr hE4 hEa5
  have ho5 : ∀ z, z < s.heap.size → H5[z]? = s.heap[z]? := fun z hz => (hk5 z (by omega)).trans (ho4 z hz)
  refine lv_dup hx hb dX6_blank_19 rfl ?_
  refine lv_iconst (v := 4) hx hb dX6_blank_20 rfl ?_
  refine lv_iconst (v := -1) hx hb dX6_blank_21 rfl ?_
  refine lt_iast (A := A) (F := FF) hx hb hK hq5 hFq hS5 (jin (i := 4) rfl (by decide) (by decide)) dX6_blank_22 (fun H6 locs6 hq6 hz6 hk6 hEa6 hS6 => ?_)
  have hE6 := tE.tr hE5 hEa6
  have ho6 : ∀ z, z < s.heap.size → H6[z]? = s.heap[z]? := fun z hz => (hk6 z (by omega)).trans (ho5 z hz)
  have hTn : va_P D tClT [(a, .inr (0, tf m b k gr wa he sh sm si ma da))] H6 := lq_kp hT ho6
  obtain ⟨hAh, f, hf, hfe⟩ := hE6.2.2.2.1 _ hL
  have hgi : gi.toNatClampNeg < 8 := Nat.not_le.mp fun q => hg (Or.inr q)
  obtain ⟨y, hy, hyG⟩ := hfe gi.toNatClampNeg hgi
  have hyG2 := hyG
  obtain ⟨hAy, f2, hf2, -⟩ := hyG2
  refine lv_astore_n (i := 3) (lv' := [(3, .ref q), (0, .ref a), (1, .int gi), (2, .int wi)]) hx hb dX6_blank_23 rfl hl (by decide) rfl (fun ls1 hl1 => ?_)
  refine lv_aload_n hx hb dX6_blank_24 rfl (lv_at hl1 1 rfl) ?_
  refine lt_get (k := 5) (v := .ref he) hx hb hts ho hK hTn dX6_blank_25 q_383 (by decide) rfl rfl ?_
  refine lv_iload_n hx hb dX6_blank_28 rfl (lv_at hl1 2 rfl) ?_
  refine lt_aald (cX := cH) (ty := .array (.array .int)) hx hb (hK.1.2 2 _ rfl).1 rfl hf hg dX6_blank_29 ?_
  rw [hy]
  refine lv_iload_n hx hb dX6_blank_30 rfl (lv_at hl1 3 rfl) ?_
  refine lv_aload_n hx hb dX6_blank_31 rfl (lv_at hl1 0 rfl) ?_
  refine lt_aast (A := A) (F := FF) hx hb hK hf2 hq6 (by rw [hFF]; exact hAy) hS6 hw dX6_blank_32 (fun Hz locsz hcz hzz hkz hEz hSz => ?_)
  have hay : a ≠ y := fun e => by
    obtain ⟨r, h1, cell, g1, g2, g3, -⟩ := hTn 0 _ rfl
    have e2 : r = (RX6, TX6, 15) := (Option.some.inj h1).symm
    have e3 : H6[y]? = some cell := by rw [← e]; exact g1
    have e4 := Option.some.inj (e3.symm.trans hf2)
    have e5 : cell.cls = cG := by rw [e4]; rfl
    exact hK.ne.2.2.2.2.1 (g2.symm.trans e5)
  have hTz : va_P D tClT [(a, .inr (0, tf m b k gr wa he sh sm si ma da))] Hz := fun k2 x hx2 => by
    have h9 : k2 < 1 := (List.getElem?_eq_some_iff.mp hx2).1
    have h8 : k2 = 0 := by omega
    subst h8
    cases hx2
    exact (hTn 0 _ rfl).kept (hkz a hay)
  subst hFF
  exact W.vret hx hb hr (fun t ht _ => ⟨⟨rfl, by rw [ht]; exact hTz, by rw [ht]; exact hE6.tr (hEz (by decide))⟩, hSz.F ht⟩) hSz.2.2 dX6_blank_33 hlocks
theorem lt_siren (l : Launch) (D : va_G) (cI cG cH : ClassId) (A : Nat → Prop) (Dx : va_G) (tx : List (ClassId × FieldType)) (ad : vgN → Nat) (sz a b k gn sm sn mn : Nat) (σ : vgS) (at_ rc : Int32) (hA : ∀ q, sz ≤ q → A q) (htx : tx.map (fun q => q.2) = ww_tyl) (hAd : ∀ n ∈ ww_nm, ¬ A (ad n)) (hc : vp_in at_ 16) (hrr : ¬ rc < 0 ∧ rc ≤ 3) (hw : jWf (jV σ 0)) (h4 : jNc (jV σ 0) 0 < 4) (hn : sn = jNc (jV σ 0) 0) :
    Met l yX6_siren (.code yX6_siren cX6_siren 3 (some .boolean) :: ww_tb) { frames := 3, cells := 2, slots := 12, locals := 32 * 3 } (va_Pc [Value.ref a, Value.int at_, Value.int rc] (fun U => U.heap.size = sz ∧ tU D cI cG cH Dx tx ad U ∧ tW D cI cG cH A Dx tx ad a b k gn sm sn mn σ U.heap))
      (fun _ st oc t => (oc = .returned (some (.int 1)) ∧ tW D cI cG cH A Dx tx ad a b k gn sm (sn + 1) mn (jPut σ 0 (jAddS (jV σ 0) 0 at_ rc)) t.heap) ∧ va_F (tF A ad sz) st t) 2 12 (tF A ad sz) := by
  refine Met.ofW (cc := cX6_siren) (maxL := 3) (ret := some .boolean) (by decide +kernel) rfl ?_
  intro p e s mm args below meth c s₁ B hml hv
  obtain ⟨rfl, hsz, hU, hWW⟩ := hv
  have hU2 := hU
  obtain ⟨hK, hnt, hnw, hKx, hDx⟩ := hU2
  obtain ⟨⟨hAa, gr, wa, he, sh, si, ma, da, hT, hGg, hLh, hSs, hGs, hGm⟩, hP⟩ := hWW
  have hx := B.exec
  have hb := B.bytes
  have hr := B.returns
  have hlocks := B.notSynchronized
  have hts : ∀ w ∈ ww_tb, w.before ([Value.ref a, Value.int at_, Value.int rc] : List Value).toArray s = true := fun w h => atoms_spec (ws := .code yX6_siren cX6_siren 3 (some .boolean) :: ww_tb) B.pre w (List.mem_cons_of_mem _ h)
  have ho : s.vm.findClass RX6 = some mm.cls := findClass_of_methodNamed B.named
  have hg : ∀ w ∈ ww_tb, goodWord w = true := fun w h => List.all_eq_true.mp ww_good w h
  subst hsz
  have hl := lv_entry ([Value.ref a, Value.int at_, Value.int rc] : List Value) (n := 3) (show (3 : Nat) ≤ 3 by decide)
  rw [lg_entry_eq]
  obtain ⟨FF, hFF⟩ : ∃ FF : Nat → Prop, FF = tF A ad s.heap.size := ⟨_, rfl⟩
  have hS0 : va_S FF s.heap s.heap [] := va_S.rf
  have hFA : ∀ q, A q → FF q := fun q h => by rw [hFF]; exact Or.inl h
  have hFz : ∀ q, s.heap.size ≤ q → FF q := fun q h => hFA q (hA q h)
  have hFw : ∀ (H : Heap), s.heap.size ≤ H.size → ∀ q, vg_A ww_nm ad H.size q → FF q := fun H hz q h => by
    rcases h with h | h
    · rw [hFF]; exact Or.inr (Or.inl h)
    · exact hFz q (Nat.le_trans hz h)
  have hla : a < s.heap.size := (hT 0 _ rfl).lt
  refine lv_aload_n hx hb dX6_siren_0 rfl (lv_at hl 0 rfl) ?_
  refine lv_aload_n hx hb dX6_siren_1 rfl (lv_at hl 0 rfl) ?_
  refine lt_get (k := 8) (v := .ref si) hx hb hts ho hK hT dX6_siren_2 q_384 (by decide) rfl rfl ?_
  refine lv_iconst (v := 3) hx hb dX6_siren_5 rfl ?_
  refine lt_newI (A := A) (N := 3) hx hb hts hK hS0 rfl (by decide) (by decide) (by decide) dX6_siren_6 (fun q H1 hq0 hc1 hz1 ho1 hE1 hS1 => ?_)
  have hFq : FF q := hFz q hq0
  have hq1 : tR cI A 3 H1 q := ⟨hA q hq0, _, hc1⟩
  refine lv_dup hx hb dX6_siren_8 rfl ?_
  refine lv_iconst (v := 0) hx hb dX6_siren_9 rfl ?_
  refine lv_iload_n hx hb dX6_siren_10 rfl (lv_at hl 1 rfl) ?_
  refine lt_iast (A := A) (F := FF) hx hb hK hq1 hFq hS1 (jin (i := 0) rfl (by decide) (by decide)) dX6_siren_11 (fun H2 locs2 hq2 hz2 hk2 hEa2 hS2 => ?_)
  have hE2 := tE.tr hE1 hEa2
  have ho2 : ∀ z, z < s.heap.size → H2[z]? = s.heap[z]? := fun z hz => (hk2 z (by omega)).trans (ho1 z hz)
  refine lv_dup hx hb dX6_siren_12 rfl ?_
  refine lv_iconst (v := 1) hx hb dX6_siren_13 rfl ?_
  refine lv_iload_n hx hb dX6_siren_14 rfl (lv_at hl 2 rfl) ?_
  refine lt_iast (A := A) (F := FF) hx hb hK hq2 hFq hS2 (jin (i := 1) rfl (by decide) (by decide)) dX6_siren_15 (fun H3 locs3 hq3 hz3 hk3 hEa3 hS3 => ?_)
  have hE3 := tE.tr hE2 hEa3
  have ho3 : ∀ z, z < s.heap.size → H3[z]? = s.heap[z]? := fun z hz => (hk3 z (by omega)).trans (ho2 z hz)
  refine lv_dup hx hb dX6_siren_16 rfl ?_
  refine lv_iconst (v := 2) hx hb dX6_siren_17 rfl ?_
  refine lv_iconst (v := 1) hx hb dX6_siren_18 rfl ?_
  refine lt_iast (A := A) (F := FF) hx hb hK hq3 hFq hS3 (jin (i := 2) rfl (by decide) (by decide)) dX6_siren_19 (fun H4 locs4 hq4 hz4 hk4 hEa4 hS4 => ?_)
  have hE4 := tE.tr hE3 hEa4
  have ho4 : ∀ z, z < s.heap.size → H4[z]? = s.heap[z]? := fun z hz => (hk4 z (by omega)).trans (ho3 z hz)
  have hzn : s.heap.size ≤ H4.size := hE4.1
  refine lt_run (F := FF) (Fc := fun q => H4.size ≤ q) (va_runS (As := [.ref si, .ref q]) (rest := [.ref a]) ⟨hx, hb, hml, ho, hts⟩ (lt_plus l D cI cG cH A H4.size si q sn 3 (by omega) (fun q h => hA q (Nat.le_trans hzn h))) ⟨callB_of 2 hts (fun w hw => by
      rcases List.mem_cons.mp hw with rfl | hw
      · exact ⟨q_385, good_of_word (hg _ q_385)⟩
      · exact ⟨hw, good_of_word (hg _ hw)⟩) rfl rfl rfl (hts _ q_386) (hts _ q_387) (by decide +kernel) (by decide), hts _ q_388⟩ ⟨fun a U g mk z => ⟨z.1, z.2.1, tK.moved (u := U) (U := U.calling g mk a) (Vm.Alike.refl U.vm) z.2.2.1, z.2.2.2⟩, fun U hU hW => ⟨rfl, by rw [hU], hK.moved hW.alike, by rw [hU]; exact hE4.2.2.1 _ _ hGs, by rw [hU]; exact hq4⟩⟩ rfl rfl hl.1 rfl (lv_room (show (1 + 0 : Nat) ≤ 8 by decide)) dX6_siren_20 ⟨by decide, by decide⟩) hS4 (fun q h => hFz q (Nat.le_trans hzn h)) (fun _ _ _ h => h.2) (fun st t v locsp h0 hq hf hSp => ?_)
  obtain ⟨⟨r, hv, hGr⟩, -⟩ := hq
  cases hv
  have hkp : ∀ z, z < H4.size → t.heap[z]? = H4[z]? := fun z hz => by rw [hf.2 z (by rw [h0]; exact hz) (by omega), h0]
  have hzp : H4.size ≤ t.heap.size := by have := hf.1; rw [h0] at this; exact this
  have hEp : tE cI cG cH A s.heap t.heap := hE4.tr (tE.old hzp (fun z hz _ => hkp z hz))
  have hop : ∀ z, z < s.heap.size → t.heap[z]? = s.heap[z]? := fun z hz => (hkp z (by omega)).trans (ho4 z hz)
  have hTp := lq_kp hT hop
  refine lt_put (A := A) (k := 8) (v := .ref r) hx hb hts ho hK hTp hSp (hFA a hAa) dX6_siren_23 q_384 (by decide) rfl rfl rfl rfl (by show 8 < 15; decide) (fun Hy locsy hTy hzy hky hEy hSy => ?_)
  have hE9 := hEp.tr hEy
  have hPy : va_P Dx ww_cl (vg_ws ww_shp ww_nm ad tx σ) Hy := lq_kw hP (B := fun q => q = a) (fun n hn h => hAd n hn (by rw [h]; exact hAa)) (fun z hz hne => (hky z hne).trans (hop z hz))
  have hTy2 : va_P D tClT [(a, .inr (0, tf (ad (0, 0, 0)) b k gr wa he sh sm r ma da))] Hy := hTy
  have hGy := hEy.2.2.1 _ _ hGr
  have hzy2 : s.heap.size ≤ Hy.size := hE9.1
  refine lv_aload_n hx hb dX6_siren_26 rfl (lv_at hl 0 rfl) ?_
  refine lt_get (k := 0) (v := .ref (ad (0, 0, 0))) hx hb hts ho hK hTy2 dX6_siren_27 q_389 (by decide) rfl rfl ?_
  refine lv_iload_n hx hb dX6_siren_30 rfl (lv_at hl 1 rfl) ?_
  refine lv_iload_n hx hb dX6_siren_31 rfl (lv_at hl 2 rfl) ?_
  refine lt_ww (F := FF) (rest := []) (as := [.inl (.int at_), .inl (.int rc)]) hx hb hml ho hts c_X5_siren htx hPy hKx hDx hnw hSy (hFw Hy hzy2) dX6_siren_32 q_390 q_391 q_392 q_393 (kn := 2) (by decide +kernel) rfl (List.forall_mem_cons.mpr ⟨trivial, List.forall_mem_cons.mpr ⟨trivial, fun _ h => nomatch h⟩⟩) ⟨hc, hrr, hw, h4⟩ (by decide) (by decide) (by decide) (by show 0 + 3 + 9 ≤ 12; decide) hl.1 (fun Hz locsz rr σ' hp hPz hzz hkz hSz => ?_)
  have hp2 : rr = some (.inl (.int (jV σ 0 5 0 3))) ∧ σ' = jPut σ 0 (jAddS (jV σ 0) 0 at_ rc) := hp
  obtain ⟨rfl, rfl⟩ := hp2
  have hEz : tE cI cG cH A Hy Hz := tE.old hzz (fun z hz hAz => hkz z hz (fun n hn h => hAd n hn (by rw [h]; exact hAz)))
  have hTz : va_P D tClT [(a, .inr (0, tf (ad (0, 0, 0)) b k gr wa he sh sm r ma da))] Hz := fun k2 x hx2 => by
    have h9 : k2 < 1 := (List.getElem?_eq_some_iff.mp hx2).1
    have h8 : k2 = 0 := by omega
    subst h8
    cases hx2
    exact (hTy2 0 _ rfl).kept (hkz a (by omega) (fun n hn h => hAd n hn (by rw [h]; exact hAa)))
  have hGz := hEz.2.2.1 _ _ hGy
  have hGz2 := hGz
  obtain ⟨-, fz, hfz, -⟩ := hGz2
  refine lv_aload_n hx hb dX6_siren_35 rfl (lv_at hl 0 rfl) ?_
  refine lt_get (k := 8) (v := .ref r) hx hb hts ho hK hTz dX6_siren_36 q_384 (by decide) rfl rfl ?_
  refine lt_alen hx hb (hK.1.2 1 _ rfl).1 hfz dX6_siren_39 ?_
  refine lv_iconst (v := 1) hx hb dX6_siren_40 rfl ?_
  refine lv_isub hx hb dX6_siren_41 ?_
  rw [nI_pred]
  refine lv_icmp_ne (tgt := 49) hx hb dX6_siren_42 (by decide) (fun z => absurd (show jV σ 0 5 0 3 = nI sn by rw [hn]; exact hw.2.2.2.1.1) z) (fun _ => ?_)
  refine lv_iconst (v := 1) hx hb dX6_siren_45 rfl ?_
  refine lv_goto (tgt := 50) hx hb dX6_siren_46 (by decide) ?_
  have hEe := hE9.tr hEz
  subst hFF
  exact W.zret hx hb hr rfl (fun t2 ht2 _ => ⟨⟨rfl, by rw [ht2]; exact ⟨⟨hAa, gr, wa, he, sh, r, ma, da, hTz, hEe.2.2.1 _ _ hGg, hEe.2.2.2.1 _ hLh, hEe.2.2.2.2 _ hSs, hGz, hEe.2.2.1 _ _ hGm⟩, hPz⟩⟩, hSz.F ht2⟩) hSz.2.2 dX6_siren_50 hlocks
theorem lt_mast (l : Launch) (D : va_G) (cI cG cH : ClassId) (A : Nat → Prop) (Dx : va_G) (tx : List (ClassId × FieldType)) (ad : vgN → Nat) (sz a b k gn sm sn mn : Nat) (σ : vgS) (at_ rc : Int32) (hA : ∀ q, sz ≤ q → A q) (htx : tx.map (fun q => q.2) = ww_tyl) (hAd : ∀ n ∈ ww_nm, ¬ A (ad n)) (hc : vp_in at_ 16) (hrr : ¬ rc < 0 ∧ rc ≤ 3) (hw : jWf (jV σ 0)) (h4 : jNc (jV σ 0) 1 < 4) (hn : mn = jNc (jV σ 0) 1) :
    Met l yX6_mast (.code yX6_mast cX6_mast 3 (some .boolean) :: ww_tb) { frames := 3, cells := 2, slots := 12, locals := 32 * 3 } (va_Pc [Value.ref a, Value.int at_, Value.int rc] (fun U => U.heap.size = sz ∧ tU D cI cG cH Dx tx ad U ∧ tW D cI cG cH A Dx tx ad a b k gn sm sn mn σ U.heap))
      (fun _ st oc t => (oc = .returned (some (.int 1)) ∧ tW D cI cG cH A Dx tx ad a b k gn sm sn (mn + 1) (jPut σ 0 (jAddS (jV σ 0) 1 at_ rc)) t.heap) ∧ va_F (tF A ad sz) st t) 2 12 (tF A ad sz) := by
  refine Met.ofW (cc := cX6_mast) (maxL := 3) (ret := some .boolean) (by decide +kernel) rfl ?_
  intro p e s mm args below meth c s₁ B hml hv
  obtain ⟨rfl, hsz, hU, hWW⟩ := hv
  have hU2 := hU
  obtain ⟨hK, hnt, hnw, hKx, hDx⟩ := hU2
  obtain ⟨⟨hAa, gr, wa, he, sh, si, ma, da, hT, hGg, hLh, hSs, hGs, hGm⟩, hP⟩ := hWW
  have hx := B.exec
  have hb := B.bytes
  have hr := B.returns
  have hlocks := B.notSynchronized
  have hts : ∀ w ∈ ww_tb, w.before ([Value.ref a, Value.int at_, Value.int rc] : List Value).toArray s = true := fun w h => atoms_spec (ws := .code yX6_mast cX6_mast 3 (some .boolean) :: ww_tb) B.pre w (List.mem_cons_of_mem _ h)
  have ho : s.vm.findClass RX6 = some mm.cls := findClass_of_methodNamed B.named
  have hg : ∀ w ∈ ww_tb, goodWord w = true := fun w h => List.all_eq_true.mp ww_good w h
  subst hsz
  have hl := lv_entry ([Value.ref a, Value.int at_, Value.int rc] : List Value) (n := 3) (show (3 : Nat) ≤ 3 by decide)
  rw [lg_entry_eq]
  obtain ⟨FF, hFF⟩ : ∃ FF : Nat → Prop, FF = tF A ad s.heap.size := ⟨_, rfl⟩
  have hS0 : va_S FF s.heap s.heap [] := va_S.rf
  have hFA : ∀ q, A q → FF q := fun q h => by rw [hFF]; exact Or.inl h
  have hFz : ∀ q, s.heap.size ≤ q → FF q := fun q h => hFA q (hA q h)
  have hFw : ∀ (H : Heap), s.heap.size ≤ H.size → ∀ q, vg_A ww_nm ad H.size q → FF q := fun H hz q h => by
    rcases h with h | h
    · rw [hFF]; exact Or.inr (Or.inl h)
    · exact hFz q (Nat.le_trans hz h)
  have hla : a < s.heap.size := (hT 0 _ rfl).lt
  refine lv_aload_n hx hb dX6_mast_0 rfl (lv_at hl 0 rfl) ?_
  refine lv_aload_n hx hb dX6_mast_1 rfl (lv_at hl 0 rfl) ?_
  refine lt_get (k := 9) (v := .ref ma) hx hb hts ho hK hT dX6_mast_2 q_394 (by decide) rfl rfl ?_
  refine lv_iconst (v := 3) hx hb dX6_mast_5 rfl ?_
  refine lt_newI (A := A) (N := 3) hx hb hts hK hS0 rfl (by decide) (by decide) (by decide) dX6_mast_6 (fun q H1 hq0 hc1 hz1 ho1 hE1 hS1 => ?_)
  have hFq : FF q := hFz q hq0
  have hq1 : tR cI A 3 H1 q := ⟨hA q hq0, _, hc1⟩
  refine lv_dup hx hb dX6_mast_8 rfl ?_
  refine lv_iconst (v := 0) hx hb dX6_mast_9 rfl ?_
  refine lv_iload_n hx hb dX6_mast_10 rfl (lv_at hl 1 rfl) ?_
  refine lt_iast (A := A) (F := FF) hx hb hK hq1 hFq hS1 (jin (i := 0) rfl (by decide) (by decide)) dX6_mast_11 (fun H2 locs2 hq2 hz2 hk2 hEa2 hS2 => ?_)
  have hE2 := tE.tr hE1 hEa2
  have ho2 : ∀ z, z < s.heap.size → H2[z]? = s.heap[z]? := fun z hz => (hk2 z (by omega)).trans (ho1 z hz)
  refine lv_dup hx hb dX6_mast_12 rfl ?_
  refine lv_iconst (v := 1) hx hb dX6_mast_13 rfl ?_
  refine lv_iload_n hx hb dX6_mast_14 rfl (lv_at hl 2 rfl) ?_
  refine lt_iast (A := A) (F := FF) hx hb hK hq2 hFq hS2 (jin (i := 1) rfl (by decide) (by decide)) dX6_mast_15 (fun H3 locs3 hq3 hz3 hk3 hEa3 hS3 => ?_)
  have hE3 := tE.tr hE2 hEa3
  have ho3 : ∀ z, z < s.heap.size → H3[z]? = s.heap[z]? := fun z hz => (hk3 z (by omega)).trans (ho2 z hz)
  refine lv_dup hx hb dX6_mast_16 rfl ?_
  refine lv_iconst (v := 2) hx hb dX6_mast_17 rfl ?_
  refine lv_iconst (v := 1) hx hb dX6_mast_18 rfl ?_
  refine lt_iast (A := A) (F := FF) hx hb hK hq3 hFq hS3 (jin (i := 2) rfl (by decide) (by decide)) dX6_mast_19 (fun H4 locs4 hq4 hz4 hk4 hEa4 hS4 => ?_)
  have hE4 := tE.tr hE3 hEa4
  have ho4 : ∀ z, z < s.heap.size → H4[z]? = s.heap[z]? := fun z hz => (hk4 z (by omega)).trans (ho3 z hz)
  have hzn : s.heap.size ≤ H4.size := hE4.1
  refine lt_run (F := FF) (Fc := fun q => H4.size ≤ q) (va_runS (As := [.ref ma, .ref q]) (rest := [.ref a]) ⟨hx, hb, hml, ho, hts⟩ (lt_plus l D cI cG cH A H4.size ma q mn 3 (by omega) (fun q h => hA q (Nat.le_trans hzn h))) ⟨callB_of 2 hts (fun w hw => by
      rcases List.mem_cons.mp hw with rfl | hw
      · exact ⟨q_385, good_of_word (hg _ q_385)⟩
      · exact ⟨hw, good_of_word (hg _ hw)⟩) rfl rfl rfl (hts _ q_386) (hts _ q_387) (by decide +kernel) (by decide), hts _ q_388⟩ ⟨fun a U g mk z => ⟨z.1, z.2.1, tK.moved (u := U) (U := U.calling g mk a) (Vm.Alike.refl U.vm) z.2.2.1, z.2.2.2⟩, fun U hU hW => ⟨rfl, by rw [hU], hK.moved hW.alike, by rw [hU]; exact hE4.2.2.1 _ _ hGm, by rw [hU]; exact hq4⟩⟩ rfl rfl hl.1 rfl (lv_room (show (1 + 0 : Nat) ≤ 8 by decide)) dX6_mast_20 ⟨by decide, by decide⟩) hS4 (fun q h => hFz q (Nat.le_trans hzn h)) (fun _ _ _ h => h.2) (fun st t v locsp h0 hq hf hSp => ?_)
  obtain ⟨⟨r, hv, hGr⟩, -⟩ := hq
  cases hv
  have hkp : ∀ z, z < H4.size → t.heap[z]? = H4[z]? := fun z hz => by rw [hf.2 z (by rw [h0]; exact hz) (by omega), h0]
  have hzp : H4.size ≤ t.heap.size := by have := hf.1; rw [h0] at this; exact this
  have hEp : tE cI cG cH A s.heap t.heap := hE4.tr (tE.old hzp (fun z hz _ => hkp z hz))
  have hop : ∀ z, z < s.heap.size → t.heap[z]? = s.heap[z]? := fun z hz => (hkp z (by omega)).trans (ho4 z hz)
  have hTp := lq_kp hT hop
  refine lt_put (A := A) (k := 9) (v := .ref r) hx hb hts ho hK hTp hSp (hFA a hAa) dX6_mast_23 q_394 (by decide) rfl rfl rfl rfl (by show 9 < 15; decide) (fun Hy locsy hTy hzy hky hEy hSy => ?_)
  have hE9 := hEp.tr hEy
  have hPy : va_P Dx ww_cl (vg_ws ww_shp ww_nm ad tx σ) Hy := lq_kw hP (B := fun q => q = a) (fun n hn h => hAd n hn (by rw [h]; exact hAa)) (fun z hz hne => (hky z hne).trans (hop z hz))
  have hTy2 : va_P D tClT [(a, .inr (0, tf (ad (0, 0, 0)) b k gr wa he sh sm si r da))] Hy := hTy
  have hGy := hEy.2.2.1 _ _ hGr
  have hzy2 : s.heap.size ≤ Hy.size := hE9.1
  refine lv_aload_n hx hb dX6_mast_26 rfl (lv_at hl 0 rfl) ?_
  refine lt_get (k := 0) (v := .ref (ad (0, 0, 0))) hx hb hts ho hK hTy2 dX6_mast_27 q_389 (by decide) rfl rfl ?_
  refine lv_iload_n hx hb dX6_mast_30 rfl (lv_at hl 1 rfl) ?_
  refine lv_iload_n hx hb dX6_mast_31 rfl (lv_at hl 2 rfl) ?_
  refine lt_ww (F := FF) (rest := []) (as := [.inl (.int at_), .inl (.int rc)]) hx hb hml ho hts c_X5_mast htx hPy hKx hDx hnw hSy (hFw Hy hzy2) dX6_mast_32 q_395 q_396 q_397 q_398 (kn := 2) (by decide +kernel) rfl (List.forall_mem_cons.mpr ⟨trivial, List.forall_mem_cons.mpr ⟨trivial, fun _ h => nomatch h⟩⟩) ⟨hc, hrr, hw, h4⟩ (by decide) (by decide) (by decide) (by show 0 + 3 + 9 ≤ 12; decide) hl.1 (fun Hz locsz rr σ' hp hPz hzz hkz hSz => ?_)
  have hp2 : rr = some (.inl (.int (jV σ 0 5 1 3))) ∧ σ' = jPut σ 0 (jAddS (jV σ 0) 1 at_ rc) := hp
  obtain ⟨rfl, rfl⟩ := hp2
  have hEz : tE cI cG cH A Hy Hz := tE.old hzz (fun z hz hAz => hkz z hz (fun n hn h => hAd n hn (by rw [h]; exact hAz)))
  have hTz : va_P D tClT [(a, .inr (0, tf (ad (0, 0, 0)) b k gr wa he sh sm si r da))] Hz := fun k2 x hx2 => by
    have h9 : k2 < 1 := (List.getElem?_eq_some_iff.mp hx2).1
    have h8 : k2 = 0 := by omega
    subst h8
    cases hx2
    exact (hTy2 0 _ rfl).kept (hkz a (by omega) (fun n hn h => hAd n hn (by rw [h]; exact hAa)))
  have hGz := hEz.2.2.1 _ _ hGy
  have hGz2 := hGz
  obtain ⟨-, fz, hfz, -⟩ := hGz2
  refine lv_aload_n hx hb dX6_mast_35 rfl (lv_at hl 0 rfl) ?_
  refine lt_get (k := 9) (v := .ref r) hx hb hts ho hK hTz dX6_mast_36 q_394 (by decide) rfl rfl ?_
  refine lt_alen hx hb (hK.1.2 1 _ rfl).1 hfz dX6_mast_39 ?_
  refine lv_iconst (v := 1) hx hb dX6_mast_40 rfl ?_
  refine lv_isub hx hb dX6_mast_41 ?_
  rw [nI_pred]
  refine lv_icmp_ne (tgt := 49) hx hb dX6_mast_42 (by decide) (fun z => absurd (show jV σ 0 5 1 3 = nI mn by rw [hn]; exact hw.2.2.2.2.1) z) (fun _ => ?_)
  refine lv_iconst (v := 1) hx hb dX6_mast_45 rfl ?_
  refine lv_goto (tgt := 50) hx hb dX6_mast_46 (by decide) ?_
  have hEe := hE9.tr hEz
  subst hFF
  exact W.zret hx hb hr rfl (fun t2 ht2 _ => ⟨⟨rfl, by rw [ht2]; exact ⟨⟨hAa, gr, wa, he, sh, si, r, da, hTz, hEe.2.2.1 _ _ hGg, hEe.2.2.2.1 _ hLh, hEe.2.2.2.2 _ hSs, hEe.2.2.1 _ _ hGs, hGz⟩, hPz⟩⟩, hSz.F ht2⟩) hSz.2.2 dX6_mast_50 hlocks
