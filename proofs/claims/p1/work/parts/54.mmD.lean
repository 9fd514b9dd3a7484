-- words of the tables, and what stands at each place of the methods' code (laid by program)
theorem u_233 : Cond.fieldLink RX7 104 (TX6 1).1 (TX6 1).2.1 (TX6 1).2.2.1 ∈ ww_tb := by decide +kernel
theorem u_234 : Cond.fieldLink RX6 31 (TX6 6).1 (TX6 6).2.1 (TX6 6).2.2.1 ∈ ww_tb := by decide +kernel
theorem u_235 : Cond.fieldLink RX6 65 (TX6 8).1 (TX6 8).2.1 (TX6 8).2.2.1 ∈ ww_tb := by decide +kernel
theorem u_236 : Cond.fieldLink RX6 44 (TX6 9).1 (TX6 9).2.1 (TX6 9).2.2.1 ∈ ww_tb := by decide +kernel
theorem u_237 : Cond.fieldLink RX6 11 (TX6 0).1 (TX6 0).2.1 (TX6 0).2.2.1 ∈ ww_tb := by decide +kernel
theorem u_238 : Cond.code yX7_power cX7_power 6 (some .int) ∈ ww_tb := by decide +kernel
theorem u_239 : Cond.static yX7_power ∈ ww_tb := by decide +kernel
theorem u_240 : Cond.methodLink RX7 89 yX7_power ∈ ww_tb := by decide +kernel
theorem u_241 : Cond.fieldLink RX7 16 (TX7 2).1 (TX7 2).2.1 (TX7 2).2.2.1 ∈ ww_tb := by decide +kernel
theorem u_242 : Cond.code yX7_forceNow cX7_forceNow 3 (some .int) ∈ ww_tb := by decide +kernel
theorem u_243 : Cond.methodLink RX7 163 yX7_forceNow ∈ ww_tb := by decide +kernel
theorem u_244 : Cond.instanceMethod yX7_forceNow ∈ ww_tb := by decide +kernel
theorem u_245 : Cond.selects RX7 yX7_forceNow yX7_forceNow ∈ ww_tb := by decide +kernel
theorem u_246 : Cond.code yX7_inForceNow cX7_inForceNow 3 (some .int) ∈ ww_tb := by decide +kernel
theorem u_247 : Cond.methodLink RX7 151 yX7_inForceNow ∈ ww_tb := by decide +kernel
theorem u_248 : Cond.instanceMethod yX7_inForceNow ∈ ww_tb := by decide +kernel
theorem u_249 : Cond.selects RX7 yX7_inForceNow yX7_inForceNow ∈ ww_tb := by decide +kernel
theorem dX7_inForceNow_0 : decode cX7_inForceNow 0 = .ok (.iconst 0, 1) := by decide +kernel
theorem dX7_inForceNow_1 : decode cX7_inForceNow 1 = .ok (.istore_n 1, 1) := by decide +kernel
theorem dX7_inForceNow_2 : decode cX7_inForceNow 2 = .ok (.iconst 0, 1) := by decide +kernel
theorem dX7_inForceNow_3 : decode cX7_inForceNow 3 = .ok (.istore_n 2, 1) := by decide +kernel
theorem dX7_inForceNow_4 : decode cX7_inForceNow 4 = .ok (.iload_n 2, 1) := by decide +kernel
theorem dX7_inForceNow_5 : decode cX7_inForceNow 5 = .ok (.aload_n 0, 1) := by decide +kernel
theorem dX7_inForceNow_6 : decode cX7_inForceNow 6 = .ok (.getfield 10, 3) := by decide +kernel
theorem dX7_inForceNow_9 : decode cX7_inForceNow 9 = .ok (.getfield 36, 3) := by decide +kernel
theorem dX7_inForceNow_12 : decode cX7_inForceNow 12 = .ok (.if_icmp .ge 28, 3) := by decide +kernel
theorem dX7_inForceNow_15 : decode cX7_inForceNow 15 = .ok (.iload_n 1, 1) := by decide +kernel
theorem dX7_inForceNow_16 : decode cX7_inForceNow 16 = .ok (.aload_n 0, 1) := by decide +kernel
theorem dX7_inForceNow_17 : decode cX7_inForceNow 17 = .ok (.getfield 10, 3) := by decide +kernel
theorem dX7_inForceNow_20 : decode cX7_inForceNow 20 = .ok (.iload_n 2, 1) := by decide +kernel
theorem dX7_inForceNow_21 : decode cX7_inForceNow 21 = .ok (.invokevirtual 117, 3) := by decide +kernel
theorem dX7_inForceNow_24 : decode cX7_inForceNow 24 = .ok (.ifCond .eq 7, 3) := by decide +kernel
theorem dX7_inForceNow_27 : decode cX7_inForceNow 27 = .ok (.iconst 1, 1) := by decide +kernel
theorem dX7_inForceNow_28 : decode cX7_inForceNow 28 = .ok (.goto 4, 3) := by decide +kernel
theorem dX7_inForceNow_31 : decode cX7_inForceNow 31 = .ok (.iconst 0, 1) := by decide +kernel
theorem dX7_inForceNow_32 : decode cX7_inForceNow 32 = .ok (.iadd, 1) := by decide +kernel
theorem dX7_inForceNow_33 : decode cX7_inForceNow 33 = .ok (.istore_n 1, 1) := by decide +kernel
theorem dX7_inForceNow_34 : decode cX7_inForceNow 34 = .ok (.iinc 2 1, 3) := by decide +kernel
theorem dX7_inForceNow_37 : decode cX7_inForceNow 37 = .ok (.goto (-33), 3) := by decide +kernel
theorem dX7_inForceNow_40 : decode cX7_inForceNow 40 = .ok (.iload_n 1, 1) := by decide +kernel
theorem dX7_inForceNow_41 : decode cX7_inForceNow 41 = .ok (.ireturn, 1) := by decide +kernel
theorem dX7_forceNow_0 : decode cX7_forceNow 0 = .ok (.aload_n 0, 1) := by decide +kernel
theorem dX7_forceNow_1 : decode cX7_forceNow 1 = .ok (.getfield 10, 3) := by decide +kernel
theorem dX7_forceNow_4 : decode cX7_forceNow 4 = .ok (.getfield 36, 3) := by decide +kernel
theorem dX7_forceNow_7 : decode cX7_forceNow 7 = .ok (.iconst 1, 1) := by decide +kernel
theorem dX7_forceNow_8 : decode cX7_forceNow 8 = .ok (.isub, 1) := by decide +kernel
theorem dX7_forceNow_9 : decode cX7_forceNow 9 = .ok (.istore_n 2, 1) := by decide +kernel
theorem dX7_forceNow_10 : decode cX7_forceNow 10 = .ok (.iload_n 2, 1) := by decide +kernel
theorem dX7_forceNow_11 : decode cX7_forceNow 11 = .ok (.ifCond .lt 41, 3) := by decide +kernel
theorem dX7_forceNow_14 : decode cX7_forceNow 14 = .ok (.aload_n 0, 1) := by decide +kernel
theorem dX7_forceNow_15 : decode cX7_forceNow 15 = .ok (.getfield 10, 3) := by decide +kernel
theorem dX7_forceNow_18 : decode cX7_forceNow 18 = .ok (.iload_n 2, 1) := by decide +kernel
theorem dX7_forceNow_19 : decode cX7_forceNow 19 = .ok (.invokevirtual 117, 3) := by decide +kernel
theorem dX7_forceNow_22 : decode cX7_forceNow 22 = .ok (.ifCond .eq 24, 3) := by decide +kernel
theorem dX7_forceNow_25 : decode cX7_forceNow 25 = .ok (.aload_n 0, 1) := by decide +kernel
theorem dX7_forceNow_26 : decode cX7_forceNow 26 = .ok (.getfield 10, 3) := by decide +kernel
theorem dX7_forceNow_29 : decode cX7_forceNow 29 = .ok (.getfield 104, 3) := by decide +kernel
theorem dX7_forceNow_32 : decode cX7_forceNow 32 = .ok (.iload_n 2, 1) := by decide +kernel
theorem dX7_forceNow_33 : decode cX7_forceNow 33 = .ok (.aaload, 1) := by decide +kernel
theorem dX7_forceNow_34 : decode cX7_forceNow 34 = .ok (.iconst 2, 1) := by decide +kernel
theorem dX7_forceNow_35 : decode cX7_forceNow 35 = .ok (.iaload, 1) := by decide +kernel
theorem dX7_forceNow_36 : decode cX7_forceNow 36 = .ok (.iload_n 1, 1) := by decide +kernel
theorem dX7_forceNow_37 : decode cX7_forceNow 37 = .ok (.ishr, 1) := by decide +kernel
theorem dX7_forceNow_38 : decode cX7_forceNow 38 = .ok (.iconst 1, 1) := by decide +kernel
theorem dX7_forceNow_39 : decode cX7_forceNow 39 = .ok (.iand, 1) := by decide +kernel
theorem dX7_forceNow_40 : decode cX7_forceNow 40 = .ok (.iconst 1, 1) := by decide +kernel
theorem dX7_forceNow_41 : decode cX7_forceNow 41 = .ok (.if_icmp .ne 5, 3) := by decide +kernel
theorem dX7_forceNow_44 : decode cX7_forceNow 44 = .ok (.iload_n 2, 1) := by decide +kernel
theorem dX7_forceNow_45 : decode cX7_forceNow 45 = .ok (.ireturn, 1) := by decide +kernel
theorem dX7_forceNow_46 : decode cX7_forceNow 46 = .ok (.iinc 2 (-1), 3) := by decide +kernel
theorem dX7_forceNow_49 : decode cX7_forceNow 49 = .ok (.goto (-39), 3) := by decide +kernel
theorem dX7_forceNow_52 : decode cX7_forceNow 52 = .ok (.iconst (-1), 1) := by decide +kernel
theorem dX7_forceNow_53 : decode cX7_forceNow 53 = .ok (.ireturn, 1) := by decide +kernel
theorem dX7_power_0 : decode cX7_power 0 = .ok (.iconst 0, 1) := by decide +kernel
theorem dX7_power_1 : decode cX7_power 1 = .ok (.istore 4, 2) := by decide +kernel
theorem dX7_power_3 : decode cX7_power 3 = .ok (.iconst 0, 1) := by decide +kernel
theorem dX7_power_4 : decode cX7_power 4 = .ok (.istore 5, 2) := by decide +kernel
theorem dX7_power_6 : decode cX7_power 6 = .ok (.iload 5, 2) := by decide +kernel
theorem dX7_power_8 : decode cX7_power 8 = .ok (.iload_n 1, 1) := by decide +kernel
theorem dX7_power_9 : decode cX7_power 9 = .ok (.if_icmp .ge 42, 3) := by decide +kernel
theorem dX7_power_12 : decode cX7_power 12 = .ok (.aload_n 0, 1) := by decide +kernel
theorem dX7_power_13 : decode cX7_power 13 = .ok (.iload 5, 2) := by decide +kernel
theorem dX7_power_15 : decode cX7_power 15 = .ok (.aaload, 1) := by decide +kernel
theorem dX7_power_16 : decode cX7_power 16 = .ok (.iconst 0, 1) := by decide +kernel
theorem dX7_power_17 : decode cX7_power 17 = .ok (.iaload, 1) := by decide +kernel
theorem dX7_power_18 : decode cX7_power 18 = .ok (.iload_n 2, 1) := by decide +kernel
theorem dX7_power_19 : decode cX7_power 19 = .ok (.if_icmp .ne 26, 3) := by decide +kernel
theorem dX7_power_22 : decode cX7_power 22 = .ok (.aload_n 0, 1) := by decide +kernel
theorem dX7_power_23 : decode cX7_power 23 = .ok (.iload 5, 2) := by decide +kernel
theorem dX7_power_25 : decode cX7_power 25 = .ok (.aaload, 1) := by decide +kernel
theorem dX7_power_26 : decode cX7_power 26 = .ok (.iconst 2, 1) := by decide +kernel
theorem dX7_power_27 : decode cX7_power 27 = .ok (.iaload, 1) := by decide +kernel
theorem dX7_power_28 : decode cX7_power 28 = .ok (.iload_n 3, 1) := by decide +kernel
theorem dX7_power_29 : decode cX7_power 29 = .ok (.if_icmp .ne 6, 3) := by decide +kernel
theorem dX7_power_32 : decode cX7_power 32 = .ok (.goto 13, 3) := by decide +kernel
theorem dX7_power_35 : decode cX7_power 35 = .ok (.aload_n 0, 1) := by decide +kernel
theorem dX7_power_36 : decode cX7_power 36 = .ok (.iload 5, 2) := by decide +kernel
theorem dX7_power_38 : decode cX7_power 38 = .ok (.aaload, 1) := by decide +kernel
theorem dX7_power_39 : decode cX7_power 39 = .ok (.iconst 2, 1) := by decide +kernel
theorem dX7_power_40 : decode cX7_power 40 = .ok (.iload_n 3, 1) := by decide +kernel
theorem dX7_power_41 : decode cX7_power 41 = .ok (.iastore, 1) := by decide +kernel
theorem dX7_power_42 : decode cX7_power 42 = .ok (.iinc 4 1, 3) := by decide +kernel
theorem dX7_power_45 : decode cX7_power 45 = .ok (.iinc 5 1, 3) := by decide +kernel
theorem dX7_power_48 : decode cX7_power 48 = .ok (.goto (-42), 3) := by decide +kernel
theorem dX7_power_51 : decode cX7_power 51 = .ok (.iload 4, 2) := by decide +kernel
theorem dX7_power_53 : decode cX7_power 53 = .ok (.ireturn, 1) := by decide +kernel
theorem dX6_isDanger_0 : decode cX6_isDanger 0 = .ok (.aload_n 0, 1) := by decide +kernel
theorem dX6_isDanger_1 : decode cX6_isDanger 1 = .ok (.getfield 31, 3) := by decide +kernel
theorem dX6_isDanger_4 : decode cX6_isDanger 4 = .ok (.iload_n 1, 1) := by decide +kernel
theorem dX6_isDanger_5 : decode cX6_isDanger 5 = .ok (.iaload, 1) := by decide +kernel
theorem dX6_isDanger_6 : decode cX6_isDanger 6 = .ok (.iconst (-1), 1) := by decide +kernel
theorem dX6_isDanger_7 : decode cX6_isDanger 7 = .ok (.if_icmp .eq 20, 3) := by decide +kernel
theorem dX6_isDanger_10 : decode cX6_isDanger 10 = .ok (.aload_n 0, 1) := by decide +kernel
theorem dX6_isDanger_11 : decode cX6_isDanger 11 = .ok (.getfield 31, 3) := by decide +kernel
theorem dX6_isDanger_14 : decode cX6_isDanger 14 = .ok (.iload_n 1, 1) := by decide +kernel
theorem dX6_isDanger_15 : decode cX6_isDanger 15 = .ok (.iaload, 1) := by decide +kernel
theorem dX6_isDanger_16 : decode cX6_isDanger 16 = .ok (.aload_n 0, 1) := by decide +kernel
theorem dX6_isDanger_17 : decode cX6_isDanger 17 = .ok (.getfield 65, 3) := by decide +kernel
theorem dX6_isDanger_20 : decode cX6_isDanger 20 = .ok (.if_icmp .gt 7, 3) := by decide +kernel
theorem dX6_isDanger_23 : decode cX6_isDanger 23 = .ok (.iconst 1, 1) := by decide +kernel
theorem dX6_isDanger_24 : decode cX6_isDanger 24 = .ok (.goto 4, 3) := by decide +kernel
theorem dX6_isDanger_27 : decode cX6_isDanger 27 = .ok (.iconst 0, 1) := by decide +kernel
theorem dX6_isDanger_28 : decode cX6_isDanger 28 = .ok (.ireturn, 1) := by decide +kernel
theorem dX6_believers_0 : decode cX6_believers 0 = .ok (.iconst 0, 1) := by decide +kernel
theorem dX6_believers_1 : decode cX6_believers 1 = .ok (.istore_n 1, 1) := by decide +kernel
theorem dX6_believers_2 : decode cX6_believers 2 = .ok (.iconst 0, 1) := by decide +kernel
theorem dX6_believers_3 : decode cX6_believers 3 = .ok (.istore_n 2, 1) := by decide +kernel
theorem dX6_believers_4 : decode cX6_believers 4 = .ok (.iload_n 2, 1) := by decide +kernel
theorem dX6_believers_5 : decode cX6_believers 5 = .ok (.aload_n 0, 1) := by decide +kernel
theorem dX6_believers_6 : decode cX6_believers 6 = .ok (.getfield 44, 3) := by decide +kernel
theorem dX6_believers_9 : decode cX6_believers 9 = .ok (.if_icmp .ge 33, 3) := by decide +kernel
theorem dX6_believers_12 : decode cX6_believers 12 = .ok (.iload_n 1, 1) := by decide +kernel
theorem dX6_believers_13 : decode cX6_believers 13 = .ok (.aload_n 0, 1) := by decide +kernel
theorem dX6_believers_14 : decode cX6_believers 14 = .ok (.iload_n 2, 1) := by decide +kernel
theorem dX6_believers_15 : decode cX6_believers 15 = .ok (.invokevirtual 89, 3) := by decide +kernel
theorem dX6_believers_18 : decode cX6_believers 18 = .ok (.iconst (-1), 1) := by decide +kernel
theorem dX6_believers_19 : decode cX6_believers 19 = .ok (.if_icmp .ne 7, 3) := by decide +kernel
theorem dX6_believers_22 : decode cX6_believers 22 = .ok (.iconst 0, 1) := by decide +kernel
theorem dX6_believers_23 : decode cX6_believers 23 = .ok (.goto 11, 3) := by decide +kernel
theorem dX6_believers_26 : decode cX6_believers 26 = .ok (.aload_n 0, 1) := by decide +kernel
theorem dX6_believers_27 : decode cX6_believers 27 = .ok (.getfield 11, 3) := by decide +kernel
theorem dX6_believers_30 : decode cX6_believers 30 = .ok (.iload_n 2, 1) := by decide +kernel
theorem dX6_believers_31 : decode cX6_believers 31 = .ok (.aaload, 1) := by decide +kernel
theorem dX6_believers_32 : decode cX6_believers 32 = .ok (.iconst 1, 1) := by decide +kernel
theorem dX6_believers_33 : decode cX6_believers 33 = .ok (.iaload, 1) := by decide +kernel
theorem dX6_believers_34 : decode cX6_believers 34 = .ok (.iadd, 1) := by decide +kernel
theorem dX6_believers_35 : decode cX6_believers 35 = .ok (.istore_n 1, 1) := by decide +kernel
theorem dX6_believers_36 : decode cX6_believers 36 = .ok (.iinc 2 1, 3) := by decide +kernel
theorem dX6_believers_39 : decode cX6_believers 39 = .ok (.goto (-35), 3) := by decide +kernel
theorem dX6_believers_42 : decode cX6_believers 42 = .ok (.iload_n 1, 1) := by decide +kernel
theorem dX6_believers_43 : decode cX6_believers 43 = .ok (.ireturn, 1) := by decide +kernel
theorem dX7_power__0 : decode cX7_power_ 0 = .ok (.aload_n 0, 1) := by decide +kernel
theorem dX7_power__1 : decode cX7_power_ 1 = .ok (.iconst 0, 1) := by decide +kernel
theorem dX7_power__2 : decode cX7_power_ 2 = .ok (.putfield 20, 3) := by decide +kernel
theorem dX7_power__5 : decode cX7_power_ 5 = .ok (.iload_n 1, 1) := by decide +kernel
theorem dX7_power__6 : decode cX7_power_ 6 = .ok (.invokestatic 39, 3) := by decide +kernel
theorem dX7_power__9 : decode cX7_power_ 9 = .ok (.ifCond .ne 9, 3) := by decide +kernel
theorem dX7_power__12 : decode cX7_power_ 12 = .ok (.aload_n 0, 1) := by decide +kernel
theorem dX7_power__13 : decode cX7_power_ 13 = .ok (.iconst 1, 1) := by decide +kernel
theorem dX7_power__14 : decode cX7_power_ 14 = .ok (.invokevirtual 43, 3) := by decide +kernel
theorem dX7_power__17 : decode cX7_power_ 17 = .ok (.ireturn, 1) := by decide +kernel
theorem dX7_power__18 : decode cX7_power_ 18 = .ok (.aload_n 0, 1) := by decide +kernel
theorem dX7_power__19 : decode cX7_power_ 19 = .ok (.getfield 10, 3) := by decide +kernel
theorem dX7_power__22 : decode cX7_power_ 22 = .ok (.getfield 76, 3) := by decide +kernel
theorem dX7_power__25 : decode cX7_power_ 25 = .ok (.aload_n 0, 1) := by decide +kernel
theorem dX7_power__26 : decode cX7_power_ 26 = .ok (.getfield 10, 3) := by decide +kernel
theorem dX7_power__29 : decode cX7_power_ 29 = .ok (.getfield 73, 3) := by decide +kernel
theorem dX7_power__32 : decode cX7_power_ 32 = .ok (.iload_n 1, 1) := by decide +kernel
theorem dX7_power__33 : decode cX7_power_ 33 = .ok (.iload_n 2, 1) := by decide +kernel
theorem dX7_power__34 : decode cX7_power_ 34 = .ok (.ifCond .eq 7, 3) := by decide +kernel
theorem dX7_power__37 : decode cX7_power_ 37 = .ok (.iconst 1, 1) := by decide +kernel
theorem dX7_power__38 : decode cX7_power_ 38 = .ok (.goto 4, 3) := by decide +kernel
theorem dX7_power__41 : decode cX7_power_ 41 = .ok (.iconst 0, 1) := by decide +kernel
theorem dX7_power__42 : decode cX7_power_ 42 = .ok (.invokestatic 89, 3) := by decide +kernel
theorem dX7_power__45 : decode cX7_power_ 45 = .ok (.aload_n 0, 1) := by decide +kernel
theorem dX7_power__46 : decode cX7_power_ 46 = .ok (.getfield 10, 3) := by decide +kernel
theorem dX7_power__49 : decode cX7_power_ 49 = .ok (.getfield 86, 3) := by decide +kernel
theorem dX7_power__52 : decode cX7_power_ 52 = .ok (.aload_n 0, 1) := by decide +kernel
theorem dX7_power__53 : decode cX7_power_ 53 = .ok (.getfield 10, 3) := by decide +kernel
theorem dX7_power__56 : decode cX7_power_ 56 = .ok (.getfield 83, 3) := by decide +kernel
theorem dX7_power__59 : decode cX7_power_ 59 = .ok (.iload_n 1, 1) := by decide +kernel
theorem dX7_power__60 : decode cX7_power_ 60 = .ok (.iload_n 2, 1) := by decide +kernel
theorem dX7_power__61 : decode cX7_power_ 61 = .ok (.ifCond .eq 7, 3) := by decide +kernel
theorem dX7_power__64 : decode cX7_power_ 64 = .ok (.iconst 1, 1) := by decide +kernel
theorem dX7_power__65 : decode cX7_power_ 65 = .ok (.goto 4, 3) := by decide +kernel
theorem dX7_power__68 : decode cX7_power_ 68 = .ok (.iconst 0, 1) := by decide +kernel
theorem dX7_power__69 : decode cX7_power_ 69 = .ok (.invokestatic 89, 3) := by decide +kernel
theorem dX7_power__72 : decode cX7_power_ 72 = .ok (.iadd, 1) := by decide +kernel
theorem dX7_power__73 : decode cX7_power_ 73 = .ok (.ireturn, 1) := by decide +kernel
theorem dX7_key_0 : decode cX7_key 0 = .ok (.aload_n 0, 1) := by decide +kernel
theorem dX7_key_1 : decode cX7_key 1 = .ok (.iconst 0, 1) := by decide +kernel
theorem dX7_key_2 : decode cX7_key 2 = .ok (.putfield 20, 3) := by decide +kernel
theorem dX7_key_5 : decode cX7_key 5 = .ok (.iload_n 1, 1) := by decide +kernel
theorem dX7_key_6 : decode cX7_key 6 = .ok (.iconst 0, 1) := by decide +kernel
theorem dX7_key_7 : decode cX7_key 7 = .ok (.iconst 3, 1) := by decide +kernel
theorem dX7_key_8 : decode cX7_key 8 = .ok (.invokestatic 29, 3) := by decide +kernel
theorem dX7_key_11 : decode cX7_key 11 = .ok (.ifCond .ne 17, 3) := by decide +kernel
theorem dX7_key_14 : decode cX7_key 14 = .ok (.aload_n 0, 1) := by decide +kernel
theorem dX7_key_15 : decode cX7_key 15 = .ok (.iconst 1, 1) := by decide +kernel
theorem dX7_key_16 : decode cX7_key 16 = .ok (.invokevirtual 43, 3) := by decide +kernel
theorem dX7_key_19 : decode cX7_key 19 = .ok (.ifCond .le 7, 3) := by decide +kernel
theorem dX7_key_22 : decode cX7_key 22 = .ok (.iconst 1, 1) := by decide +kernel
theorem dX7_key_23 : decode cX7_key 23 = .ok (.goto 4, 3) := by decide +kernel
theorem dX7_key_26 : decode cX7_key 26 = .ok (.iconst 0, 1) := by decide +kernel
theorem dX7_key_27 : decode cX7_key 27 = .ok (.ireturn, 1) := by decide +kernel
theorem dX7_key_28 : decode cX7_key 28 = .ok (.aload_n 0, 1) := by decide +kernel
theorem dX7_key_29 : decode cX7_key 29 = .ok (.getfield 16, 3) := by decide +kernel
theorem dX7_key_32 : decode cX7_key 32 = .ok (.iload_n 1, 1) := by decide +kernel
theorem dX7_key_33 : decode cX7_key 33 = .ok (.ishr, 1) := by decide +kernel
theorem dX7_key_34 : decode cX7_key 34 = .ok (.iconst 1, 1) := by decide +kernel
theorem dX7_key_35 : decode cX7_key 35 = .ok (.iand, 1) := by decide +kernel
theorem dX7_key_36 : decode cX7_key 36 = .ok (.iconst 1, 1) := by decide +kernel
theorem dX7_key_37 : decode cX7_key 37 = .ok (.if_icmp .ne 7, 3) := by decide +kernel
theorem dX7_key_40 : decode cX7_key 40 = .ok (.iconst 1, 1) := by decide +kernel
theorem dX7_key_41 : decode cX7_key 41 = .ok (.goto 4, 3) := by decide +kernel
theorem dX7_key_44 : decode cX7_key 44 = .ok (.iconst 0, 1) := by decide +kernel
theorem dX7_key_45 : decode cX7_key 45 = .ok (.istore_n 3, 1) := by decide +kernel
theorem dX7_key_46 : decode cX7_key 46 = .ok (.aload_n 0, 1) := by decide +kernel
theorem dX7_key_47 : decode cX7_key 47 = .ok (.iload_n 2, 1) := by decide +kernel
theorem dX7_key_48 : decode cX7_key 48 = .ok (.ifCond .eq 14, 3) := by decide +kernel
theorem dX7_key_51 : decode cX7_key 51 = .ok (.aload_n 0, 1) := by decide +kernel
theorem dX7_key_52 : decode cX7_key 52 = .ok (.getfield 16, 3) := by decide +kernel
theorem dX7_key_55 : decode cX7_key 55 = .ok (.iconst 1, 1) := by decide +kernel
theorem dX7_key_56 : decode cX7_key 56 = .ok (.iload_n 1, 1) := by decide +kernel
theorem dX7_key_57 : decode cX7_key 57 = .ok (.ishl, 1) := by decide +kernel
theorem dX7_key_58 : decode cX7_key 58 = .ok (.ior, 1) := by decide +kernel
theorem dX7_key_59 : decode cX7_key 59 = .ok (.goto 13, 3) := by decide +kernel
theorem dX7_key_62 : decode cX7_key 62 = .ok (.aload_n 0, 1) := by decide +kernel
theorem dX7_key_63 : decode cX7_key 63 = .ok (.getfield 16, 3) := by decide +kernel
theorem dX7_key_66 : decode cX7_key 66 = .ok (.iconst 1, 1) := by decide +kernel
theorem dX7_key_67 : decode cX7_key 67 = .ok (.iload_n 1, 1) := by decide +kernel
theorem dX7_key_68 : decode cX7_key 68 = .ok (.ishl, 1) := by decide +kernel
theorem dX7_key_69 : decode cX7_key 69 = .ok (.iconst (-1), 1) := by decide +kernel
theorem dX7_key_70 : decode cX7_key 70 = .ok (.ixor, 1) := by decide +kernel
theorem dX7_key_71 : decode cX7_key 71 = .ok (.iand, 1) := by decide +kernel
theorem dX7_key_72 : decode cX7_key 72 = .ok (.putfield 16, 3) := by decide +kernel
theorem dX7_key_75 : decode cX7_key 75 = .ok (.iload_n 3, 1) := by decide +kernel
theorem dX7_key_76 : decode cX7_key 76 = .ok (.ireturn, 1) := by decide +kernel
theorem dX7_inForce_0 : decode cX7_inForce 0 = .ok (.aload_n 0, 1) := by decide +kernel
theorem dX7_inForce_1 : decode cX7_inForce 1 = .ok (.iconst 0, 1) := by decide +kernel
theorem dX7_inForce_2 : decode cX7_inForce 2 = .ok (.putfield 20, 3) := by decide +kernel
theorem dX7_inForce_5 : decode cX7_inForce 5 = .ok (.iload_n 1, 1) := by decide +kernel
theorem dX7_inForce_6 : decode cX7_inForce 6 = .ok (.invokestatic 39, 3) := by decide +kernel
theorem dX7_inForce_9 : decode cX7_inForce 9 = .ok (.ifCond .ne 9, 3) := by decide +kernel
theorem dX7_inForce_12 : decode cX7_inForce 12 = .ok (.aload_n 0, 1) := by decide +kernel
theorem dX7_inForce_13 : decode cX7_inForce 13 = .ok (.iconst 1, 1) := by decide +kernel
theorem dX7_inForce_14 : decode cX7_inForce 14 = .ok (.invokevirtual 43, 3) := by decide +kernel
theorem dX7_inForce_17 : decode cX7_inForce 17 = .ok (.ireturn, 1) := by decide +kernel
theorem dX7_inForce_18 : decode cX7_inForce 18 = .ok (.aload_n 0, 1) := by decide +kernel
theorem dX7_inForce_19 : decode cX7_inForce 19 = .ok (.iload_n 1, 1) := by decide +kernel
theorem dX7_inForce_20 : decode cX7_inForce 20 = .ok (.invokevirtual 163, 3) := by decide +kernel
theorem dX7_inForce_23 : decode cX7_inForce 23 = .ok (.ireturn, 1) := by decide +kernel
theorem dX7_until_0 : decode cX7_until 0 = .ok (.aload_n 0, 1) := by decide +kernel
theorem dX7_until_1 : decode cX7_until 1 = .ok (.iconst 0, 1) := by decide +kernel
theorem dX7_until_2 : decode cX7_until 2 = .ok (.putfield 20, 3) := by decide +kernel
theorem dX7_until_5 : decode cX7_until 5 = .ok (.iload_n 1, 1) := by decide +kernel
theorem dX7_until_6 : decode cX7_until 6 = .ok (.iconst 0, 1) := by decide +kernel
theorem dX7_until_7 : decode cX7_until 7 = .ok (.bipush 23, 2) := by decide +kernel
theorem dX7_until_9 : decode cX7_until 9 = .ok (.invokestatic 29, 3) := by decide +kernel
theorem dX7_until_12 : decode cX7_until 12 = .ok (.ifCond .ne 9, 3) := by decide +kernel
theorem dX7_until_15 : decode cX7_until 15 = .ok (.aload_n 0, 1) := by decide +kernel
theorem dX7_until_16 : decode cX7_until 16 = .ok (.iconst 1, 1) := by decide +kernel
theorem dX7_until_17 : decode cX7_until 17 = .ok (.invokevirtual 43, 3) := by decide +kernel
theorem dX7_until_20 : decode cX7_until 20 = .ok (.ireturn, 1) := by decide +kernel
theorem dX7_until_21 : decode cX7_until 21 = .ok (.aload_n 0, 1) := by decide +kernel
theorem dX7_until_22 : decode cX7_until 22 = .ok (.getfield 10, 3) := by decide +kernel
theorem dX7_until_25 : decode cX7_until 25 = .ok (.getfield 100, 3) := by decide +kernel
theorem dX7_until_28 : decode cX7_until 28 = .ok (.iconst 1, 1) := by decide +kernel
theorem dX7_until_29 : decode cX7_until 29 = .ok (.iadd, 1) := by decide +kernel
theorem dX7_until_30 : decode cX7_until 30 = .ok (.istore_n 2, 1) := by decide +kernel
theorem dX7_until_31 : decode cX7_until 31 = .ok (.iload_n 2, 1) := by decide +kernel
theorem dX7_until_32 : decode cX7_until 32 = .ok (.bipush 60, 2) := by decide +kernel
theorem dX7_until_34 : decode cX7_until 34 = .ok (.irem, 1) := by decide +kernel
theorem dX7_until_35 : decode cX7_until 35 = .ok (.ifCond .gt 14, 3) := by decide +kernel
theorem dX7_until_38 : decode cX7_until 38 = .ok (.iload_n 2, 1) := by decide +kernel
theorem dX7_until_39 : decode cX7_until 39 = .ok (.bipush 60, 2) := by decide +kernel
theorem dX7_until_41 : decode cX7_until 41 = .ok (.idiv, 1) := by decide +kernel
theorem dX7_until_42 : decode cX7_until 42 = .ok (.bipush 24, 2) := by decide +kernel
theorem dX7_until_44 : decode cX7_until 44 = .ok (.irem, 1) := by decide +kernel
theorem dX7_until_45 : decode cX7_until 45 = .ok (.iload_n 1, 1) := by decide +kernel
theorem dX7_until_46 : decode cX7_until 46 = .ok (.if_icmp .eq 9, 3) := by decide +kernel
theorem dX7_until_49 : decode cX7_until 49 = .ok (.iinc 2 1, 3) := by decide +kernel
theorem dX7_until_52 : decode cX7_until 52 = .ok (.goto (-21), 3) := by decide +kernel
theorem dX7_until_55 : decode cX7_until 55 = .ok (.aload_n 0, 1) := by decide +kernel
theorem dX7_until_56 : decode cX7_until 56 = .ok (.invokevirtual 151, 3) := by decide +kernel
theorem dX7_until_59 : decode cX7_until 59 = .ok (.ifCond .gt 10, 3) := by decide +kernel
theorem dX7_until_62 : decode cX7_until 62 = .ok (.iload_n 2, 1) := by decide +kernel
theorem dX7_until_63 : decode cX7_until 63 = .ok (.sipush 9999, 3) := by decide +kernel
theorem dX7_until_66 : decode cX7_until 66 = .ok (.if_icmp .le 9, 3) := by decide +kernel
theorem dX7_until_69 : decode cX7_until 69 = .ok (.aload_n 0, 1) := by decide +kernel
theorem dX7_until_70 : decode cX7_until 70 = .ok (.iconst 2, 1) := by decide +kernel
theorem dX7_until_71 : decode cX7_until 71 = .ok (.invokevirtual 43, 3) := by decide +kernel
theorem dX7_until_74 : decode cX7_until 74 = .ok (.ireturn, 1) := by decide +kernel
theorem dX7_until_75 : decode cX7_until 75 = .ok (.aload_n 0, 1) := by decide +kernel
theorem dX7_until_76 : decode cX7_until 76 = .ok (.getfield 10, 3) := by decide +kernel
theorem dX7_until_79 : decode cX7_until 79 = .ok (.iload_n 2, 1) := by decide +kernel
theorem dX7_until_80 : decode cX7_until 80 = .ok (.putfield 100, 3) := by decide +kernel
theorem dX7_until_83 : decode cX7_until 83 = .ok (.iload_n 2, 1) := by decide +kernel
theorem dX7_until_84 : decode cX7_until 84 = .ok (.ireturn, 1) := by decide +kernel
/-! .. key, power, until, inForce -/
theorem wi_c24 : ∀ k, k < 24 → wu (nI k) = nI (if k = 0 then 1440 else 60 * k) := by decide +kernel
def jRem (t : Int32) : Int32 := t - t / 60 * 60
theorem wu_step : ∀ j, j < 1441 → 0 < jRem (nI j) ∨ (jRem (nI j) = 0 ∧ j = 60 * (j / 60) ∧ jHour (nI j) = nI (j / 60 % 24)) := by decide +kernel
theorem nI_inj {a b : Nat} (ha : a < 2147483648) (hb : b < 2147483648) (h : nI a = nI b) : a = b := by
  rw [← nI_clamp (by omega : a < 2147483648), ← nI_clamp (by omega : b < 2147483648), h]
/-- on the way to the hour's minute, and there -/
theorem wu_way {k j : Nat} (hk : k < 24) (h1 : 1 ≤ j) (hj : j < (if k = 0 then 1440 else 60 * k)) : 0 < jRem (nI j) ∨ ¬ jHour (nI j) = nI k := by
  have hb : j < 1441 := by split at hj <;> omega
  rcases wu_step j hb with h | ⟨-, h2, h3⟩
  · exact Or.inl h
  · refine Or.inr (fun z => ?_)
    have e : j / 60 % 24 = k := nI_inj (by omega) (by omega) (h3.symm.trans z)
    split at hj <;> omega
theorem wu_there {k : Nat} (hk : k < 24) : ¬ 0 < jRem (nI (if k = 0 then 1440 else 60 * k)) ∧ jHour (nI (if k = 0 then 1440 else 60 * k)) = nI k := by
  have key : ∀ k, k < 24 → ¬ 0 < jRem (nI (if k = 0 then 1440 else 60 * k)) ∧ jHour (nI (if k = 0 then 1440 else 60 * k)) = nI k := by decide +kernel
  exact key k hk
def sp_X7_inForceNow : vgC := fun av σ => match av with
  | [.inr (40, 0, 0)] => (σ (41, 0, 0) 10 = 0, some (.inl (.int 0)), σ)
  | _ => (False, none, σ)
def k_X7_inForceNow : List (Nat × vgF) := [(0, vi_icst (0) 1), (1, vi_istore 1 2), (2, vi_icst (0) 3), (3, vi_istore 2 4), (4, vi_iload 2 5), (5, vi_aload 0 6), (6, vi_get mm_shp 0 1 9), (9, vi_get mm_shp 1 10 12), (12, vi_cmp (fun x y => y ≤ x) 40 15), (15, vi_iload 1 16), (16, vi_aload 0 17), (17, vi_get mm_shp 0 1 20), (20, vi_iload 2 21), (21, vi_no), (24, vi_if (fun x => x = 0) 31 27), (27, vi_icst (1) 28), (28, vi_goto 32), (31, vi_icst (0) 32), (32, vi_bin (fun x y => x + y) 33), (33, vi_istore 1 34), (34, vi_iinc 2 (1) 37), (37, vi_goto 4), (40, vi_iload 1 41), (41, vi_ret)]
set_option maxRecDepth 20000 in
theorem s_X7_inForceNow {nm : List vgN} (hcl : vg_closed mm_shp nm) : ∀ q ∈ k_X7_inForceNow, vg_Snd ww_tb [] mm_shp nm mm_cl mm_tyl cX7_inForceNow 3 RX7 (some .int) 0 q.1 q.2 := by
  refine vg_cons (vs_iconst dX7_inForceNow_0 rfl rfl) ?_
  refine vg_cons (vs_istore_n dX7_inForceNow_1 rfl (by decide) rfl) ?_
  refine vg_cons (vs_iconst dX7_inForceNow_2 rfl rfl) ?_
  refine vg_cons (vs_istore_n dX7_inForceNow_3 rfl (by decide) rfl) ?_
  refine vg_cons (vs_iload_n dX7_inForceNow_4 rfl rfl) ?_
  refine vg_cons (vs_aload_n dX7_inForceNow_5 rfl rfl) ?_
  refine vg_cons (vs_getfield (T := TX7) dX7_inForceNow_6 rfl (by decide) mm_inX7 u_202 rfl) ?_
  refine vg_cons (vs_getfield (T := TX6) dX7_inForceNow_9 rfl (by decide) mm_inX6 u_204 rfl) ?_
  refine vg_cons (vs_cmp_ge dX7_inForceNow_12 (by decide) rfl) ?_
  refine vg_cons (vs_iload_n dX7_inForceNow_15 rfl rfl) ?_
  refine vg_cons (vs_aload_n dX7_inForceNow_16 rfl rfl) ?_
  refine vg_cons (vs_getfield (T := TX7) dX7_inForceNow_17 rfl (by decide) mm_inX7 u_202 rfl) ?_
  refine vg_cons (vs_iload_n dX7_inForceNow_20 rfl rfl) ?_
  refine vg_cons (vs_no) ?_
  refine vg_cons (vs_if_eq dX7_inForceNow_24 (by decide) rfl) ?_
  refine vg_cons (vs_iconst dX7_inForceNow_27 rfl rfl) ?_
  refine vg_cons (vs_goto dX7_inForceNow_28 (by decide)) ?_
  refine vg_cons (vs_iconst dX7_inForceNow_31 rfl rfl) ?_
  refine vg_cons (vs_iadd dX7_inForceNow_32 rfl) ?_
  refine vg_cons (vs_istore_n dX7_inForceNow_33 rfl (by decide) rfl) ?_
  refine vg_cons (vs_iinc dX7_inForceNow_34 rfl rfl) ?_
  refine vg_cons (vs_goto dX7_inForceNow_37 (by decide)) ?_
  refine vg_cons (vs_iload_n dX7_inForceNow_40 rfl rfl) ?_
  refine vg_cons (vs_ireturn dX7_inForceNow_41 rfl) ?_
  exact fun _ h => absurd h List.not_mem_nil
theorem m_X7_inForceNow : vg_Code k_X7_inForceNow := fun q h => (s_X7_inForceNow (nm := []) (fun n hn => nomatch hn) q h).1

theorem w_X7_inForceNow : vg_Wd sp_X7_inForceNow 3 := by
  intro av σ h
  unfold sp_X7_inForceNow at h
  split at h
  · exact Nat.le_of_ble_eq_true rfl
  · exact h.elim
theorem g_X7_inForceNow : vg_G k_X7_inForceNow sp_X7_inForceNow := by
  intro av σ h
  unfold sp_X7_inForceNow at h ⊢
  split at h
  next =>
    have h1 : σ (41, 0, 0) 10 = 0 := h
    refine vg_run (cuts := []) m_X7_inForceNow 20 ?_
    exact And.intro (fun _ => ⟨rfl, rfl⟩) (fun z => absurd (show σ (41, 0, 0) 10 ≤ 0 by rw [h1]; decide) z)
  next => exact h.elim
theorem c_X7_inForceNow {nm : List vgN} (hcl : vg_closed mm_shp nm) : vg_MetF ww_tb [] mm_shp nm mm_cl mm_tyl yX7_inForceNow cX7_inForceNow 3 (some .int) 0 sp_X7_inForceNow := vg_met hcl (by decide +kernel) rfl (s_X7_inForceNow hcl) w_X7_inForceNow g_X7_inForceNow
def sp_X7_forceNow : vgC := fun av σ => match av with
  | [.inr (40, 0, 0), .inl (.int c)] => (σ (41, 0, 0) 10 = 0, some (.inl (.int (-1))), σ)
  | _ => (False, none, σ)
def k_X7_forceNow : List (Nat × vgF) := [(0, vi_aload 0 1), (1, vi_get mm_shp 0 1 4), (4, vi_get mm_shp 1 10 7), (7, vi_icst (1) 8), (8, vi_bin (fun x y => x - y) 9), (9, vi_istore 2 10), (10, vi_iload 2 11), (11, vi_if (fun x => x < 0) 52 14), (14, vi_aload 0 15), (15, vi_get mm_shp 0 1 18), (18, vi_iload 2 19), (19, vi_no), (22, vi_if (fun x => x = 0) 46 25), (25, vi_aload 0 26), (26, vi_get mm_shp 0 1 29), (29, vi_get mm_shp 1 1 32), (32, vi_iload 2 33), (33, vi_aald mm_shp 2 34), (34, vi_icst (2) 35), (35, vi_ald mm_shp 0 36), (36, vi_iload 1 37), (37, vi_bin (fun x y => x >>> (y &&& 31)) 38), (38, vi_icst (1) 39), (39, vi_bin (fun x y => x &&& y) 40), (40, vi_icst (1) 41), (41, vi_cmp (fun x y => x = y) 44 46), (44, vi_iload 2 45), (45, vi_ret), (46, vi_iinc 2 (-1) 49), (49, vi_goto 10), (52, vi_icst (-1) 53), (53, vi_ret)]
set_option maxRecDepth 20000 in
theorem s_X7_forceNow {nm : List vgN} (hcl : vg_closed mm_shp nm) : ∀ q ∈ k_X7_forceNow, vg_Snd ww_tb [] mm_shp nm mm_cl mm_tyl cX7_forceNow 3 RX7 (some .int) 0 q.1 q.2 := by
  refine vg_cons (vs_aload_n dX7_forceNow_0 rfl rfl) ?_
  refine vg_cons (vs_getfield (T := TX7) dX7_forceNow_1 rfl (by decide) mm_inX7 u_202 rfl) ?_
  refine vg_cons (vs_getfield (T := TX6) dX7_forceNow_4 rfl (by decide) mm_inX6 u_204 rfl) ?_
  refine vg_cons (vs_iconst dX7_forceNow_7 rfl rfl) ?_
  refine vg_cons (vs_isub dX7_forceNow_8 rfl) ?_
  refine vg_cons (vs_istore_n dX7_forceNow_9 rfl (by decide) rfl) ?_
  refine vg_cons (vs_iload_n dX7_forceNow_10 rfl rfl) ?_
  refine vg_cons (vs_if_lt dX7_forceNow_11 (by decide) rfl) ?_
  refine vg_cons (vs_aload_n dX7_forceNow_14 rfl rfl) ?_
  refine vg_cons (vs_getfield (T := TX7) dX7_forceNow_15 rfl (by decide) mm_inX7 u_202 rfl) ?_
  refine vg_cons (vs_iload_n dX7_forceNow_18 rfl rfl) ?_
  refine vg_cons (vs_no) ?_
  refine vg_cons (vs_if_eq dX7_forceNow_22 (by decide) rfl) ?_
  refine vg_cons (vs_aload_n dX7_forceNow_25 rfl rfl) ?_
  refine vg_cons (vs_getfield (T := TX7) dX7_forceNow_26 rfl (by decide) mm_inX7 u_202 rfl) ?_
  refine vg_cons (vs_getfield (T := TX6) dX7_forceNow_29 rfl (by decide) mm_inX6 u_233 rfl) ?_
  refine vg_cons (vs_iload_n dX7_forceNow_32 rfl rfl) ?_
  refine vg_cons (vs_aaloadA dX7_forceNow_33 rfl rfl rfl) ?_
  refine vg_cons (vs_iconst dX7_forceNow_34 rfl rfl) ?_
  refine vg_cons (vs_iaload dX7_forceNow_35 rfl rfl) ?_
  refine vg_cons (vs_iload_n dX7_forceNow_36 rfl rfl) ?_
  refine vg_cons (vs_ishr dX7_forceNow_37 rfl) ?_
  refine vg_cons (vs_iconst dX7_forceNow_38 rfl rfl) ?_
  refine vg_cons (vs_iand dX7_forceNow_39 rfl) ?_
  refine vg_cons (vs_iconst dX7_forceNow_40 rfl rfl) ?_
  refine vg_cons (vs_cmp_ne dX7_forceNow_41 (by decide) rfl) ?_
  refine vg_cons (vs_iload_n dX7_forceNow_44 rfl rfl) ?_
  refine vg_cons (vs_ireturn dX7_forceNow_45 rfl) ?_
  refine vg_cons (vs_iinc dX7_forceNow_46 rfl rfl) ?_
  refine vg_cons (vs_goto dX7_forceNow_49 (by decide)) ?_
  refine vg_cons (vs_iconst dX7_forceNow_52 rfl rfl) ?_
  refine vg_cons (vs_ireturn dX7_forceNow_53 rfl) ?_
  exact fun _ h => absurd h List.not_mem_nil
theorem m_X7_forceNow : vg_Code k_X7_forceNow := fun q h => (s_X7_forceNow (nm := []) (fun n hn => nomatch hn) q h).1

theorem w_X7_forceNow : vg_Wd sp_X7_forceNow 3 := by
  intro av σ h
  unfold sp_X7_forceNow at h
  split at h
  · exact Nat.le_of_ble_eq_true rfl
  · exact h.elim
theorem g_X7_forceNow : vg_G k_X7_forceNow sp_X7_forceNow := by
  intro av σ h
  unfold sp_X7_forceNow at h ⊢
  split at h
  next c =>
    have h1 : σ (41, 0, 0) 10 = 0 := h
    refine vg_run (cuts := []) m_X7_forceNow 20 ?_
    exact And.intro (fun _ => ⟨rfl, rfl⟩) (fun z => absurd (show σ (41, 0, 0) 10 - 1 < 0 by rw [h1]; decide) z)
  next => exact h.elim
theorem c_X7_forceNow {nm : List vgN} (hcl : vg_closed mm_shp nm) : vg_MetF ww_tb [] mm_shp nm mm_cl mm_tyl yX7_forceNow cX7_forceNow 3 (some .int) 0 sp_X7_forceNow := vg_met hcl (by decide +kernel) rfl (s_X7_forceNow hcl) w_X7_forceNow g_X7_forceNow
def sp_X7_power : vgC := fun av σ => match av with
  | [.inr (46, b, i), .inl (.int n), .inl (.int c), .inl (.int d)] => (n = 0, some (.inl (.int 0)), σ)
  | [.inr (47, b, i), .inl (.int n), .inl (.int c), .inl (.int d)] => (n = 0, some (.inl (.int 0)), σ)
  | _ => (False, none, σ)
def k_X7_power : List (Nat × vgF) := [(0, vi_icst (0) 1), (1, vi_istore 4 3), (3, vi_icst (0) 4), (4, vi_istore 5 6), (6, vi_iload 5 8), (8, vi_iload 1 9), (9, vi_cmp (fun x y => y ≤ x) 51 12), (12, vi_aload 0 13), (13, vi_iload 5 15), (15, vi_aald mm_shp 2 16), (16, vi_icst (0) 17), (17, vi_ald mm_shp 0 18), (18, vi_iload 2 19), (19, vi_cmp (fun x y => x = y) 22 45), (22, vi_aload 0 23), (23, vi_iload 5 25), (25, vi_aald mm_shp 2 26), (26, vi_icst (2) 27), (27, vi_ald mm_shp 0 28), (28, vi_iload 3 29), (29, vi_cmp (fun x y => x = y) 32 35), (32, vi_goto 45), (35, vi_aload 0 36), (36, vi_iload 5 38), (38, vi_aald mm_shp 2 39), (39, vi_icst (2) 40), (40, vi_iload 3 41), (41, vi_ast mm_shp 0 42), (42, vi_iinc 4 (1) 45), (45, vi_iinc 5 (1) 48), (48, vi_goto 6), (51, vi_iload 4 53), (53, vi_ret)]
set_option maxRecDepth 20000 in
theorem s_X7_power {nm : List vgN} (hcl : vg_closed mm_shp nm) : ∀ q ∈ k_X7_power, vg_Snd ww_tb [] mm_shp nm mm_cl mm_tyl cX7_power 6 RX7 (some .int) 0 q.1 q.2 := by
  refine vg_cons (vs_iconst dX7_power_0 rfl rfl) ?_
  refine vg_cons (vs_istore dX7_power_1 (by decide) rfl) ?_
  refine vg_cons (vs_iconst dX7_power_3 rfl rfl) ?_
  refine vg_cons (vs_istore dX7_power_4 (by decide) rfl) ?_
  refine vg_cons (vs_iload dX7_power_6 rfl) ?_
  refine vg_cons (vs_iload_n dX7_power_8 rfl rfl) ?_
  refine vg_cons (vs_cmp_ge dX7_power_9 (by decide) rfl) ?_
  refine vg_cons (vs_aload_n dX7_power_12 rfl rfl) ?_
  refine vg_cons (vs_iload dX7_power_13 rfl) ?_
  refine vg_cons (vs_aaloadA dX7_power_15 rfl rfl rfl) ?_
  refine vg_cons (vs_iconst dX7_power_16 rfl rfl) ?_
  refine vg_cons (vs_iaload dX7_power_17 rfl rfl) ?_
  refine vg_cons (vs_iload_n dX7_power_18 rfl rfl) ?_
  refine vg_cons (vs_cmp_ne dX7_power_19 (by decide) rfl) ?_
  refine vg_cons (vs_aload_n dX7_power_22 rfl rfl) ?_
  refine vg_cons (vs_iload dX7_power_23 rfl) ?_
  refine vg_cons (vs_aaloadA dX7_power_25 rfl rfl rfl) ?_
  refine vg_cons (vs_iconst dX7_power_26 rfl rfl) ?_
  refine vg_cons (vs_iaload dX7_power_27 rfl rfl) ?_
  refine vg_cons (vs_iload_n dX7_power_28 rfl rfl) ?_
  refine vg_cons (vs_cmp_ne dX7_power_29 (by decide) rfl) ?_
  refine vg_cons (vs_goto dX7_power_32 (by decide)) ?_
  refine vg_cons (vs_aload_n dX7_power_35 rfl rfl) ?_
  refine vg_cons (vs_iload dX7_power_36 rfl) ?_
  refine vg_cons (vs_aaloadA dX7_power_38 rfl rfl rfl) ?_
  refine vg_cons (vs_iconst dX7_power_39 rfl rfl) ?_
  refine vg_cons (vs_iload_n dX7_power_40 rfl rfl) ?_
  refine vg_cons (vs_iastore dX7_power_41 rfl rfl) ?_
  refine vg_cons (vs_iinc dX7_power_42 rfl rfl) ?_
  refine vg_cons (vs_iinc dX7_power_45 rfl rfl) ?_
  refine vg_cons (vs_goto dX7_power_48 (by decide)) ?_
  refine vg_cons (vs_iload dX7_power_51 rfl) ?_
  refine vg_cons (vs_ireturn dX7_power_53 rfl) ?_
  exact fun _ h => absurd h List.not_mem_nil
theorem m_X7_power : vg_Code k_X7_power := fun q h => (s_X7_power (nm := []) (fun n hn => nomatch hn) q h).1

theorem w_X7_power : vg_Wd sp_X7_power 6 := by
  intro av σ h
  unfold sp_X7_power at h
  split at h
  · exact Nat.le_of_ble_eq_true rfl
  · exact Nat.le_of_ble_eq_true rfl
  · exact h.elim
theorem g_X7_power : vg_G k_X7_power sp_X7_power := by
  intro av σ h
  unfold sp_X7_power at h ⊢
  split at h
  next b i n c d =>
    have h1 : n = 0 := h
    subst h1
    refine vg_run (cuts := []) m_X7_power 20 ?_
    exact And.intro (fun _ => ⟨rfl, rfl⟩) (fun z => absurd (Int32.le_refl 0) z)
  next b i n c d =>
    have h1 : n = 0 := h
    subst h1
    refine vg_run (cuts := []) m_X7_power 20 ?_
    exact And.intro (fun _ => ⟨rfl, rfl⟩) (fun z => absurd (Int32.le_refl 0) z)
  next => exact h.elim
theorem c_X7_power {nm : List vgN} (hcl : vg_closed mm_shp nm) : vg_MetF ww_tb [] mm_shp nm mm_cl mm_tyl yX7_power cX7_power 6 (some .int) 0 sp_X7_power := vg_met hcl (by decide +kernel) rfl (s_X7_power hcl) w_X7_power g_X7_power
def sp_X6_isDanger : vgC := fun av σ => match av with
  | [.inr (41, b, 0), .inl (.int c)] => (vp_in c 16 ∧ σ (48, b, 0) c.toNatClampNeg = -1, some (.inl (.int 0)), σ)
  | _ => (False, none, σ)
def k_X6_isDanger : List (Nat × vgF) := [(0, vi_aload 0 1), (1, vi_get mm_shp 1 6 4), (4, vi_iload 1 5), (5, vi_ald mm_shp 0 6), (6, vi_icst (-1) 7), (7, vi_cmp (fun x y => x = y) 27 10), (10, vi_aload 0 11), (11, vi_get mm_shp 1 6 14), (14, vi_iload 1 15), (15, vi_ald mm_shp 0 16), (16, vi_aload 0 17), (17, vi_get mm_shp 1 8 20), (20, vi_cmp (fun x y => y < x) 27 23), (23, vi_icst (1) 24), (24, vi_goto 28), (27, vi_icst (0) 28), (28, vi_retZ)]
set_option maxRecDepth 20000 in
theorem s_X6_isDanger {nm : List vgN} (hcl : vg_closed mm_shp nm) : ∀ q ∈ k_X6_isDanger, vg_Snd ww_tb [] mm_shp nm mm_cl mm_tyl cX6_isDanger 2 RX6 (some .boolean) 0 q.1 q.2 := by
  refine vg_cons (vs_aload_n dX6_isDanger_0 rfl rfl) ?_
  refine vg_cons (vs_getfield (T := TX6) dX6_isDanger_1 rfl (by decide) mm_inX6 u_234 rfl) ?_
  refine vg_cons (vs_iload_n dX6_isDanger_4 rfl rfl) ?_
  refine vg_cons (vs_iaload dX6_isDanger_5 rfl rfl) ?_
  refine vg_cons (vs_iconst dX6_isDanger_6 rfl rfl) ?_
  refine vg_cons (vs_cmp_eq dX6_isDanger_7 (by decide) rfl) ?_
  refine vg_cons (vs_aload_n dX6_isDanger_10 rfl rfl) ?_
  refine vg_cons (vs_getfield (T := TX6) dX6_isDanger_11 rfl (by decide) mm_inX6 u_234 rfl) ?_
  refine vg_cons (vs_iload_n dX6_isDanger_14 rfl rfl) ?_
  refine vg_cons (vs_iaload dX6_isDanger_15 rfl rfl) ?_
  refine vg_cons (vs_aload_n dX6_isDanger_16 rfl rfl) ?_
  refine vg_cons (vs_getfield (T := TX6) dX6_isDanger_17 rfl (by decide) mm_inX6 u_235 rfl) ?_
  refine vg_cons (vs_cmp_gt dX6_isDanger_20 (by decide) rfl) ?_
  refine vg_cons (vs_iconst dX6_isDanger_23 rfl rfl) ?_
  refine vg_cons (vs_goto dX6_isDanger_24 (by decide)) ?_
  refine vg_cons (vs_iconst dX6_isDanger_27 rfl rfl) ?_
  refine vg_cons (vs_zreturn dX6_isDanger_28 rfl) ?_
  exact fun _ h => absurd h List.not_mem_nil
theorem m_X6_isDanger : vg_Code k_X6_isDanger := fun q h => (s_X6_isDanger (nm := []) (fun n hn => nomatch hn) q h).1

theorem w_X6_isDanger : vg_Wd sp_X6_isDanger 2 := by
  intro av σ h
  unfold sp_X6_isDanger at h
  split at h
  · exact Nat.le_of_ble_eq_true rfl
  · exact h.elim
theorem g_X6_isDanger : vg_G k_X6_isDanger sp_X6_isDanger := by
  intro av σ h
  unfold sp_X6_isDanger at h ⊢
  split at h
  next b c =>
    refine vg_run (cuts := []) m_X6_isDanger 20 ?_
    exact And.intro h.1 (And.intro (fun _ => And.intro (Or.inl rfl) ⟨rfl, rfl⟩) (fun z => absurd h.2 z))
  next => exact h.elim
theorem c_X6_isDanger {nm : List vgN} (hcl : vg_closed mm_shp nm) : vg_MetF ww_tb [] mm_shp nm mm_cl mm_tyl yX6_isDanger cX6_isDanger 2 (some .boolean) 0 sp_X6_isDanger := vg_met hcl (by decide +kernel) rfl (s_X6_isDanger hcl) w_X6_isDanger g_X6_isDanger
def sp_X6_believers : vgC := fun av σ => match av with
  | [.inr (41, b, 0)] => (σ (41, b, 0) 9 = 0, some (.inl (.int 0)), σ)
  | _ => (False, none, σ)
def k_X6_believers : List (Nat × vgF) := [(0, vi_icst (0) 1), (1, vi_istore 1 2), (2, vi_icst (0) 3), (3, vi_istore 2 4), (4, vi_iload 2 5), (5, vi_aload 0 6), (6, vi_get mm_shp 1 9 9), (9, vi_cmp (fun x y => y ≤ x) 42 12), (12, vi_iload 1 13), (13, vi_aload 0 14), (14, vi_iload 2 15), (15, vi_no), (18, vi_icst (-1) 19), (19, vi_cmp (fun x y => x = y) 22 26), (22, vi_icst (0) 23), (23, vi_goto 34), (26, vi_aload 0 27), (27, vi_get mm_shp 1 0 30), (30, vi_iload 2 31), (31, vi_aald mm_shp 2 32), (32, vi_icst (1) 33), (33, vi_ald mm_shp 0 34), (34, vi_bin (fun x y => x + y) 35), (35, vi_istore 1 36), (36, vi_iinc 2 (1) 39), (39, vi_goto 4), (42, vi_iload 1 43), (43, vi_ret)]
set_option maxRecDepth 20000 in
theorem s_X6_believers {nm : List vgN} (hcl : vg_closed mm_shp nm) : ∀ q ∈ k_X6_believers, vg_Snd ww_tb [] mm_shp nm mm_cl mm_tyl cX6_believers 3 RX6 (some .int) 0 q.1 q.2 := by
  refine vg_cons (vs_iconst dX6_believers_0 rfl rfl) ?_
  refine vg_cons (vs_istore_n dX6_believers_1 rfl (by decide) rfl) ?_
  refine vg_cons (vs_iconst dX6_believers_2 rfl rfl) ?_
  refine vg_cons (vs_istore_n dX6_believers_3 rfl (by decide) rfl) ?_
  refine vg_cons (vs_iload_n dX6_believers_4 rfl rfl) ?_
  refine vg_cons (vs_aload_n dX6_believers_5 rfl rfl) ?_
  refine vg_cons (vs_getfield (T := TX6) dX6_believers_6 rfl (by decide) mm_inX6 u_236 rfl) ?_
  refine vg_cons (vs_cmp_ge dX6_believers_9 (by decide) rfl) ?_
  refine vg_cons (vs_iload_n dX6_believers_12 rfl rfl) ?_
  refine vg_cons (vs_aload_n dX6_believers_13 rfl rfl) ?_
  refine vg_cons (vs_iload_n dX6_believers_14 rfl rfl) ?_
  refine vg_cons (vs_no) ?_
  refine vg_cons (vs_iconst dX6_believers_18 rfl rfl) ?_
  refine vg_cons (vs_cmp_ne dX6_believers_19 (by decide) rfl) ?_
  refine vg_cons (vs_iconst dX6_believers_22 rfl rfl) ?_
  refine vg_cons (vs_goto dX6_believers_23 (by decide)) ?_
  refine vg_cons (vs_aload_n dX6_believers_26 rfl rfl) ?_
  refine vg_cons (vs_getfield (T := TX6) dX6_believers_27 rfl (by decide) mm_inX6 u_237 rfl) ?_
  refine vg_cons (vs_iload_n dX6_believers_30 rfl rfl) ?_
  refine vg_cons (vs_aaloadA dX6_believers_31 rfl rfl rfl) ?_
  refine vg_cons (vs_iconst dX6_believers_32 rfl rfl) ?_
  refine vg_cons (vs_iaload dX6_believers_33 rfl rfl) ?_
  refine vg_cons (vs_iadd dX6_believers_34 rfl) ?_
  refine vg_cons (vs_istore_n dX6_believers_35 rfl (by decide) rfl) ?_
  refine vg_cons (vs_iinc dX6_believers_36 rfl rfl) ?_
  refine vg_cons (vs_goto dX6_believers_39 (by decide)) ?_
  refine vg_cons (vs_iload_n dX6_believers_42 rfl rfl) ?_
  refine vg_cons (vs_ireturn dX6_believers_43 rfl) ?_
  exact fun _ h => absurd h List.not_mem_nil
theorem m_X6_believers : vg_Code k_X6_believers := fun q h => (s_X6_believers (nm := []) (fun n hn => nomatch hn) q h).1

theorem w_X6_believers : vg_Wd sp_X6_believers 3 := by
  intro av σ h
  unfold sp_X6_believers at h
  split at h
  · exact Nat.le_of_ble_eq_true rfl
  · exact h.elim
theorem g_X6_believers : vg_G k_X6_believers sp_X6_believers := by
  intro av σ h
  unfold sp_X6_believers at h ⊢
  split at h
  next b =>
    have h1 : σ (41, b, 0) 9 = 0 := h
    refine vg_run (cuts := []) m_X6_believers 20 ?_
    exact And.intro (fun _ => ⟨rfl, rfl⟩) (fun z => absurd (show σ (41, b, 0) 9 ≤ 0 by rw [h1]; decide) z)
  next => exact h.elim
theorem c_X6_believers {nm : List vgN} (hcl : vg_closed mm_shp nm) : vg_MetF ww_tb [] mm_shp nm mm_cl mm_tyl yX6_believers cX6_believers 3 (some .int) 0 sp_X6_believers := vg_met hcl (by decide +kernel) rfl (s_X6_believers hcl) w_X6_believers g_X6_believers
def k_X7_power_ : List (Nat × vgF) := [(0, vi_aload 0 1), (1, vi_icst (0) 2), (2, vi_put mm_shp 0 0 5), (5, vi_iload 1 6), (6, vi_callS sp_X7_isCell 1 9), (9, vi_if (fun x => x = 0) 12 18), (12, vi_aload 0 13), (13, vi_icst (1) 14), (14, vi_callV mm_shp 0 sp_X7_no 1 17), (17, vi_ret), (18, vi_aload 0 19), (19, vi_get mm_shp 0 1 22), (22, vi_get mm_shp 1 4 25), (25, vi_aload 0 26), (26, vi_get mm_shp 0 1 29), (29, vi_get mm_shp 1 12 32), (32, vi_iload 1 33), (33, vi_iload 2 34), (34, vi_if (fun x => x = 0) 41 37), (37, vi_icst (1) 38), (38, vi_goto 42), (41, vi_icst (0) 42), (42, vi_callS sp_X7_power 4 45), (45, vi_aload 0 46), (46, vi_get mm_shp 0 1 49), (49, vi_get mm_shp 1 5 52), (52, vi_aload 0 53), (53, vi_get mm_shp 0 1 56), (56, vi_get mm_shp 1 13 59), (59, vi_iload 1 60), (60, vi_iload 2 61), (61, vi_if (fun x => x = 0) 68 64), (64, vi_icst (1) 65), (65, vi_goto 69), (68, vi_icst (0) 69), (69, vi_callS sp_X7_power 4 72), (72, vi_bin (fun x y => x + y) 73), (73, vi_ret)]
set_option maxRecDepth 20000 in
theorem s_X7_power_ {nm : List vgN} (hcl : vg_closed mm_shp nm) : ∀ q ∈ k_X7_power_, vg_Snd ww_tb [] mm_shp nm mm_cl mm_tyl cX7_power_ 3 RX7 (some .int) 2 q.1 q.2 := by
  refine vg_cons (vs_aload_n dX7_power__0 rfl rfl) ?_
  refine vg_cons (vs_iconst dX7_power__1 rfl rfl) ?_
  refine vg_cons (vs_putfield (T := TX7) tyX7 dX7_power__2 rfl (by decide) mm_inX7 tyX7_ok nmX7 rfl rfl u_201 rfl) ?_
  refine vg_cons (vs_iload_n dX7_power__5 rfl rfl) ?_
  refine vg_cons (vs_callS (c_X7_isCell hcl) dX7_power__6 ww_good u_219 u_198 u_221 u_220 (by decide +kernel) (by decide) rfl) ?_
  refine vg_cons (vs_if_ne dX7_power__9 (by decide) rfl) ?_
  refine vg_cons (vs_aload_n dX7_power__12 rfl rfl) ?_
  refine vg_cons (vs_iconst dX7_power__13 rfl rfl) ?_
  refine vg_cons (vs_callV (T := TX7) (c_X7_no hcl) dX7_power__14 rfl ww_good u_210 u_198 u_211 u_212 u_213 (by decide +kernel) (by decide) rfl) ?_
  refine vg_cons (vs_ireturn dX7_power__17 rfl) ?_
  refine vg_cons (vs_aload_n dX7_power__18 rfl rfl) ?_
  refine vg_cons (vs_getfield (T := TX7) dX7_power__19 rfl (by decide) mm_inX7 u_202 rfl) ?_
  refine vg_cons (vs_getfield (T := TX6) dX7_power__22 rfl (by decide) mm_inX6 u_224 rfl) ?_
  refine vg_cons (vs_aload_n dX7_power__25 rfl rfl) ?_
  refine vg_cons (vs_getfield (T := TX7) dX7_power__26 rfl (by decide) mm_inX7 u_202 rfl) ?_
  refine vg_cons (vs_getfield (T := TX6) dX7_power__29 rfl (by decide) mm_inX6 u_223 rfl) ?_
  refine vg_cons (vs_iload_n dX7_power__32 rfl rfl) ?_
  refine vg_cons (vs_iload_n dX7_power__33 rfl rfl) ?_
  refine vg_cons (vs_if_eq dX7_power__34 (by decide) rfl) ?_
  refine vg_cons (vs_iconst dX7_power__37 rfl rfl) ?_
  refine vg_cons (vs_goto dX7_power__38 (by decide)) ?_
  refine vg_cons (vs_iconst dX7_power__41 rfl rfl) ?_
  refine vg_cons (vs_callS (c_X7_power hcl) dX7_power__42 ww_good u_238 u_198 u_240 u_239 (by decide +kernel) (by decide) rfl) ?_
  refine vg_cons (vs_aload_n dX7_power__45 rfl rfl) ?_
  refine vg_cons (vs_getfield (T := TX7) dX7_power__46 rfl (by decide) mm_inX7 u_202 rfl) ?_
  refine vg_cons (vs_getfield (T := TX6) dX7_power__49 rfl (by decide) mm_inX6 u_229 rfl) ?_
  refine vg_cons (vs_aload_n dX7_power__52 rfl rfl) ?_
  refine vg_cons (vs_getfield (T := TX7) dX7_power__53 rfl (by decide) mm_inX7 u_202 rfl) ?_
  refine vg_cons (vs_getfield (T := TX6) dX7_power__56 rfl (by decide) mm_inX6 u_228 rfl) ?_
  refine vg_cons (vs_iload_n dX7_power__59 rfl rfl) ?_
  refine vg_cons (vs_iload_n dX7_power__60 rfl rfl) ?_
  refine vg_cons (vs_if_eq dX7_power__61 (by decide) rfl) ?_
  refine vg_cons (vs_iconst dX7_power__64 rfl rfl) ?_
  refine vg_cons (vs_goto dX7_power__65 (by decide)) ?_
  refine vg_cons (vs_iconst dX7_power__68 rfl rfl) ?_
  refine vg_cons (vs_callS (c_X7_power hcl) dX7_power__69 ww_good u_238 u_198 u_240 u_239 (by decide +kernel) (by decide) rfl) ?_
  refine vg_cons (vs_iadd dX7_power__72 rfl) ?_
  refine vg_cons (vs_ireturn dX7_power__73 rfl) ?_
  exact fun _ h => absurd h List.not_mem_nil
theorem m_X7_power_ : vg_Code k_X7_power_ := fun q h => (s_X7_power_ (nm := []) (fun n hn => nomatch hn) q h).1

def pm_X7_power_ : vgT → vgS → Prop := fun av σ => match av with
  | [.inr (40, 0, 0), .inl (.int c), .inl (.int d)] => mm_fr σ
  | _ => False
def mf_X7_power_ : vgT → Int32 × Int32 := fun av => match av with
  | [.inr (40, 0, 0), .inl (.int c), .inl (.int d)] => (if wp_c c then (0, 0) else (1, 0))
  | _ => (0, 0)
theorem wm_X7_power_ : ∀ av σ, pm_X7_power_ av σ → vg_wd av ≤ 3 := by
  intro av σ h
  unfold pm_X7_power_ at h
  split at h
  · exact Nat.le_of_ble_eq_true rfl
  · exact h.elim
set_option maxRecDepth 20000 in
theorem gm_X7_power_ : ∀ av σ, pm_X7_power_ av σ → vg_Go k_X7_power_ (mm_Po (mf_X7_power_ av)) 0 (vg_args 0 av) [] σ := by
  intro av σ h
  unfold pm_X7_power_ at h
  split at h
  next c d =>
    refine vg_run (cuts := []) m_X7_power_ 80 ?_
    refine And.intro trivial (And.intro (fun z => ?_) (fun z => ?_))
    · have e : mf_X7_power_ [.inr (40, 0, 0), .inl (.int c), .inl (.int d)] = (1, 0) := by
        show (if _ then _ else _) = _
        rw [if_neg (jb_0.mp z)]
      rw [e]
      exact And.intro trivial ⟨rfl, rfl⟩
    have c1 : wp_c c := Classical.not_not.mp (fun y => z (jb_0.mpr y))
    have e : mf_X7_power_ [.inr (40, 0, 0), .inl (.int c), .inl (.int d)] = (0, 0) := by
      show (if _ then _ else _) = _
      rw [if_pos c1]
    rw [e]
    have hs : σ (41, 0, 0) 12 = 0 := h.1.2.2.2.2.1
    have hm : σ (41, 0, 0) 13 = 0 := h.1.2.2.2.2.2.1
    refine And.intro (fun _ => And.intro hs (And.intro (fun _ => And.intro hm ⟨rfl, rfl⟩) (fun _ => And.intro hm ⟨rfl, rfl⟩))) (fun _ => And.intro hs (And.intro (fun _ => And.intro hm ⟨rfl, rfl⟩) (fun _ => And.intro hm ⟨rfl, rfl⟩)))
  next => exact h.elim
theorem r_X7_power_ {nm : List vgN} (hcl : vg_closed mm_shp nm) : vg_Met ww_tb [] mm_shp nm mm_cl mm_tyl yX7_power_ cX7_power_ 3 (some .int) 2 pm_X7_power_ (fun av _ => mm_Po (mf_X7_power_ av)) := vg_met hcl (by decide +kernel) rfl (s_X7_power_ hcl) wm_X7_power_ gm_X7_power_
def k_X7_key : List (Nat × vgF) := [(0, vi_aload 0 1), (1, vi_icst (0) 2), (2, vi_put mm_shp 0 0 5), (5, vi_iload 1 6), (6, vi_icst (0) 7), (7, vi_icst (3) 8), (8, vi_callS sp_X7_in 3 11), (11, vi_if (fun x => x = 0) 14 28), (14, vi_aload 0 15), (15, vi_icst (1) 16), (16, vi_callV mm_shp 0 sp_X7_no 1 19), (19, vi_if (fun x => x ≤ 0) 26 22), (22, vi_icst (1) 23), (23, vi_goto 27), (26, vi_icst (0) 27), (27, vi_retZ), (28, vi_aload 0 29), (29, vi_get mm_shp 0 2 32), (32, vi_iload 1 33), (33, vi_bin (fun x y => x >>> (y &&& 31)) 34), (34, vi_icst (1) 35), (35, vi_bin (fun x y => x &&& y) 36), (36, vi_icst (1) 37), (37, vi_cmp (fun x y => x = y) 40 44), (40, vi_icst (1) 41), (41, vi_goto 45), (44, vi_icst (0) 45), (45, vi_istore 3 46), (46, vi_aload 0 47), (47, vi_iload 2 48), (48, vi_if (fun x => x = 0) 62 51), (51, vi_aload 0 52), (52, vi_get mm_shp 0 2 55), (55, vi_icst (1) 56), (56, vi_iload 1 57), (57, vi_bin (fun x y => x <<< (y &&& 31)) 58), (58, vi_bin (fun x y => x ||| y) 59), (59, vi_goto 72), (62, vi_aload 0 63), (63, vi_get mm_shp 0 2 66), (66, vi_icst (1) 67), (67, vi_iload 1 68), (68, vi_bin (fun x y => x <<< (y &&& 31)) 69), (69, vi_icst (-1) 70), (70, vi_bin (fun x y => x ^^^ y) 71), (71, vi_bin (fun x y => x &&& y) 72), (72, vi_put mm_shp 0 2 75), (75, vi_iload 3 76), (76, vi_retZ)]
set_option maxRecDepth 20000 in
theorem s_X7_key {nm : List vgN} (hcl : vg_closed mm_shp nm) : ∀ q ∈ k_X7_key, vg_Snd ww_tb [] mm_shp nm mm_cl mm_tyl cX7_key 4 RX7 (some .boolean) 1 q.1 q.2 := by
  refine vg_cons (vs_aload_n dX7_key_0 rfl rfl) ?_
  refine vg_cons (vs_iconst dX7_key_1 rfl rfl) ?_
  refine vg_cons (vs_putfield (T := TX7) tyX7 dX7_key_2 rfl (by decide) mm_inX7 tyX7_ok nmX7 rfl rfl u_201 rfl) ?_
  refine vg_cons (vs_iload_n dX7_key_5 rfl rfl) ?_
  refine vg_cons (vs_iconst dX7_key_6 rfl rfl) ?_
  refine vg_cons (vs_iconst dX7_key_7 rfl rfl) ?_
  refine vg_cons (vs_callS (c_X7_in hcl) dX7_key_8 ww_good u_197 u_198 u_200 u_199 (by decide +kernel) (by decide) rfl) ?_
  refine vg_cons (vs_if_ne dX7_key_11 (by decide) rfl) ?_
  refine vg_cons (vs_aload_n dX7_key_14 rfl rfl) ?_
  refine vg_cons (vs_iconst dX7_key_15 rfl rfl) ?_
  refine vg_cons (vs_callV (T := TX7) (c_X7_no hcl) dX7_key_16 rfl ww_good u_210 u_198 u_211 u_212 u_213 (by decide +kernel) (by decide) rfl) ?_
  refine vg_cons (vs_if_le dX7_key_19 (by decide) rfl) ?_
  refine vg_cons (vs_iconst dX7_key_22 rfl rfl) ?_
  refine vg_cons (vs_goto dX7_key_23 (by decide)) ?_
  refine vg_cons (vs_iconst dX7_key_26 rfl rfl) ?_
  refine vg_cons (vs_zreturn dX7_key_27 rfl) ?_
  refine vg_cons (vs_aload_n dX7_key_28 rfl rfl) ?_
  refine vg_cons (vs_getfield (T := TX7) dX7_key_29 rfl (by decide) mm_inX7 u_241 rfl) ?_
  refine vg_cons (vs_iload_n dX7_key_32 rfl rfl) ?_
  refine vg_cons (vs_ishr dX7_key_33 rfl) ?_
  refine vg_cons (vs_iconst dX7_key_34 rfl rfl) ?_
  refine vg_cons (vs_iand dX7_key_35 rfl) ?_
  refine vg_cons (vs_iconst dX7_key_36 rfl rfl) ?_
  refine vg_cons (vs_cmp_ne dX7_key_37 (by decide) rfl) ?_
  refine vg_cons (vs_iconst dX7_key_40 rfl rfl) ?_
  refine vg_cons (vs_goto dX7_key_41 (by decide)) ?_
  refine vg_cons (vs_iconst dX7_key_44 rfl rfl) ?_
  refine vg_cons (vs_istore_n dX7_key_45 rfl (by decide) rfl) ?_
  refine vg_cons (vs_aload_n dX7_key_46 rfl rfl) ?_
  refine vg_cons (vs_iload_n dX7_key_47 rfl rfl) ?_
  refine vg_cons (vs_if_eq dX7_key_48 (by decide) rfl) ?_
  refine vg_cons (vs_aload_n dX7_key_51 rfl rfl) ?_
  refine vg_cons (vs_getfield (T := TX7) dX7_key_52 rfl (by decide) mm_inX7 u_241 rfl) ?_
  refine vg_cons (vs_iconst dX7_key_55 rfl rfl) ?_
  refine vg_cons (vs_iload_n dX7_key_56 rfl rfl) ?_
  refine vg_cons (vs_ishl dX7_key_57 rfl) ?_
  refine vg_cons (vs_ior dX7_key_58 rfl) ?_
  refine vg_cons (vs_goto dX7_key_59 (by decide)) ?_
  refine vg_cons (vs_aload_n dX7_key_62 rfl rfl) ?_
  refine vg_cons (vs_getfield (T := TX7) dX7_key_63 rfl (by decide) mm_inX7 u_241 rfl) ?_
  refine vg_cons (vs_iconst dX7_key_66 rfl rfl) ?_
  refine vg_cons (vs_iload_n dX7_key_67 rfl rfl) ?_
  refine vg_cons (vs_ishl dX7_key_68 rfl) ?_
  refine vg_cons (vs_iconst dX7_key_69 rfl rfl) ?_
  refine vg_cons (vs_ixor dX7_key_70 rfl) ?_
  refine vg_cons (vs_iand dX7_key_71 rfl) ?_
  refine vg_cons (vs_putfield (T := TX7) tyX7 dX7_key_72 rfl (by decide) mm_inX7 tyX7_ok nmX7 rfl rfl u_241 rfl) ?_
  refine vg_cons (vs_iload_n dX7_key_75 rfl rfl) ?_
  refine vg_cons (vs_zreturn dX7_key_76 rfl) ?_
  exact fun _ h => absurd h List.not_mem_nil
theorem m_X7_key : vg_Code k_X7_key := fun q h => (s_X7_key (nm := []) (fun n hn => nomatch hn) q h).1

def pm_X7_key : vgT → vgS → Prop := fun av σ => match av with
  | [.inr (40, 0, 0), .inl (.int o), .inl (.int d)] => mm_fr σ
  | _ => False
def mf_X7_key : vgT → Int32 × Int32 := fun av => match av with
  | [.inr (40, 0, 0), .inl (.int o), .inl (.int d)] => (if wp_o o then (0, (jIn 3 o)) else (1, 0))
  | _ => (0, 0)
theorem wm_X7_key : ∀ av σ, pm_X7_key av σ → vg_wd av ≤ 4 := by
  intro av σ h
  unfold pm_X7_key at h
  split at h
  · exact Nat.le_of_ble_eq_true rfl
  · exact h.elim
set_option maxRecDepth 20000 in
theorem gm_X7_key : ∀ av σ, pm_X7_key av σ → vg_Go k_X7_key (mm_Po (mf_X7_key av)) 0 (vg_args 0 av) [] σ := by
  intro av σ h
  unfold pm_X7_key at h
  split at h
  next o d =>
    refine vg_run (cuts := []) m_X7_key 80 ?_
    refine And.intro trivial (And.intro (fun z => ?_) (fun z => ?_))
    · have e : mf_X7_key [.inr (40, 0, 0), .inl (.int o), .inl (.int d)] = (1, 0) := by
        show (if _ then _ else _) = _
        rw [if_neg (jb_0.mp z)]
      rw [e]
      exact And.intro trivial (And.intro (fun _ => And.intro (Or.inl rfl) ⟨rfl, rfl⟩) (fun y => absurd (Int32.le_refl 0) y))
    have c1 : wp_o o := Classical.not_not.mp (fun y => z (jb_0.mpr y))
    have e : mf_X7_key [.inr (40, 0, 0), .inl (.int o), .inl (.int d)] = (0, (jIn 3 o)) := by
      show (if _ then _ else _) = _
      rw [if_pos c1]
    rw [e]
    have hk : σ (40, 0, 0) 2 = 3 := h.2.1
    refine And.intro (fun z => ?_) (fun z => ?_)
    · have z2 : ((3 : Int32) >>> (o &&& 31)) &&& 1 = 1 := by rw [← hk]; exact z
      have e2 : jIn 3 o = 1 := if_pos z2
      rw [e2]
      refine And.intro (fun _ => And.intro (Or.inr rfl) ⟨rfl, rfl⟩) (fun _ => And.intro (Or.inr rfl) ⟨rfl, rfl⟩)
    · have z2 : ¬ ((3 : Int32) >>> (o &&& 31)) &&& 1 = 1 := by rw [← hk]; exact z
      have e2 : jIn 3 o = 0 := if_neg z2
      rw [e2]
      refine And.intro (fun _ => And.intro (Or.inl rfl) ⟨rfl, rfl⟩) (fun _ => And.intro (Or.inl rfl) ⟨rfl, rfl⟩)
  next => exact h.elim
theorem r_X7_key {nm : List vgN} (hcl : vg_closed mm_shp nm) : vg_Met ww_tb [] mm_shp nm mm_cl mm_tyl yX7_key cX7_key 4 (some .boolean) 1 pm_X7_key (fun av _ => mm_Po (mf_X7_key av)) := vg_met hcl (by decide +kernel) rfl (s_X7_key hcl) wm_X7_key gm_X7_key
def k_X7_inForce : List (Nat × vgF) := [(0, vi_aload 0 1), (1, vi_icst (0) 2), (2, vi_put mm_shp 0 0 5), (5, vi_iload 1 6), (6, vi_callS sp_X7_isCell 1 9), (9, vi_if (fun x => x = 0) 12 18), (12, vi_aload 0 13), (13, vi_icst (1) 14), (14, vi_callV mm_shp 0 sp_X7_no 1 17), (17, vi_ret), (18, vi_aload 0 19), (19, vi_iload 1 20), (20, vi_callV mm_shp 0 sp_X7_forceNow 1 23), (23, vi_ret)]
set_option maxRecDepth 20000 in
theorem s_X7_inForce {nm : List vgN} (hcl : vg_closed mm_shp nm) : ∀ q ∈ k_X7_inForce, vg_Snd ww_tb [] mm_shp nm mm_cl mm_tyl cX7_inForce 2 RX7 (some .int) 2 q.1 q.2 := by
  refine vg_cons (vs_aload_n dX7_inForce_0 rfl rfl) ?_
  refine vg_cons (vs_iconst dX7_inForce_1 rfl rfl) ?_
  refine vg_cons (vs_putfield (T := TX7) tyX7 dX7_inForce_2 rfl (by decide) mm_inX7 tyX7_ok nmX7 rfl rfl u_201 rfl) ?_
  refine vg_cons (vs_iload_n dX7_inForce_5 rfl rfl) ?_
  refine vg_cons (vs_callS (c_X7_isCell hcl) dX7_inForce_6 ww_good u_219 u_198 u_221 u_220 (by decide +kernel) (by decide) rfl) ?_
  refine vg_cons (vs_if_ne dX7_inForce_9 (by decide) rfl) ?_
  refine vg_cons (vs_aload_n dX7_inForce_12 rfl rfl) ?_
  refine vg_cons (vs_iconst dX7_inForce_13 rfl rfl) ?_
  refine vg_cons (vs_callV (T := TX7) (c_X7_no hcl) dX7_inForce_14 rfl ww_good u_210 u_198 u_211 u_212 u_213 (by decide +kernel) (by decide) rfl) ?_
  refine vg_cons (vs_ireturn dX7_inForce_17 rfl) ?_
  refine vg_cons (vs_aload_n dX7_inForce_18 rfl rfl) ?_
  refine vg_cons (vs_iload_n dX7_inForce_19 rfl rfl) ?_
  refine vg_cons (vs_callV (T := TX7) (c_X7_forceNow hcl) dX7_inForce_20 rfl ww_good u_242 u_198 u_243 u_244 u_245 (by decide +kernel) (by decide) rfl) ?_
  refine vg_cons (vs_ireturn dX7_inForce_23 rfl) ?_
  exact fun _ h => absurd h List.not_mem_nil
theorem m_X7_inForce : vg_Code k_X7_inForce := fun q h => (s_X7_inForce (nm := []) (fun n hn => nomatch hn) q h).1

def pm_X7_inForce : vgT → vgS → Prop := fun av σ => match av with
  | [.inr (40, 0, 0), .inl (.int c)] => mm_fr σ
  | _ => False
def mf_X7_inForce : vgT → Int32 × Int32 := fun av => match av with
  | [.inr (40, 0, 0), .inl (.int c)] => (if wp_c c then (0, (-1)) else (1, 0))
  | _ => (0, 0)
theorem wm_X7_inForce : ∀ av σ, pm_X7_inForce av σ → vg_wd av ≤ 2 := by
  intro av σ h
  unfold pm_X7_inForce at h
  split at h
  · exact Nat.le_of_ble_eq_true rfl
  · exact h.elim
set_option maxRecDepth 20000 in
theorem gm_X7_inForce : ∀ av σ, pm_X7_inForce av σ → vg_Go k_X7_inForce (mm_Po (mf_X7_inForce av)) 0 (vg_args 0 av) [] σ := by
  intro av σ h
  unfold pm_X7_inForce at h
  split at h
  next c =>
    refine vg_run (cuts := []) m_X7_inForce 80 ?_
    refine And.intro trivial (And.intro (fun z => ?_) (fun z => ?_))
    · have e : mf_X7_inForce [.inr (40, 0, 0), .inl (.int c)] = (1, 0) := by
        show (if _ then _ else _) = _
        rw [if_neg (jb_0.mp z)]
      rw [e]
      exact And.intro trivial ⟨rfl, rfl⟩
    have c1 : wp_c c := Classical.not_not.mp (fun y => z (jb_0.mpr y))
    have e : mf_X7_inForce [.inr (40, 0, 0), .inl (.int c)] = (0, (-1)) := by
      show (if _ then _ else _) = _
      rw [if_pos c1]
    rw [e]
    exact And.intro (show σ (41, 0, 0) 10 = 0 from h.1.2.2.1) ⟨rfl, rfl⟩
  next => exact h.elim
theorem r_X7_inForce {nm : List vgN} (hcl : vg_closed mm_shp nm) : vg_Met ww_tb [] mm_shp nm mm_cl mm_tyl yX7_inForce cX7_inForce 2 (some .int) 2 pm_X7_inForce (fun av _ => mm_Po (mf_X7_inForce av)) := vg_met hcl (by decide +kernel) rfl (s_X7_inForce hcl) wm_X7_inForce gm_X7_inForce
def k_X7_until : List (Nat × vgF) := [(0, vi_aload 0 1), (1, vi_icst (0) 2), (2, vi_put mm_shp 0 0 5), (5, vi_iload 1 6), (6, vi_icst (0) 7), (7, vi_icst (23) 9), (9, vi_callS sp_X7_in 3 12), (12, vi_if (fun x => x = 0) 15 21), (15, vi_aload 0 16), (16, vi_icst (1) 17), (17, vi_callV mm_shp 0 sp_X7_no 1 20), (20, vi_ret), (21, vi_aload 0 22), (22, vi_get mm_shp 0 1 25), (25, vi_get mm_shp 1 8 28), (28, vi_icst (1) 29), (29, vi_bin (fun x y => x + y) 30), (30, vi_istore 2 31), (31, vi_iload 2 32), (32, vi_icst (60) 34), (34, vi_div (fun x y => x - x / y * y) 35), (35, vi_if (fun x => 0 < x) 49 38), (38, vi_iload 2 39), (39, vi_icst (60) 41), (41, vi_div (fun x y => x / y) 42), (42, vi_icst (24) 44), (44, vi_div (fun x y => x - x / y * y) 45), (45, vi_iload 1 46), (46, vi_cmp (fun x y => x = y) 55 49), (49, vi_iinc 2 (1) 52), (52, vi_goto 31), (55, vi_aload 0 56), (56, vi_callV mm_shp 0 sp_X7_inForceNow 0 59), (59, vi_if (fun x => 0 < x) 69 62), (62, vi_iload 2 63), (63, vi_icst (9999) 66), (66, vi_cmp (fun x y => x ≤ y) 75 69), (69, vi_aload 0 70), (70, vi_icst (2) 71), (71, vi_callV mm_shp 0 sp_X7_no 1 74), (74, vi_ret), (75, vi_aload 0 76), (76, vi_get mm_shp 0 1 79), (79, vi_iload 2 80), (80, vi_put mm_shp 1 8 83), (83, vi_iload 2 84), (84, vi_ret)]
set_option maxRecDepth 20000 in
theorem s_X7_until {nm : List vgN} (hcl : vg_closed mm_shp nm) : ∀ q ∈ k_X7_until, vg_Snd ww_tb [] mm_shp nm mm_cl mm_tyl cX7_until 3 RX7 (some .int) 1 q.1 q.2 := by
  refine vg_cons (vs_aload_n dX7_until_0 rfl rfl) ?_
  refine vg_cons (vs_iconst dX7_until_1 rfl rfl) ?_
  refine vg_cons (vs_putfield (T := TX7) tyX7 dX7_until_2 rfl (by decide) mm_inX7 tyX7_ok nmX7 rfl rfl u_201 rfl) ?_
  refine vg_cons (vs_iload_n dX7_until_5 rfl rfl) ?_
  refine vg_cons (vs_iconst dX7_until_6 rfl rfl) ?_
  refine vg_cons (vs_bipush dX7_until_7 (by decide) rfl) ?_
  refine vg_cons (vs_callS (c_X7_in hcl) dX7_until_9 ww_good u_197 u_198 u_200 u_199 (by decide +kernel) (by decide) rfl) ?_
  refine vg_cons (vs_if_ne dX7_until_12 (by decide) rfl) ?_
  refine vg_cons (vs_aload_n dX7_until_15 rfl rfl) ?_
  refine vg_cons (vs_iconst dX7_until_16 rfl rfl) ?_
  refine vg_cons (vs_callV (T := TX7) (c_X7_no hcl) dX7_until_17 rfl ww_good u_210 u_198 u_211 u_212 u_213 (by decide +kernel) (by decide) rfl) ?_
  refine vg_cons (vs_ireturn dX7_until_20 rfl) ?_
  refine vg_cons (vs_aload_n dX7_until_21 rfl rfl) ?_
  refine vg_cons (vs_getfield (T := TX7) dX7_until_22 rfl (by decide) mm_inX7 u_202 rfl) ?_
  refine vg_cons (vs_getfield (T := TX6) dX7_until_25 rfl (by decide) mm_inX6 u_232 rfl) ?_
  refine vg_cons (vs_iconst dX7_until_28 rfl rfl) ?_
  refine vg_cons (vs_iadd dX7_until_29 rfl) ?_
  refine vg_cons (vs_istore_n dX7_until_30 rfl (by decide) rfl) ?_
  refine vg_cons (vs_iload_n dX7_until_31 rfl rfl) ?_
  refine vg_cons (vs_bipush dX7_until_32 (by decide) rfl) ?_
  refine vg_cons (vs_irem dX7_until_34 rfl) ?_
  refine vg_cons (vs_if_gt dX7_until_35 (by decide) rfl) ?_
  refine vg_cons (vs_iload_n dX7_until_38 rfl rfl) ?_
  refine vg_cons (vs_bipush dX7_until_39 (by decide) rfl) ?_
  refine vg_cons (vs_idiv dX7_until_41 rfl) ?_
  refine vg_cons (vs_bipush dX7_until_42 (by decide) rfl) ?_
  refine vg_cons (vs_irem dX7_until_44 rfl) ?_
  refine vg_cons (vs_iload_n dX7_until_45 rfl rfl) ?_
  refine vg_cons (vs_cmp_eq dX7_until_46 (by decide) rfl) ?_
  refine vg_cons (vs_iinc dX7_until_49 rfl rfl) ?_
  refine vg_cons (vs_goto dX7_until_52 (by decide)) ?_
  refine vg_cons (vs_aload_n dX7_until_55 rfl rfl) ?_
  refine vg_cons (vs_callV (T := TX7) (c_X7_inForceNow hcl) dX7_until_56 rfl ww_good u_246 u_198 u_247 u_248 u_249 (by decide +kernel) (by decide) rfl) ?_
  refine vg_cons (vs_if_gt dX7_until_59 (by decide) rfl) ?_
  refine vg_cons (vs_iload_n dX7_until_62 rfl rfl) ?_
  refine vg_cons (vs_sipush dX7_until_63 (by decide) rfl) ?_
  refine vg_cons (vs_cmp_le dX7_until_66 (by decide) rfl) ?_
  refine vg_cons (vs_aload_n dX7_until_69 rfl rfl) ?_
  refine vg_cons (vs_iconst dX7_until_70 rfl rfl) ?_
  refine vg_cons (vs_callV (T := TX7) (c_X7_no hcl) dX7_until_71 rfl ww_good u_210 u_198 u_211 u_212 u_213 (by decide +kernel) (by decide) rfl) ?_
  refine vg_cons (vs_ireturn dX7_until_74 rfl) ?_
  refine vg_cons (vs_aload_n dX7_until_75 rfl rfl) ?_
  refine vg_cons (vs_getfield (T := TX7) dX7_until_76 rfl (by decide) mm_inX7 u_202 rfl) ?_
  refine vg_cons (vs_iload_n dX7_until_79 rfl rfl) ?_
  refine vg_cons (vs_putfield (T := TX6) tyX6 dX7_until_80 rfl (by decide) mm_inX6 tyX6_ok nmX6 rfl rfl u_232 rfl) ?_
  refine vg_cons (vs_iload_n dX7_until_83 rfl rfl) ?_
  refine vg_cons (vs_ireturn dX7_until_84 rfl) ?_
  exact fun _ h => absurd h List.not_mem_nil
theorem m_X7_until : vg_Code k_X7_until := fun q h => (s_X7_until (nm := []) (fun n hn => nomatch hn) q h).1

theorem wu_loop {σ : vgS} {k : Nat} (hk : k < 24) (hw : σ (41, 0, 0) 10 = 0) (ht : σ (40, 0, 0) 0 = 0) : ∀ n j, n + j = (if k = 0 then 1440 else 60 * k) → 1 ≤ j → vg_Go k_X7_until (mm_Po (0, wu (nI k))) 31 [(0, .inr (40, 0, 0)), (1, .inl (.int (nI k))), (2, .inl (.int (nI j)))] [] σ
  | 0, j, hj, h1 => by
    have hj' : j = (if k = 0 then 1440 else 60 * k) := by omega
    have ht2 := wu_there hk
    rw [← hj'] at ht2
    have hv : wu (nI k) = nI j := by rw [wi_c24 k hk, hj']
    have h9 : nI j ≤ 9999 := by rw [← hv]; exact (wu_c k hk).2
    refine vg_run (cuts := [(31, [0, 1, 2])]) m_X7_until 60 ?_
    refine And.intro (by decide) (And.intro (fun z => absurd z ht2.1) (fun _ => And.intro (by decide) (And.intro (by decide) ?_)))
    refine And.intro (fun _ => ?_) (fun z => absurd ht2.2 z)
    refine And.intro hw (And.intro (fun z => absurd (show (0 : Int32) < 0 from z) (by decide)) (fun _ => And.intro (fun _ => ?_) (fun z => absurd h9 z)))
    rw [hv]
    exact ⟨rfl, ht⟩
  | n + 1, j, hj, h1 => by
    have hlt : j < (if k = 0 then 1440 else 60 * k) := by omega
    have g := wu_loop hk hw ht n (j + 1) (by omega) (by omega)
    have hs : nI (j + 1) = nI j + 1 := (nI_1 j).symm
    rw [hs] at g
    refine vg_run (cuts := [(31, [0, 1, 2])]) m_X7_until 60 ?_
    refine And.intro (by decide) (And.intro (fun _ => g) (fun z => And.intro (by decide) (And.intro (by decide) ?_)))
    refine And.intro (fun z2 => ?_) (fun _ => g)
    rcases wu_way hk h1 hlt with y | y
    · exact absurd y z
    · exact absurd z2 y
def pm_X7_until : vgT → vgS → Prop := fun av σ => match av with
  | [.inr (40, 0, 0), .inl (.int q)] => mm_fr σ
  | _ => False
def mf_X7_until : vgT → Int32 × Int32 := fun av => match av with
  | [.inr (40, 0, 0), .inl (.int q)] => (if wp_r q (0) (23) then (0, (wu q)) else (1, 0))
  | _ => (0, 0)
theorem wm_X7_until : ∀ av σ, pm_X7_until av σ → vg_wd av ≤ 3 := by
  intro av σ h
  unfold pm_X7_until at h
  split at h
  · exact Nat.le_of_ble_eq_true rfl
  · exact h.elim
set_option maxRecDepth 20000 in
theorem gm_X7_until : ∀ av σ, pm_X7_until av σ → vg_Go k_X7_until (mm_Po (mf_X7_until av)) 0 (vg_args 0 av) [] σ := by
  intro av σ h
  unfold pm_X7_until at h
  split at h
  next q =>
    refine vg_run (cuts := [(31, [0, 1, 2])]) m_X7_until 80 ?_
    refine And.intro trivial (And.intro (fun z => ?_) (fun z => ?_))
    · have e : mf_X7_until [.inr (40, 0, 0), .inl (.int q)] = (1, 0) := by
        show (if _ then _ else _) = _
        rw [if_neg (jb_0.mp z)]
      rw [e]
      exact And.intro trivial ⟨rfl, rfl⟩
    have c1 : wp_r q (0) (23) := Classical.not_not.mp (fun y => z (jb_0.mpr y))
    have e : mf_X7_until [.inr (40, 0, 0), .inl (.int q)] = (0, (wu q)) := by
      show (if _ then _ else _) = _
      rw [if_pos c1]
    rw [e]
    obtain ⟨k, hk, rfl⟩ := wp_24 c1
    have h0 : σ (41, 0, 0) 8 = 0 := h.1.1
    have g := wu_loop (σ := vg_st σ (40, 0, 0) 0 0) hk (show vg_st σ (40, 0, 0) 0 0 (41, 0, 0) 10 = 0 from h.1.2.2.1) rfl ((if k = 0 then 1440 else 60 * k) - 1) 1 (by split <;> omega) (by decide)
    have e3 : nI 1 = vg_st σ (40, 0, 0) 0 0 (41, 0, 0) 8 + 1 := by
      show nI 1 = σ (41, 0, 0) 8 + 1
      rw [h0]
      rfl
    rw [e3] at g
    exact g
  next => exact h.elim
theorem r_X7_until {nm : List vgN} (hcl : vg_closed mm_shp nm) : vg_Met ww_tb [] mm_shp nm mm_cl mm_tyl yX7_until cX7_until 3 (some .int) 1 pm_X7_until (fun av _ => mm_Po (mf_X7_until av)) := vg_met hcl (by decide +kernel) rfl (s_X7_until hcl) wm_X7_until gm_X7_until
