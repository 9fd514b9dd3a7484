-- words of the tables, and what stands at each place of the methods' code (laid by program)
theorem u_206 : Cond.code yX7_isGroup cX7_isGroup 2 (some .boolean) ∈ ww_tb := by decide +kernel
theorem u_207 : Cond.methodLink RX7 64 yX7_isGroup ∈ ww_tb := by decide +kernel
theorem u_208 : Cond.instanceMethod yX7_isGroup ∈ ww_tb := by decide +kernel
theorem u_209 : Cond.selects RX7 yX7_isGroup yX7_isGroup ∈ ww_tb := by decide +kernel
theorem u_210 : Cond.code yX7_no cX7_no 2 (some .int) ∈ ww_tb := by decide +kernel
theorem u_211 : Cond.methodLink RX7 43 yX7_no ∈ ww_tb := by decide +kernel
theorem u_212 : Cond.instanceMethod yX7_no ∈ ww_tb := by decide +kernel
theorem u_213 : Cond.selects RX7 yX7_no yX7_no ∈ ww_tb := by decide +kernel
theorem u_214 : Cond.code yX7_isWarning cX7_isWarning 2 (some .boolean) ∈ ww_tb := by decide +kernel
theorem u_215 : Cond.methodLink RX7 114 yX7_isWarning ∈ ww_tb := by decide +kernel
theorem u_216 : Cond.instanceMethod yX7_isWarning ∈ ww_tb := by decide +kernel
theorem u_217 : Cond.selects RX7 yX7_isWarning yX7_isWarning ∈ ww_tb := by decide +kernel
theorem u_218 : Cond.fieldLink RX7 67 (TX6 11).1 (TX6 11).2.1 (TX6 11).2.2.1 ∈ ww_tb := by decide +kernel
theorem dX7_trust_0 : decode cX7_trust 0 = .ok (.aload_n 0, 1) := by decide +kernel
theorem dX7_trust_1 : decode cX7_trust 1 = .ok (.iconst 0, 1) := by decide +kernel
theorem dX7_trust_2 : decode cX7_trust 2 = .ok (.putfield 20, 3) := by decide +kernel
theorem dX7_trust_5 : decode cX7_trust 5 = .ok (.aload_n 0, 1) := by decide +kernel
theorem dX7_trust_6 : decode cX7_trust 6 = .ok (.iload_n 1, 1) := by decide +kernel
theorem dX7_trust_7 : decode cX7_trust 7 = .ok (.invokevirtual 64, 3) := by decide +kernel
theorem dX7_trust_10 : decode cX7_trust 10 = .ok (.ifCond .ne 9, 3) := by decide +kernel
theorem dX7_trust_13 : decode cX7_trust 13 = .ok (.aload_n 0, 1) := by decide +kernel
theorem dX7_trust_14 : decode cX7_trust 14 = .ok (.iconst 1, 1) := by decide +kernel
theorem dX7_trust_15 : decode cX7_trust 15 = .ok (.invokevirtual 43, 3) := by decide +kernel
theorem dX7_trust_18 : decode cX7_trust 18 = .ok (.ireturn, 1) := by decide +kernel
theorem dX7_trust_19 : decode cX7_trust 19 = .ok (.iload_n 2, 1) := by decide +kernel
theorem dX7_trust_20 : decode cX7_trust 20 = .ok (.iconst 0, 1) := by decide +kernel
theorem dX7_trust_21 : decode cX7_trust 21 = .ok (.bipush 9, 2) := by decide +kernel
theorem dX7_trust_23 : decode cX7_trust 23 = .ok (.invokestatic 29, 3) := by decide +kernel
theorem dX7_trust_26 : decode cX7_trust 26 = .ok (.ifCond .ne 9, 3) := by decide +kernel
theorem dX7_trust_29 : decode cX7_trust 29 = .ok (.aload_n 0, 1) := by decide +kernel
theorem dX7_trust_30 : decode cX7_trust 30 = .ok (.iconst 2, 1) := by decide +kernel
theorem dX7_trust_31 : decode cX7_trust 31 = .ok (.invokevirtual 43, 3) := by decide +kernel
theorem dX7_trust_34 : decode cX7_trust 34 = .ok (.ireturn, 1) := by decide +kernel
theorem dX7_trust_35 : decode cX7_trust 35 = .ok (.aload_n 0, 1) := by decide +kernel
theorem dX7_trust_36 : decode cX7_trust 36 = .ok (.getfield 10, 3) := by decide +kernel
theorem dX7_trust_39 : decode cX7_trust 39 = .ok (.getfield 46, 3) := by decide +kernel
theorem dX7_trust_42 : decode cX7_trust 42 = .ok (.iload_n 1, 1) := by decide +kernel
theorem dX7_trust_43 : decode cX7_trust 43 = .ok (.aaload, 1) := by decide +kernel
theorem dX7_trust_44 : decode cX7_trust 44 = .ok (.iconst 3, 1) := by decide +kernel
theorem dX7_trust_45 : decode cX7_trust 45 = .ok (.iaload, 1) := by decide +kernel
theorem dX7_trust_46 : decode cX7_trust 46 = .ok (.istore_n 3, 1) := by decide +kernel
theorem dX7_trust_47 : decode cX7_trust 47 = .ok (.aload_n 0, 1) := by decide +kernel
theorem dX7_trust_48 : decode cX7_trust 48 = .ok (.getfield 10, 3) := by decide +kernel
theorem dX7_trust_51 : decode cX7_trust 51 = .ok (.getfield 46, 3) := by decide +kernel
theorem dX7_trust_54 : decode cX7_trust 54 = .ok (.iload_n 1, 1) := by decide +kernel
theorem dX7_trust_55 : decode cX7_trust 55 = .ok (.aaload, 1) := by decide +kernel
theorem dX7_trust_56 : decode cX7_trust 56 = .ok (.iconst 3, 1) := by decide +kernel
theorem dX7_trust_57 : decode cX7_trust 57 = .ok (.iload_n 2, 1) := by decide +kernel
theorem dX7_trust_58 : decode cX7_trust 58 = .ok (.iastore, 1) := by decide +kernel
theorem dX7_trust_59 : decode cX7_trust 59 = .ok (.iload_n 3, 1) := by decide +kernel
theorem dX7_trust_60 : decode cX7_trust 60 = .ok (.ireturn, 1) := by decide +kernel
theorem dX7_update_0 : decode cX7_update 0 = .ok (.aload_n 0, 1) := by decide +kernel
theorem dX7_update_1 : decode cX7_update 1 = .ok (.iconst 0, 1) := by decide +kernel
theorem dX7_update_2 : decode cX7_update 2 = .ok (.putfield 20, 3) := by decide +kernel
theorem dX7_update_5 : decode cX7_update 5 = .ok (.aload_n 0, 1) := by decide +kernel
theorem dX7_update_6 : decode cX7_update 6 = .ok (.iload_n 1, 1) := by decide +kernel
theorem dX7_update_7 : decode cX7_update 7 = .ok (.invokevirtual 114, 3) := by decide +kernel
theorem dX7_update_10 : decode cX7_update 10 = .ok (.ifCond .ne 9, 3) := by decide +kernel
theorem dX7_update_13 : decode cX7_update 13 = .ok (.aload_n 0, 1) := by decide +kernel
theorem dX7_update_14 : decode cX7_update 14 = .ok (.iconst 1, 1) := by decide +kernel
theorem dX7_update_15 : decode cX7_update 15 = .ok (.invokevirtual 43, 3) := by decide +kernel
theorem dX7_update_18 : decode cX7_update 18 = .ok (.ireturn, 1) := by decide +kernel
theorem dX7_update_19 : decode cX7_update 19 = .ok (.iload_n 2, 1) := by decide +kernel
theorem dX7_update_20 : decode cX7_update 20 = .ok (.iload_n 3, 1) := by decide +kernel
theorem dX7_update_21 : decode cX7_update 21 = .ok (.iload 4, 2) := by decide +kernel
theorem dX7_update_23 : decode cX7_update 23 = .ok (.invokestatic 107, 3) := by decide +kernel
theorem dX7_update_26 : decode cX7_update 26 = .ok (.ifCond .ne 9, 3) := by decide +kernel
theorem dX7_update_29 : decode cX7_update 29 = .ok (.aload_n 0, 1) := by decide +kernel
theorem dX7_update_30 : decode cX7_update 30 = .ok (.iconst 2, 1) := by decide +kernel
theorem dX7_update_31 : decode cX7_update 31 = .ok (.invokevirtual 43, 3) := by decide +kernel
theorem dX7_update_34 : decode cX7_update 34 = .ok (.ireturn, 1) := by decide +kernel
theorem dX7_update_35 : decode cX7_update 35 = .ok (.aload_n 0, 1) := by decide +kernel
theorem dX7_update_36 : decode cX7_update 36 = .ok (.getfield 10, 3) := by decide +kernel
theorem dX7_update_39 : decode cX7_update 39 = .ok (.iload_n 1, 1) := by decide +kernel
theorem dX7_update_40 : decode cX7_update 40 = .ok (.invokevirtual 117, 3) := by decide +kernel
theorem dX7_update_43 : decode cX7_update 43 = .ok (.ifCond .eq 15, 3) := by decide +kernel
theorem dX7_update_46 : decode cX7_update 46 = .ok (.aload_n 0, 1) := by decide +kernel
theorem dX7_update_47 : decode cX7_update 47 = .ok (.getfield 10, 3) := by decide +kernel
theorem dX7_update_50 : decode cX7_update 50 = .ok (.getfield 36, 3) := by decide +kernel
theorem dX7_update_53 : decode cX7_update 53 = .ok (.bipush 12, 2) := by decide +kernel
theorem dX7_update_55 : decode cX7_update 55 = .ok (.if_icmp .ne 9, 3) := by decide +kernel
theorem dX7_update_58 : decode cX7_update 58 = .ok (.aload_n 0, 1) := by decide +kernel
theorem dX7_update_59 : decode cX7_update 59 = .ok (.iconst 3, 1) := by decide +kernel
theorem dX7_update_60 : decode cX7_update 60 = .ok (.invokevirtual 43, 3) := by decide +kernel
theorem dX7_update_63 : decode cX7_update 63 = .ok (.ireturn, 1) := by decide +kernel
theorem dX7_update_64 : decode cX7_update 64 = .ok (.aload_n 0, 1) := by decide +kernel
theorem dX7_update_65 : decode cX7_update 65 = .ok (.iconst 1, 1) := by decide +kernel
theorem dX7_update_66 : decode cX7_update 66 = .ok (.iload_n 1, 1) := by decide +kernel
theorem dX7_update_67 : decode cX7_update 67 = .ok (.iload_n 2, 1) := by decide +kernel
theorem dX7_update_68 : decode cX7_update 68 = .ok (.iload_n 3, 1) := by decide +kernel
theorem dX7_update_69 : decode cX7_update 69 = .ok (.iload 4, 2) := by decide +kernel
theorem dX7_update_71 : decode cX7_update 71 = .ok (.invokevirtual 110, 3) := by decide +kernel
theorem dX7_update_74 : decode cX7_update 74 = .ok (.ireturn, 1) := by decide +kernel
theorem dX7_cancel_0 : decode cX7_cancel 0 = .ok (.aload_n 0, 1) := by decide +kernel
theorem dX7_cancel_1 : decode cX7_cancel 1 = .ok (.iconst 0, 1) := by decide +kernel
theorem dX7_cancel_2 : decode cX7_cancel 2 = .ok (.putfield 20, 3) := by decide +kernel
theorem dX7_cancel_5 : decode cX7_cancel 5 = .ok (.aload_n 0, 1) := by decide +kernel
theorem dX7_cancel_6 : decode cX7_cancel 6 = .ok (.iload_n 1, 1) := by decide +kernel
theorem dX7_cancel_7 : decode cX7_cancel 7 = .ok (.invokevirtual 114, 3) := by decide +kernel
theorem dX7_cancel_10 : decode cX7_cancel 10 = .ok (.ifCond .ne 9, 3) := by decide +kernel
theorem dX7_cancel_13 : decode cX7_cancel 13 = .ok (.aload_n 0, 1) := by decide +kernel
theorem dX7_cancel_14 : decode cX7_cancel 14 = .ok (.iconst 1, 1) := by decide +kernel
theorem dX7_cancel_15 : decode cX7_cancel 15 = .ok (.invokevirtual 43, 3) := by decide +kernel
theorem dX7_cancel_18 : decode cX7_cancel 18 = .ok (.ireturn, 1) := by decide +kernel
theorem dX7_cancel_19 : decode cX7_cancel 19 = .ok (.aload_n 0, 1) := by decide +kernel
theorem dX7_cancel_20 : decode cX7_cancel 20 = .ok (.getfield 10, 3) := by decide +kernel
theorem dX7_cancel_23 : decode cX7_cancel 23 = .ok (.iload_n 1, 1) := by decide +kernel
theorem dX7_cancel_24 : decode cX7_cancel 24 = .ok (.invokevirtual 117, 3) := by decide +kernel
theorem dX7_cancel_27 : decode cX7_cancel 27 = .ok (.ifCond .eq 15, 3) := by decide +kernel
theorem dX7_cancel_30 : decode cX7_cancel 30 = .ok (.aload_n 0, 1) := by decide +kernel
theorem dX7_cancel_31 : decode cX7_cancel 31 = .ok (.getfield 10, 3) := by decide +kernel
theorem dX7_cancel_34 : decode cX7_cancel 34 = .ok (.getfield 36, 3) := by decide +kernel
theorem dX7_cancel_37 : decode cX7_cancel 37 = .ok (.bipush 12, 2) := by decide +kernel
theorem dX7_cancel_39 : decode cX7_cancel 39 = .ok (.if_icmp .ne 9, 3) := by decide +kernel
theorem dX7_cancel_42 : decode cX7_cancel 42 = .ok (.aload_n 0, 1) := by decide +kernel
theorem dX7_cancel_43 : decode cX7_cancel 43 = .ok (.iconst 2, 1) := by decide +kernel
theorem dX7_cancel_44 : decode cX7_cancel 44 = .ok (.invokevirtual 43, 3) := by decide +kernel
theorem dX7_cancel_47 : decode cX7_cancel 47 = .ok (.ireturn, 1) := by decide +kernel
theorem dX7_cancel_48 : decode cX7_cancel 48 = .ok (.aload_n 0, 1) := by decide +kernel
theorem dX7_cancel_49 : decode cX7_cancel 49 = .ok (.getfield 10, 3) := by decide +kernel
theorem dX7_cancel_52 : decode cX7_cancel 52 = .ok (.getfield 104, 3) := by decide +kernel
theorem dX7_cancel_55 : decode cX7_cancel 55 = .ok (.iload_n 1, 1) := by decide +kernel
theorem dX7_cancel_56 : decode cX7_cancel 56 = .ok (.aaload, 1) := by decide +kernel
theorem dX7_cancel_57 : decode cX7_cancel 57 = .ok (.astore_n 2, 1) := by decide +kernel
theorem dX7_cancel_58 : decode cX7_cancel 58 = .ok (.aload_n 0, 1) := by decide +kernel
theorem dX7_cancel_59 : decode cX7_cancel 59 = .ok (.iconst 2, 1) := by decide +kernel
theorem dX7_cancel_60 : decode cX7_cancel 60 = .ok (.iload_n 1, 1) := by decide +kernel
theorem dX7_cancel_61 : decode cX7_cancel 61 = .ok (.aload_n 2, 1) := by decide +kernel
theorem dX7_cancel_62 : decode cX7_cancel 62 = .ok (.iconst 2, 1) := by decide +kernel
theorem dX7_cancel_63 : decode cX7_cancel 63 = .ok (.iaload, 1) := by decide +kernel
theorem dX7_cancel_64 : decode cX7_cancel 64 = .ok (.aload_n 2, 1) := by decide +kernel
theorem dX7_cancel_65 : decode cX7_cancel 65 = .ok (.iconst 3, 1) := by decide +kernel
theorem dX7_cancel_66 : decode cX7_cancel 66 = .ok (.iaload, 1) := by decide +kernel
theorem dX7_cancel_67 : decode cX7_cancel 67 = .ok (.aload_n 2, 1) := by decide +kernel
theorem dX7_cancel_68 : decode cX7_cancel 68 = .ok (.iconst 4, 1) := by decide +kernel
theorem dX7_cancel_69 : decode cX7_cancel 69 = .ok (.iaload, 1) := by decide +kernel
theorem dX7_cancel_70 : decode cX7_cancel 70 = .ok (.invokevirtual 110, 3) := by decide +kernel
theorem dX7_cancel_73 : decode cX7_cancel 73 = .ok (.ireturn, 1) := by decide +kernel
theorem dX7_approve_0 : decode cX7_approve 0 = .ok (.aload_n 0, 1) := by decide +kernel
theorem dX7_approve_1 : decode cX7_approve 1 = .ok (.iconst 0, 1) := by decide +kernel
theorem dX7_approve_2 : decode cX7_approve 2 = .ok (.putfield 20, 3) := by decide +kernel
theorem dX7_approve_5 : decode cX7_approve 5 = .ok (.aload_n 0, 1) := by decide +kernel
theorem dX7_approve_6 : decode cX7_approve 6 = .ok (.iload_n 1, 1) := by decide +kernel
theorem dX7_approve_7 : decode cX7_approve 7 = .ok (.invokevirtual 114, 3) := by decide +kernel
theorem dX7_approve_10 : decode cX7_approve 10 = .ok (.ifCond .eq 12, 3) := by decide +kernel
theorem dX7_approve_13 : decode cX7_approve 13 = .ok (.iload_n 2, 1) := by decide +kernel
theorem dX7_approve_14 : decode cX7_approve 14 = .ok (.iconst 0, 1) := by decide +kernel
theorem dX7_approve_15 : decode cX7_approve 15 = .ok (.iconst 3, 1) := by decide +kernel
theorem dX7_approve_16 : decode cX7_approve 16 = .ok (.invokestatic 29, 3) := by decide +kernel
theorem dX7_approve_19 : decode cX7_approve 19 = .ok (.ifCond .ne 9, 3) := by decide +kernel
theorem dX7_approve_22 : decode cX7_approve 22 = .ok (.aload_n 0, 1) := by decide +kernel
theorem dX7_approve_23 : decode cX7_approve 23 = .ok (.iconst 1, 1) := by decide +kernel
theorem dX7_approve_24 : decode cX7_approve 24 = .ok (.invokevirtual 43, 3) := by decide +kernel
theorem dX7_approve_27 : decode cX7_approve 27 = .ok (.ireturn, 1) := by decide +kernel
theorem dX7_approve_28 : decode cX7_approve 28 = .ok (.aload_n 0, 1) := by decide +kernel
theorem dX7_approve_29 : decode cX7_approve 29 = .ok (.getfield 10, 3) := by decide +kernel
theorem dX7_approve_32 : decode cX7_approve 32 = .ok (.getfield 104, 3) := by decide +kernel
theorem dX7_approve_35 : decode cX7_approve 35 = .ok (.iload_n 1, 1) := by decide +kernel
theorem dX7_approve_36 : decode cX7_approve 36 = .ok (.aaload, 1) := by decide +kernel
theorem dX7_approve_37 : decode cX7_approve 37 = .ok (.astore_n 3, 1) := by decide +kernel
theorem dX7_approve_38 : decode cX7_approve 38 = .ok (.aload_n 3, 1) := by decide +kernel
theorem dX7_approve_39 : decode cX7_approve 39 = .ok (.bipush 6, 2) := by decide +kernel
theorem dX7_approve_41 : decode cX7_approve 41 = .ok (.iaload, 1) := by decide +kernel
theorem dX7_approve_42 : decode cX7_approve 42 = .ok (.iconst (-1), 1) := by decide +kernel
theorem dX7_approve_43 : decode cX7_approve 43 = .ok (.if_icmp .ne 14, 3) := by decide +kernel
theorem dX7_approve_46 : decode cX7_approve 46 = .ok (.aload_n 3, 1) := by decide +kernel
theorem dX7_approve_47 : decode cX7_approve 47 = .ok (.iconst 5, 1) := by decide +kernel
theorem dX7_approve_48 : decode cX7_approve 48 = .ok (.iaload, 1) := by decide +kernel
theorem dX7_approve_49 : decode cX7_approve 49 = .ok (.iload_n 2, 1) := by decide +kernel
theorem dX7_approve_50 : decode cX7_approve 50 = .ok (.ishr, 1) := by decide +kernel
theorem dX7_approve_51 : decode cX7_approve 51 = .ok (.iconst 1, 1) := by decide +kernel
theorem dX7_approve_52 : decode cX7_approve 52 = .ok (.iand, 1) := by decide +kernel
theorem dX7_approve_53 : decode cX7_approve 53 = .ok (.iconst 1, 1) := by decide +kernel
theorem dX7_approve_54 : decode cX7_approve 54 = .ok (.if_icmp .ne 9, 3) := by decide +kernel
theorem dX7_approve_57 : decode cX7_approve 57 = .ok (.aload_n 0, 1) := by decide +kernel
theorem dX7_approve_58 : decode cX7_approve 58 = .ok (.iconst 2, 1) := by decide +kernel
theorem dX7_approve_59 : decode cX7_approve 59 = .ok (.invokevirtual 43, 3) := by decide +kernel
theorem dX7_approve_62 : decode cX7_approve 62 = .ok (.ireturn, 1) := by decide +kernel
theorem dX7_approve_63 : decode cX7_approve 63 = .ok (.aload_n 3, 1) := by decide +kernel
theorem dX7_approve_64 : decode cX7_approve 64 = .ok (.iconst 5, 1) := by decide +kernel
theorem dX7_approve_65 : decode cX7_approve 65 = .ok (.dup2, 1) := by decide +kernel
theorem dX7_approve_66 : decode cX7_approve 66 = .ok (.iaload, 1) := by decide +kernel
theorem dX7_approve_67 : decode cX7_approve 67 = .ok (.iconst 1, 1) := by decide +kernel
theorem dX7_approve_68 : decode cX7_approve 68 = .ok (.iload_n 2, 1) := by decide +kernel
theorem dX7_approve_69 : decode cX7_approve 69 = .ok (.ishl, 1) := by decide +kernel
theorem dX7_approve_70 : decode cX7_approve 70 = .ok (.ior, 1) := by decide +kernel
theorem dX7_approve_71 : decode cX7_approve 71 = .ok (.iastore, 1) := by decide +kernel
theorem dX7_approve_72 : decode cX7_approve 72 = .ok (.aload_n 0, 1) := by decide +kernel
theorem dX7_approve_73 : decode cX7_approve 73 = .ok (.iload_n 1, 1) := by decide +kernel
theorem dX7_approve_74 : decode cX7_approve 74 = .ok (.invokevirtual 124, 3) := by decide +kernel
theorem dX7_approve_77 : decode cX7_approve 77 = .ok (.ireturn, 1) := by decide +kernel
theorem dX7_send_0 : decode cX7_send 0 = .ok (.aload_n 0, 1) := by decide +kernel
theorem dX7_send_1 : decode cX7_send 1 = .ok (.iconst 0, 1) := by decide +kernel
theorem dX7_send_2 : decode cX7_send 2 = .ok (.putfield 20, 3) := by decide +kernel
theorem dX7_send_5 : decode cX7_send 5 = .ok (.aload_n 0, 1) := by decide +kernel
theorem dX7_send_6 : decode cX7_send 6 = .ok (.iload_n 1, 1) := by decide +kernel
theorem dX7_send_7 : decode cX7_send 7 = .ok (.invokevirtual 114, 3) := by decide +kernel
theorem dX7_send_10 : decode cX7_send 10 = .ok (.ifCond .ne 9, 3) := by decide +kernel
theorem dX7_send_13 : decode cX7_send 13 = .ok (.aload_n 0, 1) := by decide +kernel
theorem dX7_send_14 : decode cX7_send 14 = .ok (.iconst 1, 1) := by decide +kernel
theorem dX7_send_15 : decode cX7_send 15 = .ok (.invokevirtual 43, 3) := by decide +kernel
theorem dX7_send_18 : decode cX7_send 18 = .ok (.ireturn, 1) := by decide +kernel
theorem dX7_send_19 : decode cX7_send 19 = .ok (.aload_n 0, 1) := by decide +kernel
theorem dX7_send_20 : decode cX7_send 20 = .ok (.getfield 10, 3) := by decide +kernel
theorem dX7_send_23 : decode cX7_send 23 = .ok (.getfield 104, 3) := by decide +kernel
theorem dX7_send_26 : decode cX7_send 26 = .ok (.iload_n 1, 1) := by decide +kernel
theorem dX7_send_27 : decode cX7_send 27 = .ok (.aaload, 1) := by decide +kernel
theorem dX7_send_28 : decode cX7_send 28 = .ok (.astore_n 2, 1) := by decide +kernel
theorem dX7_send_29 : decode cX7_send 29 = .ok (.aload_n 2, 1) := by decide +kernel
theorem dX7_send_30 : decode cX7_send 30 = .ok (.bipush 6, 2) := by decide +kernel
theorem dX7_send_32 : decode cX7_send 32 = .ok (.iaload, 1) := by decide +kernel
theorem dX7_send_33 : decode cX7_send 33 = .ok (.iconst (-1), 1) := by decide +kernel
theorem dX7_send_34 : decode cX7_send 34 = .ok (.if_icmp .ne 30, 3) := by decide +kernel
theorem dX7_send_37 : decode cX7_send 37 = .ok (.aload_n 0, 1) := by decide +kernel
theorem dX7_send_38 : decode cX7_send 38 = .ok (.iload_n 1, 1) := by decide +kernel
theorem dX7_send_39 : decode cX7_send 39 = .ok (.invokevirtual 124, 3) := by decide +kernel
theorem dX7_send_42 : decode cX7_send 42 = .ok (.ifCond .gt 22, 3) := by decide +kernel
theorem dX7_send_45 : decode cX7_send 45 = .ok (.aload_n 2, 1) := by decide +kernel
theorem dX7_send_46 : decode cX7_send 46 = .ok (.iconst 0, 1) := by decide +kernel
theorem dX7_send_47 : decode cX7_send 47 = .ok (.iaload, 1) := by decide +kernel
theorem dX7_send_48 : decode cX7_send 48 = .ok (.ifCond .le 22, 3) := by decide +kernel
theorem dX7_send_51 : decode cX7_send 51 = .ok (.aload_n 0, 1) := by decide +kernel
theorem dX7_send_52 : decode cX7_send 52 = .ok (.getfield 10, 3) := by decide +kernel
theorem dX7_send_55 : decode cX7_send 55 = .ok (.aload_n 2, 1) := by decide +kernel
theorem dX7_send_56 : decode cX7_send 56 = .ok (.iconst 1, 1) := by decide +kernel
theorem dX7_send_57 : decode cX7_send 57 = .ok (.iaload, 1) := by decide +kernel
theorem dX7_send_58 : decode cX7_send 58 = .ok (.invokevirtual 117, 3) := by decide +kernel
theorem dX7_send_61 : decode cX7_send 61 = .ok (.ifCond .ne 9, 3) := by decide +kernel
theorem dX7_send_64 : decode cX7_send 64 = .ok (.aload_n 0, 1) := by decide +kernel
theorem dX7_send_65 : decode cX7_send 65 = .ok (.iconst 2, 1) := by decide +kernel
theorem dX7_send_66 : decode cX7_send 66 = .ok (.invokevirtual 43, 3) := by decide +kernel
theorem dX7_send_69 : decode cX7_send 69 = .ok (.ireturn, 1) := by decide +kernel
theorem dX7_send_70 : decode cX7_send 70 = .ok (.aload_n 2, 1) := by decide +kernel
theorem dX7_send_71 : decode cX7_send 71 = .ok (.bipush 6, 2) := by decide +kernel
theorem dX7_send_73 : decode cX7_send 73 = .ok (.aload_n 0, 1) := by decide +kernel
theorem dX7_send_74 : decode cX7_send 74 = .ok (.getfield 10, 3) := by decide +kernel
theorem dX7_send_77 : decode cX7_send 77 = .ok (.getfield 100, 3) := by decide +kernel
theorem dX7_send_80 : decode cX7_send 80 = .ok (.iastore, 1) := by decide +kernel
theorem dX7_send_81 : decode cX7_send 81 = .ok (.aload_n 2, 1) := by decide +kernel
theorem dX7_send_82 : decode cX7_send 82 = .ok (.iconst 0, 1) := by decide +kernel
theorem dX7_send_83 : decode cX7_send 83 = .ok (.iaload, 1) := by decide +kernel
theorem dX7_send_84 : decode cX7_send 84 = .ok (.ifCond .le 18, 3) := by decide +kernel
theorem dX7_send_87 : decode cX7_send 87 = .ok (.aload_n 0, 1) := by decide +kernel
theorem dX7_send_88 : decode cX7_send 88 = .ok (.getfield 10, 3) := by decide +kernel
theorem dX7_send_91 : decode cX7_send 91 = .ok (.getfield 104, 3) := by decide +kernel
theorem dX7_send_94 : decode cX7_send 94 = .ok (.aload_n 2, 1) := by decide +kernel
theorem dX7_send_95 : decode cX7_send 95 = .ok (.iconst 1, 1) := by decide +kernel
theorem dX7_send_96 : decode cX7_send 96 = .ok (.iaload, 1) := by decide +kernel
theorem dX7_send_97 : decode cX7_send 97 = .ok (.aaload, 1) := by decide +kernel
theorem dX7_send_98 : decode cX7_send 98 = .ok (.bipush 7, 2) := by decide +kernel
theorem dX7_send_100 : decode cX7_send 100 = .ok (.iconst 1, 1) := by decide +kernel
theorem dX7_send_101 : decode cX7_send 101 = .ok (.iastore, 1) := by decide +kernel
theorem dX7_send_102 : decode cX7_send 102 = .ok (.aload_n 2, 1) := by decide +kernel
theorem dX7_send_103 : decode cX7_send 103 = .ok (.iconst 0, 1) := by decide +kernel
theorem dX7_send_104 : decode cX7_send 104 = .ok (.iaload, 1) := by decide +kernel
theorem dX7_send_105 : decode cX7_send 105 = .ok (.iconst 2, 1) := by decide +kernel
theorem dX7_send_106 : decode cX7_send 106 = .ok (.if_icmp .ne 8, 3) := by decide +kernel
theorem dX7_send_109 : decode cX7_send 109 = .ok (.aload_n 0, 1) := by decide +kernel
theorem dX7_send_110 : decode cX7_send 110 = .ok (.aload_n 2, 1) := by decide +kernel
theorem dX7_send_111 : decode cX7_send 111 = .ok (.invokevirtual 127, 3) := by decide +kernel
theorem dX7_send_114 : decode cX7_send 114 = .ok (.iconst 0, 1) := by decide +kernel
theorem dX7_send_115 : decode cX7_send 115 = .ok (.istore_n 3, 1) := by decide +kernel
theorem dX7_send_116 : decode cX7_send 116 = .ok (.iconst 0, 1) := by decide +kernel
theorem dX7_send_117 : decode cX7_send 117 = .ok (.istore 4, 2) := by decide +kernel
theorem dX7_send_119 : decode cX7_send 119 = .ok (.iload 4, 2) := by decide +kernel
theorem dX7_send_121 : decode cX7_send 121 = .ok (.aload_n 0, 1) := by decide +kernel
theorem dX7_send_122 : decode cX7_send 122 = .ok (.getfield 10, 3) := by decide +kernel
theorem dX7_send_125 : decode cX7_send 125 = .ok (.getfield 33, 3) := by decide +kernel
theorem dX7_send_128 : decode cX7_send 128 = .ok (.if_icmp .ge 62, 3) := by decide +kernel
theorem dX7_send_131 : decode cX7_send 131 = .ok (.iload_n 3, 1) := by decide +kernel
theorem dX7_send_132 : decode cX7_send 132 = .ok (.aload_n 0, 1) := by decide +kernel
theorem dX7_send_133 : decode cX7_send 133 = .ok (.getfield 10, 3) := by decide +kernel
theorem dX7_send_136 : decode cX7_send 136 = .ok (.iload 4, 2) := by decide +kernel
theorem dX7_send_138 : decode cX7_send 138 = .ok (.invokevirtual 131, 3) := by decide +kernel
theorem dX7_send_141 : decode cX7_send 141 = .ok (.ifCond .ne 40, 3) := by decide +kernel
theorem dX7_send_144 : decode cX7_send 144 = .ok (.aload_n 2, 1) := by decide +kernel
theorem dX7_send_145 : decode cX7_send 145 = .ok (.iconst 2, 1) := by decide +kernel
theorem dX7_send_146 : decode cX7_send 146 = .ok (.iaload, 1) := by decide +kernel
theorem dX7_send_147 : decode cX7_send 147 = .ok (.aload_n 0, 1) := by decide +kernel
theorem dX7_send_148 : decode cX7_send 148 = .ok (.getfield 10, 3) := by decide +kernel
theorem dX7_send_151 : decode cX7_send 151 = .ok (.getfield 46, 3) := by decide +kernel
theorem dX7_send_154 : decode cX7_send 154 = .ok (.iload 4, 2) := by decide +kernel
theorem dX7_send_156 : decode cX7_send 156 = .ok (.aaload, 1) := by decide +kernel
theorem dX7_send_157 : decode cX7_send 157 = .ok (.iconst 0, 1) := by decide +kernel
theorem dX7_send_158 : decode cX7_send 158 = .ok (.iaload, 1) := by decide +kernel
theorem dX7_send_159 : decode cX7_send 159 = .ok (.ishr, 1) := by decide +kernel
theorem dX7_send_160 : decode cX7_send 160 = .ok (.iconst 1, 1) := by decide +kernel
theorem dX7_send_161 : decode cX7_send 161 = .ok (.iand, 1) := by decide +kernel
theorem dX7_send_162 : decode cX7_send 162 = .ok (.iconst 1, 1) := by decide +kernel
theorem dX7_send_163 : decode cX7_send 163 = .ok (.if_icmp .ne 18, 3) := by decide +kernel
theorem dX7_send_166 : decode cX7_send 166 = .ok (.aload_n 0, 1) := by decide +kernel
theorem dX7_send_167 : decode cX7_send 167 = .ok (.getfield 10, 3) := by decide +kernel
theorem dX7_send_170 : decode cX7_send 170 = .ok (.getfield 46, 3) := by decide +kernel
theorem dX7_send_173 : decode cX7_send 173 = .ok (.iload 4, 2) := by decide +kernel
theorem dX7_send_175 : decode cX7_send 175 = .ok (.aaload, 1) := by decide +kernel
theorem dX7_send_176 : decode cX7_send 176 = .ok (.iconst 1, 1) := by decide +kernel
theorem dX7_send_177 : decode cX7_send 177 = .ok (.iaload, 1) := by decide +kernel
theorem dX7_send_178 : decode cX7_send 178 = .ok (.goto 4, 3) := by decide +kernel
theorem dX7_send_181 : decode cX7_send 181 = .ok (.iconst 0, 1) := by decide +kernel
theorem dX7_send_182 : decode cX7_send 182 = .ok (.iadd, 1) := by decide +kernel
theorem dX7_send_183 : decode cX7_send 183 = .ok (.istore_n 3, 1) := by decide +kernel
theorem dX7_send_184 : decode cX7_send 184 = .ok (.iinc 4 1, 3) := by decide +kernel
theorem dX7_send_187 : decode cX7_send 187 = .ok (.goto (-68), 3) := by decide +kernel
theorem dX7_send_190 : decode cX7_send 190 = .ok (.iload_n 3, 1) := by decide +kernel
theorem dX7_send_191 : decode cX7_send 191 = .ok (.ireturn, 1) := by decide +kernel
theorem dX7_ofGroup_0 : decode cX7_ofGroup 0 = .ok (.aload_n 0, 1) := by decide +kernel
theorem dX7_ofGroup_1 : decode cX7_ofGroup 1 = .ok (.iconst 0, 1) := by decide +kernel
theorem dX7_ofGroup_2 : decode cX7_ofGroup 2 = .ok (.putfield 20, 3) := by decide +kernel
theorem dX7_ofGroup_5 : decode cX7_ofGroup 5 = .ok (.aload_n 0, 1) := by decide +kernel
theorem dX7_ofGroup_6 : decode cX7_ofGroup 6 = .ok (.iload_n 1, 1) := by decide +kernel
theorem dX7_ofGroup_7 : decode cX7_ofGroup 7 = .ok (.invokevirtual 64, 3) := by decide +kernel
theorem dX7_ofGroup_10 : decode cX7_ofGroup 10 = .ok (.ifCond .ne 9, 3) := by decide +kernel
theorem dX7_ofGroup_13 : decode cX7_ofGroup 13 = .ok (.aload_n 0, 1) := by decide +kernel
theorem dX7_ofGroup_14 : decode cX7_ofGroup 14 = .ok (.iconst 1, 1) := by decide +kernel
theorem dX7_ofGroup_15 : decode cX7_ofGroup 15 = .ok (.invokevirtual 43, 3) := by decide +kernel
theorem dX7_ofGroup_18 : decode cX7_ofGroup 18 = .ok (.ireturn, 1) := by decide +kernel
theorem dX7_ofGroup_19 : decode cX7_ofGroup 19 = .ok (.iload_n 2, 1) := by decide +kernel
theorem dX7_ofGroup_20 : decode cX7_ofGroup 20 = .ok (.iconst 0, 1) := by decide +kernel
theorem dX7_ofGroup_21 : decode cX7_ofGroup 21 = .ok (.bipush 8, 2) := by decide +kernel
theorem dX7_ofGroup_23 : decode cX7_ofGroup 23 = .ok (.invokestatic 29, 3) := by decide +kernel
theorem dX7_ofGroup_26 : decode cX7_ofGroup 26 = .ok (.ifCond .ne 9, 3) := by decide +kernel
theorem dX7_ofGroup_29 : decode cX7_ofGroup 29 = .ok (.aload_n 0, 1) := by decide +kernel
theorem dX7_ofGroup_30 : decode cX7_ofGroup 30 = .ok (.iconst 2, 1) := by decide +kernel
theorem dX7_ofGroup_31 : decode cX7_ofGroup 31 = .ok (.invokevirtual 43, 3) := by decide +kernel
theorem dX7_ofGroup_34 : decode cX7_ofGroup 34 = .ok (.ireturn, 1) := by decide +kernel
theorem dX7_ofGroup_35 : decode cX7_ofGroup 35 = .ok (.aload_n 0, 1) := by decide +kernel
theorem dX7_ofGroup_36 : decode cX7_ofGroup 36 = .ok (.iload_n 1, 1) := by decide +kernel
theorem dX7_ofGroup_37 : decode cX7_ofGroup 37 = .ok (.iload_n 2, 1) := by decide +kernel
theorem dX7_ofGroup_38 : decode cX7_ofGroup 38 = .ok (.invokevirtual 157, 3) := by decide +kernel
theorem dX7_ofGroup_41 : decode cX7_ofGroup 41 = .ok (.ireturn, 1) := by decide +kernel
theorem dX7_heard_0 : decode cX7_heard 0 = .ok (.aload_n 0, 1) := by decide +kernel
theorem dX7_heard_1 : decode cX7_heard 1 = .ok (.iconst 0, 1) := by decide +kernel
theorem dX7_heard_2 : decode cX7_heard 2 = .ok (.putfield 20, 3) := by decide +kernel
theorem dX7_heard_5 : decode cX7_heard 5 = .ok (.aload_n 0, 1) := by decide +kernel
theorem dX7_heard_6 : decode cX7_heard 6 = .ok (.iload_n 1, 1) := by decide +kernel
theorem dX7_heard_7 : decode cX7_heard 7 = .ok (.invokevirtual 64, 3) := by decide +kernel
theorem dX7_heard_10 : decode cX7_heard 10 = .ok (.ifCond .eq 11, 3) := by decide +kernel
theorem dX7_heard_13 : decode cX7_heard 13 = .ok (.aload_n 0, 1) := by decide +kernel
theorem dX7_heard_14 : decode cX7_heard 14 = .ok (.iload_n 2, 1) := by decide +kernel
theorem dX7_heard_15 : decode cX7_heard 15 = .ok (.invokevirtual 114, 3) := by decide +kernel
theorem dX7_heard_18 : decode cX7_heard 18 = .ok (.ifCond .ne 9, 3) := by decide +kernel
theorem dX7_heard_21 : decode cX7_heard 21 = .ok (.aload_n 0, 1) := by decide +kernel
theorem dX7_heard_22 : decode cX7_heard 22 = .ok (.iconst 1, 1) := by decide +kernel
theorem dX7_heard_23 : decode cX7_heard 23 = .ok (.invokevirtual 43, 3) := by decide +kernel
theorem dX7_heard_26 : decode cX7_heard 26 = .ok (.ireturn, 1) := by decide +kernel
theorem dX7_heard_27 : decode cX7_heard 27 = .ok (.iload_n 3, 1) := by decide +kernel
theorem dX7_heard_28 : decode cX7_heard 28 = .ok (.iconst 0, 1) := by decide +kernel
theorem dX7_heard_29 : decode cX7_heard 29 = .ok (.iconst 4, 1) := by decide +kernel
theorem dX7_heard_30 : decode cX7_heard 30 = .ok (.invokestatic 29, 3) := by decide +kernel
theorem dX7_heard_33 : decode cX7_heard 33 = .ok (.ifCond .ne 9, 3) := by decide +kernel
theorem dX7_heard_36 : decode cX7_heard 36 = .ok (.aload_n 0, 1) := by decide +kernel
theorem dX7_heard_37 : decode cX7_heard 37 = .ok (.iconst 2, 1) := by decide +kernel
theorem dX7_heard_38 : decode cX7_heard 38 = .ok (.invokevirtual 43, 3) := by decide +kernel
theorem dX7_heard_41 : decode cX7_heard 41 = .ok (.ireturn, 1) := by decide +kernel
theorem dX7_heard_42 : decode cX7_heard 42 = .ok (.aload_n 0, 1) := by decide +kernel
theorem dX7_heard_43 : decode cX7_heard 43 = .ok (.getfield 10, 3) := by decide +kernel
theorem dX7_heard_46 : decode cX7_heard 46 = .ok (.iload_n 1, 1) := by decide +kernel
theorem dX7_heard_47 : decode cX7_heard 47 = .ok (.iload_n 2, 1) := by decide +kernel
theorem dX7_heard_48 : decode cX7_heard 48 = .ok (.invokevirtual 60, 3) := by decide +kernel
theorem dX7_heard_51 : decode cX7_heard 51 = .ok (.iload_n 3, 1) := by decide +kernel
theorem dX7_heard_52 : decode cX7_heard 52 = .ok (.iaload, 1) := by decide +kernel
theorem dX7_heard_53 : decode cX7_heard 53 = .ok (.ireturn, 1) := by decide +kernel
theorem dX7_ofWarning_0 : decode cX7_ofWarning 0 = .ok (.aload_n 0, 1) := by decide +kernel
theorem dX7_ofWarning_1 : decode cX7_ofWarning 1 = .ok (.iconst 0, 1) := by decide +kernel
theorem dX7_ofWarning_2 : decode cX7_ofWarning 2 = .ok (.putfield 20, 3) := by decide +kernel
theorem dX7_ofWarning_5 : decode cX7_ofWarning 5 = .ok (.aload_n 0, 1) := by decide +kernel
theorem dX7_ofWarning_6 : decode cX7_ofWarning 6 = .ok (.iload_n 1, 1) := by decide +kernel
theorem dX7_ofWarning_7 : decode cX7_ofWarning 7 = .ok (.invokevirtual 114, 3) := by decide +kernel
theorem dX7_ofWarning_10 : decode cX7_ofWarning 10 = .ok (.ifCond .ne 9, 3) := by decide +kernel
theorem dX7_ofWarning_13 : decode cX7_ofWarning 13 = .ok (.aload_n 0, 1) := by decide +kernel
theorem dX7_ofWarning_14 : decode cX7_ofWarning 14 = .ok (.iconst 1, 1) := by decide +kernel
theorem dX7_ofWarning_15 : decode cX7_ofWarning 15 = .ok (.invokevirtual 43, 3) := by decide +kernel
theorem dX7_ofWarning_18 : decode cX7_ofWarning 18 = .ok (.ireturn, 1) := by decide +kernel
theorem dX7_ofWarning_19 : decode cX7_ofWarning 19 = .ok (.iload_n 2, 1) := by decide +kernel
theorem dX7_ofWarning_20 : decode cX7_ofWarning 20 = .ok (.iconst 0, 1) := by decide +kernel
theorem dX7_ofWarning_21 : decode cX7_ofWarning 21 = .ok (.bipush 8, 2) := by decide +kernel
theorem dX7_ofWarning_23 : decode cX7_ofWarning 23 = .ok (.invokestatic 29, 3) := by decide +kernel
theorem dX7_ofWarning_26 : decode cX7_ofWarning 26 = .ok (.ifCond .ne 9, 3) := by decide +kernel
theorem dX7_ofWarning_29 : decode cX7_ofWarning 29 = .ok (.aload_n 0, 1) := by decide +kernel
theorem dX7_ofWarning_30 : decode cX7_ofWarning 30 = .ok (.iconst 2, 1) := by decide +kernel
theorem dX7_ofWarning_31 : decode cX7_ofWarning 31 = .ok (.invokevirtual 43, 3) := by decide +kernel
theorem dX7_ofWarning_34 : decode cX7_ofWarning 34 = .ok (.ireturn, 1) := by decide +kernel
theorem dX7_ofWarning_35 : decode cX7_ofWarning 35 = .ok (.aload_n 0, 1) := by decide +kernel
theorem dX7_ofWarning_36 : decode cX7_ofWarning 36 = .ok (.iload_n 1, 1) := by decide +kernel
theorem dX7_ofWarning_37 : decode cX7_ofWarning 37 = .ok (.iload_n 2, 1) := by decide +kernel
theorem dX7_ofWarning_38 : decode cX7_ofWarning 38 = .ok (.invokevirtual 160, 3) := by decide +kernel
theorem dX7_ofWarning_41 : decode cX7_ofWarning 41 = .ok (.ireturn, 1) := by decide +kernel
theorem dX7_chain_0 : decode cX7_chain 0 = .ok (.aload_n 0, 1) := by decide +kernel
theorem dX7_chain_1 : decode cX7_chain 1 = .ok (.iconst 0, 1) := by decide +kernel
theorem dX7_chain_2 : decode cX7_chain 2 = .ok (.putfield 20, 3) := by decide +kernel
theorem dX7_chain_5 : decode cX7_chain 5 = .ok (.aload_n 0, 1) := by decide +kernel
theorem dX7_chain_6 : decode cX7_chain 6 = .ok (.iload_n 1, 1) := by decide +kernel
theorem dX7_chain_7 : decode cX7_chain 7 = .ok (.invokevirtual 64, 3) := by decide +kernel
theorem dX7_chain_10 : decode cX7_chain 10 = .ok (.ifCond .eq 11, 3) := by decide +kernel
theorem dX7_chain_13 : decode cX7_chain 13 = .ok (.aload_n 0, 1) := by decide +kernel
theorem dX7_chain_14 : decode cX7_chain 14 = .ok (.iload_n 2, 1) := by decide +kernel
theorem dX7_chain_15 : decode cX7_chain 15 = .ok (.invokevirtual 114, 3) := by decide +kernel
theorem dX7_chain_18 : decode cX7_chain 18 = .ok (.ifCond .ne 9, 3) := by decide +kernel
theorem dX7_chain_21 : decode cX7_chain 21 = .ok (.aload_n 0, 1) := by decide +kernel
theorem dX7_chain_22 : decode cX7_chain 22 = .ok (.iconst 1, 1) := by decide +kernel
theorem dX7_chain_23 : decode cX7_chain 23 = .ok (.invokevirtual 43, 3) := by decide +kernel
theorem dX7_chain_26 : decode cX7_chain 26 = .ok (.ireturn, 1) := by decide +kernel
theorem dX7_chain_27 : decode cX7_chain 27 = .ok (.aload_n 0, 1) := by decide +kernel
theorem dX7_chain_28 : decode cX7_chain 28 = .ok (.iload_n 1, 1) := by decide +kernel
theorem dX7_chain_29 : decode cX7_chain 29 = .ok (.iload_n 2, 1) := by decide +kernel
theorem dX7_chain_30 : decode cX7_chain 30 = .ok (.invokevirtual 166, 3) := by decide +kernel
theorem dX7_chain_33 : decode cX7_chain 33 = .ok (.ireturn, 1) := by decide +kernel
theorem dX7_safeIn_0 : decode cX7_safeIn 0 = .ok (.aload_n 0, 1) := by decide +kernel
theorem dX7_safeIn_1 : decode cX7_safeIn 1 = .ok (.iconst 0, 1) := by decide +kernel
theorem dX7_safeIn_2 : decode cX7_safeIn 2 = .ok (.putfield 20, 3) := by decide +kernel
theorem dX7_safeIn_5 : decode cX7_safeIn 5 = .ok (.aload_n 0, 1) := by decide +kernel
theorem dX7_safeIn_6 : decode cX7_safeIn 6 = .ok (.iload_n 1, 1) := by decide +kernel
theorem dX7_safeIn_7 : decode cX7_safeIn 7 = .ok (.invokevirtual 64, 3) := by decide +kernel
theorem dX7_safeIn_10 : decode cX7_safeIn 10 = .ok (.ifCond .ne 9, 3) := by decide +kernel
theorem dX7_safeIn_13 : decode cX7_safeIn 13 = .ok (.aload_n 0, 1) := by decide +kernel
theorem dX7_safeIn_14 : decode cX7_safeIn 14 = .ok (.iconst 1, 1) := by decide +kernel
theorem dX7_safeIn_15 : decode cX7_safeIn 15 = .ok (.invokevirtual 43, 3) := by decide +kernel
theorem dX7_safeIn_18 : decode cX7_safeIn 18 = .ok (.ireturn, 1) := by decide +kernel
theorem dX7_safeIn_19 : decode cX7_safeIn 19 = .ok (.iload_n 2, 1) := by decide +kernel
theorem dX7_safeIn_20 : decode cX7_safeIn 20 = .ok (.iconst 1, 1) := by decide +kernel
theorem dX7_safeIn_21 : decode cX7_safeIn 21 = .ok (.bipush 60, 2) := by decide +kernel
theorem dX7_safeIn_23 : decode cX7_safeIn 23 = .ok (.invokestatic 29, 3) := by decide +kernel
theorem dX7_safeIn_26 : decode cX7_safeIn 26 = .ok (.ifCond .ne 9, 3) := by decide +kernel
theorem dX7_safeIn_29 : decode cX7_safeIn 29 = .ok (.aload_n 0, 1) := by decide +kernel
theorem dX7_safeIn_30 : decode cX7_safeIn 30 = .ok (.iconst 2, 1) := by decide +kernel
theorem dX7_safeIn_31 : decode cX7_safeIn 31 = .ok (.invokevirtual 43, 3) := by decide +kernel
theorem dX7_safeIn_34 : decode cX7_safeIn 34 = .ok (.ireturn, 1) := by decide +kernel
theorem dX7_safeIn_35 : decode cX7_safeIn 35 = .ok (.aload_n 0, 1) := by decide +kernel
theorem dX7_safeIn_36 : decode cX7_safeIn 36 = .ok (.iload_n 1, 1) := by decide +kernel
theorem dX7_safeIn_37 : decode cX7_safeIn 37 = .ok (.iload_n 2, 1) := by decide +kernel
theorem dX7_safeIn_38 : decode cX7_safeIn 38 = .ok (.invokevirtual 179, 3) := by decide +kernel
theorem dX7_safeIn_41 : decode cX7_safeIn 41 = .ok (.ireturn, 1) := by decide +kernel
theorem dX7_roomIn_0 : decode cX7_roomIn 0 = .ok (.aload_n 0, 1) := by decide +kernel
theorem dX7_roomIn_1 : decode cX7_roomIn 1 = .ok (.iconst 0, 1) := by decide +kernel
theorem dX7_roomIn_2 : decode cX7_roomIn 2 = .ok (.putfield 20, 3) := by decide +kernel
theorem dX7_roomIn_5 : decode cX7_roomIn 5 = .ok (.iload_n 1, 1) := by decide +kernel
theorem dX7_roomIn_6 : decode cX7_roomIn 6 = .ok (.iconst 0, 1) := by decide +kernel
theorem dX7_roomIn_7 : decode cX7_roomIn 7 = .ok (.aload_n 0, 1) := by decide +kernel
theorem dX7_roomIn_8 : decode cX7_roomIn 8 = .ok (.getfield 10, 3) := by decide +kernel
theorem dX7_roomIn_11 : decode cX7_roomIn 11 = .ok (.getfield 67, 3) := by decide +kernel
theorem dX7_roomIn_14 : decode cX7_roomIn 14 = .ok (.iconst 1, 1) := by decide +kernel
theorem dX7_roomIn_15 : decode cX7_roomIn 15 = .ok (.isub, 1) := by decide +kernel
theorem dX7_roomIn_16 : decode cX7_roomIn 16 = .ok (.invokestatic 29, 3) := by decide +kernel
theorem dX7_roomIn_19 : decode cX7_roomIn 19 = .ok (.ifCond .ne 9, 3) := by decide +kernel
theorem dX7_roomIn_22 : decode cX7_roomIn 22 = .ok (.aload_n 0, 1) := by decide +kernel
theorem dX7_roomIn_23 : decode cX7_roomIn 23 = .ok (.iconst 1, 1) := by decide +kernel
theorem dX7_roomIn_24 : decode cX7_roomIn 24 = .ok (.invokevirtual 43, 3) := by decide +kernel
theorem dX7_roomIn_27 : decode cX7_roomIn 27 = .ok (.ireturn, 1) := by decide +kernel
theorem dX7_roomIn_28 : decode cX7_roomIn 28 = .ok (.aload_n 0, 1) := by decide +kernel
theorem dX7_roomIn_29 : decode cX7_roomIn 29 = .ok (.getfield 10, 3) := by decide +kernel
theorem dX7_roomIn_32 : decode cX7_roomIn 32 = .ok (.getfield 70, 3) := by decide +kernel
theorem dX7_roomIn_35 : decode cX7_roomIn 35 = .ok (.iload_n 1, 1) := by decide +kernel
theorem dX7_roomIn_36 : decode cX7_roomIn 36 = .ok (.aaload, 1) := by decide +kernel
theorem dX7_roomIn_37 : decode cX7_roomIn 37 = .ok (.iconst 1, 1) := by decide +kernel
theorem dX7_roomIn_38 : decode cX7_roomIn 38 = .ok (.iaload, 1) := by decide +kernel
theorem dX7_roomIn_39 : decode cX7_roomIn 39 = .ok (.ireturn, 1) := by decide +kernel
/-! the reference on a fresh model: (the code of what is thrown, the answer) -/
def mm_fr (σ : vgS) : Prop := (σ (41, 0, 0) 8 = 0 ∧ σ (41, 0, 0) 9 = 0 ∧ σ (41, 0, 0) 10 = 0 ∧ σ (41, 0, 0) 11 = 0 ∧ σ (41, 0, 0) 12 = 0 ∧ σ (41, 0, 0) 13 = 0 ∧ σ (41, 0, 0) 14 = 1 ∧ σ (41, 0, 0) 15 = 0) ∧ σ (40, 0, 0) 2 = 3 ∧ ∀ c, c < 16 → σ (48, 0, 0) c = -1
abbrev mm_Po (q : Int32 × Int32) : vgO := fun r σ' => r = some (.inl (.int q.2)) ∧ σ' (40, 0, 0) 0 = q.1
theorem mm_no {g : Int32} {x : Int32} (hx : x = 0) : ¬ (¬ g < 0 ∧ g ≤ x - 1) := by
  subst hx
  rintro ⟨h1, h2⟩
  have a := Int32.le_iff_toInt_le.mp h2
  have b := Int32.le_iff_toInt_le.mp (Int32.not_lt.mp h1)
  rw [show ((0 : Int32) - 1).toInt = -1 from by decide] at a
  rw [show (0 : Int32).toInt = 0 from by decide] at b
  omega
def k_X7_trust : List (Nat × vgF) := [(0, vi_aload 0 1), (1, vi_icst (0) 2), (2, vi_put mm_shp 0 0 5), (5, vi_aload 0 6), (6, vi_iload 1 7), (7, vi_callV mm_shp 0 sp_X7_isGroup 1 10), (10, vi_if (fun x => x = 0) 13 19), (13, vi_aload 0 14), (14, vi_icst (1) 15), (15, vi_callV mm_shp 0 sp_X7_no 1 18), (18, vi_ret)]
set_option maxRecDepth 20000 in
theorem s_X7_trust {nm : List vgN} (hcl : vg_closed mm_shp nm) : ∀ q ∈ k_X7_trust, vg_Snd ww_tb [] mm_shp nm mm_cl mm_tyl cX7_trust 4 RX7 (some .int) 2 q.1 q.2 := by
  refine vg_cons (vs_aload_n dX7_trust_0 rfl rfl) ?_
  refine vg_cons (vs_iconst dX7_trust_1 rfl rfl) ?_
  refine vg_cons (vs_putfield (T := TX7) tyX7 dX7_trust_2 rfl (by decide) mm_inX7 tyX7_ok nmX7 rfl rfl u_201 rfl) ?_
  refine vg_cons (vs_aload_n dX7_trust_5 rfl rfl) ?_
  refine vg_cons (vs_iload_n dX7_trust_6 rfl rfl) ?_
  refine vg_cons (vs_callV (T := TX7) (c_X7_isGroup hcl) dX7_trust_7 rfl ww_good u_206 u_198 u_207 u_208 u_209 (by decide +kernel) (by decide) rfl) ?_
  refine vg_cons (vs_if_ne dX7_trust_10 (by decide) rfl) ?_
  refine vg_cons (vs_aload_n dX7_trust_13 rfl rfl) ?_
  refine vg_cons (vs_iconst dX7_trust_14 rfl rfl) ?_
  refine vg_cons (vs_callV (T := TX7) (c_X7_no hcl) dX7_trust_15 rfl ww_good u_210 u_198 u_211 u_212 u_213 (by decide +kernel) (by decide) rfl) ?_
  refine vg_cons (vs_ireturn dX7_trust_18 rfl) ?_
  exact fun _ h => absurd h List.not_mem_nil
theorem m_X7_trust : vg_Code k_X7_trust := fun q h => (s_X7_trust (nm := []) (fun n hn => nomatch hn) q h).1

def pm_X7_trust : vgT → vgS → Prop := fun av σ => match av with
  | [.inr (40, 0, 0), .inl (.int c), .inl (.int d)] => mm_fr σ
  | _ => False
def mf_X7_trust : vgT → Int32 × Int32 := fun av => match av with
  | [.inr (40, 0, 0), .inl (.int c), .inl (.int d)] => (1, 0)
  | _ => (0, 0)
theorem wm_X7_trust : ∀ av σ, pm_X7_trust av σ → vg_wd av ≤ 4 := by
  intro av σ h
  unfold pm_X7_trust at h
  split at h
  · exact Nat.le_of_ble_eq_true rfl
  · exact h.elim
set_option maxRecDepth 20000 in
theorem gm_X7_trust : ∀ av σ, pm_X7_trust av σ → vg_Go k_X7_trust (mm_Po (mf_X7_trust av)) 0 (vg_args 0 av) [] σ := by
  intro av σ h
  unfold pm_X7_trust at h
  split at h
  next c d =>
    refine vg_run (cuts := []) m_X7_trust 20 ?_
    have ht : ¬ (¬ c < 0 ∧ c ≤ σ (41, 0, 0) 9 - 1) := mm_no h.1.2.1
    refine And.intro trivial (And.intro (fun _ => And.intro trivial ⟨rfl, rfl⟩) (fun z => absurd (jb_f ht) z))
  next => exact h.elim
theorem r_X7_trust {nm : List vgN} (hcl : vg_closed mm_shp nm) : vg_Met ww_tb [] mm_shp nm mm_cl mm_tyl yX7_trust cX7_trust 4 (some .int) 2 pm_X7_trust (fun av _ => mm_Po (mf_X7_trust av)) := vg_met hcl (by decide +kernel) rfl (s_X7_trust hcl) wm_X7_trust gm_X7_trust
def k_X7_update : List (Nat × vgF) := [(0, vi_aload 0 1), (1, vi_icst (0) 2), (2, vi_put mm_shp 0 0 5), (5, vi_aload 0 6), (6, vi_iload 1 7), (7, vi_callV mm_shp 0 sp_X7_isWarning 1 10), (10, vi_if (fun x => x = 0) 13 19), (13, vi_aload 0 14), (14, vi_icst (1) 15), (15, vi_callV mm_shp 0 sp_X7_no 1 18), (18, vi_ret)]
set_option maxRecDepth 20000 in
theorem s_X7_update {nm : List vgN} (hcl : vg_closed mm_shp nm) : ∀ q ∈ k_X7_update, vg_Snd ww_tb [] mm_shp nm mm_cl mm_tyl cX7_update 5 RX7 (some .int) 2 q.1 q.2 := by
  refine vg_cons (vs_aload_n dX7_update_0 rfl rfl) ?_
  refine vg_cons (vs_iconst dX7_update_1 rfl rfl) ?_
  refine vg_cons (vs_putfield (T := TX7) tyX7 dX7_update_2 rfl (by decide) mm_inX7 tyX7_ok nmX7 rfl rfl u_201 rfl) ?_
  refine vg_cons (vs_aload_n dX7_update_5 rfl rfl) ?_
  refine vg_cons (vs_iload_n dX7_update_6 rfl rfl) ?_
  refine vg_cons (vs_callV (T := TX7) (c_X7_isWarning hcl) dX7_update_7 rfl ww_good u_214 u_198 u_215 u_216 u_217 (by decide +kernel) (by decide) rfl) ?_
  refine vg_cons (vs_if_ne dX7_update_10 (by decide) rfl) ?_
  refine vg_cons (vs_aload_n dX7_update_13 rfl rfl) ?_
  refine vg_cons (vs_iconst dX7_update_14 rfl rfl) ?_
  refine vg_cons (vs_callV (T := TX7) (c_X7_no hcl) dX7_update_15 rfl ww_good u_210 u_198 u_211 u_212 u_213 (by decide +kernel) (by decide) rfl) ?_
  refine vg_cons (vs_ireturn dX7_update_18 rfl) ?_
  exact fun _ h => absurd h List.not_mem_nil
theorem m_X7_update : vg_Code k_X7_update := fun q h => (s_X7_update (nm := []) (fun n hn => nomatch hn) q h).1

def pm_X7_update : vgT → vgS → Prop := fun av σ => match av with
  | [.inr (40, 0, 0), .inl (.int c), .inl (.int d), .inl (.int e), .inl (.int f)] => mm_fr σ
  | _ => False
def mf_X7_update : vgT → Int32 × Int32 := fun av => match av with
  | [.inr (40, 0, 0), .inl (.int c), .inl (.int d), .inl (.int e), .inl (.int f)] => (1, 0)
  | _ => (0, 0)
theorem wm_X7_update : ∀ av σ, pm_X7_update av σ → vg_wd av ≤ 5 := by
  intro av σ h
  unfold pm_X7_update at h
  split at h
  · exact Nat.le_of_ble_eq_true rfl
  · exact h.elim
set_option maxRecDepth 20000 in
theorem gm_X7_update : ∀ av σ, pm_X7_update av σ → vg_Go k_X7_update (mm_Po (mf_X7_update av)) 0 (vg_args 0 av) [] σ := by
  intro av σ h
  unfold pm_X7_update at h
  split at h
  next c d e f =>
    refine vg_run (cuts := []) m_X7_update 20 ?_
    have ht : ¬ (¬ c < 0 ∧ c ≤ σ (41, 0, 0) 10 - 1) := mm_no h.1.2.2.1
    refine And.intro trivial (And.intro (fun _ => And.intro trivial ⟨rfl, rfl⟩) (fun z => absurd (jb_f ht) z))
  next => exact h.elim
theorem r_X7_update {nm : List vgN} (hcl : vg_closed mm_shp nm) : vg_Met ww_tb [] mm_shp nm mm_cl mm_tyl yX7_update cX7_update 5 (some .int) 2 pm_X7_update (fun av _ => mm_Po (mf_X7_update av)) := vg_met hcl (by decide +kernel) rfl (s_X7_update hcl) wm_X7_update gm_X7_update
def k_X7_cancel : List (Nat × vgF) := [(0, vi_aload 0 1), (1, vi_icst (0) 2), (2, vi_put mm_shp 0 0 5), (5, vi_aload 0 6), (6, vi_iload 1 7), (7, vi_callV mm_shp 0 sp_X7_isWarning 1 10), (10, vi_if (fun x => x = 0) 13 19), (13, vi_aload 0 14), (14, vi_icst (1) 15), (15, vi_callV mm_shp 0 sp_X7_no 1 18), (18, vi_ret)]
set_option maxRecDepth 20000 in
theorem s_X7_cancel {nm : List vgN} (hcl : vg_closed mm_shp nm) : ∀ q ∈ k_X7_cancel, vg_Snd ww_tb [] mm_shp nm mm_cl mm_tyl cX7_cancel 3 RX7 (some .int) 2 q.1 q.2 := by
  refine vg_cons (vs_aload_n dX7_cancel_0 rfl rfl) ?_
  refine vg_cons (vs_iconst dX7_cancel_1 rfl rfl) ?_
  refine vg_cons (vs_putfield (T := TX7) tyX7 dX7_cancel_2 rfl (by decide) mm_inX7 tyX7_ok nmX7 rfl rfl u_201 rfl) ?_
  refine vg_cons (vs_aload_n dX7_cancel_5 rfl rfl) ?_
  refine vg_cons (vs_iload_n dX7_cancel_6 rfl rfl) ?_
  refine vg_cons (vs_callV (T := TX7) (c_X7_isWarning hcl) dX7_cancel_7 rfl ww_good u_214 u_198 u_215 u_216 u_217 (by decide +kernel) (by decide) rfl) ?_
  refine vg_cons (vs_if_ne dX7_cancel_10 (by decide) rfl) ?_
  refine vg_cons (vs_aload_n dX7_cancel_13 rfl rfl) ?_
  refine vg_cons (vs_iconst dX7_cancel_14 rfl rfl) ?_
  refine vg_cons (vs_callV (T := TX7) (c_X7_no hcl) dX7_cancel_15 rfl ww_good u_210 u_198 u_211 u_212 u_213 (by decide +kernel) (by decide) rfl) ?_
  refine vg_cons (vs_ireturn dX7_cancel_18 rfl) ?_
  exact fun _ h => absurd h List.not_mem_nil
theorem m_X7_cancel : vg_Code k_X7_cancel := fun q h => (s_X7_cancel (nm := []) (fun n hn => nomatch hn) q h).1

def pm_X7_cancel : vgT → vgS → Prop := fun av σ => match av with
  | [.inr (40, 0, 0), .inl (.int c)] => mm_fr σ
  | _ => False
def mf_X7_cancel : vgT → Int32 × Int32 := fun av => match av with
  | [.inr (40, 0, 0), .inl (.int c)] => (1, 0)
  | _ => (0, 0)
theorem wm_X7_cancel : ∀ av σ, pm_X7_cancel av σ → vg_wd av ≤ 3 := by
  intro av σ h
  unfold pm_X7_cancel at h
  split at h
  · exact Nat.le_of_ble_eq_true rfl
  · exact h.elim
set_option maxRecDepth 20000 in
theorem gm_X7_cancel : ∀ av σ, pm_X7_cancel av σ → vg_Go k_X7_cancel (mm_Po (mf_X7_cancel av)) 0 (vg_args 0 av) [] σ := by
  intro av σ h
  unfold pm_X7_cancel at h
  split at h
  next c =>
    refine vg_run (cuts := []) m_X7_cancel 20 ?_
    have ht : ¬ (¬ c < 0 ∧ c ≤ σ (41, 0, 0) 10 - 1) := mm_no h.1.2.2.1
    refine And.intro trivial (And.intro (fun _ => And.intro trivial ⟨rfl, rfl⟩) (fun z => absurd (jb_f ht) z))
  next => exact h.elim
theorem r_X7_cancel {nm : List vgN} (hcl : vg_closed mm_shp nm) : vg_Met ww_tb [] mm_shp nm mm_cl mm_tyl yX7_cancel cX7_cancel 3 (some .int) 2 pm_X7_cancel (fun av _ => mm_Po (mf_X7_cancel av)) := vg_met hcl (by decide +kernel) rfl (s_X7_cancel hcl) wm_X7_cancel gm_X7_cancel
def k_X7_approve : List (Nat × vgF) := [(0, vi_aload 0 1), (1, vi_icst (0) 2), (2, vi_put mm_shp 0 0 5), (5, vi_aload 0 6), (6, vi_iload 1 7), (7, vi_callV mm_shp 0 sp_X7_isWarning 1 10), (10, vi_if (fun x => x = 0) 22 13), (13, vi_iload 2 14), (14, vi_icst (0) 15), (15, vi_icst (3) 16), (16, vi_callS sp_X7_in 3 19), (19, vi_if (fun x => x = 0) 22 28), (22, vi_aload 0 23), (23, vi_icst (1) 24), (24, vi_callV mm_shp 0 sp_X7_no 1 27), (27, vi_ret)]
set_option maxRecDepth 20000 in
theorem s_X7_approve {nm : List vgN} (hcl : vg_closed mm_shp nm) : ∀ q ∈ k_X7_approve, vg_Snd ww_tb [] mm_shp nm mm_cl mm_tyl cX7_approve 4 RX7 (some .int) 2 q.1 q.2 := by
  refine vg_cons (vs_aload_n dX7_approve_0 rfl rfl) ?_
  refine vg_cons (vs_iconst dX7_approve_1 rfl rfl) ?_
  refine vg_cons (vs_putfield (T := TX7) tyX7 dX7_approve_2 rfl (by decide) mm_inX7 tyX7_ok nmX7 rfl rfl u_201 rfl) ?_
  refine vg_cons (vs_aload_n dX7_approve_5 rfl rfl) ?_
  refine vg_cons (vs_iload_n dX7_approve_6 rfl rfl) ?_
  refine vg_cons (vs_callV (T := TX7) (c_X7_isWarning hcl) dX7_approve_7 rfl ww_good u_214 u_198 u_215 u_216 u_217 (by decide +kernel) (by decide) rfl) ?_
  refine vg_cons (vs_if_eq dX7_approve_10 (by decide) rfl) ?_
  refine vg_cons (vs_iload_n dX7_approve_13 rfl rfl) ?_
  refine vg_cons (vs_iconst dX7_approve_14 rfl rfl) ?_
  refine vg_cons (vs_iconst dX7_approve_15 rfl rfl) ?_
  refine vg_cons (vs_callS (c_X7_in hcl) dX7_approve_16 ww_good u_197 u_198 u_200 u_199 (by decide +kernel) (by decide) rfl) ?_
  refine vg_cons (vs_if_ne dX7_approve_19 (by decide) rfl) ?_
  refine vg_cons (vs_aload_n dX7_approve_22 rfl rfl) ?_
  refine vg_cons (vs_iconst dX7_approve_23 rfl rfl) ?_
  refine vg_cons (vs_callV (T := TX7) (c_X7_no hcl) dX7_approve_24 rfl ww_good u_210 u_198 u_211 u_212 u_213 (by decide +kernel) (by decide) rfl) ?_
  refine vg_cons (vs_ireturn dX7_approve_27 rfl) ?_
  exact fun _ h => absurd h List.not_mem_nil
theorem m_X7_approve : vg_Code k_X7_approve := fun q h => (s_X7_approve (nm := []) (fun n hn => nomatch hn) q h).1

def pm_X7_approve : vgT → vgS → Prop := fun av σ => match av with
  | [.inr (40, 0, 0), .inl (.int c), .inl (.int d)] => mm_fr σ
  | _ => False
def mf_X7_approve : vgT → Int32 × Int32 := fun av => match av with
  | [.inr (40, 0, 0), .inl (.int c), .inl (.int d)] => (1, 0)
  | _ => (0, 0)
theorem wm_X7_approve : ∀ av σ, pm_X7_approve av σ → vg_wd av ≤ 4 := by
  intro av σ h
  unfold pm_X7_approve at h
  split at h
  · exact Nat.le_of_ble_eq_true rfl
  · exact h.elim
set_option maxRecDepth 20000 in
theorem gm_X7_approve : ∀ av σ, pm_X7_approve av σ → vg_Go k_X7_approve (mm_Po (mf_X7_approve av)) 0 (vg_args 0 av) [] σ := by
  intro av σ h
  unfold pm_X7_approve at h
  split at h
  next c d =>
    refine vg_run (cuts := []) m_X7_approve 20 ?_
    have ht : ¬ (¬ c < 0 ∧ c ≤ σ (41, 0, 0) 10 - 1) := mm_no h.1.2.2.1
    refine And.intro trivial (And.intro (fun _ => And.intro trivial ⟨rfl, rfl⟩) (fun z => absurd (jb_f ht) z))
  next => exact h.elim
theorem r_X7_approve {nm : List vgN} (hcl : vg_closed mm_shp nm) : vg_Met ww_tb [] mm_shp nm mm_cl mm_tyl yX7_approve cX7_approve 4 (some .int) 2 pm_X7_approve (fun av _ => mm_Po (mf_X7_approve av)) := vg_met hcl (by decide +kernel) rfl (s_X7_approve hcl) wm_X7_approve gm_X7_approve
def k_X7_send : List (Nat × vgF) := [(0, vi_aload 0 1), (1, vi_icst (0) 2), (2, vi_put mm_shp 0 0 5), (5, vi_aload 0 6), (6, vi_iload 1 7), (7, vi_callV mm_shp 0 sp_X7_isWarning 1 10), (10, vi_if (fun x => x = 0) 13 19), (13, vi_aload 0 14), (14, vi_icst (1) 15), (15, vi_callV mm_shp 0 sp_X7_no 1 18), (18, vi_ret)]
set_option maxRecDepth 20000 in
theorem s_X7_send {nm : List vgN} (hcl : vg_closed mm_shp nm) : ∀ q ∈ k_X7_send, vg_Snd ww_tb [] mm_shp nm mm_cl mm_tyl cX7_send 5 RX7 (some .int) 2 q.1 q.2 := by
  refine vg_cons (vs_aload_n dX7_send_0 rfl rfl) ?_
  refine vg_cons (vs_iconst dX7_send_1 rfl rfl) ?_
  refine vg_cons (vs_putfield (T := TX7) tyX7 dX7_send_2 rfl (by decide) mm_inX7 tyX7_ok nmX7 rfl rfl u_201 rfl) ?_
  refine vg_cons (vs_aload_n dX7_send_5 rfl rfl) ?_
  refine vg_cons (vs_iload_n dX7_send_6 rfl rfl) ?_
  refine vg_cons (vs_callV (T := TX7) (c_X7_isWarning hcl) dX7_send_7 rfl ww_good u_214 u_198 u_215 u_216 u_217 (by decide +kernel) (by decide) rfl) ?_
  refine vg_cons (vs_if_ne dX7_send_10 (by decide) rfl) ?_
  refine vg_cons (vs_aload_n dX7_send_13 rfl rfl) ?_
  refine vg_cons (vs_iconst dX7_send_14 rfl rfl) ?_
  refine vg_cons (vs_callV (T := TX7) (c_X7_no hcl) dX7_send_15 rfl ww_good u_210 u_198 u_211 u_212 u_213 (by decide +kernel) (by decide) rfl) ?_
  refine vg_cons (vs_ireturn dX7_send_18 rfl) ?_
  exact fun _ h => absurd h List.not_mem_nil
theorem m_X7_send : vg_Code k_X7_send := fun q h => (s_X7_send (nm := []) (fun n hn => nomatch hn) q h).1

def pm_X7_send : vgT → vgS → Prop := fun av σ => match av with
  | [.inr (40, 0, 0), .inl (.int c)] => mm_fr σ
  | _ => False
def mf_X7_send : vgT → Int32 × Int32 := fun av => match av with
  | [.inr (40, 0, 0), .inl (.int c)] => (1, 0)
  | _ => (0, 0)
theorem wm_X7_send : ∀ av σ, pm_X7_send av σ → vg_wd av ≤ 5 := by
  intro av σ h
  unfold pm_X7_send at h
  split at h
  · exact Nat.le_of_ble_eq_true rfl
  · exact h.elim
set_option maxRecDepth 20000 in
theorem gm_X7_send : ∀ av σ, pm_X7_send av σ → vg_Go k_X7_send (mm_Po (mf_X7_send av)) 0 (vg_args 0 av) [] σ := by
  intro av σ h
  unfold pm_X7_send at h
  split at h
  next c =>
    refine vg_run (cuts := []) m_X7_send 20 ?_
    have ht : ¬ (¬ c < 0 ∧ c ≤ σ (41, 0, 0) 10 - 1) := mm_no h.1.2.2.1
    refine And.intro trivial (And.intro (fun _ => And.intro trivial ⟨rfl, rfl⟩) (fun z => absurd (jb_f ht) z))
  next => exact h.elim
theorem r_X7_send {nm : List vgN} (hcl : vg_closed mm_shp nm) : vg_Met ww_tb [] mm_shp nm mm_cl mm_tyl yX7_send cX7_send 5 (some .int) 2 pm_X7_send (fun av _ => mm_Po (mf_X7_send av)) := vg_met hcl (by decide +kernel) rfl (s_X7_send hcl) wm_X7_send gm_X7_send
def k_X7_ofGroup : List (Nat × vgF) := [(0, vi_aload 0 1), (1, vi_icst (0) 2), (2, vi_put mm_shp 0 0 5), (5, vi_aload 0 6), (6, vi_iload 1 7), (7, vi_callV mm_shp 0 sp_X7_isGroup 1 10), (10, vi_if (fun x => x = 0) 13 19), (13, vi_aload 0 14), (14, vi_icst (1) 15), (15, vi_callV mm_shp 0 sp_X7_no 1 18), (18, vi_ret)]
set_option maxRecDepth 20000 in
theorem s_X7_ofGroup {nm : List vgN} (hcl : vg_closed mm_shp nm) : ∀ q ∈ k_X7_ofGroup, vg_Snd ww_tb [] mm_shp nm mm_cl mm_tyl cX7_ofGroup 3 RX7 (some .int) 2 q.1 q.2 := by
  refine vg_cons (vs_aload_n dX7_ofGroup_0 rfl rfl) ?_
  refine vg_cons (vs_iconst dX7_ofGroup_1 rfl rfl) ?_
  refine vg_cons (vs_putfield (T := TX7) tyX7 dX7_ofGroup_2 rfl (by decide) mm_inX7 tyX7_ok nmX7 rfl rfl u_201 rfl) ?_
  refine vg_cons (vs_aload_n dX7_ofGroup_5 rfl rfl) ?_
  refine vg_cons (vs_iload_n dX7_ofGroup_6 rfl rfl) ?_
  refine vg_cons (vs_callV (T := TX7) (c_X7_isGroup hcl) dX7_ofGroup_7 rfl ww_good u_206 u_198 u_207 u_208 u_209 (by decide +kernel) (by decide) rfl) ?_
  refine vg_cons (vs_if_ne dX7_ofGroup_10 (by decide) rfl) ?_
  refine vg_cons (vs_aload_n dX7_ofGroup_13 rfl rfl) ?_
  refine vg_cons (vs_iconst dX7_ofGroup_14 rfl rfl) ?_
  refine vg_cons (vs_callV (T := TX7) (c_X7_no hcl) dX7_ofGroup_15 rfl ww_good u_210 u_198 u_211 u_212 u_213 (by decide +kernel) (by decide) rfl) ?_
  refine vg_cons (vs_ireturn dX7_ofGroup_18 rfl) ?_
  exact fun _ h => absurd h List.not_mem_nil
theorem m_X7_ofGroup : vg_Code k_X7_ofGroup := fun q h => (s_X7_ofGroup (nm := []) (fun n hn => nomatch hn) q h).1

def pm_X7_ofGroup : vgT → vgS → Prop := fun av σ => match av with
  | [.inr (40, 0, 0), .inl (.int c), .inl (.int d)] => mm_fr σ
  | _ => False
def mf_X7_ofGroup : vgT → Int32 × Int32 := fun av => match av with
  | [.inr (40, 0, 0), .inl (.int c), .inl (.int d)] => (1, 0)
  | _ => (0, 0)
theorem wm_X7_ofGroup : ∀ av σ, pm_X7_ofGroup av σ → vg_wd av ≤ 3 := by
  intro av σ h
  unfold pm_X7_ofGroup at h
  split at h
  · exact Nat.le_of_ble_eq_true rfl
  · exact h.elim
set_option maxRecDepth 20000 in
theorem gm_X7_ofGroup : ∀ av σ, pm_X7_ofGroup av σ → vg_Go k_X7_ofGroup (mm_Po (mf_X7_ofGroup av)) 0 (vg_args 0 av) [] σ := by
  intro av σ h
  unfold pm_X7_ofGroup at h
  split at h
  next c d =>
    refine vg_run (cuts := []) m_X7_ofGroup 20 ?_
    have ht : ¬ (¬ c < 0 ∧ c ≤ σ (41, 0, 0) 9 - 1) := mm_no h.1.2.1
    refine And.intro trivial (And.intro (fun _ => And.intro trivial ⟨rfl, rfl⟩) (fun z => absurd (jb_f ht) z))
  next => exact h.elim
theorem r_X7_ofGroup {nm : List vgN} (hcl : vg_closed mm_shp nm) : vg_Met ww_tb [] mm_shp nm mm_cl mm_tyl yX7_ofGroup cX7_ofGroup 3 (some .int) 2 pm_X7_ofGroup (fun av _ => mm_Po (mf_X7_ofGroup av)) := vg_met hcl (by decide +kernel) rfl (s_X7_ofGroup hcl) wm_X7_ofGroup gm_X7_ofGroup
def k_X7_heard : List (Nat × vgF) := [(0, vi_aload 0 1), (1, vi_icst (0) 2), (2, vi_put mm_shp 0 0 5), (5, vi_aload 0 6), (6, vi_iload 1 7), (7, vi_callV mm_shp 0 sp_X7_isGroup 1 10), (10, vi_if (fun x => x = 0) 21 13), (13, vi_aload 0 14), (14, vi_iload 2 15), (15, vi_callV mm_shp 0 sp_X7_isWarning 1 18), (18, vi_if (fun x => x = 0) 21 27), (21, vi_aload 0 22), (22, vi_icst (1) 23), (23, vi_callV mm_shp 0 sp_X7_no 1 26), (26, vi_ret)]
set_option maxRecDepth 20000 in
theorem s_X7_heard {nm : List vgN} (hcl : vg_closed mm_shp nm) : ∀ q ∈ k_X7_heard, vg_Snd ww_tb [] mm_shp nm mm_cl mm_tyl cX7_heard 4 RX7 (some .int) 2 q.1 q.2 := by
  refine vg_cons (vs_aload_n dX7_heard_0 rfl rfl) ?_
  refine vg_cons (vs_iconst dX7_heard_1 rfl rfl) ?_
  refine vg_cons (vs_putfield (T := TX7) tyX7 dX7_heard_2 rfl (by decide) mm_inX7 tyX7_ok nmX7 rfl rfl u_201 rfl) ?_
  refine vg_cons (vs_aload_n dX7_heard_5 rfl rfl) ?_
  refine vg_cons (vs_iload_n dX7_heard_6 rfl rfl) ?_
  refine vg_cons (vs_callV (T := TX7) (c_X7_isGroup hcl) dX7_heard_7 rfl ww_good u_206 u_198 u_207 u_208 u_209 (by decide +kernel) (by decide) rfl) ?_
  refine vg_cons (vs_if_eq dX7_heard_10 (by decide) rfl) ?_
  refine vg_cons (vs_aload_n dX7_heard_13 rfl rfl) ?_
  refine vg_cons (vs_iload_n dX7_heard_14 rfl rfl) ?_
  refine vg_cons (vs_callV (T := TX7) (c_X7_isWarning hcl) dX7_heard_15 rfl ww_good u_214 u_198 u_215 u_216 u_217 (by decide +kernel) (by decide) rfl) ?_
  refine vg_cons (vs_if_ne dX7_heard_18 (by decide) rfl) ?_
  refine vg_cons (vs_aload_n dX7_heard_21 rfl rfl) ?_
  refine vg_cons (vs_iconst dX7_heard_22 rfl rfl) ?_
  refine vg_cons (vs_callV (T := TX7) (c_X7_no hcl) dX7_heard_23 rfl ww_good u_210 u_198 u_211 u_212 u_213 (by decide +kernel) (by decide) rfl) ?_
  refine vg_cons (vs_ireturn dX7_heard_26 rfl) ?_
  exact fun _ h => absurd h List.not_mem_nil
theorem m_X7_heard : vg_Code k_X7_heard := fun q h => (s_X7_heard (nm := []) (fun n hn => nomatch hn) q h).1

def pm_X7_heard : vgT → vgS → Prop := fun av σ => match av with
  | [.inr (40, 0, 0), .inl (.int c), .inl (.int d), .inl (.int e)] => mm_fr σ
  | _ => False
def mf_X7_heard : vgT → Int32 × Int32 := fun av => match av with
  | [.inr (40, 0, 0), .inl (.int c), .inl (.int d), .inl (.int e)] => (1, 0)
  | _ => (0, 0)
theorem wm_X7_heard : ∀ av σ, pm_X7_heard av σ → vg_wd av ≤ 4 := by
  intro av σ h
  unfold pm_X7_heard at h
  split at h
  · exact Nat.le_of_ble_eq_true rfl
  · exact h.elim
set_option maxRecDepth 20000 in
theorem gm_X7_heard : ∀ av σ, pm_X7_heard av σ → vg_Go k_X7_heard (mm_Po (mf_X7_heard av)) 0 (vg_args 0 av) [] σ := by
  intro av σ h
  unfold pm_X7_heard at h
  split at h
  next c d e =>
    refine vg_run (cuts := []) m_X7_heard 20 ?_
    have ht : ¬ (¬ c < 0 ∧ c ≤ σ (41, 0, 0) 9 - 1) := mm_no h.1.2.1
    refine And.intro trivial (And.intro (fun _ => And.intro trivial ⟨rfl, rfl⟩) (fun z => absurd (jb_f ht) z))
  next => exact h.elim
theorem r_X7_heard {nm : List vgN} (hcl : vg_closed mm_shp nm) : vg_Met ww_tb [] mm_shp nm mm_cl mm_tyl yX7_heard cX7_heard 4 (some .int) 2 pm_X7_heard (fun av _ => mm_Po (mf_X7_heard av)) := vg_met hcl (by decide +kernel) rfl (s_X7_heard hcl) wm_X7_heard gm_X7_heard
def k_X7_ofWarning : List (Nat × vgF) := [(0, vi_aload 0 1), (1, vi_icst (0) 2), (2, vi_put mm_shp 0 0 5), (5, vi_aload 0 6), (6, vi_iload 1 7), (7, vi_callV mm_shp 0 sp_X7_isWarning 1 10), (10, vi_if (fun x => x = 0) 13 19), (13, vi_aload 0 14), (14, vi_icst (1) 15), (15, vi_callV mm_shp 0 sp_X7_no 1 18), (18, vi_ret)]
set_option maxRecDepth 20000 in
theorem s_X7_ofWarning {nm : List vgN} (hcl : vg_closed mm_shp nm) : ∀ q ∈ k_X7_ofWarning, vg_Snd ww_tb [] mm_shp nm mm_cl mm_tyl cX7_ofWarning 3 RX7 (some .int) 2 q.1 q.2 := by
  refine vg_cons (vs_aload_n dX7_ofWarning_0 rfl rfl) ?_
  refine vg_cons (vs_iconst dX7_ofWarning_1 rfl rfl) ?_
  refine vg_cons (vs_putfield (T := TX7) tyX7 dX7_ofWarning_2 rfl (by decide) mm_inX7 tyX7_ok nmX7 rfl rfl u_201 rfl) ?_
  refine vg_cons (vs_aload_n dX7_ofWarning_5 rfl rfl) ?_
  refine vg_cons (vs_iload_n dX7_ofWarning_6 rfl rfl) ?_
  refine vg_cons (vs_callV (T := TX7) (c_X7_isWarning hcl) dX7_ofWarning_7 rfl ww_good u_214 u_198 u_215 u_216 u_217 (by decide +kernel) (by decide) rfl) ?_
  refine vg_cons (vs_if_ne dX7_ofWarning_10 (by decide) rfl) ?_
  refine vg_cons (vs_aload_n dX7_ofWarning_13 rfl rfl) ?_
  refine vg_cons (vs_iconst dX7_ofWarning_14 rfl rfl) ?_
  refine vg_cons (vs_callV (T := TX7) (c_X7_no hcl) dX7_ofWarning_15 rfl ww_good u_210 u_198 u_211 u_212 u_213 (by decide +kernel) (by decide) rfl) ?_
  refine vg_cons (vs_ireturn dX7_ofWarning_18 rfl) ?_
  exact fun _ h => absurd h List.not_mem_nil
theorem m_X7_ofWarning : vg_Code k_X7_ofWarning := fun q h => (s_X7_ofWarning (nm := []) (fun n hn => nomatch hn) q h).1

def pm_X7_ofWarning : vgT → vgS → Prop := fun av σ => match av with
  | [.inr (40, 0, 0), .inl (.int c), .inl (.int d)] => mm_fr σ
  | _ => False
def mf_X7_ofWarning : vgT → Int32 × Int32 := fun av => match av with
  | [.inr (40, 0, 0), .inl (.int c), .inl (.int d)] => (1, 0)
  | _ => (0, 0)
theorem wm_X7_ofWarning : ∀ av σ, pm_X7_ofWarning av σ → vg_wd av ≤ 3 := by
  intro av σ h
  unfold pm_X7_ofWarning at h
  split at h
  · exact Nat.le_of_ble_eq_true rfl
  · exact h.elim
set_option maxRecDepth 20000 in
theorem gm_X7_ofWarning : ∀ av σ, pm_X7_ofWarning av σ → vg_Go k_X7_ofWarning (mm_Po (mf_X7_ofWarning av)) 0 (vg_args 0 av) [] σ := by
  intro av σ h
  unfold pm_X7_ofWarning at h
  split at h
  next c d =>
    refine vg_run (cuts := []) m_X7_ofWarning 20 ?_
    have ht : ¬ (¬ c < 0 ∧ c ≤ σ (41, 0, 0) 10 - 1) := mm_no h.1.2.2.1
    refine And.intro trivial (And.intro (fun _ => And.intro trivial ⟨rfl, rfl⟩) (fun z => absurd (jb_f ht) z))
  next => exact h.elim
theorem r_X7_ofWarning {nm : List vgN} (hcl : vg_closed mm_shp nm) : vg_Met ww_tb [] mm_shp nm mm_cl mm_tyl yX7_ofWarning cX7_ofWarning 3 (some .int) 2 pm_X7_ofWarning (fun av _ => mm_Po (mf_X7_ofWarning av)) := vg_met hcl (by decide +kernel) rfl (s_X7_ofWarning hcl) wm_X7_ofWarning gm_X7_ofWarning
def k_X7_chain : List (Nat × vgF) := [(0, vi_aload 0 1), (1, vi_icst (0) 2), (2, vi_put mm_shp 0 0 5), (5, vi_aload 0 6), (6, vi_iload 1 7), (7, vi_callV mm_shp 0 sp_X7_isGroup 1 10), (10, vi_if (fun x => x = 0) 21 13), (13, vi_aload 0 14), (14, vi_iload 2 15), (15, vi_callV mm_shp 0 sp_X7_isWarning 1 18), (18, vi_if (fun x => x = 0) 21 27), (21, vi_aload 0 22), (22, vi_icst (1) 23), (23, vi_callV mm_shp 0 sp_X7_no 1 26), (26, vi_ret)]
set_option maxRecDepth 20000 in
theorem s_X7_chain {nm : List vgN} (hcl : vg_closed mm_shp nm) : ∀ q ∈ k_X7_chain, vg_Snd ww_tb [] mm_shp nm mm_cl mm_tyl cX7_chain 3 RX7 (some .int) 2 q.1 q.2 := by
  refine vg_cons (vs_aload_n dX7_chain_0 rfl rfl) ?_
  refine vg_cons (vs_iconst dX7_chain_1 rfl rfl) ?_
  refine vg_cons (vs_putfield (T := TX7) tyX7 dX7_chain_2 rfl (by decide) mm_inX7 tyX7_ok nmX7 rfl rfl u_201 rfl) ?_
  refine vg_cons (vs_aload_n dX7_chain_5 rfl rfl) ?_
  refine vg_cons (vs_iload_n dX7_chain_6 rfl rfl) ?_
  refine vg_cons (vs_callV (T := TX7) (c_X7_isGroup hcl) dX7_chain_7 rfl ww_good u_206 u_198 u_207 u_208 u_209 (by decide +kernel) (by decide) rfl) ?_
  refine vg_cons (vs_if_eq dX7_chain_10 (by decide) rfl) ?_
  refine vg_cons (vs_aload_n dX7_chain_13 rfl rfl) ?_
  refine vg_cons (vs_iload_n dX7_chain_14 rfl rfl) ?_
  refine vg_cons (vs_callV (T := TX7) (c_X7_isWarning hcl) dX7_chain_15 rfl ww_good u_214 u_198 u_215 u_216 u_217 (by decide +kernel) (by decide) rfl) ?_
  refine vg_cons (vs_if_ne dX7_chain_18 (by decide) rfl) ?_
  refine vg_cons (vs_aload_n dX7_chain_21 rfl rfl) ?_
  refine vg_cons (vs_iconst dX7_chain_22 rfl rfl) ?_
  refine vg_cons (vs_callV (T := TX7) (c_X7_no hcl) dX7_chain_23 rfl ww_good u_210 u_198 u_211 u_212 u_213 (by decide +kernel) (by decide) rfl) ?_
  refine vg_cons (vs_ireturn dX7_chain_26 rfl) ?_
  exact fun _ h => absurd h List.not_mem_nil
theorem m_X7_chain : vg_Code k_X7_chain := fun q h => (s_X7_chain (nm := []) (fun n hn => nomatch hn) q h).1

def pm_X7_chain : vgT → vgS → Prop := fun av σ => match av with
  | [.inr (40, 0, 0), .inl (.int c), .inl (.int d)] => mm_fr σ
  | _ => False
def mf_X7_chain : vgT → Int32 × Int32 := fun av => match av with
  | [.inr (40, 0, 0), .inl (.int c), .inl (.int d)] => (1, 0)
  | _ => (0, 0)
theorem wm_X7_chain : ∀ av σ, pm_X7_chain av σ → vg_wd av ≤ 3 := by
  intro av σ h
  unfold pm_X7_chain at h
  split at h
  · exact Nat.le_of_ble_eq_true rfl
  · exact h.elim
set_option maxRecDepth 20000 in
theorem gm_X7_chain : ∀ av σ, pm_X7_chain av σ → vg_Go k_X7_chain (mm_Po (mf_X7_chain av)) 0 (vg_args 0 av) [] σ := by
  intro av σ h
  unfold pm_X7_chain at h
  split at h
  next c d =>
    refine vg_run (cuts := []) m_X7_chain 20 ?_
    have ht : ¬ (¬ c < 0 ∧ c ≤ σ (41, 0, 0) 9 - 1) := mm_no h.1.2.1
    refine And.intro trivial (And.intro (fun _ => And.intro trivial ⟨rfl, rfl⟩) (fun z => absurd (jb_f ht) z))
  next => exact h.elim
theorem r_X7_chain {nm : List vgN} (hcl : vg_closed mm_shp nm) : vg_Met ww_tb [] mm_shp nm mm_cl mm_tyl yX7_chain cX7_chain 3 (some .int) 2 pm_X7_chain (fun av _ => mm_Po (mf_X7_chain av)) := vg_met hcl (by decide +kernel) rfl (s_X7_chain hcl) wm_X7_chain gm_X7_chain
def k_X7_safeIn : List (Nat × vgF) := [(0, vi_aload 0 1), (1, vi_icst (0) 2), (2, vi_put mm_shp 0 0 5), (5, vi_aload 0 6), (6, vi_iload 1 7), (7, vi_callV mm_shp 0 sp_X7_isGroup 1 10), (10, vi_if (fun x => x = 0) 13 19), (13, vi_aload 0 14), (14, vi_icst (1) 15), (15, vi_callV mm_shp 0 sp_X7_no 1 18), (18, vi_ret)]
set_option maxRecDepth 20000 in
theorem s_X7_safeIn {nm : List vgN} (hcl : vg_closed mm_shp nm) : ∀ q ∈ k_X7_safeIn, vg_Snd ww_tb [] mm_shp nm mm_cl mm_tyl cX7_safeIn 3 RX7 (some .int) 2 q.1 q.2 := by
  refine vg_cons (vs_aload_n dX7_safeIn_0 rfl rfl) ?_
  refine vg_cons (vs_iconst dX7_safeIn_1 rfl rfl) ?_
  refine vg_cons (vs_putfield (T := TX7) tyX7 dX7_safeIn_2 rfl (by decide) mm_inX7 tyX7_ok nmX7 rfl rfl u_201 rfl) ?_
  refine vg_cons (vs_aload_n dX7_safeIn_5 rfl rfl) ?_
  refine vg_cons (vs_iload_n dX7_safeIn_6 rfl rfl) ?_
  refine vg_cons (vs_callV (T := TX7) (c_X7_isGroup hcl) dX7_safeIn_7 rfl ww_good u_206 u_198 u_207 u_208 u_209 (by decide +kernel) (by decide) rfl) ?_
  refine vg_cons (vs_if_ne dX7_safeIn_10 (by decide) rfl) ?_
  refine vg_cons (vs_aload_n dX7_safeIn_13 rfl rfl) ?_
  refine vg_cons (vs_iconst dX7_safeIn_14 rfl rfl) ?_
  refine vg_cons (vs_callV (T := TX7) (c_X7_no hcl) dX7_safeIn_15 rfl ww_good u_210 u_198 u_211 u_212 u_213 (by decide +kernel) (by decide) rfl) ?_
  refine vg_cons (vs_ireturn dX7_safeIn_18 rfl) ?_
  exact fun _ h => absurd h List.not_mem_nil
theorem m_X7_safeIn : vg_Code k_X7_safeIn := fun q h => (s_X7_safeIn (nm := []) (fun n hn => nomatch hn) q h).1

def pm_X7_safeIn : vgT → vgS → Prop := fun av σ => match av with
  | [.inr (40, 0, 0), .inl (.int c), .inl (.int d)] => mm_fr σ
  | _ => False
def mf_X7_safeIn : vgT → Int32 × Int32 := fun av => match av with
  | [.inr (40, 0, 0), .inl (.int c), .inl (.int d)] => (1, 0)
  | _ => (0, 0)
theorem wm_X7_safeIn : ∀ av σ, pm_X7_safeIn av σ → vg_wd av ≤ 3 := by
  intro av σ h
  unfold pm_X7_safeIn at h
  split at h
  · exact Nat.le_of_ble_eq_true rfl
  · exact h.elim
set_option maxRecDepth 20000 in
theorem gm_X7_safeIn : ∀ av σ, pm_X7_safeIn av σ → vg_Go k_X7_safeIn (mm_Po (mf_X7_safeIn av)) 0 (vg_args 0 av) [] σ := by
  intro av σ h
  unfold pm_X7_safeIn at h
  split at h
  next c d =>
    refine vg_run (cuts := []) m_X7_safeIn 20 ?_
    have ht : ¬ (¬ c < 0 ∧ c ≤ σ (41, 0, 0) 9 - 1) := mm_no h.1.2.1
    refine And.intro trivial (And.intro (fun _ => And.intro trivial ⟨rfl, rfl⟩) (fun z => absurd (jb_f ht) z))
  next => exact h.elim
theorem r_X7_safeIn {nm : List vgN} (hcl : vg_closed mm_shp nm) : vg_Met ww_tb [] mm_shp nm mm_cl mm_tyl yX7_safeIn cX7_safeIn 3 (some .int) 2 pm_X7_safeIn (fun av _ => mm_Po (mf_X7_safeIn av)) := vg_met hcl (by decide +kernel) rfl (s_X7_safeIn hcl) wm_X7_safeIn gm_X7_safeIn
def k_X7_roomIn : List (Nat × vgF) := [(0, vi_aload 0 1), (1, vi_icst (0) 2), (2, vi_put mm_shp 0 0 5), (5, vi_iload 1 6), (6, vi_icst (0) 7), (7, vi_aload 0 8), (8, vi_get mm_shp 0 1 11), (11, vi_get mm_shp 1 11 14), (14, vi_icst (1) 15), (15, vi_bin (fun x y => x - y) 16), (16, vi_callS sp_X7_in 3 19), (19, vi_if (fun x => x = 0) 22 28), (22, vi_aload 0 23), (23, vi_icst (1) 24), (24, vi_callV mm_shp 0 sp_X7_no 1 27), (27, vi_ret)]
set_option maxRecDepth 20000 in
theorem s_X7_roomIn {nm : List vgN} (hcl : vg_closed mm_shp nm) : ∀ q ∈ k_X7_roomIn, vg_Snd ww_tb [] mm_shp nm mm_cl mm_tyl cX7_roomIn 2 RX7 (some .int) 1 q.1 q.2 := by
  refine vg_cons (vs_aload_n dX7_roomIn_0 rfl rfl) ?_
  refine vg_cons (vs_iconst dX7_roomIn_1 rfl rfl) ?_
  refine vg_cons (vs_putfield (T := TX7) tyX7 dX7_roomIn_2 rfl (by decide) mm_inX7 tyX7_ok nmX7 rfl rfl u_201 rfl) ?_
  refine vg_cons (vs_iload_n dX7_roomIn_5 rfl rfl) ?_
  refine vg_cons (vs_iconst dX7_roomIn_6 rfl rfl) ?_
  refine vg_cons (vs_aload_n dX7_roomIn_7 rfl rfl) ?_
  refine vg_cons (vs_getfield (T := TX7) dX7_roomIn_8 rfl (by decide) mm_inX7 u_202 rfl) ?_
  refine vg_cons (vs_getfield (T := TX6) dX7_roomIn_11 rfl (by decide) mm_inX6 u_218 rfl) ?_
  refine vg_cons (vs_iconst dX7_roomIn_14 rfl rfl) ?_
  refine vg_cons (vs_isub dX7_roomIn_15 rfl) ?_
  refine vg_cons (vs_callS (c_X7_in hcl) dX7_roomIn_16 ww_good u_197 u_198 u_200 u_199 (by decide +kernel) (by decide) rfl) ?_
  refine vg_cons (vs_if_ne dX7_roomIn_19 (by decide) rfl) ?_
  refine vg_cons (vs_aload_n dX7_roomIn_22 rfl rfl) ?_
  refine vg_cons (vs_iconst dX7_roomIn_23 rfl rfl) ?_
  refine vg_cons (vs_callV (T := TX7) (c_X7_no hcl) dX7_roomIn_24 rfl ww_good u_210 u_198 u_211 u_212 u_213 (by decide +kernel) (by decide) rfl) ?_
  refine vg_cons (vs_ireturn dX7_roomIn_27 rfl) ?_
  exact fun _ h => absurd h List.not_mem_nil
theorem m_X7_roomIn : vg_Code k_X7_roomIn := fun q h => (s_X7_roomIn (nm := []) (fun n hn => nomatch hn) q h).1

def pm_X7_roomIn : vgT → vgS → Prop := fun av σ => match av with
  | [.inr (40, 0, 0), .inl (.int c)] => mm_fr σ
  | _ => False
def mf_X7_roomIn : vgT → Int32 × Int32 := fun av => match av with
  | [.inr (40, 0, 0), .inl (.int c)] => (1, 0)
  | _ => (0, 0)
theorem wm_X7_roomIn : ∀ av σ, pm_X7_roomIn av σ → vg_wd av ≤ 2 := by
  intro av σ h
  unfold pm_X7_roomIn at h
  split at h
  · exact Nat.le_of_ble_eq_true rfl
  · exact h.elim
set_option maxRecDepth 20000 in
theorem gm_X7_roomIn : ∀ av σ, pm_X7_roomIn av σ → vg_Go k_X7_roomIn (mm_Po (mf_X7_roomIn av)) 0 (vg_args 0 av) [] σ := by
  intro av σ h
  unfold pm_X7_roomIn at h
  split at h
  next c =>
    refine vg_run (cuts := []) m_X7_roomIn 20 ?_
    have ht : ¬ (¬ c < 0 ∧ c ≤ σ (41, 0, 0) 11 - 1) := mm_no h.1.2.2.2.1
    refine And.intro trivial (And.intro (fun _ => And.intro trivial ⟨rfl, rfl⟩) (fun z => absurd (jb_f ht) z))
  next => exact h.elim
theorem r_X7_roomIn {nm : List vgN} (hcl : vg_closed mm_shp nm) : vg_Met ww_tb [] mm_shp nm mm_cl mm_tyl yX7_roomIn cX7_roomIn 2 (some .int) 1 pm_X7_roomIn (fun av _ => mm_Po (mf_X7_roomIn av)) := vg_met hcl (by decide +kernel) rfl (s_X7_roomIn hcl) wm_X7_roomIn gm_X7_roomIn
