-- words of the tables, and what stands at each place of the methods' code (laid by program)
theorem u_67 : Cond.code yX5_checkGroup cX5_checkGroup 2 none ∈ ww_tb := by decide +kernel
theorem u_68 : Cond.methodLink RX5 60 yX5_checkGroup ∈ ww_tb := by decide +kernel
theorem u_69 : Cond.instanceMethod yX5_checkGroup ∈ ww_tb := by decide +kernel
theorem u_70 : Cond.selects RX5 yX5_checkGroup yX5_checkGroup ∈ ww_tb := by decide +kernel
theorem u_71 : Cond.code yX5_checkWarning cX5_checkWarning 2 none ∈ ww_tb := by decide +kernel
theorem u_72 : Cond.methodLink RX5 132 yX5_checkWarning ∈ ww_tb := by decide +kernel
theorem u_73 : Cond.instanceMethod yX5_checkWarning ∈ ww_tb := by decide +kernel
theorem u_74 : Cond.selects RX5 yX5_checkWarning yX5_checkWarning ∈ ww_tb := by decide +kernel
theorem dX5_trust_0 : decode cX5_trust 0 = .ok (.aload_n 0, 1) := by decide +kernel
theorem dX5_trust_1 : decode cX5_trust 1 = .ok (.iload_n 1, 1) := by decide +kernel
theorem dX5_trust_2 : decode cX5_trust 2 = .ok (.invokevirtual 60, 3) := by decide +kernel
theorem dX5_trust_5 : decode cX5_trust 5 = .ok (.iload_n 2, 1) := by decide +kernel
theorem dX5_trust_6 : decode cX5_trust 6 = .ok (.iconst 0, 1) := by decide +kernel
theorem dX5_trust_7 : decode cX5_trust 7 = .ok (.bipush 9, 2) := by decide +kernel
theorem dX5_trust_9 : decode cX5_trust 9 = .ok (.invokestatic 23, 3) := by decide +kernel
theorem dX5_trust_12 : decode cX5_trust 12 = .ok (.aload_n 0, 1) := by decide +kernel
theorem dX5_trust_13 : decode cX5_trust 13 = .ok (.getfield 10, 3) := by decide +kernel
theorem dX5_trust_16 : decode cX5_trust 16 = .ok (.getfield 38, 3) := by decide +kernel
theorem dX5_trust_19 : decode cX5_trust 19 = .ok (.iload_n 1, 1) := by decide +kernel
theorem dX5_trust_20 : decode cX5_trust 20 = .ok (.aaload, 1) := by decide +kernel
theorem dX5_trust_21 : decode cX5_trust 21 = .ok (.getfield 63, 3) := by decide +kernel
theorem dX5_trust_24 : decode cX5_trust 24 = .ok (.istore_n 3, 1) := by decide +kernel
theorem dX5_trust_25 : decode cX5_trust 25 = .ok (.aload_n 0, 1) := by decide +kernel
theorem dX5_trust_26 : decode cX5_trust 26 = .ok (.getfield 10, 3) := by decide +kernel
theorem dX5_trust_29 : decode cX5_trust 29 = .ok (.getfield 38, 3) := by decide +kernel
theorem dX5_trust_32 : decode cX5_trust 32 = .ok (.iload_n 1, 1) := by decide +kernel
theorem dX5_trust_33 : decode cX5_trust 33 = .ok (.aaload, 1) := by decide +kernel
theorem dX5_trust_34 : decode cX5_trust 34 = .ok (.iload_n 2, 1) := by decide +kernel
theorem dX5_trust_35 : decode cX5_trust 35 = .ok (.putfield 63, 3) := by decide +kernel
theorem dX5_trust_38 : decode cX5_trust 38 = .ok (.iload_n 3, 1) := by decide +kernel
theorem dX5_trust_39 : decode cX5_trust 39 = .ok (.ireturn, 1) := by decide +kernel
theorem dX5_update_0 : decode cX5_update 0 = .ok (.aload_n 0, 1) := by decide +kernel
theorem dX5_update_1 : decode cX5_update 1 = .ok (.iload_n 1, 1) := by decide +kernel
theorem dX5_update_2 : decode cX5_update 2 = .ok (.invokevirtual 132, 3) := by decide +kernel
theorem dX5_update_5 : decode cX5_update 5 = .ok (.iload_n 2, 1) := by decide +kernel
theorem dX5_update_6 : decode cX5_update 6 = .ok (.iload_n 3, 1) := by decide +kernel
theorem dX5_update_7 : decode cX5_update 7 = .ok (.iload 4, 2) := by decide +kernel
theorem dX5_update_9 : decode cX5_update 9 = .ok (.invokestatic 125, 3) := by decide +kernel
theorem dX5_update_12 : decode cX5_update 12 = .ok (.aload_n 0, 1) := by decide +kernel
theorem dX5_update_13 : decode cX5_update 13 = .ok (.iload_n 1, 1) := by decide +kernel
theorem dX5_update_14 : decode cX5_update 14 = .ok (.invokevirtual 135, 3) := by decide +kernel
theorem dX5_update_17 : decode cX5_update 17 = .ok (.aload_n 0, 1) := by decide +kernel
theorem dX5_update_18 : decode cX5_update 18 = .ok (.iconst 1, 1) := by decide +kernel
theorem dX5_update_19 : decode cX5_update 19 = .ok (.iload_n 1, 1) := by decide +kernel
theorem dX5_update_20 : decode cX5_update 20 = .ok (.iload_n 2, 1) := by decide +kernel
theorem dX5_update_21 : decode cX5_update 21 = .ok (.iload_n 3, 1) := by decide +kernel
theorem dX5_update_22 : decode cX5_update 22 = .ok (.iload 4, 2) := by decide +kernel
theorem dX5_update_24 : decode cX5_update 24 = .ok (.invokevirtual 128, 3) := by decide +kernel
theorem dX5_update_27 : decode cX5_update 27 = .ok (.ireturn, 1) := by decide +kernel
theorem dX5_cancel_0 : decode cX5_cancel 0 = .ok (.aload_n 0, 1) := by decide +kernel
theorem dX5_cancel_1 : decode cX5_cancel 1 = .ok (.iload_n 1, 1) := by decide +kernel
theorem dX5_cancel_2 : decode cX5_cancel 2 = .ok (.invokevirtual 132, 3) := by decide +kernel
theorem dX5_cancel_5 : decode cX5_cancel 5 = .ok (.aload_n 0, 1) := by decide +kernel
theorem dX5_cancel_6 : decode cX5_cancel 6 = .ok (.iload_n 1, 1) := by decide +kernel
theorem dX5_cancel_7 : decode cX5_cancel 7 = .ok (.invokevirtual 135, 3) := by decide +kernel
theorem dX5_cancel_10 : decode cX5_cancel 10 = .ok (.aload_n 0, 1) := by decide +kernel
theorem dX5_cancel_11 : decode cX5_cancel 11 = .ok (.getfield 10, 3) := by decide +kernel
theorem dX5_cancel_14 : decode cX5_cancel 14 = .ok (.getfield 138, 3) := by decide +kernel
theorem dX5_cancel_17 : decode cX5_cancel 17 = .ok (.iload_n 1, 1) := by decide +kernel
theorem dX5_cancel_18 : decode cX5_cancel 18 = .ok (.aaload, 1) := by decide +kernel
theorem dX5_cancel_19 : decode cX5_cancel 19 = .ok (.astore_n 2, 1) := by decide +kernel
theorem dX5_cancel_20 : decode cX5_cancel 20 = .ok (.aload_n 0, 1) := by decide +kernel
theorem dX5_cancel_21 : decode cX5_cancel 21 = .ok (.iconst 2, 1) := by decide +kernel
theorem dX5_cancel_22 : decode cX5_cancel 22 = .ok (.iload_n 1, 1) := by decide +kernel
theorem dX5_cancel_23 : decode cX5_cancel 23 = .ok (.aload_n 2, 1) := by decide +kernel
theorem dX5_cancel_24 : decode cX5_cancel 24 = .ok (.getfield 142, 3) := by decide +kernel
theorem dX5_cancel_27 : decode cX5_cancel 27 = .ok (.aload_n 2, 1) := by decide +kernel
theorem dX5_cancel_28 : decode cX5_cancel 28 = .ok (.getfield 147, 3) := by decide +kernel
theorem dX5_cancel_31 : decode cX5_cancel 31 = .ok (.aload_n 2, 1) := by decide +kernel
theorem dX5_cancel_32 : decode cX5_cancel 32 = .ok (.getfield 150, 3) := by decide +kernel
theorem dX5_cancel_35 : decode cX5_cancel 35 = .ok (.invokevirtual 128, 3) := by decide +kernel
theorem dX5_cancel_38 : decode cX5_cancel 38 = .ok (.ireturn, 1) := by decide +kernel
theorem dX5_approve_0 : decode cX5_approve 0 = .ok (.aload_n 0, 1) := by decide +kernel
theorem dX5_approve_1 : decode cX5_approve 1 = .ok (.iload_n 1, 1) := by decide +kernel
theorem dX5_approve_2 : decode cX5_approve 2 = .ok (.invokevirtual 132, 3) := by decide +kernel
theorem dX5_approve_5 : decode cX5_approve 5 = .ok (.iload_n 2, 1) := by decide +kernel
theorem dX5_approve_6 : decode cX5_approve 6 = .ok (.invokestatic 115, 3) := by decide +kernel
theorem dX5_approve_9 : decode cX5_approve 9 = .ok (.aload_n 0, 1) := by decide +kernel
theorem dX5_approve_10 : decode cX5_approve 10 = .ok (.getfield 10, 3) := by decide +kernel
theorem dX5_approve_13 : decode cX5_approve 13 = .ok (.getfield 138, 3) := by decide +kernel
theorem dX5_approve_16 : decode cX5_approve 16 = .ok (.iload_n 1, 1) := by decide +kernel
theorem dX5_approve_17 : decode cX5_approve 17 = .ok (.aaload, 1) := by decide +kernel
theorem dX5_approve_18 : decode cX5_approve 18 = .ok (.astore_n 3, 1) := by decide +kernel
theorem dX5_approve_19 : decode cX5_approve 19 = .ok (.aload_n 3, 1) := by decide +kernel
theorem dX5_approve_20 : decode cX5_approve 20 = .ok (.getfield 153, 3) := by decide +kernel
theorem dX5_approve_23 : decode cX5_approve 23 = .ok (.iconst (-1), 1) := by decide +kernel
theorem dX5_approve_24 : decode cX5_approve 24 = .ok (.if_icmp .eq 13, 3) := by decide +kernel
theorem dX5_approve_27 : decode cX5_approve 27 = .ok (.new 31, 3) := by decide +kernel
theorem dX5_approve_30 : decode cX5_approve 30 = .ok (.dup, 1) := by decide +kernel
theorem dX5_approve_31 : decode cX5_approve 31 = .ok (.ldc 156, 2) := by decide +kernel
theorem dX5_approve_33 : decode cX5_approve 33 = .ok (.invokespecial 35, 3) := by decide +kernel
theorem dX5_approve_36 : decode cX5_approve 36 = .ok (.athrow, 1) := by decide +kernel
theorem dX5_approve_37 : decode cX5_approve 37 = .ok (.aload_n 3, 1) := by decide +kernel
theorem dX5_approve_38 : decode cX5_approve 38 = .ok (.getfield 158, 3) := by decide +kernel
theorem dX5_approve_41 : decode cX5_approve 41 = .ok (.iload_n 2, 1) := by decide +kernel
theorem dX5_approve_42 : decode cX5_approve 42 = .ok (.invokestatic 121, 3) := by decide +kernel
theorem dX5_approve_45 : decode cX5_approve 45 = .ok (.ifCond .eq 13, 3) := by decide +kernel
theorem dX5_approve_48 : decode cX5_approve 48 = .ok (.new 31, 3) := by decide +kernel
theorem dX5_approve_51 : decode cX5_approve 51 = .ok (.dup, 1) := by decide +kernel
theorem dX5_approve_52 : decode cX5_approve 52 = .ok (.ldc 161, 2) := by decide +kernel
theorem dX5_approve_54 : decode cX5_approve 54 = .ok (.invokespecial 35, 3) := by decide +kernel
theorem dX5_approve_57 : decode cX5_approve 57 = .ok (.athrow, 1) := by decide +kernel
theorem dX5_approve_58 : decode cX5_approve 58 = .ok (.aload_n 3, 1) := by decide +kernel
theorem dX5_approve_59 : decode cX5_approve 59 = .ok (.dup, 1) := by decide +kernel
theorem dX5_approve_60 : decode cX5_approve 60 = .ok (.getfield 158, 3) := by decide +kernel
theorem dX5_approve_63 : decode cX5_approve 63 = .ok (.iconst 1, 1) := by decide +kernel
theorem dX5_approve_64 : decode cX5_approve 64 = .ok (.iload_n 2, 1) := by decide +kernel
theorem dX5_approve_65 : decode cX5_approve 65 = .ok (.ishl, 1) := by decide +kernel
theorem dX5_approve_66 : decode cX5_approve 66 = .ok (.ior, 1) := by decide +kernel
theorem dX5_approve_67 : decode cX5_approve 67 = .ok (.putfield 158, 3) := by decide +kernel
theorem dX5_approve_70 : decode cX5_approve 70 = .ok (.aload_n 0, 1) := by decide +kernel
theorem dX5_approve_71 : decode cX5_approve 71 = .ok (.getfield 10, 3) := by decide +kernel
theorem dX5_approve_74 : decode cX5_approve 74 = .ok (.aload_n 3, 1) := by decide +kernel
theorem dX5_approve_75 : decode cX5_approve 75 = .ok (.invokevirtual 163, 3) := by decide +kernel
theorem dX5_approve_78 : decode cX5_approve 78 = .ok (.ireturn, 1) := by decide +kernel
theorem dX5_send_0 : decode cX5_send 0 = .ok (.aload_n 0, 1) := by decide +kernel
theorem dX5_send_1 : decode cX5_send 1 = .ok (.iload_n 1, 1) := by decide +kernel
theorem dX5_send_2 : decode cX5_send 2 = .ok (.invokevirtual 132, 3) := by decide +kernel
theorem dX5_send_5 : decode cX5_send 5 = .ok (.aload_n 0, 1) := by decide +kernel
theorem dX5_send_6 : decode cX5_send 6 = .ok (.getfield 10, 3) := by decide +kernel
theorem dX5_send_9 : decode cX5_send 9 = .ok (.aload_n 0, 1) := by decide +kernel
theorem dX5_send_10 : decode cX5_send 10 = .ok (.getfield 10, 3) := by decide +kernel
theorem dX5_send_13 : decode cX5_send 13 = .ok (.getfield 138, 3) := by decide +kernel
theorem dX5_send_16 : decode cX5_send 16 = .ok (.iload_n 1, 1) := by decide +kernel
theorem dX5_send_17 : decode cX5_send 17 = .ok (.aaload, 1) := by decide +kernel
theorem dX5_send_18 : decode cX5_send 18 = .ok (.invokevirtual 167, 3) := by decide +kernel
theorem dX5_send_21 : decode cX5_send 21 = .ok (.ifCond .ne 13, 3) := by decide +kernel
theorem dX5_send_24 : decode cX5_send 24 = .ok (.new 31, 3) := by decide +kernel
theorem dX5_send_27 : decode cX5_send 27 = .ok (.dup, 1) := by decide +kernel
theorem dX5_send_28 : decode cX5_send 28 = .ok (.ldc 171, 2) := by decide +kernel
theorem dX5_send_30 : decode cX5_send 30 = .ok (.invokespecial 35, 3) := by decide +kernel
theorem dX5_send_33 : decode cX5_send 33 = .ok (.athrow, 1) := by decide +kernel
theorem dX5_send_34 : decode cX5_send 34 = .ok (.aload_n 0, 1) := by decide +kernel
theorem dX5_send_35 : decode cX5_send 35 = .ok (.getfield 10, 3) := by decide +kernel
theorem dX5_send_38 : decode cX5_send 38 = .ok (.aload_n 0, 1) := by decide +kernel
theorem dX5_send_39 : decode cX5_send 39 = .ok (.getfield 10, 3) := by decide +kernel
theorem dX5_send_42 : decode cX5_send 42 = .ok (.getfield 138, 3) := by decide +kernel
theorem dX5_send_45 : decode cX5_send 45 = .ok (.iload_n 1, 1) := by decide +kernel
theorem dX5_send_46 : decode cX5_send 46 = .ok (.aaload, 1) := by decide +kernel
theorem dX5_send_47 : decode cX5_send 47 = .ok (.invokevirtual 173, 3) := by decide +kernel
theorem dX5_send_50 : decode cX5_send 50 = .ok (.aload_n 0, 1) := by decide +kernel
theorem dX5_send_51 : decode cX5_send 51 = .ok (.getfield 10, 3) := by decide +kernel
theorem dX5_send_54 : decode cX5_send 54 = .ok (.aload_n 0, 1) := by decide +kernel
theorem dX5_send_55 : decode cX5_send 55 = .ok (.getfield 10, 3) := by decide +kernel
theorem dX5_send_58 : decode cX5_send 58 = .ok (.getfield 138, 3) := by decide +kernel
theorem dX5_send_61 : decode cX5_send 61 = .ok (.iload_n 1, 1) := by decide +kernel
theorem dX5_send_62 : decode cX5_send 62 = .ok (.aaload, 1) := by decide +kernel
theorem dX5_send_63 : decode cX5_send 63 = .ok (.getfield 142, 3) := by decide +kernel
theorem dX5_send_66 : decode cX5_send 66 = .ok (.invokevirtual 177, 3) := by decide +kernel
theorem dX5_send_69 : decode cX5_send 69 = .ok (.ireturn, 1) := by decide +kernel
theorem dX5_chain_0 : decode cX5_chain 0 = .ok (.aload_n 0, 1) := by decide +kernel
theorem dX5_chain_1 : decode cX5_chain 1 = .ok (.iload_n 1, 1) := by decide +kernel
theorem dX5_chain_2 : decode cX5_chain 2 = .ok (.invokevirtual 60, 3) := by decide +kernel
theorem dX5_chain_5 : decode cX5_chain 5 = .ok (.aload_n 0, 1) := by decide +kernel
theorem dX5_chain_6 : decode cX5_chain 6 = .ok (.iload_n 2, 1) := by decide +kernel
theorem dX5_chain_7 : decode cX5_chain 7 = .ok (.invokevirtual 132, 3) := by decide +kernel
theorem dX5_chain_10 : decode cX5_chain 10 = .ok (.aload_n 0, 1) := by decide +kernel
theorem dX5_chain_11 : decode cX5_chain 11 = .ok (.getfield 10, 3) := by decide +kernel
theorem dX5_chain_14 : decode cX5_chain 14 = .ok (.getfield 38, 3) := by decide +kernel
theorem dX5_chain_17 : decode cX5_chain 17 = .ok (.iload_n 1, 1) := by decide +kernel
theorem dX5_chain_18 : decode cX5_chain 18 = .ok (.aaload, 1) := by decide +kernel
theorem dX5_chain_19 : decode cX5_chain 19 = .ok (.getfield 229, 3) := by decide +kernel
theorem dX5_chain_22 : decode cX5_chain 22 = .ok (.iload_n 2, 1) := by decide +kernel
theorem dX5_chain_23 : decode cX5_chain 23 = .ok (.iaload, 1) := by decide +kernel
theorem dX5_chain_24 : decode cX5_chain 24 = .ok (.ifCond .ne 5, 3) := by decide +kernel
theorem dX5_chain_27 : decode cX5_chain 27 = .ok (.iconst 0, 1) := by decide +kernel
theorem dX5_chain_28 : decode cX5_chain 28 = .ok (.ireturn, 1) := by decide +kernel
theorem dX5_chain_29 : decode cX5_chain 29 = .ok (.iconst 1, 1) := by decide +kernel
theorem dX5_chain_30 : decode cX5_chain 30 = .ok (.istore_n 3, 1) := by decide +kernel
theorem dX5_chain_31 : decode cX5_chain 31 = .ok (.iload_n 1, 1) := by decide +kernel
theorem dX5_chain_32 : decode cX5_chain 32 = .ok (.istore 4, 2) := by decide +kernel
theorem dX5_chain_34 : decode cX5_chain 34 = .ok (.iconst 0, 1) := by decide +kernel
theorem dX5_chain_35 : decode cX5_chain 35 = .ok (.istore 5, 2) := by decide +kernel
theorem dX5_chain_37 : decode cX5_chain 37 = .ok (.iload 5, 2) := by decide +kernel
theorem dX5_chain_39 : decode cX5_chain 39 = .ok (.aload_n 0, 1) := by decide +kernel
theorem dX5_chain_40 : decode cX5_chain 40 = .ok (.getfield 10, 3) := by decide +kernel
theorem dX5_chain_43 : decode cX5_chain 43 = .ok (.getfield 27, 3) := by decide +kernel
theorem dX5_chain_46 : decode cX5_chain 46 = .ok (.if_icmp .ge 51, 3) := by decide +kernel
theorem dX5_chain_49 : decode cX5_chain 49 = .ok (.iload 4, 2) := by decide +kernel
theorem dX5_chain_51 : decode cX5_chain 51 = .ok (.ifCond .lt 46, 3) := by decide +kernel
theorem dX5_chain_54 : decode cX5_chain 54 = .ok (.iload 4, 2) := by decide +kernel
theorem dX5_chain_56 : decode cX5_chain 56 = .ok (.aload_n 0, 1) := by decide +kernel
theorem dX5_chain_57 : decode cX5_chain 57 = .ok (.getfield 10, 3) := by decide +kernel
theorem dX5_chain_60 : decode cX5_chain 60 = .ok (.getfield 27, 3) := by decide +kernel
theorem dX5_chain_63 : decode cX5_chain 63 = .ok (.if_icmp .ge 34, 3) := by decide +kernel
theorem dX5_chain_66 : decode cX5_chain 66 = .ok (.iload_n 3, 1) := by decide +kernel
theorem dX5_chain_67 : decode cX5_chain 67 = .ok (.bipush 10, 2) := by decide +kernel
theorem dX5_chain_69 : decode cX5_chain 69 = .ok (.imul, 1) := by decide +kernel
theorem dX5_chain_70 : decode cX5_chain 70 = .ok (.iload 4, 2) := by decide +kernel
theorem dX5_chain_72 : decode cX5_chain 72 = .ok (.iadd, 1) := by decide +kernel
theorem dX5_chain_73 : decode cX5_chain 73 = .ok (.istore_n 3, 1) := by decide +kernel
theorem dX5_chain_74 : decode cX5_chain 74 = .ok (.aload_n 0, 1) := by decide +kernel
theorem dX5_chain_75 : decode cX5_chain 75 = .ok (.getfield 10, 3) := by decide +kernel
theorem dX5_chain_78 : decode cX5_chain 78 = .ok (.getfield 38, 3) := by decide +kernel
theorem dX5_chain_81 : decode cX5_chain 81 = .ok (.iload 4, 2) := by decide +kernel
theorem dX5_chain_83 : decode cX5_chain 83 = .ok (.aaload, 1) := by decide +kernel
theorem dX5_chain_84 : decode cX5_chain 84 = .ok (.getfield 226, 3) := by decide +kernel
theorem dX5_chain_87 : decode cX5_chain 87 = .ok (.iload_n 2, 1) := by decide +kernel
theorem dX5_chain_88 : decode cX5_chain 88 = .ok (.iaload, 1) := by decide +kernel
theorem dX5_chain_89 : decode cX5_chain 89 = .ok (.istore 4, 2) := by decide +kernel
theorem dX5_chain_91 : decode cX5_chain 91 = .ok (.iinc 5 1, 3) := by decide +kernel
theorem dX5_chain_94 : decode cX5_chain 94 = .ok (.goto (-57), 3) := by decide +kernel
theorem dX5_chain_97 : decode cX5_chain 97 = .ok (.iload_n 3, 1) := by decide +kernel
theorem dX5_chain_98 : decode cX5_chain 98 = .ok (.ireturn, 1) := by decide +kernel
theorem dX5_meanDelay_0 : decode cX5_meanDelay 0 = .ok (.aload_n 0, 1) := by decide +kernel
theorem dX5_meanDelay_1 : decode cX5_meanDelay 1 = .ok (.iload_n 1, 1) := by decide +kernel
theorem dX5_meanDelay_2 : decode cX5_meanDelay 2 = .ok (.invokevirtual 132, 3) := by decide +kernel
theorem dX5_meanDelay_5 : decode cX5_meanDelay 5 = .ok (.iconst 0, 1) := by decide +kernel
theorem dX5_meanDelay_6 : decode cX5_meanDelay 6 = .ok (.istore_n 2, 1) := by decide +kernel
theorem dX5_meanDelay_7 : decode cX5_meanDelay 7 = .ok (.iconst 0, 1) := by decide +kernel
theorem dX5_meanDelay_8 : decode cX5_meanDelay 8 = .ok (.istore_n 3, 1) := by decide +kernel
theorem dX5_meanDelay_9 : decode cX5_meanDelay 9 = .ok (.iconst 0, 1) := by decide +kernel
theorem dX5_meanDelay_10 : decode cX5_meanDelay 10 = .ok (.istore 4, 2) := by decide +kernel
theorem dX5_meanDelay_12 : decode cX5_meanDelay 12 = .ok (.iload 4, 2) := by decide +kernel
theorem dX5_meanDelay_14 : decode cX5_meanDelay 14 = .ok (.aload_n 0, 1) := by decide +kernel
theorem dX5_meanDelay_15 : decode cX5_meanDelay 15 = .ok (.getfield 10, 3) := by decide +kernel
theorem dX5_meanDelay_18 : decode cX5_meanDelay 18 = .ok (.getfield 27, 3) := by decide +kernel
theorem dX5_meanDelay_21 : decode cX5_meanDelay 21 = .ok (.if_icmp .ge 69, 3) := by decide +kernel
theorem dX5_meanDelay_24 : decode cX5_meanDelay 24 = .ok (.aload_n 0, 1) := by decide +kernel
theorem dX5_meanDelay_25 : decode cX5_meanDelay 25 = .ok (.getfield 10, 3) := by decide +kernel
theorem dX5_meanDelay_28 : decode cX5_meanDelay 28 = .ok (.getfield 38, 3) := by decide +kernel
theorem dX5_meanDelay_31 : decode cX5_meanDelay 31 = .ok (.iload 4, 2) := by decide +kernel
theorem dX5_meanDelay_33 : decode cX5_meanDelay 33 = .ok (.aaload, 1) := by decide +kernel
theorem dX5_meanDelay_34 : decode cX5_meanDelay 34 = .ok (.astore 5, 2) := by decide +kernel
theorem dX5_meanDelay_36 : decode cX5_meanDelay 36 = .ok (.aload 5, 2) := by decide +kernel
theorem dX5_meanDelay_38 : decode cX5_meanDelay 38 = .ok (.getfield 232, 3) := by decide +kernel
theorem dX5_meanDelay_41 : decode cX5_meanDelay 41 = .ok (.iload_n 1, 1) := by decide +kernel
theorem dX5_meanDelay_42 : decode cX5_meanDelay 42 = .ok (.iaload, 1) := by decide +kernel
theorem dX5_meanDelay_43 : decode cX5_meanDelay 43 = .ok (.iconst (-1), 1) := by decide +kernel
theorem dX5_meanDelay_44 : decode cX5_meanDelay 44 = .ok (.if_icmp .eq 40, 3) := by decide +kernel
theorem dX5_meanDelay_47 : decode cX5_meanDelay 47 = .ok (.iload_n 2, 1) := by decide +kernel
theorem dX5_meanDelay_48 : decode cX5_meanDelay 48 = .ok (.aload 5, 2) := by decide +kernel
theorem dX5_meanDelay_50 : decode cX5_meanDelay 50 = .ok (.getfield 47, 3) := by decide +kernel
theorem dX5_meanDelay_53 : decode cX5_meanDelay 53 = .ok (.iadd, 1) := by decide +kernel
theorem dX5_meanDelay_54 : decode cX5_meanDelay 54 = .ok (.istore_n 2, 1) := by decide +kernel
theorem dX5_meanDelay_55 : decode cX5_meanDelay 55 = .ok (.iload_n 3, 1) := by decide +kernel
theorem dX5_meanDelay_56 : decode cX5_meanDelay 56 = .ok (.aload 5, 2) := by decide +kernel
theorem dX5_meanDelay_58 : decode cX5_meanDelay 58 = .ok (.getfield 47, 3) := by decide +kernel
theorem dX5_meanDelay_61 : decode cX5_meanDelay 61 = .ok (.aload 5, 2) := by decide +kernel
theorem dX5_meanDelay_63 : decode cX5_meanDelay 63 = .ok (.getfield 232, 3) := by decide +kernel
theorem dX5_meanDelay_66 : decode cX5_meanDelay 66 = .ok (.iload_n 1, 1) := by decide +kernel
theorem dX5_meanDelay_67 : decode cX5_meanDelay 67 = .ok (.iaload, 1) := by decide +kernel
theorem dX5_meanDelay_68 : decode cX5_meanDelay 68 = .ok (.aload_n 0, 1) := by decide +kernel
theorem dX5_meanDelay_69 : decode cX5_meanDelay 69 = .ok (.getfield 10, 3) := by decide +kernel
theorem dX5_meanDelay_72 : decode cX5_meanDelay 72 = .ok (.getfield 138, 3) := by decide +kernel
theorem dX5_meanDelay_75 : decode cX5_meanDelay 75 = .ok (.iload_n 1, 1) := by decide +kernel
theorem dX5_meanDelay_76 : decode cX5_meanDelay 76 = .ok (.aaload, 1) := by decide +kernel
theorem dX5_meanDelay_77 : decode cX5_meanDelay 77 = .ok (.getfield 153, 3) := by decide +kernel
theorem dX5_meanDelay_80 : decode cX5_meanDelay 80 = .ok (.isub, 1) := by decide +kernel
theorem dX5_meanDelay_81 : decode cX5_meanDelay 81 = .ok (.imul, 1) := by decide +kernel
theorem dX5_meanDelay_82 : decode cX5_meanDelay 82 = .ok (.iadd, 1) := by decide +kernel
theorem dX5_meanDelay_83 : decode cX5_meanDelay 83 = .ok (.istore_n 3, 1) := by decide +kernel
theorem dX5_meanDelay_84 : decode cX5_meanDelay 84 = .ok (.iinc 4 1, 3) := by decide +kernel
theorem dX5_meanDelay_87 : decode cX5_meanDelay 87 = .ok (.goto (-75), 3) := by decide +kernel
theorem dX5_meanDelay_90 : decode cX5_meanDelay 90 = .ok (.iload_n 2, 1) := by decide +kernel
theorem dX5_meanDelay_91 : decode cX5_meanDelay 91 = .ok (.ifCond .ne 7, 3) := by decide +kernel
theorem dX5_meanDelay_94 : decode cX5_meanDelay 94 = .ok (.dconst 0, 1) := by decide +kernel
theorem dX5_meanDelay_95 : decode cX5_meanDelay 95 = .ok (.goto 8, 3) := by decide +kernel
theorem dX5_meanDelay_98 : decode cX5_meanDelay 98 = .ok (.iload_n 3, 1) := by decide +kernel
theorem dX5_meanDelay_99 : decode cX5_meanDelay 99 = .ok (.i2d, 1) := by decide +kernel
theorem dX5_meanDelay_100 : decode cX5_meanDelay 100 = .ok (.iload_n 2, 1) := by decide +kernel
theorem dX5_meanDelay_101 : decode cX5_meanDelay 101 = .ok (.i2d, 1) := by decide +kernel
theorem dX5_meanDelay_102 : decode cX5_meanDelay 102 = .ok (.ddiv, 1) := by decide +kernel
theorem dX5_meanDelay_103 : decode cX5_meanDelay 103 = .ok (.dreturn, 1) := by decide +kernel
theorem dX5_safeIn_0 : decode cX5_safeIn 0 = .ok (.aload_n 0, 1) := by decide +kernel
theorem dX5_safeIn_1 : decode cX5_safeIn 1 = .ok (.iload_n 1, 1) := by decide +kernel
theorem dX5_safeIn_2 : decode cX5_safeIn 2 = .ok (.invokevirtual 60, 3) := by decide +kernel
theorem dX5_safeIn_5 : decode cX5_safeIn 5 = .ok (.iload_n 2, 1) := by decide +kernel
theorem dX5_safeIn_6 : decode cX5_safeIn 6 = .ok (.iconst 1, 1) := by decide +kernel
theorem dX5_safeIn_7 : decode cX5_safeIn 7 = .ok (.bipush 60, 2) := by decide +kernel
theorem dX5_safeIn_9 : decode cX5_safeIn 9 = .ok (.invokestatic 23, 3) := by decide +kernel
theorem dX5_safeIn_12 : decode cX5_safeIn 12 = .ok (.aload_n 0, 1) := by decide +kernel
theorem dX5_safeIn_13 : decode cX5_safeIn 13 = .ok (.getfield 10, 3) := by decide +kernel
theorem dX5_safeIn_16 : decode cX5_safeIn 16 = .ok (.getfield 38, 3) := by decide +kernel
theorem dX5_safeIn_19 : decode cX5_safeIn 19 = .ok (.iload_n 1, 1) := by decide +kernel
theorem dX5_safeIn_20 : decode cX5_safeIn 20 = .ok (.aaload, 1) := by decide +kernel
theorem dX5_safeIn_21 : decode cX5_safeIn 21 = .ok (.invokevirtual 280, 3) := by decide +kernel
theorem dX5_safeIn_24 : decode cX5_safeIn 24 = .ok (.ifCond .eq 5, 3) := by decide +kernel
theorem dX5_safeIn_27 : decode cX5_safeIn 27 = .ok (.iconst 0, 1) := by decide +kernel
theorem dX5_safeIn_28 : decode cX5_safeIn 28 = .ok (.ireturn, 1) := by decide +kernel
theorem dX5_safeIn_29 : decode cX5_safeIn 29 = .ok (.aload_n 0, 1) := by decide +kernel
theorem dX5_safeIn_30 : decode cX5_safeIn 30 = .ok (.getfield 16, 3) := by decide +kernel
theorem dX5_safeIn_33 : decode cX5_safeIn 33 = .ok (.aload_n 0, 1) := by decide +kernel
theorem dX5_safeIn_34 : decode cX5_safeIn 34 = .ok (.getfield 10, 3) := by decide +kernel
theorem dX5_safeIn_37 : decode cX5_safeIn 37 = .ok (.invokevirtual 283, 3) := by decide +kernel
theorem dX5_safeIn_40 : decode cX5_safeIn 40 = .ok (.iconst 1, 1) := by decide +kernel
theorem dX5_safeIn_41 : decode cX5_safeIn 41 = .ok (.istore_n 3, 1) := by decide +kernel
theorem dX5_safeIn_42 : decode cX5_safeIn 42 = .ok (.iload_n 3, 1) := by decide +kernel
theorem dX5_safeIn_43 : decode cX5_safeIn 43 = .ok (.iload_n 2, 1) := by decide +kernel
theorem dX5_safeIn_44 : decode cX5_safeIn 44 = .ok (.if_icmp .gt 35, 3) := by decide +kernel
theorem dX5_safeIn_47 : decode cX5_safeIn 47 = .ok (.aload_n 0, 1) := by decide +kernel
theorem dX5_safeIn_48 : decode cX5_safeIn 48 = .ok (.getfield 16, 3) := by decide +kernel
theorem dX5_safeIn_51 : decode cX5_safeIn 51 = .ok (.iconst 1, 1) := by decide +kernel
theorem dX5_safeIn_52 : decode cX5_safeIn 52 = .ok (.invokevirtual 183, 3) := by decide +kernel
theorem dX5_safeIn_55 : decode cX5_safeIn 55 = .ok (.pop, 1) := by decide +kernel
theorem dX5_safeIn_56 : decode cX5_safeIn 56 = .ok (.aload_n 0, 1) := by decide +kernel
theorem dX5_safeIn_57 : decode cX5_safeIn 57 = .ok (.getfield 16, 3) := by decide +kernel
theorem dX5_safeIn_60 : decode cX5_safeIn 60 = .ok (.getfield 38, 3) := by decide +kernel
theorem dX5_safeIn_63 : decode cX5_safeIn 63 = .ok (.iload_n 1, 1) := by decide +kernel
theorem dX5_safeIn_64 : decode cX5_safeIn 64 = .ok (.aaload, 1) := by decide +kernel
theorem dX5_safeIn_65 : decode cX5_safeIn 65 = .ok (.invokevirtual 280, 3) := by decide +kernel
theorem dX5_safeIn_68 : decode cX5_safeIn 68 = .ok (.ifCond .eq 5, 3) := by decide +kernel
theorem dX5_safeIn_71 : decode cX5_safeIn 71 = .ok (.iload_n 3, 1) := by decide +kernel
theorem dX5_safeIn_72 : decode cX5_safeIn 72 = .ok (.ireturn, 1) := by decide +kernel
theorem dX5_safeIn_73 : decode cX5_safeIn 73 = .ok (.iinc 3 1, 3) := by decide +kernel
theorem dX5_safeIn_76 : decode cX5_safeIn 76 = .ok (.goto (-34), 3) := by decide +kernel
theorem dX5_safeIn_79 : decode cX5_safeIn 79 = .ok (.iconst (-1), 1) := by decide +kernel
theorem dX5_safeIn_80 : decode cX5_safeIn 80 = .ok (.ireturn, 1) := by decide +kernel
/-! what the class answers on a fresh object: (0, the answer) or (the exception's number, _) -/
def po (q : Nat × Int32) : Option vgV := match q with
  | (0, v) => some (.inl (.int v))
  | (x + 1, _) => vm_th (x + 1)
/-- a fresh object -/
def wx_fr (σ : vgS) : Prop := jWf (jV σ 0) ∧ (jGc (jV σ 0) = 0 ∧ jSc (jV σ 0) = 0 ∧ jWc (jV σ 0) = 0 ∧ jNc (jV σ 0) 0 = 0 ∧ jNc (jV σ 0) 1 = 0) ∧ (jBo (jV σ 0) ∧ jPl (jV σ 0) ∧ jPl (jV σ 1)) ∧ (σ (1, 0, 0) 0 = 0 ∧ σ (1, 0, 0) 1 = 1 ∧ σ (1, 0, 0) 2 = 3 ∧ σ (1, 0, 0) 3 = 0) ∧ ∀ c, c < 16 → σ (6, 0, 0) c = -1
theorem wx_g {σ : vgS} (h : wx_fr σ) : σ (1, 0, 0) 4 = 0 := by
  have := h.1.1.1
  rw [h.2.1.1] at this
  exact this
theorem wx_s {σ : vgS} (h : wx_fr σ) : σ (1, 0, 0) 5 = 0 := by
  have := h.1.2.1.1
  rw [h.2.1.2.1] at this
  exact this
theorem wx_w {σ : vgS} (h : wx_fr σ) : σ (1, 0, 0) 6 = 0 := by
  have := h.1.2.2.1.1
  rw [h.2.1.2.2.1] at this
  exact this
theorem wx_n0 {σ : vgS} (h : wx_fr σ) : σ (5, 0, 0) 3 = 0 := by
  have := h.1.2.2.2.1.1
  rw [h.2.1.2.2.2.1] at this
  exact this
theorem wx_n1 {σ : vgS} (h : wx_fr σ) : σ (5, 0, 1) 3 = 0 := by
  have := h.1.2.2.2.2.1
  rw [h.2.1.2.2.2.2] at this
  exact this
theorem wx_no {x : Int32} {N : Nat} (hN : N = 0) : ¬ vp_in x N := by
  subst hN
  exact fun h => h (Or.inr (Nat.zero_le _))
def ke_X5_trust : List (Nat × vgF) := [(0, vi_aload 0 1), (1, vi_iload 1 2), (2, vi_callVX ww_shp 0 sp_X5_checkGroup tx_X5_checkGroup 1 1 5)]
set_option maxRecDepth 20000 in
theorem se_X5_trust : ∀ q ∈ ke_X5_trust, vm_Snd true ww_tb ww_tbx ww_strs ww_nw ww_shp ww_nm ww_cl ww_tyl cX5_trust 4 RX5 (some .int) 7 q.1 q.2 := by
  refine vg_cons (vt_aload_n dX5_trust_0 rfl rfl) ?_
  refine vg_cons (vt_iload_n dX5_trust_1 rfl rfl) ?_
  refine vg_cons (vt_callVX (T := TX5) c_X5_checkGroup t_X5_checkGroup ww_mv dX5_trust_2 rfl ww_good u_67 u_64 u_68 u_69 u_70 (by decide +kernel) (by decide) rfl) ?_
  exact fun _ h => absurd h List.not_mem_nil
theorem me_X5_trust : vg_Code ke_X5_trust := fun q h => (se_X5_trust q h).1

def pr_X5_trust : vgT → vgS → Prop := fun av σ => match av with
  | [.inr (0, 0, 0), .inl (.int c), .inl (.int d)] => wx_fr σ
  | _ => False
def pf_X5_trust : vgT → Nat × Int32 := fun av => match av with
  | [.inr (0, 0, 0), .inl (.int c), .inl (.int d)] => (1, 0)
  | _ => (0, 0)
theorem wp_X5_trust : ∀ av σ, pr_X5_trust av σ → vg_wd av ≤ 4 := by
  intro av σ h
  unfold pr_X5_trust at h
  split at h
  · exact Nat.le_of_ble_eq_true rfl
  · exact h.elim
set_option maxRecDepth 20000 in
theorem gp_X5_trust : ∀ av σ, pr_X5_trust av σ → vg_Go ke_X5_trust (fun r _ => r = po (pf_X5_trust av)) 0 (vg_args 0 av) [] σ := by
  intro av σ h
  unfold pr_X5_trust at h
  split at h
  next c d =>
    refine vg_run (cuts := []) me_X5_trust 3 ?_
    have ht : ¬ vp_in c (jGc (jV σ 0)) := wx_no h.2.1.1
    exact And.intro (fun _ => rfl) (fun z => absurd ⟨h.1, ht⟩ z)
  next => exact h.elim
theorem p_X5_trust : vm_MetX ww_tb ww_tbx ww_strs ww_nw ww_shp ww_nm ww_cl ww_tyl yX5_trust cX5_trust 4 (some .int) 7 pr_X5_trust (fun av _ r _ => r = po (pf_X5_trust av)) := vm_metX ww_closed (by decide +kernel) rfl ww_mv se_X5_trust wp_X5_trust gp_X5_trust
def ke_X5_update : List (Nat × vgF) := [(0, vi_aload 0 1), (1, vi_iload 1 2), (2, vi_callVX ww_shp 0 sp_X5_checkWarning tx_X5_checkWarning 1 1 5)]
set_option maxRecDepth 20000 in
theorem se_X5_update : ∀ q ∈ ke_X5_update, vm_Snd true ww_tb ww_tbx ww_strs ww_nw ww_shp ww_nm ww_cl ww_tyl cX5_update 5 RX5 (some .int) 7 q.1 q.2 := by
  refine vg_cons (vt_aload_n dX5_update_0 rfl rfl) ?_
  refine vg_cons (vt_iload_n dX5_update_1 rfl rfl) ?_
  refine vg_cons (vt_callVX (T := TX5) c_X5_checkWarning t_X5_checkWarning ww_mv dX5_update_2 rfl ww_good u_71 u_64 u_72 u_73 u_74 (by decide +kernel) (by decide) rfl) ?_
  exact fun _ h => absurd h List.not_mem_nil
theorem me_X5_update : vg_Code ke_X5_update := fun q h => (se_X5_update q h).1

def pr_X5_update : vgT → vgS → Prop := fun av σ => match av with
  | [.inr (0, 0, 0), .inl (.int c), .inl (.int d), .inl (.int e), .inl (.int f)] => wx_fr σ
  | _ => False
def pf_X5_update : vgT → Nat × Int32 := fun av => match av with
  | [.inr (0, 0, 0), .inl (.int c), .inl (.int d), .inl (.int e), .inl (.int f)] => (1, 0)
  | _ => (0, 0)
theorem wp_X5_update : ∀ av σ, pr_X5_update av σ → vg_wd av ≤ 5 := by
  intro av σ h
  unfold pr_X5_update at h
  split at h
  · exact Nat.le_of_ble_eq_true rfl
  · exact h.elim
set_option maxRecDepth 20000 in
theorem gp_X5_update : ∀ av σ, pr_X5_update av σ → vg_Go ke_X5_update (fun r _ => r = po (pf_X5_update av)) 0 (vg_args 0 av) [] σ := by
  intro av σ h
  unfold pr_X5_update at h
  split at h
  next c d e f =>
    refine vg_run (cuts := []) me_X5_update 3 ?_
    have ht : ¬ vp_in c (jWc (jV σ 0)) := wx_no h.2.1.2.2.1
    exact And.intro (fun _ => rfl) (fun z => absurd ⟨h.1, ht⟩ z)
  next => exact h.elim
theorem p_X5_update : vm_MetX ww_tb ww_tbx ww_strs ww_nw ww_shp ww_nm ww_cl ww_tyl yX5_update cX5_update 5 (some .int) 7 pr_X5_update (fun av _ r _ => r = po (pf_X5_update av)) := vm_metX ww_closed (by decide +kernel) rfl ww_mv se_X5_update wp_X5_update gp_X5_update
def ke_X5_cancel : List (Nat × vgF) := [(0, vi_aload 0 1), (1, vi_iload 1 2), (2, vi_callVX ww_shp 0 sp_X5_checkWarning tx_X5_checkWarning 1 1 5)]
set_option maxRecDepth 20000 in
theorem se_X5_cancel : ∀ q ∈ ke_X5_cancel, vm_Snd true ww_tb ww_tbx ww_strs ww_nw ww_shp ww_nm ww_cl ww_tyl cX5_cancel 3 RX5 (some .int) 7 q.1 q.2 := by
  refine vg_cons (vt_aload_n dX5_cancel_0 rfl rfl) ?_
  refine vg_cons (vt_iload_n dX5_cancel_1 rfl rfl) ?_
  refine vg_cons (vt_callVX (T := TX5) c_X5_checkWarning t_X5_checkWarning ww_mv dX5_cancel_2 rfl ww_good u_71 u_64 u_72 u_73 u_74 (by decide +kernel) (by decide) rfl) ?_
  exact fun _ h => absurd h List.not_mem_nil
theorem me_X5_cancel : vg_Code ke_X5_cancel := fun q h => (se_X5_cancel q h).1

def pr_X5_cancel : vgT → vgS → Prop := fun av σ => match av with
  | [.inr (0, 0, 0), .inl (.int c)] => wx_fr σ
  | _ => False
def pf_X5_cancel : vgT → Nat × Int32 := fun av => match av with
  | [.inr (0, 0, 0), .inl (.int c)] => (1, 0)
  | _ => (0, 0)
theorem wp_X5_cancel : ∀ av σ, pr_X5_cancel av σ → vg_wd av ≤ 3 := by
  intro av σ h
  unfold pr_X5_cancel at h
  split at h
  · exact Nat.le_of_ble_eq_true rfl
  · exact h.elim
set_option maxRecDepth 20000 in
theorem gp_X5_cancel : ∀ av σ, pr_X5_cancel av σ → vg_Go ke_X5_cancel (fun r _ => r = po (pf_X5_cancel av)) 0 (vg_args 0 av) [] σ := by
  intro av σ h
  unfold pr_X5_cancel at h
  split at h
  next c =>
    refine vg_run (cuts := []) me_X5_cancel 3 ?_
    have ht : ¬ vp_in c (jWc (jV σ 0)) := wx_no h.2.1.2.2.1
    exact And.intro (fun _ => rfl) (fun z => absurd ⟨h.1, ht⟩ z)
  next => exact h.elim
theorem p_X5_cancel : vm_MetX ww_tb ww_tbx ww_strs ww_nw ww_shp ww_nm ww_cl ww_tyl yX5_cancel cX5_cancel 3 (some .int) 7 pr_X5_cancel (fun av _ r _ => r = po (pf_X5_cancel av)) := vm_metX ww_closed (by decide +kernel) rfl ww_mv se_X5_cancel wp_X5_cancel gp_X5_cancel
def ke_X5_approve : List (Nat × vgF) := [(0, vi_aload 0 1), (1, vi_iload 1 2), (2, vi_callVX ww_shp 0 sp_X5_checkWarning tx_X5_checkWarning 1 1 5)]
set_option maxRecDepth 20000 in
theorem se_X5_approve : ∀ q ∈ ke_X5_approve, vm_Snd true ww_tb ww_tbx ww_strs ww_nw ww_shp ww_nm ww_cl ww_tyl cX5_approve 4 RX5 (some .int) 7 q.1 q.2 := by
  refine vg_cons (vt_aload_n dX5_approve_0 rfl rfl) ?_
  refine vg_cons (vt_iload_n dX5_approve_1 rfl rfl) ?_
  refine vg_cons (vt_callVX (T := TX5) c_X5_checkWarning t_X5_checkWarning ww_mv dX5_approve_2 rfl ww_good u_71 u_64 u_72 u_73 u_74 (by decide +kernel) (by decide) rfl) ?_
  exact fun _ h => absurd h List.not_mem_nil
theorem me_X5_approve : vg_Code ke_X5_approve := fun q h => (se_X5_approve q h).1

def pr_X5_approve : vgT → vgS → Prop := fun av σ => match av with
  | [.inr (0, 0, 0), .inl (.int c), .inl (.int d)] => wx_fr σ
  | _ => False
def pf_X5_approve : vgT → Nat × Int32 := fun av => match av with
  | [.inr (0, 0, 0), .inl (.int c), .inl (.int d)] => (1, 0)
  | _ => (0, 0)
theorem wp_X5_approve : ∀ av σ, pr_X5_approve av σ → vg_wd av ≤ 4 := by
  intro av σ h
  unfold pr_X5_approve at h
  split at h
  · exact Nat.le_of_ble_eq_true rfl
  · exact h.elim
set_option maxRecDepth 20000 in
theorem gp_X5_approve : ∀ av σ, pr_X5_approve av σ → vg_Go ke_X5_approve (fun r _ => r = po (pf_X5_approve av)) 0 (vg_args 0 av) [] σ := by
  intro av σ h
  unfold pr_X5_approve at h
  split at h
  next c d =>
    refine vg_run (cuts := []) me_X5_approve 3 ?_
    have ht : ¬ vp_in c (jWc (jV σ 0)) := wx_no h.2.1.2.2.1
    exact And.intro (fun _ => rfl) (fun z => absurd ⟨h.1, ht⟩ z)
  next => exact h.elim
theorem p_X5_approve : vm_MetX ww_tb ww_tbx ww_strs ww_nw ww_shp ww_nm ww_cl ww_tyl yX5_approve cX5_approve 4 (some .int) 7 pr_X5_approve (fun av _ r _ => r = po (pf_X5_approve av)) := vm_metX ww_closed (by decide +kernel) rfl ww_mv se_X5_approve wp_X5_approve gp_X5_approve
def ke_X5_send : List (Nat × vgF) := [(0, vi_aload 0 1), (1, vi_iload 1 2), (2, vi_callVX ww_shp 0 sp_X5_checkWarning tx_X5_checkWarning 1 1 5)]
set_option maxRecDepth 20000 in
theorem se_X5_send : ∀ q ∈ ke_X5_send, vm_Snd true ww_tb ww_tbx ww_strs ww_nw ww_shp ww_nm ww_cl ww_tyl cX5_send 2 RX5 (some .int) 7 q.1 q.2 := by
  refine vg_cons (vt_aload_n dX5_send_0 rfl rfl) ?_
  refine vg_cons (vt_iload_n dX5_send_1 rfl rfl) ?_
  refine vg_cons (vt_callVX (T := TX5) c_X5_checkWarning t_X5_checkWarning ww_mv dX5_send_2 rfl ww_good u_71 u_64 u_72 u_73 u_74 (by decide +kernel) (by decide) rfl) ?_
  exact fun _ h => absurd h List.not_mem_nil
theorem me_X5_send : vg_Code ke_X5_send := fun q h => (se_X5_send q h).1

def pr_X5_send : vgT → vgS → Prop := fun av σ => match av with
  | [.inr (0, 0, 0), .inl (.int c)] => wx_fr σ
  | _ => False
def pf_X5_send : vgT → Nat × Int32 := fun av => match av with
  | [.inr (0, 0, 0), .inl (.int c)] => (1, 0)
  | _ => (0, 0)
theorem wp_X5_send : ∀ av σ, pr_X5_send av σ → vg_wd av ≤ 2 := by
  intro av σ h
  unfold pr_X5_send at h
  split at h
  · exact Nat.le_of_ble_eq_true rfl
  · exact h.elim
set_option maxRecDepth 20000 in
theorem gp_X5_send : ∀ av σ, pr_X5_send av σ → vg_Go ke_X5_send (fun r _ => r = po (pf_X5_send av)) 0 (vg_args 0 av) [] σ := by
  intro av σ h
  unfold pr_X5_send at h
  split at h
  next c =>
    refine vg_run (cuts := []) me_X5_send 3 ?_
    have ht : ¬ vp_in c (jWc (jV σ 0)) := wx_no h.2.1.2.2.1
    exact And.intro (fun _ => rfl) (fun z => absurd ⟨h.1, ht⟩ z)
  next => exact h.elim
theorem p_X5_send : vm_MetX ww_tb ww_tbx ww_strs ww_nw ww_shp ww_nm ww_cl ww_tyl yX5_send cX5_send 2 (some .int) 7 pr_X5_send (fun av _ r _ => r = po (pf_X5_send av)) := vm_metX ww_closed (by decide +kernel) rfl ww_mv se_X5_send wp_X5_send gp_X5_send
def ke_X5_ofGroup : List (Nat × vgF) := [(0, vi_aload 0 1), (1, vi_iload 1 2), (2, vi_callVX ww_shp 0 sp_X5_checkGroup tx_X5_checkGroup 1 1 5)]
set_option maxRecDepth 20000 in
theorem se_X5_ofGroup : ∀ q ∈ ke_X5_ofGroup, vm_Snd true ww_tb ww_tbx ww_strs ww_nw ww_shp ww_nm ww_cl ww_tyl cX5_ofGroup 4 RX5 (some .int) 7 q.1 q.2 := by
  refine vg_cons (vt_aload_n dX5_ofGroup_0 rfl rfl) ?_
  refine vg_cons (vt_iload_n dX5_ofGroup_1 rfl rfl) ?_
  refine vg_cons (vt_callVX (T := TX5) c_X5_checkGroup t_X5_checkGroup ww_mv dX5_ofGroup_2 rfl ww_good u_67 u_64 u_68 u_69 u_70 (by decide +kernel) (by decide) rfl) ?_
  exact fun _ h => absurd h List.not_mem_nil
theorem me_X5_ofGroup : vg_Code ke_X5_ofGroup := fun q h => (se_X5_ofGroup q h).1

def pr_X5_ofGroup : vgT → vgS → Prop := fun av σ => match av with
  | [.inr (0, 0, 0), .inl (.int c), .inl (.int d)] => wx_fr σ
  | _ => False
def pf_X5_ofGroup : vgT → Nat × Int32 := fun av => match av with
  | [.inr (0, 0, 0), .inl (.int c), .inl (.int d)] => (1, 0)
  | _ => (0, 0)
theorem wp_X5_ofGroup : ∀ av σ, pr_X5_ofGroup av σ → vg_wd av ≤ 4 := by
  intro av σ h
  unfold pr_X5_ofGroup at h
  split at h
  · exact Nat.le_of_ble_eq_true rfl
  · exact h.elim
set_option maxRecDepth 20000 in
theorem gp_X5_ofGroup : ∀ av σ, pr_X5_ofGroup av σ → vg_Go ke_X5_ofGroup (fun r _ => r = po (pf_X5_ofGroup av)) 0 (vg_args 0 av) [] σ := by
  intro av σ h
  unfold pr_X5_ofGroup at h
  split at h
  next c d =>
    refine vg_run (cuts := []) me_X5_ofGroup 3 ?_
    have ht : ¬ vp_in c (jGc (jV σ 0)) := wx_no h.2.1.1
    exact And.intro (fun _ => rfl) (fun z => absurd ⟨h.1, ht⟩ z)
  next => exact h.elim
theorem p_X5_ofGroup : vm_MetX ww_tb ww_tbx ww_strs ww_nw ww_shp ww_nm ww_cl ww_tyl yX5_ofGroup cX5_ofGroup 4 (some .int) 7 pr_X5_ofGroup (fun av _ r _ => r = po (pf_X5_ofGroup av)) := vm_metX ww_closed (by decide +kernel) rfl ww_mv se_X5_ofGroup wp_X5_ofGroup gp_X5_ofGroup
def ke_X5_heard : List (Nat × vgF) := [(0, vi_aload 0 1), (1, vi_iload 1 2), (2, vi_callVX ww_shp 0 sp_X5_checkGroup tx_X5_checkGroup 1 1 5)]
set_option maxRecDepth 20000 in
theorem se_X5_heard : ∀ q ∈ ke_X5_heard, vm_Snd true ww_tb ww_tbx ww_strs ww_nw ww_shp ww_nm ww_cl ww_tyl cX5_heard 5 RX5 (some .int) 7 q.1 q.2 := by
  refine vg_cons (vt_aload_n dX5_heard_0 rfl rfl) ?_
  refine vg_cons (vt_iload_n dX5_heard_1 rfl rfl) ?_
  refine vg_cons (vt_callVX (T := TX5) c_X5_checkGroup t_X5_checkGroup ww_mv dX5_heard_2 rfl ww_good u_67 u_64 u_68 u_69 u_70 (by decide +kernel) (by decide) rfl) ?_
  exact fun _ h => absurd h List.not_mem_nil
theorem me_X5_heard : vg_Code ke_X5_heard := fun q h => (se_X5_heard q h).1

def pr_X5_heard : vgT → vgS → Prop := fun av σ => match av with
  | [.inr (0, 0, 0), .inl (.int c), .inl (.int d), .inl (.int e)] => wx_fr σ
  | _ => False
def pf_X5_heard : vgT → Nat × Int32 := fun av => match av with
  | [.inr (0, 0, 0), .inl (.int c), .inl (.int d), .inl (.int e)] => (1, 0)
  | _ => (0, 0)
theorem wp_X5_heard : ∀ av σ, pr_X5_heard av σ → vg_wd av ≤ 5 := by
  intro av σ h
  unfold pr_X5_heard at h
  split at h
  · exact Nat.le_of_ble_eq_true rfl
  · exact h.elim
set_option maxRecDepth 20000 in
theorem gp_X5_heard : ∀ av σ, pr_X5_heard av σ → vg_Go ke_X5_heard (fun r _ => r = po (pf_X5_heard av)) 0 (vg_args 0 av) [] σ := by
  intro av σ h
  unfold pr_X5_heard at h
  split at h
  next c d e =>
    refine vg_run (cuts := []) me_X5_heard 3 ?_
    have ht : ¬ vp_in c (jGc (jV σ 0)) := wx_no h.2.1.1
    exact And.intro (fun _ => rfl) (fun z => absurd ⟨h.1, ht⟩ z)
  next => exact h.elim
theorem p_X5_heard : vm_MetX ww_tb ww_tbx ww_strs ww_nw ww_shp ww_nm ww_cl ww_tyl yX5_heard cX5_heard 5 (some .int) 7 pr_X5_heard (fun av _ r _ => r = po (pf_X5_heard av)) := vm_metX ww_closed (by decide +kernel) rfl ww_mv se_X5_heard wp_X5_heard gp_X5_heard
def ke_X5_ofWarning : List (Nat × vgF) := [(0, vi_aload 0 1), (1, vi_iload 1 2), (2, vi_callVX ww_shp 0 sp_X5_checkWarning tx_X5_checkWarning 1 1 5)]
set_option maxRecDepth 20000 in
theorem se_X5_ofWarning : ∀ q ∈ ke_X5_ofWarning, vm_Snd true ww_tb ww_tbx ww_strs ww_nw ww_shp ww_nm ww_cl ww_tyl cX5_ofWarning 4 RX5 (some .int) 7 q.1 q.2 := by
  refine vg_cons (vt_aload_n dX5_ofWarning_0 rfl rfl) ?_
  refine vg_cons (vt_iload_n dX5_ofWarning_1 rfl rfl) ?_
  refine vg_cons (vt_callVX (T := TX5) c_X5_checkWarning t_X5_checkWarning ww_mv dX5_ofWarning_2 rfl ww_good u_71 u_64 u_72 u_73 u_74 (by decide +kernel) (by decide) rfl) ?_
  exact fun _ h => absurd h List.not_mem_nil
theorem me_X5_ofWarning : vg_Code ke_X5_ofWarning := fun q h => (se_X5_ofWarning q h).1

def pr_X5_ofWarning : vgT → vgS → Prop := fun av σ => match av with
  | [.inr (0, 0, 0), .inl (.int c), .inl (.int d)] => wx_fr σ
  | _ => False
def pf_X5_ofWarning : vgT → Nat × Int32 := fun av => match av with
  | [.inr (0, 0, 0), .inl (.int c), .inl (.int d)] => (1, 0)
  | _ => (0, 0)
theorem wp_X5_ofWarning : ∀ av σ, pr_X5_ofWarning av σ → vg_wd av ≤ 4 := by
  intro av σ h
  unfold pr_X5_ofWarning at h
  split at h
  · exact Nat.le_of_ble_eq_true rfl
  · exact h.elim
set_option maxRecDepth 20000 in
theorem gp_X5_ofWarning : ∀ av σ, pr_X5_ofWarning av σ → vg_Go ke_X5_ofWarning (fun r _ => r = po (pf_X5_ofWarning av)) 0 (vg_args 0 av) [] σ := by
  intro av σ h
  unfold pr_X5_ofWarning at h
  split at h
  next c d =>
    refine vg_run (cuts := []) me_X5_ofWarning 3 ?_
    have ht : ¬ vp_in c (jWc (jV σ 0)) := wx_no h.2.1.2.2.1
    exact And.intro (fun _ => rfl) (fun z => absurd ⟨h.1, ht⟩ z)
  next => exact h.elim
theorem p_X5_ofWarning : vm_MetX ww_tb ww_tbx ww_strs ww_nw ww_shp ww_nm ww_cl ww_tyl yX5_ofWarning cX5_ofWarning 4 (some .int) 7 pr_X5_ofWarning (fun av _ r _ => r = po (pf_X5_ofWarning av)) := vm_metX ww_closed (by decide +kernel) rfl ww_mv se_X5_ofWarning wp_X5_ofWarning gp_X5_ofWarning
def ke_X5_chain : List (Nat × vgF) := [(0, vi_aload 0 1), (1, vi_iload 1 2), (2, vi_callVX ww_shp 0 sp_X5_checkGroup tx_X5_checkGroup 1 1 5)]
set_option maxRecDepth 20000 in
theorem se_X5_chain : ∀ q ∈ ke_X5_chain, vm_Snd true ww_tb ww_tbx ww_strs ww_nw ww_shp ww_nm ww_cl ww_tyl cX5_chain 6 RX5 (some .int) 7 q.1 q.2 := by
  refine vg_cons (vt_aload_n dX5_chain_0 rfl rfl) ?_
  refine vg_cons (vt_iload_n dX5_chain_1 rfl rfl) ?_
  refine vg_cons (vt_callVX (T := TX5) c_X5_checkGroup t_X5_checkGroup ww_mv dX5_chain_2 rfl ww_good u_67 u_64 u_68 u_69 u_70 (by decide +kernel) (by decide) rfl) ?_
  exact fun _ h => absurd h List.not_mem_nil
theorem me_X5_chain : vg_Code ke_X5_chain := fun q h => (se_X5_chain q h).1

def pr_X5_chain : vgT → vgS → Prop := fun av σ => match av with
  | [.inr (0, 0, 0), .inl (.int c), .inl (.int d)] => wx_fr σ
  | _ => False
def pf_X5_chain : vgT → Nat × Int32 := fun av => match av with
  | [.inr (0, 0, 0), .inl (.int c), .inl (.int d)] => (1, 0)
  | _ => (0, 0)
theorem wp_X5_chain : ∀ av σ, pr_X5_chain av σ → vg_wd av ≤ 6 := by
  intro av σ h
  unfold pr_X5_chain at h
  split at h
  · exact Nat.le_of_ble_eq_true rfl
  · exact h.elim
set_option maxRecDepth 20000 in
theorem gp_X5_chain : ∀ av σ, pr_X5_chain av σ → vg_Go ke_X5_chain (fun r _ => r = po (pf_X5_chain av)) 0 (vg_args 0 av) [] σ := by
  intro av σ h
  unfold pr_X5_chain at h
  split at h
  next c d =>
    refine vg_run (cuts := []) me_X5_chain 3 ?_
    have ht : ¬ vp_in c (jGc (jV σ 0)) := wx_no h.2.1.1
    exact And.intro (fun _ => rfl) (fun z => absurd ⟨h.1, ht⟩ z)
  next => exact h.elim
theorem p_X5_chain : vm_MetX ww_tb ww_tbx ww_strs ww_nw ww_shp ww_nm ww_cl ww_tyl yX5_chain cX5_chain 6 (some .int) 7 pr_X5_chain (fun av _ r _ => r = po (pf_X5_chain av)) := vm_metX ww_closed (by decide +kernel) rfl ww_mv se_X5_chain wp_X5_chain gp_X5_chain
def ke_X5_meanDelay : List (Nat × vgF) := [(0, vi_aload 0 1), (1, vi_iload 1 2), (2, vi_callVX ww_shp 0 sp_X5_checkWarning tx_X5_checkWarning 1 1 5)]
set_option maxRecDepth 20000 in
theorem se_X5_meanDelay : ∀ q ∈ ke_X5_meanDelay, vm_Snd true ww_tb ww_tbx ww_strs ww_nw ww_shp ww_nm ww_cl ww_tyl cX5_meanDelay 6 RX5 (some .double) 7 q.1 q.2 := by
  refine vg_cons (vt_aload_n dX5_meanDelay_0 rfl rfl) ?_
  refine vg_cons (vt_iload_n dX5_meanDelay_1 rfl rfl) ?_
  refine vg_cons (vt_callVX (T := TX5) c_X5_checkWarning t_X5_checkWarning ww_mv dX5_meanDelay_2 rfl ww_good u_71 u_64 u_72 u_73 u_74 (by decide +kernel) (by decide) rfl) ?_
  exact fun _ h => absurd h List.not_mem_nil
theorem me_X5_meanDelay : vg_Code ke_X5_meanDelay := fun q h => (se_X5_meanDelay q h).1

def pr_X5_meanDelay : vgT → vgS → Prop := fun av σ => match av with
  | [.inr (0, 0, 0), .inl (.int c)] => wx_fr σ
  | _ => False
def pf_X5_meanDelay : vgT → Nat × Int32 := fun av => match av with
  | [.inr (0, 0, 0), .inl (.int c)] => (1, 0)
  | _ => (0, 0)
theorem wp_X5_meanDelay : ∀ av σ, pr_X5_meanDelay av σ → vg_wd av ≤ 6 := by
  intro av σ h
  unfold pr_X5_meanDelay at h
  split at h
  · exact Nat.le_of_ble_eq_true rfl
  · exact h.elim
set_option maxRecDepth 20000 in
theorem gp_X5_meanDelay : ∀ av σ, pr_X5_meanDelay av σ → vg_Go ke_X5_meanDelay (fun r _ => r = po (pf_X5_meanDelay av)) 0 (vg_args 0 av) [] σ := by
  intro av σ h
  unfold pr_X5_meanDelay at h
  split at h
  next c =>
    refine vg_run (cuts := []) me_X5_meanDelay 3 ?_
    have ht : ¬ vp_in c (jWc (jV σ 0)) := wx_no h.2.1.2.2.1
    exact And.intro (fun _ => rfl) (fun z => absurd ⟨h.1, ht⟩ z)
  next => exact h.elim
theorem p_X5_meanDelay : vm_MetX ww_tb ww_tbx ww_strs ww_nw ww_shp ww_nm ww_cl ww_tyl yX5_meanDelay cX5_meanDelay 6 (some .double) 7 pr_X5_meanDelay (fun av _ r _ => r = po (pf_X5_meanDelay av)) := vm_metX ww_closed (by decide +kernel) rfl ww_mv se_X5_meanDelay wp_X5_meanDelay gp_X5_meanDelay
def ke_X5_safeIn : List (Nat × vgF) := [(0, vi_aload 0 1), (1, vi_iload 1 2), (2, vi_callVX ww_shp 0 sp_X5_checkGroup tx_X5_checkGroup 1 1 5)]
set_option maxRecDepth 20000 in
theorem se_X5_safeIn : ∀ q ∈ ke_X5_safeIn, vm_Snd true ww_tb ww_tbx ww_strs ww_nw ww_shp ww_nm ww_cl ww_tyl cX5_safeIn 4 RX5 (some .int) 7 q.1 q.2 := by
  refine vg_cons (vt_aload_n dX5_safeIn_0 rfl rfl) ?_
  refine vg_cons (vt_iload_n dX5_safeIn_1 rfl rfl) ?_
  refine vg_cons (vt_callVX (T := TX5) c_X5_checkGroup t_X5_checkGroup ww_mv dX5_safeIn_2 rfl ww_good u_67 u_64 u_68 u_69 u_70 (by decide +kernel) (by decide) rfl) ?_
  exact fun _ h => absurd h List.not_mem_nil
theorem me_X5_safeIn : vg_Code ke_X5_safeIn := fun q h => (se_X5_safeIn q h).1

def pr_X5_safeIn : vgT → vgS → Prop := fun av σ => match av with
  | [.inr (0, 0, 0), .inl (.int c), .inl (.int d)] => wx_fr σ
  | _ => False
def pf_X5_safeIn : vgT → Nat × Int32 := fun av => match av with
  | [.inr (0, 0, 0), .inl (.int c), .inl (.int d)] => (1, 0)
  | _ => (0, 0)
theorem wp_X5_safeIn : ∀ av σ, pr_X5_safeIn av σ → vg_wd av ≤ 4 := by
  intro av σ h
  unfold pr_X5_safeIn at h
  split at h
  · exact Nat.le_of_ble_eq_true rfl
  · exact h.elim
set_option maxRecDepth 20000 in
theorem gp_X5_safeIn : ∀ av σ, pr_X5_safeIn av σ → vg_Go ke_X5_safeIn (fun r _ => r = po (pf_X5_safeIn av)) 0 (vg_args 0 av) [] σ := by
  intro av σ h
  unfold pr_X5_safeIn at h
  split at h
  next c d =>
    refine vg_run (cuts := []) me_X5_safeIn 3 ?_
    have ht : ¬ vp_in c (jGc (jV σ 0)) := wx_no h.2.1.1
    exact And.intro (fun _ => rfl) (fun z => absurd ⟨h.1, ht⟩ z)
  next => exact h.elim
theorem p_X5_safeIn : vm_MetX ww_tb ww_tbx ww_strs ww_nw ww_shp ww_nm ww_cl ww_tyl yX5_safeIn cX5_safeIn 4 (some .int) 7 pr_X5_safeIn (fun av _ r _ => r = po (pf_X5_safeIn av)) := vm_metX ww_closed (by decide +kernel) rfl ww_mv se_X5_safeIn wp_X5_safeIn gp_X5_safeIn
