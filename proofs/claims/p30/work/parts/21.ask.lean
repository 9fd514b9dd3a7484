-- words of the tables, and what stands at each place of the methods' code (laid by program)
theorem q_4 : Cond.fieldLink RX0 50 (TX0 7).1 (TX0 7).2.1 (TX0 7).2.2.1 ∈ ww_tb := by decide +kernel
theorem q_5 : Cond.fieldLink RX0 15 (TX0 6).1 (TX0 6).2.1 (TX0 6).2.2.1 ∈ ww_tb := by decide +kernel
theorem q_6 : Cond.fieldLink RX0 9 (TX0 3).1 (TX0 3).2.1 (TX0 3).2.2.1 ∈ ww_tb := by decide +kernel
theorem q_7 : Cond.methodLink RX0 59 Lib.Math.max.name ∈ ww_tb := by decide +kernel
theorem q_8 : Cond.static Lib.Math.max.name ∈ ww_tb := by decide +kernel
theorem q_9 : Cond.code Lib.Math.max.name Lib.Math.max.code 2 (some .int) ∈ ww_tb := by decide +kernel
theorem q_10 : Cond.fieldLink RX1 56 (TX1 0).1 (TX1 0).2.1 (TX1 0).2.2.1 ∈ ww_tb := by decide +kernel
theorem q_11 : Cond.code yX1_hourNow cX1_hourNow 1 (some .int) ∈ ww_tb := by decide +kernel
theorem q_12 : Cond.initialized RX1 ∈ ww_tb := by decide +kernel
theorem q_13 : Cond.methodLink RX1 93 yX1_hourNow ∈ ww_tb := by decide +kernel
theorem q_14 : Cond.instanceMethod yX1_hourNow ∈ ww_tb := by decide +kernel
theorem q_15 : Cond.selects RX1 yX1_hourNow yX1_hourNow ∈ ww_tb := by decide +kernel
theorem q_16 : Cond.fieldLink RX1 68 (TX1 6).1 (TX1 6).2.1 (TX1 6).2.2.1 ∈ ww_tb := by decide +kernel
theorem q_17 : Cond.fieldLink RX1 32 (TX1 9).1 (TX1 9).2.1 (TX1 9).2.2.1 ∈ ww_tb := by decide +kernel
theorem q_18 : Cond.fieldLink RX1 112 (TX4 7).1 (TX4 7).2.1 (TX4 7).2.2.1 ∈ ww_tb := by decide +kernel
theorem q_19 : Cond.fieldLink RX1 116 (TX0 12).1 (TX0 12).2.1 (TX0 12).2.2.1 ∈ ww_tb := by decide +kernel
theorem q_20 : Cond.code yX0_isGone cX0_isGone 1 (some .boolean) ∈ ww_tb := by decide +kernel
theorem q_21 : Cond.initialized RX0 ∈ ww_tb := by decide +kernel
theorem q_22 : Cond.methodLink RX1 97 yX0_isGone ∈ ww_tb := by decide +kernel
theorem q_23 : Cond.instanceMethod yX0_isGone ∈ ww_tb := by decide +kernel
theorem q_24 : Cond.selects RX0 yX0_isGone yX0_isGone ∈ ww_tb := by decide +kernel
theorem q_25 : Cond.code yX1_isNight cX1_isNight 1 (some .boolean) ∈ ww_tb := by decide +kernel
theorem q_26 : Cond.methodLink RX1 101 yX1_isNight ∈ ww_tb := by decide +kernel
theorem q_27 : Cond.instanceMethod yX1_isNight ∈ ww_tb := by decide +kernel
theorem q_28 : Cond.selects RX1 yX1_isNight yX1_isNight ∈ ww_tb := by decide +kernel
theorem q_29 : Cond.code yX1_latestBelieved cX1_latestBelieved 3 (some .int) ∈ ww_tb := by decide +kernel
theorem q_30 : Cond.methodLink RX1 104 yX1_latestBelieved ∈ ww_tb := by decide +kernel
theorem q_31 : Cond.instanceMethod yX1_latestBelieved ∈ ww_tb := by decide +kernel
theorem q_32 : Cond.selects RX1 yX1_latestBelieved yX1_latestBelieved ∈ ww_tb := by decide +kernel
theorem q_33 : Cond.fieldLink RX1 46 (TX1 12).1 (TX1 12).2.1 (TX1 12).2.2.1 ∈ ww_tb := by decide +kernel
theorem q_34 : Cond.code yX1_isInDanger cX1_isInDanger 2 (some .boolean) ∈ ww_tb := by decide +kernel
theorem q_35 : Cond.methodLink RX1 108 yX1_isInDanger ∈ ww_tb := by decide +kernel
theorem q_36 : Cond.instanceMethod yX1_isInDanger ∈ ww_tb := by decide +kernel
theorem q_37 : Cond.selects RX1 yX1_isInDanger yX1_isInDanger ∈ ww_tb := by decide +kernel
theorem q_38 : Cond.fieldLink RX1 62 (TX1 4).1 (TX1 4).2.1 (TX1 4).2.2.1 ∈ ww_tb := by decide +kernel
theorem q_39 : Cond.fieldLink RX1 20 (TX1 7).1 (TX1 7).2.1 (TX1 7).2.2.1 ∈ ww_tb := by decide +kernel
theorem q_40 : Cond.code yX1_isAsleep cX1_isAsleep 2 (some .boolean) ∈ ww_tb := by decide +kernel
theorem q_41 : Cond.methodLink RX1 119 yX1_isAsleep ∈ ww_tb := by decide +kernel
theorem q_42 : Cond.instanceMethod yX1_isAsleep ∈ ww_tb := by decide +kernel
theorem q_43 : Cond.selects RX1 yX1_isAsleep yX1_isAsleep ∈ ww_tb := by decide +kernel
theorem q_44 : Cond.fieldLink RX1 123 (TX0 1).1 (TX0 1).2.1 (TX0 1).2.2.1 ∈ ww_tb := by decide +kernel
theorem q_45 : Cond.code yX0_isSafe cX0_isSafe 1 (some .boolean) ∈ ww_tb := by decide +kernel
theorem q_46 : Cond.methodLink RX1 126 yX0_isSafe ∈ ww_tb := by decide +kernel
theorem q_47 : Cond.instanceMethod yX0_isSafe ∈ ww_tb := by decide +kernel
theorem q_48 : Cond.selects RX0 yX0_isSafe yX0_isSafe ∈ ww_tb := by decide +kernel
theorem q_49 : Cond.fieldLink RX1 129 (TX0 0).1 (TX0 0).2.1 (TX0 0).2.2.1 ∈ ww_tb := by decide +kernel
theorem q_50 : Cond.code yX5_isIn cX5_isIn 2 (some .boolean) ∈ ww_tb := by decide +kernel
theorem q_51 : Cond.initialized RX5 ∈ ww_tb := by decide +kernel
theorem q_52 : Cond.static yX5_isIn ∈ ww_tb := by decide +kernel
theorem dX0_isGone_0 : decode cX0_isGone 0 = .ok (.aload_n 0, 1) := by decide +kernel
theorem dX0_isGone_1 : decode cX0_isGone 1 = .ok (.getfield 50, 3) := by decide +kernel
theorem dX0_isGone_4 : decode cX0_isGone 4 = .ok (.iconst 5, 1) := by decide +kernel
theorem dX0_isGone_5 : decode cX0_isGone 5 = .ok (.if_icmp .lt 7, 3) := by decide +kernel
theorem dX0_isGone_8 : decode cX0_isGone 8 = .ok (.iconst 1, 1) := by decide +kernel
theorem dX0_isGone_9 : decode cX0_isGone 9 = .ok (.goto 4, 3) := by decide +kernel
theorem dX0_isGone_12 : decode cX0_isGone 12 = .ok (.iconst 0, 1) := by decide +kernel
theorem dX0_isGone_13 : decode cX0_isGone 13 = .ok (.ireturn, 1) := by decide +kernel
theorem dX0_isSafe_0 : decode cX0_isSafe 0 = .ok (.aload_n 0, 1) := by decide +kernel
theorem dX0_isSafe_1 : decode cX0_isSafe 1 = .ok (.getfield 15, 3) := by decide +kernel
theorem dX0_isSafe_4 : decode cX0_isSafe 4 = .ok (.iconst (-1), 1) := by decide +kernel
theorem dX0_isSafe_5 : decode cX0_isSafe 5 = .ok (.if_icmp .eq 7, 3) := by decide +kernel
theorem dX0_isSafe_8 : decode cX0_isSafe 8 = .ok (.iconst 1, 1) := by decide +kernel
theorem dX0_isSafe_9 : decode cX0_isSafe 9 = .ok (.goto 4, 3) := by decide +kernel
theorem dX0_isSafe_12 : decode cX0_isSafe 12 = .ok (.iconst 0, 1) := by decide +kernel
theorem dX0_isSafe_13 : decode cX0_isSafe 13 = .ok (.ireturn, 1) := by decide +kernel
theorem dX0_waysNeeded_0 : decode cX0_waysNeeded 0 = .ok (.iconst 1, 1) := by decide +kernel
theorem dX0_waysNeeded_1 : decode cX0_waysNeeded 1 = .ok (.bipush 11, 2) := by decide +kernel
theorem dX0_waysNeeded_3 : decode cX0_waysNeeded 3 = .ok (.aload_n 0, 1) := by decide +kernel
theorem dX0_waysNeeded_4 : decode cX0_waysNeeded 4 = .ok (.getfield 9, 3) := by decide +kernel
theorem dX0_waysNeeded_7 : decode cX0_waysNeeded 7 = .ok (.isub, 1) := by decide +kernel
theorem dX0_waysNeeded_8 : decode cX0_waysNeeded 8 = .ok (.iconst 4, 1) := by decide +kernel
theorem dX0_waysNeeded_9 : decode cX0_waysNeeded 9 = .ok (.idiv, 1) := by decide +kernel
theorem dX0_waysNeeded_10 : decode cX0_waysNeeded 10 = .ok (.invokestatic 59, 3) := by decide +kernel
theorem dX0_waysNeeded_13 : decode cX0_waysNeeded 13 = .ok (.ireturn, 1) := by decide +kernel
theorem dX1_hourNow_0 : decode cX1_hourNow 0 = .ok (.aload_n 0, 1) := by decide +kernel
theorem dX1_hourNow_1 : decode cX1_hourNow 1 = .ok (.getfield 56, 3) := by decide +kernel
theorem dX1_hourNow_4 : decode cX1_hourNow 4 = .ok (.bipush 60, 2) := by decide +kernel
theorem dX1_hourNow_6 : decode cX1_hourNow 6 = .ok (.idiv, 1) := by decide +kernel
theorem dX1_hourNow_7 : decode cX1_hourNow 7 = .ok (.bipush 24, 2) := by decide +kernel
theorem dX1_hourNow_9 : decode cX1_hourNow 9 = .ok (.irem, 1) := by decide +kernel
theorem dX1_hourNow_10 : decode cX1_hourNow 10 = .ok (.ireturn, 1) := by decide +kernel
theorem dX1_isNight_0 : decode cX1_isNight 0 = .ok (.aload_n 0, 1) := by decide +kernel
theorem dX1_isNight_1 : decode cX1_isNight 1 = .ok (.invokevirtual 93, 3) := by decide +kernel
theorem dX1_isNight_4 : decode cX1_isNight 4 = .ok (.bipush 22, 2) := by decide +kernel
theorem dX1_isNight_6 : decode cX1_isNight 6 = .ok (.if_icmp .ge 12, 3) := by decide +kernel
theorem dX1_isNight_9 : decode cX1_isNight 9 = .ok (.aload_n 0, 1) := by decide +kernel
theorem dX1_isNight_10 : decode cX1_isNight 10 = .ok (.invokevirtual 93, 3) := by decide +kernel
theorem dX1_isNight_13 : decode cX1_isNight 13 = .ok (.bipush 6, 2) := by decide +kernel
theorem dX1_isNight_15 : decode cX1_isNight 15 = .ok (.if_icmp .ge 7, 3) := by decide +kernel
theorem dX1_isNight_18 : decode cX1_isNight 18 = .ok (.iconst 1, 1) := by decide +kernel
theorem dX1_isNight_19 : decode cX1_isNight 19 = .ok (.goto 4, 3) := by decide +kernel
theorem dX1_isNight_22 : decode cX1_isNight 22 = .ok (.iconst 0, 1) := by decide +kernel
theorem dX1_isNight_23 : decode cX1_isNight 23 = .ok (.ireturn, 1) := by decide +kernel
theorem dX1_latestBelieved_0 : decode cX1_latestBelieved 0 = .ok (.aload_n 0, 1) := by decide +kernel
theorem dX1_latestBelieved_1 : decode cX1_latestBelieved 1 = .ok (.getfield 68, 3) := by decide +kernel
theorem dX1_latestBelieved_4 : decode cX1_latestBelieved 4 = .ok (.iconst 1, 1) := by decide +kernel
theorem dX1_latestBelieved_5 : decode cX1_latestBelieved 5 = .ok (.isub, 1) := by decide +kernel
theorem dX1_latestBelieved_6 : decode cX1_latestBelieved 6 = .ok (.istore_n 2, 1) := by decide +kernel
theorem dX1_latestBelieved_7 : decode cX1_latestBelieved 7 = .ok (.iload_n 2, 1) := by decide +kernel
theorem dX1_latestBelieved_8 : decode cX1_latestBelieved 8 = .ok (.ifCond .lt 33, 3) := by decide +kernel
theorem dX1_latestBelieved_11 : decode cX1_latestBelieved 11 = .ok (.aload_n 0, 1) := by decide +kernel
theorem dX1_latestBelieved_12 : decode cX1_latestBelieved 12 = .ok (.getfield 32, 3) := by decide +kernel
theorem dX1_latestBelieved_15 : decode cX1_latestBelieved 15 = .ok (.iload_n 2, 1) := by decide +kernel
theorem dX1_latestBelieved_16 : decode cX1_latestBelieved 16 = .ok (.aaload, 1) := by decide +kernel
theorem dX1_latestBelieved_17 : decode cX1_latestBelieved 17 = .ok (.getfield 112, 3) := by decide +kernel
theorem dX1_latestBelieved_20 : decode cX1_latestBelieved 20 = .ok (.ifCond .eq 15, 3) := by decide +kernel
theorem dX1_latestBelieved_23 : decode cX1_latestBelieved 23 = .ok (.aload_n 1, 1) := by decide +kernel
theorem dX1_latestBelieved_24 : decode cX1_latestBelieved 24 = .ok (.getfield 116, 3) := by decide +kernel
theorem dX1_latestBelieved_27 : decode cX1_latestBelieved 27 = .ok (.iload_n 2, 1) := by decide +kernel
theorem dX1_latestBelieved_28 : decode cX1_latestBelieved 28 = .ok (.iaload, 1) := by decide +kernel
theorem dX1_latestBelieved_29 : decode cX1_latestBelieved 29 = .ok (.iconst (-1), 1) := by decide +kernel
theorem dX1_latestBelieved_30 : decode cX1_latestBelieved 30 = .ok (.if_icmp .eq 5, 3) := by decide +kernel
theorem dX1_latestBelieved_33 : decode cX1_latestBelieved 33 = .ok (.iload_n 2, 1) := by decide +kernel
theorem dX1_latestBelieved_34 : decode cX1_latestBelieved 34 = .ok (.ireturn, 1) := by decide +kernel
theorem dX1_latestBelieved_35 : decode cX1_latestBelieved 35 = .ok (.iinc 2 (-1), 3) := by decide +kernel
theorem dX1_latestBelieved_38 : decode cX1_latestBelieved 38 = .ok (.goto (-31), 3) := by decide +kernel
theorem dX1_latestBelieved_41 : decode cX1_latestBelieved 41 = .ok (.iconst (-1), 1) := by decide +kernel
theorem dX1_latestBelieved_42 : decode cX1_latestBelieved 42 = .ok (.ireturn, 1) := by decide +kernel
theorem dX1_isAsleep_0 : decode cX1_isAsleep 0 = .ok (.aload_n 1, 1) := by decide +kernel
theorem dX1_isAsleep_1 : decode cX1_isAsleep 1 = .ok (.invokevirtual 97, 3) := by decide +kernel
theorem dX1_isAsleep_4 : decode cX1_isAsleep 4 = .ok (.ifCond .ne 23, 3) := by decide +kernel
theorem dX1_isAsleep_7 : decode cX1_isAsleep 7 = .ok (.aload_n 0, 1) := by decide +kernel
theorem dX1_isAsleep_8 : decode cX1_isAsleep 8 = .ok (.invokevirtual 101, 3) := by decide +kernel
theorem dX1_isAsleep_11 : decode cX1_isAsleep 11 = .ok (.ifCond .eq 16, 3) := by decide +kernel
theorem dX1_isAsleep_14 : decode cX1_isAsleep 14 = .ok (.aload_n 0, 1) := by decide +kernel
theorem dX1_isAsleep_15 : decode cX1_isAsleep 15 = .ok (.aload_n 1, 1) := by decide +kernel
theorem dX1_isAsleep_16 : decode cX1_isAsleep 16 = .ok (.invokevirtual 104, 3) := by decide +kernel
theorem dX1_isAsleep_19 : decode cX1_isAsleep 19 = .ok (.iconst (-1), 1) := by decide +kernel
theorem dX1_isAsleep_20 : decode cX1_isAsleep 20 = .ok (.if_icmp .ne 7, 3) := by decide +kernel
theorem dX1_isAsleep_23 : decode cX1_isAsleep 23 = .ok (.iconst 1, 1) := by decide +kernel
theorem dX1_isAsleep_24 : decode cX1_isAsleep 24 = .ok (.goto 4, 3) := by decide +kernel
theorem dX1_isAsleep_27 : decode cX1_isAsleep 27 = .ok (.iconst 0, 1) := by decide +kernel
theorem dX1_isAsleep_28 : decode cX1_isAsleep 28 = .ok (.ireturn, 1) := by decide +kernel
theorem dX1_isInDanger_0 : decode cX1_isInDanger 0 = .ok (.aload_n 0, 1) := by decide +kernel
theorem dX1_isInDanger_1 : decode cX1_isInDanger 1 = .ok (.getfield 46, 3) := by decide +kernel
theorem dX1_isInDanger_4 : decode cX1_isInDanger 4 = .ok (.iload_n 1, 1) := by decide +kernel
theorem dX1_isInDanger_5 : decode cX1_isInDanger 5 = .ok (.iaload, 1) := by decide +kernel
theorem dX1_isInDanger_6 : decode cX1_isInDanger 6 = .ok (.iconst (-1), 1) := by decide +kernel
theorem dX1_isInDanger_7 : decode cX1_isInDanger 7 = .ok (.if_icmp .eq 20, 3) := by decide +kernel
theorem dX1_isInDanger_10 : decode cX1_isInDanger 10 = .ok (.aload_n 0, 1) := by decide +kernel
theorem dX1_isInDanger_11 : decode cX1_isInDanger 11 = .ok (.getfield 46, 3) := by decide +kernel
theorem dX1_isInDanger_14 : decode cX1_isInDanger 14 = .ok (.iload_n 1, 1) := by decide +kernel
theorem dX1_isInDanger_15 : decode cX1_isInDanger 15 = .ok (.iaload, 1) := by decide +kernel
theorem dX1_isInDanger_16 : decode cX1_isInDanger 16 = .ok (.aload_n 0, 1) := by decide +kernel
theorem dX1_isInDanger_17 : decode cX1_isInDanger 17 = .ok (.getfield 56, 3) := by decide +kernel
theorem dX1_isInDanger_20 : decode cX1_isInDanger 20 = .ok (.if_icmp .gt 7, 3) := by decide +kernel
theorem dX1_isInDanger_23 : decode cX1_isInDanger 23 = .ok (.iconst 1, 1) := by decide +kernel
theorem dX1_isInDanger_24 : decode cX1_isInDanger 24 = .ok (.goto 4, 3) := by decide +kernel
theorem dX1_isInDanger_27 : decode cX1_isInDanger 27 = .ok (.iconst 0, 1) := by decide +kernel
theorem dX1_isInDanger_28 : decode cX1_isInDanger 28 = .ok (.ireturn, 1) := by decide +kernel
theorem dX1_cellsInDanger_0 : decode cX1_cellsInDanger 0 = .ok (.iconst 0, 1) := by decide +kernel
theorem dX1_cellsInDanger_1 : decode cX1_cellsInDanger 1 = .ok (.istore_n 1, 1) := by decide +kernel
theorem dX1_cellsInDanger_2 : decode cX1_cellsInDanger 2 = .ok (.iconst 0, 1) := by decide +kernel
theorem dX1_cellsInDanger_3 : decode cX1_cellsInDanger 3 = .ok (.istore_n 2, 1) := by decide +kernel
theorem dX1_cellsInDanger_4 : decode cX1_cellsInDanger 4 = .ok (.iload_n 2, 1) := by decide +kernel
theorem dX1_cellsInDanger_5 : decode cX1_cellsInDanger 5 = .ok (.bipush 16, 2) := by decide +kernel
theorem dX1_cellsInDanger_7 : decode cX1_cellsInDanger 7 = .ok (.if_icmp .ge 23, 3) := by decide +kernel
theorem dX1_cellsInDanger_10 : decode cX1_cellsInDanger 10 = .ok (.aload_n 0, 1) := by decide +kernel
theorem dX1_cellsInDanger_11 : decode cX1_cellsInDanger 11 = .ok (.iload_n 2, 1) := by decide +kernel
theorem dX1_cellsInDanger_12 : decode cX1_cellsInDanger 12 = .ok (.invokevirtual 108, 3) := by decide +kernel
theorem dX1_cellsInDanger_15 : decode cX1_cellsInDanger 15 = .ok (.ifCond .eq 9, 3) := by decide +kernel
theorem dX1_cellsInDanger_18 : decode cX1_cellsInDanger 18 = .ok (.iload_n 1, 1) := by decide +kernel
theorem dX1_cellsInDanger_19 : decode cX1_cellsInDanger 19 = .ok (.iconst 1, 1) := by decide +kernel
theorem dX1_cellsInDanger_20 : decode cX1_cellsInDanger 20 = .ok (.iload_n 2, 1) := by decide +kernel
theorem dX1_cellsInDanger_21 : decode cX1_cellsInDanger 21 = .ok (.ishl, 1) := by decide +kernel
theorem dX1_cellsInDanger_22 : decode cX1_cellsInDanger 22 = .ok (.ior, 1) := by decide +kernel
theorem dX1_cellsInDanger_23 : decode cX1_cellsInDanger 23 = .ok (.istore_n 1, 1) := by decide +kernel
theorem dX1_cellsInDanger_24 : decode cX1_cellsInDanger 24 = .ok (.iinc 2 1, 3) := by decide +kernel
theorem dX1_cellsInDanger_27 : decode cX1_cellsInDanger 27 = .ok (.goto (-23), 3) := by decide +kernel
theorem dX1_cellsInDanger_30 : decode cX1_cellsInDanger 30 = .ok (.iload_n 1, 1) := by decide +kernel
theorem dX1_cellsInDanger_31 : decode cX1_cellsInDanger 31 = .ok (.ireturn, 1) := by decide +kernel
theorem dX1_countInForce_0 : decode cX1_countInForce 0 = .ok (.iconst 0, 1) := by decide +kernel
theorem dX1_countInForce_1 : decode cX1_countInForce 1 = .ok (.istore_n 1, 1) := by decide +kernel
theorem dX1_countInForce_2 : decode cX1_countInForce 2 = .ok (.iconst 0, 1) := by decide +kernel
theorem dX1_countInForce_3 : decode cX1_countInForce 3 = .ok (.istore_n 2, 1) := by decide +kernel
theorem dX1_countInForce_4 : decode cX1_countInForce 4 = .ok (.iload_n 2, 1) := by decide +kernel
theorem dX1_countInForce_5 : decode cX1_countInForce 5 = .ok (.aload_n 0, 1) := by decide +kernel
theorem dX1_countInForce_6 : decode cX1_countInForce 6 = .ok (.getfield 68, 3) := by decide +kernel
theorem dX1_countInForce_9 : decode cX1_countInForce 9 = .ok (.if_icmp .ge 29, 3) := by decide +kernel
theorem dX1_countInForce_12 : decode cX1_countInForce 12 = .ok (.iload_n 1, 1) := by decide +kernel
theorem dX1_countInForce_13 : decode cX1_countInForce 13 = .ok (.aload_n 0, 1) := by decide +kernel
theorem dX1_countInForce_14 : decode cX1_countInForce 14 = .ok (.getfield 32, 3) := by decide +kernel
theorem dX1_countInForce_17 : decode cX1_countInForce 17 = .ok (.iload_n 2, 1) := by decide +kernel
theorem dX1_countInForce_18 : decode cX1_countInForce 18 = .ok (.aaload, 1) := by decide +kernel
theorem dX1_countInForce_19 : decode cX1_countInForce 19 = .ok (.getfield 112, 3) := by decide +kernel
theorem dX1_countInForce_22 : decode cX1_countInForce 22 = .ok (.ifCond .eq 7, 3) := by decide +kernel
theorem dX1_countInForce_25 : decode cX1_countInForce 25 = .ok (.iconst 1, 1) := by decide +kernel
theorem dX1_countInForce_26 : decode cX1_countInForce 26 = .ok (.goto 4, 3) := by decide +kernel
theorem dX1_countInForce_29 : decode cX1_countInForce 29 = .ok (.iconst 0, 1) := by decide +kernel
theorem dX1_countInForce_30 : decode cX1_countInForce 30 = .ok (.iadd, 1) := by decide +kernel
theorem dX1_countInForce_31 : decode cX1_countInForce 31 = .ok (.istore_n 1, 1) := by decide +kernel
theorem dX1_countInForce_32 : decode cX1_countInForce 32 = .ok (.iinc 2 1, 3) := by decide +kernel
theorem dX1_countInForce_35 : decode cX1_countInForce 35 = .ok (.goto (-31), 3) := by decide +kernel
theorem dX1_countInForce_38 : decode cX1_countInForce 38 = .ok (.iload_n 1, 1) := by decide +kernel
theorem dX1_countInForce_39 : decode cX1_countInForce 39 = .ok (.ireturn, 1) := by decide +kernel
theorem dX1_countAsleep_0 : decode cX1_countAsleep 0 = .ok (.iconst 0, 1) := by decide +kernel
theorem dX1_countAsleep_1 : decode cX1_countAsleep 1 = .ok (.istore_n 1, 1) := by decide +kernel
theorem dX1_countAsleep_2 : decode cX1_countAsleep 2 = .ok (.iconst 0, 1) := by decide +kernel
theorem dX1_countAsleep_3 : decode cX1_countAsleep 3 = .ok (.istore_n 2, 1) := by decide +kernel
theorem dX1_countAsleep_4 : decode cX1_countAsleep 4 = .ok (.iload_n 2, 1) := by decide +kernel
theorem dX1_countAsleep_5 : decode cX1_countAsleep 5 = .ok (.aload_n 0, 1) := by decide +kernel
theorem dX1_countAsleep_6 : decode cX1_countAsleep 6 = .ok (.getfield 62, 3) := by decide +kernel
theorem dX1_countAsleep_9 : decode cX1_countAsleep 9 = .ok (.if_icmp .ge 30, 3) := by decide +kernel
theorem dX1_countAsleep_12 : decode cX1_countAsleep 12 = .ok (.iload_n 1, 1) := by decide +kernel
theorem dX1_countAsleep_13 : decode cX1_countAsleep 13 = .ok (.aload_n 0, 1) := by decide +kernel
theorem dX1_countAsleep_14 : decode cX1_countAsleep 14 = .ok (.aload_n 0, 1) := by decide +kernel
theorem dX1_countAsleep_15 : decode cX1_countAsleep 15 = .ok (.getfield 20, 3) := by decide +kernel
theorem dX1_countAsleep_18 : decode cX1_countAsleep 18 = .ok (.iload_n 2, 1) := by decide +kernel
theorem dX1_countAsleep_19 : decode cX1_countAsleep 19 = .ok (.aaload, 1) := by decide +kernel
theorem dX1_countAsleep_20 : decode cX1_countAsleep 20 = .ok (.invokevirtual 119, 3) := by decide +kernel
theorem dX1_countAsleep_23 : decode cX1_countAsleep 23 = .ok (.ifCond .eq 7, 3) := by decide +kernel
theorem dX1_countAsleep_26 : decode cX1_countAsleep 26 = .ok (.iconst 1, 1) := by decide +kernel
theorem dX1_countAsleep_27 : decode cX1_countAsleep 27 = .ok (.goto 4, 3) := by decide +kernel
theorem dX1_countAsleep_30 : decode cX1_countAsleep 30 = .ok (.iconst 0, 1) := by decide +kernel
theorem dX1_countAsleep_31 : decode cX1_countAsleep 31 = .ok (.iadd, 1) := by decide +kernel
theorem dX1_countAsleep_32 : decode cX1_countAsleep 32 = .ok (.istore_n 1, 1) := by decide +kernel
theorem dX1_countAsleep_33 : decode cX1_countAsleep 33 = .ok (.iinc 2 1, 3) := by decide +kernel
theorem dX1_countAsleep_36 : decode cX1_countAsleep 36 = .ok (.goto (-32), 3) := by decide +kernel
theorem dX1_countAsleep_39 : decode cX1_countAsleep 39 = .ok (.iload_n 1, 1) := by decide +kernel
theorem dX1_countAsleep_40 : decode cX1_countAsleep 40 = .ok (.ireturn, 1) := by decide +kernel
theorem dX1_countBelievers_0 : decode cX1_countBelievers 0 = .ok (.iconst 0, 1) := by decide +kernel
theorem dX1_countBelievers_1 : decode cX1_countBelievers 1 = .ok (.istore_n 2, 1) := by decide +kernel
theorem dX1_countBelievers_2 : decode cX1_countBelievers 2 = .ok (.iconst 0, 1) := by decide +kernel
theorem dX1_countBelievers_3 : decode cX1_countBelievers 3 = .ok (.istore_n 3, 1) := by decide +kernel
theorem dX1_countBelievers_4 : decode cX1_countBelievers 4 = .ok (.iload_n 3, 1) := by decide +kernel
theorem dX1_countBelievers_5 : decode cX1_countBelievers 5 = .ok (.aload_n 0, 1) := by decide +kernel
theorem dX1_countBelievers_6 : decode cX1_countBelievers 6 = .ok (.getfield 62, 3) := by decide +kernel
theorem dX1_countBelievers_9 : decode cX1_countBelievers 9 = .ok (.if_icmp .ge 32, 3) := by decide +kernel
theorem dX1_countBelievers_12 : decode cX1_countBelievers 12 = .ok (.iload_n 2, 1) := by decide +kernel
theorem dX1_countBelievers_13 : decode cX1_countBelievers 13 = .ok (.aload_n 0, 1) := by decide +kernel
theorem dX1_countBelievers_14 : decode cX1_countBelievers 14 = .ok (.getfield 20, 3) := by decide +kernel
theorem dX1_countBelievers_17 : decode cX1_countBelievers 17 = .ok (.iload_n 3, 1) := by decide +kernel
theorem dX1_countBelievers_18 : decode cX1_countBelievers 18 = .ok (.aaload, 1) := by decide +kernel
theorem dX1_countBelievers_19 : decode cX1_countBelievers 19 = .ok (.getfield 116, 3) := by decide +kernel
theorem dX1_countBelievers_22 : decode cX1_countBelievers 22 = .ok (.iload_n 1, 1) := by decide +kernel
theorem dX1_countBelievers_23 : decode cX1_countBelievers 23 = .ok (.iaload, 1) := by decide +kernel
theorem dX1_countBelievers_24 : decode cX1_countBelievers 24 = .ok (.iconst (-1), 1) := by decide +kernel
theorem dX1_countBelievers_25 : decode cX1_countBelievers 25 = .ok (.if_icmp .eq 7, 3) := by decide +kernel
theorem dX1_countBelievers_28 : decode cX1_countBelievers 28 = .ok (.iconst 1, 1) := by decide +kernel
theorem dX1_countBelievers_29 : decode cX1_countBelievers 29 = .ok (.goto 4, 3) := by decide +kernel
theorem dX1_countBelievers_32 : decode cX1_countBelievers 32 = .ok (.iconst 0, 1) := by decide +kernel
theorem dX1_countBelievers_33 : decode cX1_countBelievers 33 = .ok (.iadd, 1) := by decide +kernel
theorem dX1_countBelievers_34 : decode cX1_countBelievers 34 = .ok (.istore_n 2, 1) := by decide +kernel
theorem dX1_countBelievers_35 : decode cX1_countBelievers 35 = .ok (.iinc 3 1, 3) := by decide +kernel
theorem dX1_countBelievers_38 : decode cX1_countBelievers 38 = .ok (.goto (-34), 3) := by decide +kernel
theorem dX1_countBelievers_41 : decode cX1_countBelievers 41 = .ok (.iload_n 2, 1) := by decide +kernel
theorem dX1_countBelievers_42 : decode cX1_countBelievers 42 = .ok (.ireturn, 1) := by decide +kernel
theorem dX1_peopleOfAll_0 : decode cX1_peopleOfAll 0 = .ok (.iconst 0, 1) := by decide +kernel
theorem dX1_peopleOfAll_1 : decode cX1_peopleOfAll 1 = .ok (.istore_n 1, 1) := by decide +kernel
theorem dX1_peopleOfAll_2 : decode cX1_peopleOfAll 2 = .ok (.iconst 0, 1) := by decide +kernel
theorem dX1_peopleOfAll_3 : decode cX1_peopleOfAll 3 = .ok (.istore_n 2, 1) := by decide +kernel
theorem dX1_peopleOfAll_4 : decode cX1_peopleOfAll 4 = .ok (.iload_n 2, 1) := by decide +kernel
theorem dX1_peopleOfAll_5 : decode cX1_peopleOfAll 5 = .ok (.aload_n 0, 1) := by decide +kernel
theorem dX1_peopleOfAll_6 : decode cX1_peopleOfAll 6 = .ok (.getfield 62, 3) := by decide +kernel
theorem dX1_peopleOfAll_9 : decode cX1_peopleOfAll 9 = .ok (.if_icmp .ge 21, 3) := by decide +kernel
theorem dX1_peopleOfAll_12 : decode cX1_peopleOfAll 12 = .ok (.iload_n 1, 1) := by decide +kernel
theorem dX1_peopleOfAll_13 : decode cX1_peopleOfAll 13 = .ok (.aload_n 0, 1) := by decide +kernel
theorem dX1_peopleOfAll_14 : decode cX1_peopleOfAll 14 = .ok (.getfield 20, 3) := by decide +kernel
theorem dX1_peopleOfAll_17 : decode cX1_peopleOfAll 17 = .ok (.iload_n 2, 1) := by decide +kernel
theorem dX1_peopleOfAll_18 : decode cX1_peopleOfAll 18 = .ok (.aaload, 1) := by decide +kernel
theorem dX1_peopleOfAll_19 : decode cX1_peopleOfAll 19 = .ok (.getfield 123, 3) := by decide +kernel
theorem dX1_peopleOfAll_22 : decode cX1_peopleOfAll 22 = .ok (.iadd, 1) := by decide +kernel
theorem dX1_peopleOfAll_23 : decode cX1_peopleOfAll 23 = .ok (.istore_n 1, 1) := by decide +kernel
theorem dX1_peopleOfAll_24 : decode cX1_peopleOfAll 24 = .ok (.iinc 2 1, 3) := by decide +kernel
theorem dX1_peopleOfAll_27 : decode cX1_peopleOfAll 27 = .ok (.goto (-23), 3) := by decide +kernel
theorem dX1_peopleOfAll_30 : decode cX1_peopleOfAll 30 = .ok (.iload_n 1, 1) := by decide +kernel
theorem dX1_peopleOfAll_31 : decode cX1_peopleOfAll 31 = .ok (.ireturn, 1) := by decide +kernel
theorem dX1_peopleSafe_0 : decode cX1_peopleSafe 0 = .ok (.iconst 0, 1) := by decide +kernel
theorem dX1_peopleSafe_1 : decode cX1_peopleSafe 1 = .ok (.istore_n 1, 1) := by decide +kernel
theorem dX1_peopleSafe_2 : decode cX1_peopleSafe 2 = .ok (.iconst 0, 1) := by decide +kernel
theorem dX1_peopleSafe_3 : decode cX1_peopleSafe 3 = .ok (.istore_n 2, 1) := by decide +kernel
theorem dX1_peopleSafe_4 : decode cX1_peopleSafe 4 = .ok (.iload_n 2, 1) := by decide +kernel
theorem dX1_peopleSafe_5 : decode cX1_peopleSafe 5 = .ok (.aload_n 0, 1) := by decide +kernel
theorem dX1_peopleSafe_6 : decode cX1_peopleSafe 6 = .ok (.getfield 62, 3) := by decide +kernel
theorem dX1_peopleSafe_9 : decode cX1_peopleSafe 9 = .ok (.if_icmp .ge 37, 3) := by decide +kernel
theorem dX1_peopleSafe_12 : decode cX1_peopleSafe 12 = .ok (.iload_n 1, 1) := by decide +kernel
theorem dX1_peopleSafe_13 : decode cX1_peopleSafe 13 = .ok (.aload_n 0, 1) := by decide +kernel
theorem dX1_peopleSafe_14 : decode cX1_peopleSafe 14 = .ok (.getfield 20, 3) := by decide +kernel
theorem dX1_peopleSafe_17 : decode cX1_peopleSafe 17 = .ok (.iload_n 2, 1) := by decide +kernel
theorem dX1_peopleSafe_18 : decode cX1_peopleSafe 18 = .ok (.aaload, 1) := by decide +kernel
theorem dX1_peopleSafe_19 : decode cX1_peopleSafe 19 = .ok (.invokevirtual 126, 3) := by decide +kernel
theorem dX1_peopleSafe_22 : decode cX1_peopleSafe 22 = .ok (.ifCond .eq 15, 3) := by decide +kernel
theorem dX1_peopleSafe_25 : decode cX1_peopleSafe 25 = .ok (.aload_n 0, 1) := by decide +kernel
theorem dX1_peopleSafe_26 : decode cX1_peopleSafe 26 = .ok (.getfield 20, 3) := by decide +kernel
theorem dX1_peopleSafe_29 : decode cX1_peopleSafe 29 = .ok (.iload_n 2, 1) := by decide +kernel
theorem dX1_peopleSafe_30 : decode cX1_peopleSafe 30 = .ok (.aaload, 1) := by decide +kernel
theorem dX1_peopleSafe_31 : decode cX1_peopleSafe 31 = .ok (.getfield 123, 3) := by decide +kernel
theorem dX1_peopleSafe_34 : decode cX1_peopleSafe 34 = .ok (.goto 4, 3) := by decide +kernel
theorem dX1_peopleSafe_37 : decode cX1_peopleSafe 37 = .ok (.iconst 0, 1) := by decide +kernel
theorem dX1_peopleSafe_38 : decode cX1_peopleSafe 38 = .ok (.iadd, 1) := by decide +kernel
theorem dX1_peopleSafe_39 : decode cX1_peopleSafe 39 = .ok (.istore_n 1, 1) := by decide +kernel
theorem dX1_peopleSafe_40 : decode cX1_peopleSafe 40 = .ok (.iinc 2 1, 3) := by decide +kernel
theorem dX1_peopleSafe_43 : decode cX1_peopleSafe 43 = .ok (.goto (-39), 3) := by decide +kernel
theorem dX1_peopleSafe_46 : decode cX1_peopleSafe 46 = .ok (.iload_n 1, 1) := by decide +kernel
theorem dX1_peopleSafe_47 : decode cX1_peopleSafe 47 = .ok (.ireturn, 1) := by decide +kernel
theorem dX1_peopleGone_0 : decode cX1_peopleGone 0 = .ok (.iconst 0, 1) := by decide +kernel
theorem dX1_peopleGone_1 : decode cX1_peopleGone 1 = .ok (.istore_n 1, 1) := by decide +kernel
theorem dX1_peopleGone_2 : decode cX1_peopleGone 2 = .ok (.iconst 0, 1) := by decide +kernel
theorem dX1_peopleGone_3 : decode cX1_peopleGone 3 = .ok (.istore_n 2, 1) := by decide +kernel
theorem dX1_peopleGone_4 : decode cX1_peopleGone 4 = .ok (.iload_n 2, 1) := by decide +kernel
theorem dX1_peopleGone_5 : decode cX1_peopleGone 5 = .ok (.aload_n 0, 1) := by decide +kernel
theorem dX1_peopleGone_6 : decode cX1_peopleGone 6 = .ok (.getfield 62, 3) := by decide +kernel
theorem dX1_peopleGone_9 : decode cX1_peopleGone 9 = .ok (.if_icmp .ge 37, 3) := by decide +kernel
theorem dX1_peopleGone_12 : decode cX1_peopleGone 12 = .ok (.iload_n 1, 1) := by decide +kernel
theorem dX1_peopleGone_13 : decode cX1_peopleGone 13 = .ok (.aload_n 0, 1) := by decide +kernel
theorem dX1_peopleGone_14 : decode cX1_peopleGone 14 = .ok (.getfield 20, 3) := by decide +kernel
theorem dX1_peopleGone_17 : decode cX1_peopleGone 17 = .ok (.iload_n 2, 1) := by decide +kernel
theorem dX1_peopleGone_18 : decode cX1_peopleGone 18 = .ok (.aaload, 1) := by decide +kernel
theorem dX1_peopleGone_19 : decode cX1_peopleGone 19 = .ok (.invokevirtual 97, 3) := by decide +kernel
theorem dX1_peopleGone_22 : decode cX1_peopleGone 22 = .ok (.ifCond .eq 15, 3) := by decide +kernel
theorem dX1_peopleGone_25 : decode cX1_peopleGone 25 = .ok (.aload_n 0, 1) := by decide +kernel
theorem dX1_peopleGone_26 : decode cX1_peopleGone 26 = .ok (.getfield 20, 3) := by decide +kernel
theorem dX1_peopleGone_29 : decode cX1_peopleGone 29 = .ok (.iload_n 2, 1) := by decide +kernel
theorem dX1_peopleGone_30 : decode cX1_peopleGone 30 = .ok (.aaload, 1) := by decide +kernel
theorem dX1_peopleGone_31 : decode cX1_peopleGone 31 = .ok (.getfield 123, 3) := by decide +kernel
theorem dX1_peopleGone_34 : decode cX1_peopleGone 34 = .ok (.goto 4, 3) := by decide +kernel
theorem dX1_peopleGone_37 : decode cX1_peopleGone 37 = .ok (.iconst 0, 1) := by decide +kernel
theorem dX1_peopleGone_38 : decode cX1_peopleGone 38 = .ok (.iadd, 1) := by decide +kernel
theorem dX1_peopleGone_39 : decode cX1_peopleGone 39 = .ok (.istore_n 1, 1) := by decide +kernel
theorem dX1_peopleGone_40 : decode cX1_peopleGone 40 = .ok (.iinc 2 1, 3) := by decide +kernel
theorem dX1_peopleGone_43 : decode cX1_peopleGone 43 = .ok (.goto (-39), 3) := by decide +kernel
theorem dX1_peopleGone_46 : decode cX1_peopleGone 46 = .ok (.iload_n 1, 1) := by decide +kernel
theorem dX1_peopleGone_47 : decode cX1_peopleGone 47 = .ok (.ireturn, 1) := by decide +kernel
theorem dX1_peopleIn_0 : decode cX1_peopleIn 0 = .ok (.iconst 0, 1) := by decide +kernel
theorem dX1_peopleIn_1 : decode cX1_peopleIn 1 = .ok (.istore_n 2, 1) := by decide +kernel
theorem dX1_peopleIn_2 : decode cX1_peopleIn 2 = .ok (.iconst 0, 1) := by decide +kernel
theorem dX1_peopleIn_3 : decode cX1_peopleIn 3 = .ok (.istore_n 3, 1) := by decide +kernel
theorem dX1_peopleIn_4 : decode cX1_peopleIn 4 = .ok (.iload_n 3, 1) := by decide +kernel
theorem dX1_peopleIn_5 : decode cX1_peopleIn 5 = .ok (.aload_n 0, 1) := by decide +kernel
theorem dX1_peopleIn_6 : decode cX1_peopleIn 6 = .ok (.getfield 62, 3) := by decide +kernel
theorem dX1_peopleIn_9 : decode cX1_peopleIn 9 = .ok (.if_icmp .ge 53, 3) := by decide +kernel
theorem dX1_peopleIn_12 : decode cX1_peopleIn 12 = .ok (.iload_n 2, 1) := by decide +kernel
theorem dX1_peopleIn_13 : decode cX1_peopleIn 13 = .ok (.aload_n 0, 1) := by decide +kernel
theorem dX1_peopleIn_14 : decode cX1_peopleIn 14 = .ok (.getfield 20, 3) := by decide +kernel
theorem dX1_peopleIn_17 : decode cX1_peopleIn 17 = .ok (.iload_n 3, 1) := by decide +kernel
theorem dX1_peopleIn_18 : decode cX1_peopleIn 18 = .ok (.aaload, 1) := by decide +kernel
theorem dX1_peopleIn_19 : decode cX1_peopleIn 19 = .ok (.invokevirtual 97, 3) := by decide +kernel
theorem dX1_peopleIn_22 : decode cX1_peopleIn 22 = .ok (.ifCond .ne 31, 3) := by decide +kernel
theorem dX1_peopleIn_25 : decode cX1_peopleIn 25 = .ok (.iload_n 1, 1) := by decide +kernel
theorem dX1_peopleIn_26 : decode cX1_peopleIn 26 = .ok (.aload_n 0, 1) := by decide +kernel
theorem dX1_peopleIn_27 : decode cX1_peopleIn 27 = .ok (.getfield 20, 3) := by decide +kernel
theorem dX1_peopleIn_30 : decode cX1_peopleIn 30 = .ok (.iload_n 3, 1) := by decide +kernel
theorem dX1_peopleIn_31 : decode cX1_peopleIn 31 = .ok (.aaload, 1) := by decide +kernel
theorem dX1_peopleIn_32 : decode cX1_peopleIn 32 = .ok (.getfield 129, 3) := by decide +kernel
theorem dX1_peopleIn_35 : decode cX1_peopleIn 35 = .ok (.invokestatic 130, 3) := by decide +kernel
theorem dX1_peopleIn_38 : decode cX1_peopleIn 38 = .ok (.ifCond .eq 15, 3) := by decide +kernel
theorem dX1_peopleIn_41 : decode cX1_peopleIn 41 = .ok (.aload_n 0, 1) := by decide +kernel
theorem dX1_peopleIn_42 : decode cX1_peopleIn 42 = .ok (.getfield 20, 3) := by decide +kernel
theorem dX1_peopleIn_45 : decode cX1_peopleIn 45 = .ok (.iload_n 3, 1) := by decide +kernel
theorem dX1_peopleIn_46 : decode cX1_peopleIn 46 = .ok (.aaload, 1) := by decide +kernel
theorem dX1_peopleIn_47 : decode cX1_peopleIn 47 = .ok (.getfield 123, 3) := by decide +kernel
theorem dX1_peopleIn_50 : decode cX1_peopleIn 50 = .ok (.goto 4, 3) := by decide +kernel
theorem dX1_peopleIn_53 : decode cX1_peopleIn 53 = .ok (.iconst 0, 1) := by decide +kernel
theorem dX1_peopleIn_54 : decode cX1_peopleIn 54 = .ok (.iadd, 1) := by decide +kernel
theorem dX1_peopleIn_55 : decode cX1_peopleIn 55 = .ok (.istore_n 2, 1) := by decide +kernel
theorem dX1_peopleIn_56 : decode cX1_peopleIn 56 = .ok (.iinc 3 1, 3) := by decide +kernel
theorem dX1_peopleIn_59 : decode cX1_peopleIn 59 = .ok (.goto (-55), 3) := by decide +kernel
theorem dX1_peopleIn_62 : decode cX1_peopleIn 62 = .ok (.iload_n 2, 1) := by decide +kernel
theorem dX1_peopleIn_63 : decode cX1_peopleIn 63 = .ok (.ireturn, 1) := by decide +kernel
theorem dX1_peopleBelieving_0 : decode cX1_peopleBelieving 0 = .ok (.iconst 0, 1) := by decide +kernel
theorem dX1_peopleBelieving_1 : decode cX1_peopleBelieving 1 = .ok (.istore_n 1, 1) := by decide +kernel
theorem dX1_peopleBelieving_2 : decode cX1_peopleBelieving 2 = .ok (.iconst 0, 1) := by decide +kernel
theorem dX1_peopleBelieving_3 : decode cX1_peopleBelieving 3 = .ok (.istore_n 2, 1) := by decide +kernel
theorem dX1_peopleBelieving_4 : decode cX1_peopleBelieving 4 = .ok (.iload_n 2, 1) := by decide +kernel
theorem dX1_peopleBelieving_5 : decode cX1_peopleBelieving 5 = .ok (.aload_n 0, 1) := by decide +kernel
theorem dX1_peopleBelieving_6 : decode cX1_peopleBelieving 6 = .ok (.getfield 62, 3) := by decide +kernel
theorem dX1_peopleBelieving_9 : decode cX1_peopleBelieving 9 = .ok (.if_icmp .ge 39, 3) := by decide +kernel
theorem dX1_peopleBelieving_12 : decode cX1_peopleBelieving 12 = .ok (.iload_n 1, 1) := by decide +kernel
theorem dX1_peopleBelieving_13 : decode cX1_peopleBelieving 13 = .ok (.aload_n 0, 1) := by decide +kernel
theorem dX1_peopleBelieving_14 : decode cX1_peopleBelieving 14 = .ok (.aload_n 0, 1) := by decide +kernel
theorem dX1_peopleBelieving_15 : decode cX1_peopleBelieving 15 = .ok (.getfield 20, 3) := by decide +kernel
theorem dX1_peopleBelieving_18 : decode cX1_peopleBelieving 18 = .ok (.iload_n 2, 1) := by decide +kernel
theorem dX1_peopleBelieving_19 : decode cX1_peopleBelieving 19 = .ok (.aaload, 1) := by decide +kernel
theorem dX1_peopleBelieving_20 : decode cX1_peopleBelieving 20 = .ok (.invokevirtual 104, 3) := by decide +kernel
theorem dX1_peopleBelieving_23 : decode cX1_peopleBelieving 23 = .ok (.iconst (-1), 1) := by decide +kernel
theorem dX1_peopleBelieving_24 : decode cX1_peopleBelieving 24 = .ok (.if_icmp .eq 15, 3) := by decide +kernel
theorem dX1_peopleBelieving_27 : decode cX1_peopleBelieving 27 = .ok (.aload_n 0, 1) := by decide +kernel
theorem dX1_peopleBelieving_28 : decode cX1_peopleBelieving 28 = .ok (.getfield 20, 3) := by decide +kernel
theorem dX1_peopleBelieving_31 : decode cX1_peopleBelieving 31 = .ok (.iload_n 2, 1) := by decide +kernel
theorem dX1_peopleBelieving_32 : decode cX1_peopleBelieving 32 = .ok (.aaload, 1) := by decide +kernel
theorem dX1_peopleBelieving_33 : decode cX1_peopleBelieving 33 = .ok (.getfield 123, 3) := by decide +kernel
theorem dX1_peopleBelieving_36 : decode cX1_peopleBelieving 36 = .ok (.goto 4, 3) := by decide +kernel
theorem dX1_peopleBelieving_39 : decode cX1_peopleBelieving 39 = .ok (.iconst 0, 1) := by decide +kernel
theorem dX1_peopleBelieving_40 : decode cX1_peopleBelieving 40 = .ok (.iadd, 1) := by decide +kernel
theorem dX1_peopleBelieving_41 : decode cX1_peopleBelieving 41 = .ok (.istore_n 1, 1) := by decide +kernel
theorem dX1_peopleBelieving_42 : decode cX1_peopleBelieving 42 = .ok (.iinc 2 1, 3) := by decide +kernel
theorem dX1_peopleBelieving_45 : decode cX1_peopleBelieving 45 = .ok (.goto (-41), 3) := by decide +kernel
theorem dX1_peopleBelieving_48 : decode cX1_peopleBelieving 48 = .ok (.iload_n 1, 1) := by decide +kernel
theorem dX1_peopleBelieving_49 : decode cX1_peopleBelieving 49 = .ok (.ireturn, 1) := by decide +kernel
/-! what a land tells of itself: numbers of one land as a function of kind, index and slot -/
/-- a loop that counts up -/
theorem vg_loop {code : List (Nat × vgF)} {P : vgO} {pc : Nat} (Inv : Nat → vgL → vgS → Prop) (N : Nat) (hs : ∀ i lv σ, i < N → Inv i lv σ → (∀ lv' σ', Inv (i + 1) lv' σ' → vg_Go code P pc lv' [] σ') → vg_Go code P pc lv [] σ) (hx : ∀ lv σ, Inv N lv σ → vg_Go code P pc lv [] σ) : ∀ i lv σ, i ≤ N → Inv i lv σ → vg_Go code P pc lv [] σ := by
  have key : ∀ n i lv σ, i + n = N → Inv i lv σ → vg_Go code P pc lv [] σ := by
    intro n
    induction n with
    | zero => intro i lv σ e h; rw [show i = N by omega] at h; exact hx lv σ h
    | succ n ih => intro i lv σ e h; exact hs i lv σ (by omega) h (fun lv' σ' h' => ih (i + 1) lv' σ' (by omega) h')
  intro i lv σ hi h
  exact key (N - i) i lv σ (by omega) h
/-- a loop that counts down -/
theorem vg_loopD {code : List (Nat × vgF)} {P : vgO} {pc : Nat} (Inv : Nat → vgL → vgS → Prop) (hs : ∀ i lv σ, Inv (i + 1) lv σ → (∀ lv' σ', Inv i lv' σ' → vg_Go code P pc lv' [] σ') → vg_Go code P pc lv [] σ) (hx : ∀ lv σ, Inv 0 lv σ → vg_Go code P pc lv [] σ) : ∀ i lv σ, Inv i lv σ → vg_Go code P pc lv [] σ := by
  intro i
  induction i with
  | zero => exact hx
  | succ i ih => intro lv σ h; exact hs i lv σ h ih
theorem jle {c x : Int32} {n i : Nat} (hc : c = nI n) (hx : x = nI i) (hn : n < 1000) (hi : i < 1000) : c ≤ x ↔ n ≤ i := by
  rw [hc, hx]
  exact nI_leI (by omega) (by omega)
theorem jcl {x : Int32} {i : Nat} (hx : x = nI i) (hi : i < 1000) : x.toNatClampNeg = i := by rw [hx]; exact nI_clamp (by omega)
theorem jin {x : Int32} {i n : Nat} (hx : x = nI i) (h : i < n) (hn : n < 1000) : vp_in x n := by rw [hx]; exact vp_in_nI h (by omega)
theorem jinc {x : Int32} {i : Nat} (hx : x = nI i) : x + 1 = nI (i + 1) := by rw [hx]; exact nI_1 i
def jb (c : Prop) [Decidable c] : Int32 := if c then 1 else 0
theorem jb_01 (c : Prop) [Decidable c] : jb c = 0 ∨ jb c = 1 := by
  unfold jb
  split
  · exact Or.inr rfl
  · exact Or.inl rfl
theorem jb_0 {c : Prop} [Decidable c] : jb c = 0 ↔ ¬ c := by
  unfold jb
  split <;> simp_all
theorem jb_t {c : Prop} [Decidable c] (h : c) : jb c = 1 := if_pos h
theorem jb_f {c : Prop} [Decidable c] (h : ¬ c) : jb c = 0 := if_neg h
/-- the numbers of one land -/
abbrev jN : Type := Nat → Nat → Nat → Int32
def jV (σ : vgS) (b : Nat) : jN := fun k i s => σ (k, b, i) s
def jUp (v : jN) (k i s : Nat) (x : Int32) : jN := fun k' i' s' => if k' = k ∧ i' = i ∧ s' = s then x else v k' i' s'
def jPut (σ : vgS) (b : Nat) (v : jN) : vgS := fun n s => if n.2.1 = b then v n.1 n.2.2 s else σ n s
theorem jPut_at {σ : vgS} {b : Nat} {v : jN} {k i s : Nat} : jPut σ b v (k, b, i) s = v k i s := if_pos rfl
theorem jPut_ne {σ : vgS} {b : Nat} {v : jN} {n : vgN} {s : Nat} (h : ¬ n.2.1 = b) : jPut σ b v n s = σ n s := if_neg h
theorem jV_put {σ : vgS} {b : Nat} {v : jN} : jV (jPut σ b v) b = v := by
  funext k i s
  exact jPut_at
theorem jV_put_ne {σ : vgS} {b b' : Nat} {v : jN} (h : ¬ b' = b) : jV (jPut σ b v) b' = jV σ b' := by
  funext k i s
  exact jPut_ne h
theorem jPut_jV {σ : vgS} {b : Nat} : jPut σ b (jV σ b) = σ := by
  funext n s
  obtain ⟨k, b', i⟩ := n
  by_cases h : b' = b
  · subst h; exact jPut_at
  · exact jPut_ne h
theorem jPut_put {σ : vgS} {b : Nat} {v w : jN} : jPut (jPut σ b v) b w = jPut σ b w := by
  funext n s
  by_cases h : n.2.1 = b
  · exact (if_pos h).trans (if_pos h).symm
  · exact ((if_neg h).trans (if_neg h)).trans (if_neg h).symm
theorem jst {σ : vgS} {b : Nat} {v : jN} {k i s : Nat} {x : Int32} : vg_st (jPut σ b v) (k, b, i) s x = jPut σ b (jUp v k i s x) := by
  funext n s'
  obtain ⟨k', b', i'⟩ := n
  unfold vg_st jPut jUp
  by_cases h : b' = b
  · subst h
    simp
    by_cases h1 : k' = k <;> by_cases h2 : i' = i <;> by_cases h3 : s' = s <;> simp [h1, h2, h3]
  · simp [h]
theorem jst0 {σ : vgS} {b k i s : Nat} {x : Int32} : vg_st σ (k, b, i) s x = jPut σ b (jUp (jV σ b) k i s x) := by
  rw [← jst, jPut_jV]
theorem jUp_at {v : jN} {k i s : Nat} {x : Int32} : jUp v k i s x k i s = x := if_pos ⟨rfl, rfl, rfl⟩
theorem jUp_k {v : jN} {k i s k' i' s' : Nat} {x : Int32} (h : ¬ k' = k) : jUp v k i s x k' i' s' = v k' i' s' := if_neg (fun z => h z.1)
theorem jUp_i {v : jN} {k i s k' i' s' : Nat} {x : Int32} (h : ¬ i' = i) : jUp v k i s x k' i' s' = v k' i' s' := if_neg (fun z => h z.2.1)
theorem jUp_s {v : jN} {k i s k' i' s' : Nat} {x : Int32} (h : ¬ s' = s) : jUp v k i s x k' i' s' = v k' i' s' := if_neg (fun z => h z.2.2)
theorem jUp_up {v : jN} {k i s : Nat} {x y : Int32} : jUp (jUp v k i s x) k i s y = jUp v k i s y := by
  funext k' i' s'
  unfold jUp
  split <;> rfl
def jGc (v : jN) : Nat := (v 1 0 4).toNatClampNeg
def jSc (v : jN) : Nat := (v 1 0 5).toNatClampNeg
def jWc (v : jN) : Nat := (v 1 0 6).toNatClampNeg
def jNc (v : jN) (j : Nat) : Nat := (v 5 j 3).toNatClampNeg
def jWf (v : jN) : Prop := (v 1 0 4 = nI (jGc v) ∧ jGc v ≤ 8) ∧ (v 1 0 5 = nI (jSc v) ∧ jSc v ≤ 3) ∧ (v 1 0 6 = nI (jWc v) ∧ jWc v ≤ 12) ∧ (v 5 0 3 = nI (jNc v 0) ∧ jNc v 0 ≤ 5) ∧ (v 5 1 3 = nI (jNc v 1) ∧ jNc v 1 ≤ 5)
/-- what the counts hang on is the same -/
def jKeep (v v' : jN) : Prop := (∀ i s, 4 ≤ s ∧ s ≤ 6 → v' 1 i s = v 1 i s) ∧ ∀ j s, v' 5 j s = v 5 j s
theorem jKeep.rf {v : jN} : jKeep v v := ⟨fun _ _ _ => rfl, fun _ _ => rfl⟩
theorem jKeep.tr {v v' v'' : jN} (h : jKeep v v') (h' : jKeep v' v'') : jKeep v v'' := ⟨fun i s q => (h'.1 i s q).trans (h.1 i s q), fun j s => (h'.2 j s).trans (h.2 j s)⟩
theorem jKeep.up {v v' : jN} {k i s : Nat} {x : Int32} (h : jKeep v v') (hk : ¬ k = 5 ∧ (¬ k = 1 ∨ s < 4)) : jKeep v (jUp v' k i s x) := by
  refine ⟨fun i' s' q => ?_, fun j s' => ?_⟩
  · rw [← h.1 i' s' q]
    exact if_neg (fun z => by omega)
  · rw [← h.2 j s']
    exact if_neg (fun z => hk.1 z.1.symm)
theorem jKeep.gc {v v' : jN} (h : jKeep v v') : jGc v' = jGc v := congrArg Int32.toNatClampNeg (h.1 0 4 (by omega))
theorem jKeep.sc {v v' : jN} (h : jKeep v v') : jSc v' = jSc v := congrArg Int32.toNatClampNeg (h.1 0 5 (by omega))
theorem jKeep.wc {v v' : jN} (h : jKeep v v') : jWc v' = jWc v := congrArg Int32.toNatClampNeg (h.1 0 6 (by omega))
theorem jKeep.nc {v v' : jN} (h : jKeep v v') (j : Nat) : jNc v' j = jNc v j := congrArg Int32.toNatClampNeg (h.2 j 3)
theorem jKeep.wf {v v' : jN} (h : jKeep v v') (w : jWf v) : jWf v' := by
  obtain ⟨h1, h2, h3, h4, h5⟩ := w
  unfold jWf
  rw [h.gc, h.sc, h.wc, h.nc, h.nc, h.1 0 4 (by omega), h.1 0 5 (by omega), h.1 0 6 (by omega), h.2, h.2]
  exact ⟨h1, h2, h3, h4, h5⟩
/-- one after the other -/
def jIt {α : Type} (f : Nat → α → α) : Nat → α → α
  | 0, a => a
  | n + 1, a => f n (jIt f n a)
theorem jIt_keep {f : Nat → jN → jN} (hf : ∀ i v, jKeep v (f i v)) (v : jN) : ∀ n, jKeep v (jIt f n v)
  | 0 => jKeep.rf
  | n + 1 => (jIt_keep hf v n).tr (hf n _)
/-- the first from i on, among n -/
def jFind (p : Nat → Prop) [DecidablePred p] (i : Nat) : Nat → Int32
  | 0 => -1
  | n + 1 => if p i then nI i else jFind p (i + 1) n
/-- sums -/
def jSum (f : Nat → Int32) : Nat → Int32
  | 0 => 0
  | n + 1 => jSum f n + f n
abbrev jGone (v : jN) (g : Nat) : Prop := ¬ v 9 g 7 < 5
abbrev jSafe (v : jN) (g : Nat) : Prop := ¬ v 9 g 6 = -1
def sp_X0_isGone : vgC := fun av σ => match av with
  | [.inr (9, b, g)] => (True, some (.inl (.int (jb (jGone (jV σ b) g)))), σ)
  | _ => (False, none, σ)
def k_X0_isGone : List (Nat × vgF) := [(0, vi_aload 0 1), (1, vi_get ww_shp 5 7 4), (4, vi_icst (5) 5), (5, vi_cmp (fun x y => x < y) 12 8), (8, vi_icst (1) 9), (9, vi_goto 13), (12, vi_icst (0) 13), (13, vi_retZ)]
set_option maxRecDepth 20000 in
theorem s_X0_isGone : ∀ q ∈ k_X0_isGone, vg_Snd ww_tb ww_nw ww_shp ww_nm ww_cl ww_tyl cX0_isGone 1 RX0 (some .boolean) 0 q.1 q.2 := by
  refine vg_cons (vs_aload_n dX0_isGone_0 rfl rfl) ?_
  refine vg_cons (vs_getfield (T := TX0) dX0_isGone_1 rfl (by decide) ww_inX0 q_4 rfl) ?_
  refine vg_cons (vs_iconst dX0_isGone_4 rfl rfl) ?_
  refine vg_cons (vs_cmp_lt dX0_isGone_5 (by decide) rfl) ?_
  refine vg_cons (vs_iconst dX0_isGone_8 rfl rfl) ?_
  refine vg_cons (vs_goto dX0_isGone_9 (by decide)) ?_
  refine vg_cons (vs_iconst dX0_isGone_12 rfl rfl) ?_
  refine vg_cons (vs_zreturn dX0_isGone_13 rfl) ?_
  exact fun _ h => absurd h List.not_mem_nil
theorem m_X0_isGone : vg_Code k_X0_isGone := fun q h => (s_X0_isGone q h).1

theorem w_X0_isGone : vg_Wd sp_X0_isGone 1 := by
  intro av σ h
  unfold sp_X0_isGone at h
  split at h
  · exact Nat.le_of_ble_eq_true rfl
  · exact h.elim
theorem g_X0_isGone : vg_G k_X0_isGone sp_X0_isGone := by
  intro av σ h
  unfold sp_X0_isGone at h ⊢
  split at h
  next b g =>
    refine vg_run (cuts := []) m_X0_isGone 20 ?_
    refine And.intro (fun hc => And.intro (Or.inl rfl) (And.intro ?_ rfl)) (fun hc => And.intro (Or.inr rfl) (And.intro ?_ rfl))
    · exact congrArg (fun z => some (Sum.inl (Value.int z))) (jb_f (c := jGone (jV σ b) g) (fun z => z hc)).symm
    · exact congrArg (fun z => some (Sum.inl (Value.int z))) (jb_t (c := jGone (jV σ b) g) hc).symm
  next => exact h.elim
theorem c_X0_isGone : vg_MetF ww_tb ww_nw ww_shp ww_nm ww_cl ww_tyl yX0_isGone cX0_isGone 1 (some .boolean) 0 sp_X0_isGone := vg_met ww_closed (by decide +kernel) rfl s_X0_isGone w_X0_isGone g_X0_isGone
def sp_X0_isSafe : vgC := fun av σ => match av with
  | [.inr (9, b, g)] => (True, some (.inl (.int (jb (jSafe (jV σ b) g)))), σ)
  | _ => (False, none, σ)
def k_X0_isSafe : List (Nat × vgF) := [(0, vi_aload 0 1), (1, vi_get ww_shp 5 6 4), (4, vi_icst (-1) 5), (5, vi_cmp (fun x y => x = y) 12 8), (8, vi_icst (1) 9), (9, vi_goto 13), (12, vi_icst (0) 13), (13, vi_retZ)]
set_option maxRecDepth 20000 in
theorem s_X0_isSafe : ∀ q ∈ k_X0_isSafe, vg_Snd ww_tb ww_nw ww_shp ww_nm ww_cl ww_tyl cX0_isSafe 1 RX0 (some .boolean) 0 q.1 q.2 := by
  refine vg_cons (vs_aload_n dX0_isSafe_0 rfl rfl) ?_
  refine vg_cons (vs_getfield (T := TX0) dX0_isSafe_1 rfl (by decide) ww_inX0 q_5 rfl) ?_
  refine vg_cons (vs_iconst dX0_isSafe_4 rfl rfl) ?_
  refine vg_cons (vs_cmp_eq dX0_isSafe_5 (by decide) rfl) ?_
  refine vg_cons (vs_iconst dX0_isSafe_8 rfl rfl) ?_
  refine vg_cons (vs_goto dX0_isSafe_9 (by decide)) ?_
  refine vg_cons (vs_iconst dX0_isSafe_12 rfl rfl) ?_
  refine vg_cons (vs_zreturn dX0_isSafe_13 rfl) ?_
  exact fun _ h => absurd h List.not_mem_nil
theorem m_X0_isSafe : vg_Code k_X0_isSafe := fun q h => (s_X0_isSafe q h).1

theorem w_X0_isSafe : vg_Wd sp_X0_isSafe 1 := by
  intro av σ h
  unfold sp_X0_isSafe at h
  split at h
  · exact Nat.le_of_ble_eq_true rfl
  · exact h.elim
theorem g_X0_isSafe : vg_G k_X0_isSafe sp_X0_isSafe := by
  intro av σ h
  unfold sp_X0_isSafe at h ⊢
  split at h
  next b g =>
    refine vg_run (cuts := []) m_X0_isSafe 20 ?_
    refine And.intro (fun hc => And.intro (Or.inl rfl) (And.intro ?_ rfl)) (fun hc => And.intro (Or.inr rfl) (And.intro ?_ rfl))
    · exact congrArg (fun z => some (Sum.inl (Value.int z))) (jb_f (c := jSafe (jV σ b) g) (fun z => z hc)).symm
    · exact congrArg (fun z => some (Sum.inl (Value.int z))) (jb_t (c := jSafe (jV σ b) g) hc).symm
  next => exact h.elim
theorem c_X0_isSafe : vg_MetF ww_tb ww_nw ww_shp ww_nm ww_cl ww_tyl yX0_isSafe cX0_isSafe 1 (some .boolean) 0 sp_X0_isSafe := vg_met ww_closed (by decide +kernel) rfl s_X0_isSafe w_X0_isSafe g_X0_isSafe
def jNeed (t : Int32) : Int32 := if (1 : Int32) < (11 - t) / 4 then (11 - t) / 4 else 1
def sp_X0_waysNeeded : vgC := fun av σ => match av with
  | [.inr (9, b, g)] => (True, some (.inl (.int (jNeed (σ (9, b, g) 3)))), σ)
  | _ => (False, none, σ)
def k_X0_waysNeeded : List (Nat × vgF) := [(0, vi_icst (1) 1), (1, vi_icst (11) 3), (3, vi_aload 0 4), (4, vi_get ww_shp 5 3 7), (7, vi_bin (fun x y => x - y) 8), (8, vi_icst (4) 9), (9, vi_div (fun x y => x / y) 10), (10, vi_max 13), (13, vi_ret)]
set_option maxRecDepth 20000 in
theorem s_X0_waysNeeded : ∀ q ∈ k_X0_waysNeeded, vg_Snd ww_tb ww_nw ww_shp ww_nm ww_cl ww_tyl cX0_waysNeeded 1 RX0 (some .int) 1 q.1 q.2 := by
  refine vg_cons (vs_iconst dX0_waysNeeded_0 rfl rfl) ?_
  refine vg_cons (vs_bipush dX0_waysNeeded_1 (by decide) rfl) ?_
  refine vg_cons (vs_aload_n dX0_waysNeeded_3 rfl rfl) ?_
  refine vg_cons (vs_getfield (T := TX0) dX0_waysNeeded_4 rfl (by decide) ww_inX0 q_6 rfl) ?_
  refine vg_cons (vs_isub dX0_waysNeeded_7 rfl) ?_
  refine vg_cons (vs_iconst dX0_waysNeeded_8 rfl rfl) ?_
  refine vg_cons (vs_idiv dX0_waysNeeded_9 rfl) ?_
  refine vg_cons (vs_max dX0_waysNeeded_10 q_7 q_8 q_2 q_9 (by decide) rfl) ?_
  refine vg_cons (vs_ireturn dX0_waysNeeded_13 rfl) ?_
  exact fun _ h => absurd h List.not_mem_nil
theorem m_X0_waysNeeded : vg_Code k_X0_waysNeeded := fun q h => (s_X0_waysNeeded q h).1

theorem w_X0_waysNeeded : vg_Wd sp_X0_waysNeeded 1 := by
  intro av σ h
  unfold sp_X0_waysNeeded at h
  split at h
  · exact Nat.le_of_ble_eq_true rfl
  · exact h.elim
theorem g_X0_waysNeeded : vg_G k_X0_waysNeeded sp_X0_waysNeeded := by
  intro av σ h
  unfold sp_X0_waysNeeded at h ⊢
  split at h
  next b g =>
    refine vg_run (cuts := []) m_X0_waysNeeded 20 ?_
    exact And.intro (by decide) (And.intro rfl rfl)
  next => exact h.elim
theorem c_X0_waysNeeded : vg_MetF ww_tb ww_nw ww_shp ww_nm ww_cl ww_tyl yX0_waysNeeded cX0_waysNeeded 1 (some .int) 1 sp_X0_waysNeeded := vg_met ww_closed (by decide +kernel) rfl s_X0_waysNeeded w_X0_waysNeeded g_X0_waysNeeded
def jHour (t : Int32) : Int32 := t / 60 - t / 60 / 24 * 24
abbrev jNight (t : Int32) : Prop := 22 ≤ jHour t ∨ ¬ 6 ≤ jHour t
def sp_X1_hourNow : vgC := fun av σ => match av with
  | [.inr (1, b, 0)] => (True, some (.inl (.int (jHour (jV σ b 1 0 0)))), σ)
  | _ => (False, none, σ)
def k_X1_hourNow : List (Nat × vgF) := [(0, vi_aload 0 1), (1, vi_get ww_shp 1 0 4), (4, vi_icst (60) 6), (6, vi_div (fun x y => x / y) 7), (7, vi_icst (24) 9), (9, vi_div (fun x y => x - x / y * y) 10), (10, vi_ret)]
set_option maxRecDepth 20000 in
theorem s_X1_hourNow : ∀ q ∈ k_X1_hourNow, vg_Snd ww_tb ww_nw ww_shp ww_nm ww_cl ww_tyl cX1_hourNow 1 RX1 (some .int) 0 q.1 q.2 := by
  refine vg_cons (vs_aload_n dX1_hourNow_0 rfl rfl) ?_
  refine vg_cons (vs_getfield (T := TX1) dX1_hourNow_1 rfl (by decide) ww_inX1 q_10 rfl) ?_
  refine vg_cons (vs_bipush dX1_hourNow_4 (by decide) rfl) ?_
  refine vg_cons (vs_idiv dX1_hourNow_6 rfl) ?_
  refine vg_cons (vs_bipush dX1_hourNow_7 (by decide) rfl) ?_
  refine vg_cons (vs_irem dX1_hourNow_9 rfl) ?_
  refine vg_cons (vs_ireturn dX1_hourNow_10 rfl) ?_
  exact fun _ h => absurd h List.not_mem_nil
theorem m_X1_hourNow : vg_Code k_X1_hourNow := fun q h => (s_X1_hourNow q h).1

theorem w_X1_hourNow : vg_Wd sp_X1_hourNow 1 := by
  intro av σ h
  unfold sp_X1_hourNow at h
  split at h
  · exact Nat.le_of_ble_eq_true rfl
  · exact h.elim
theorem g_X1_hourNow : vg_G k_X1_hourNow sp_X1_hourNow := by
  intro av σ h
  unfold sp_X1_hourNow at h ⊢
  split at h
  next b =>
    refine vg_run (cuts := []) m_X1_hourNow 20 ?_
    exact And.intro (by decide) (And.intro (by decide) (And.intro rfl rfl))
  next => exact h.elim
theorem c_X1_hourNow : vg_MetF ww_tb ww_nw ww_shp ww_nm ww_cl ww_tyl yX1_hourNow cX1_hourNow 1 (some .int) 0 sp_X1_hourNow := vg_met ww_closed (by decide +kernel) rfl s_X1_hourNow w_X1_hourNow g_X1_hourNow
def sp_X1_isNight : vgC := fun av σ => match av with
  | [.inr (1, b, 0)] => (True, some (.inl (.int (jb (jNight (jV σ b 1 0 0))))), σ)
  | _ => (False, none, σ)
def k_X1_isNight : List (Nat × vgF) := [(0, vi_aload 0 1), (1, vi_callV ww_shp 1 sp_X1_hourNow 0 4), (4, vi_icst (22) 6), (6, vi_cmp (fun x y => y ≤ x) 18 9), (9, vi_aload 0 10), (10, vi_callV ww_shp 1 sp_X1_hourNow 0 13), (13, vi_icst (6) 15), (15, vi_cmp (fun x y => y ≤ x) 22 18), (18, vi_icst (1) 19), (19, vi_goto 23), (22, vi_icst (0) 23), (23, vi_retZ)]
set_option maxRecDepth 20000 in
theorem s_X1_isNight : ∀ q ∈ k_X1_isNight, vg_Snd ww_tb ww_nw ww_shp ww_nm ww_cl ww_tyl cX1_isNight 1 RX1 (some .boolean) 1 q.1 q.2 := by
  refine vg_cons (vs_aload_n dX1_isNight_0 rfl rfl) ?_
  refine vg_cons (vs_callV (T := TX1) c_X1_hourNow dX1_isNight_1 rfl ww_good q_11 q_12 q_13 q_14 q_15 (by decide +kernel) (by decide) rfl) ?_
  refine vg_cons (vs_bipush dX1_isNight_4 (by decide) rfl) ?_
  refine vg_cons (vs_cmp_ge dX1_isNight_6 (by decide) rfl) ?_
  refine vg_cons (vs_aload_n dX1_isNight_9 rfl rfl) ?_
  refine vg_cons (vs_callV (T := TX1) c_X1_hourNow dX1_isNight_10 rfl ww_good q_11 q_12 q_13 q_14 q_15 (by decide +kernel) (by decide) rfl) ?_
  refine vg_cons (vs_bipush dX1_isNight_13 (by decide) rfl) ?_
  refine vg_cons (vs_cmp_ge dX1_isNight_15 (by decide) rfl) ?_
  refine vg_cons (vs_iconst dX1_isNight_18 rfl rfl) ?_
  refine vg_cons (vs_goto dX1_isNight_19 (by decide)) ?_
  refine vg_cons (vs_iconst dX1_isNight_22 rfl rfl) ?_
  refine vg_cons (vs_zreturn dX1_isNight_23 rfl) ?_
  exact fun _ h => absurd h List.not_mem_nil
theorem m_X1_isNight : vg_Code k_X1_isNight := fun q h => (s_X1_isNight q h).1

theorem w_X1_isNight : vg_Wd sp_X1_isNight 1 := by
  intro av σ h
  unfold sp_X1_isNight at h
  split at h
  · exact Nat.le_of_ble_eq_true rfl
  · exact h.elim
theorem g_X1_isNight : vg_G k_X1_isNight sp_X1_isNight := by
  intro av σ h
  unfold sp_X1_isNight at h ⊢
  split at h
  next b =>
    refine vg_run (cuts := []) m_X1_isNight 30 ?_
    refine And.intro trivial (And.intro (fun hc => ?_) (fun hc => And.intro trivial (And.intro (fun hd => ?_) (fun hd => ?_))))
    · exact And.intro (Or.inr rfl) (And.intro (congrArg (fun z => some (Sum.inl (Value.int z))) (jb_t (c := jNight (jV σ b 1 0 0)) (Or.inl hc)).symm) rfl)
    · exact And.intro (Or.inl rfl) (And.intro (congrArg (fun z => some (Sum.inl (Value.int z))) (jb_f (c := jNight (jV σ b 1 0 0)) (fun z => z.elim hc (fun y => y hd))).symm) rfl)
    · exact And.intro (Or.inr rfl) (And.intro (congrArg (fun z => some (Sum.inl (Value.int z))) (jb_t (c := jNight (jV σ b 1 0 0)) (Or.inr hd)).symm) rfl)
  next => exact h.elim
theorem c_X1_isNight : vg_MetF ww_tb ww_nw ww_shp ww_nm ww_cl ww_tyl yX1_isNight cX1_isNight 1 (some .boolean) 1 sp_X1_isNight := vg_met ww_closed (by decide +kernel) rfl s_X1_isNight w_X1_isNight g_X1_isNight
/-- the latest warning below k that is in force and that a group believes -/
def jLat (v : jN) (g : Nat) : Nat → Int32
  | 0 => -1
  | k + 1 => if v 11 k 7 = 0 then jLat v g k else if v 18 g k = -1 then jLat v g k else nI k
abbrev jLt (v : jN) (g : Nat) : Int32 := jLat v g (jWc v)
def sp_X1_latestBelieved : vgC := fun av σ => match av with
  | [.inr (1, b, 0), .inr (9, b', g)] => (jWf (jV σ b) ∧ b' = b, some (.inl (.int (jLt (jV σ b) g))), σ)
  | _ => (False, none, σ)
def k_X1_latestBelieved : List (Nat × vgF) := [(0, vi_aload 0 1), (1, vi_get ww_shp 1 6 4), (4, vi_icst (1) 5), (5, vi_bin (fun x y => x - y) 6), (6, vi_istore 2 7), (7, vi_iload 2 8), (8, vi_if (fun x => x < 0) 41 11), (11, vi_aload 0 12), (12, vi_get ww_shp 1 9 15), (15, vi_iload 2 16), (16, vi_aald ww_shp 4 17), (17, vi_get ww_shp 4 7 20), (20, vi_if (fun x => x = 0) 35 23), (23, vi_aload 1 24), (24, vi_get ww_shp 5 12 27), (27, vi_iload 2 28), (28, vi_ald ww_shp 0 29), (29, vi_icst (-1) 30), (30, vi_cmp (fun x y => x = y) 35 33), (33, vi_iload 2 34), (34, vi_ret), (35, vi_iinc 2 (-1) 38), (38, vi_goto 7), (41, vi_icst (-1) 42), (42, vi_ret)]
set_option maxRecDepth 20000 in
theorem s_X1_latestBelieved : ∀ q ∈ k_X1_latestBelieved, vg_Snd ww_tb ww_nw ww_shp ww_nm ww_cl ww_tyl cX1_latestBelieved 3 RX1 (some .int) 0 q.1 q.2 := by
  refine vg_cons (vs_aload_n dX1_latestBelieved_0 rfl rfl) ?_
  refine vg_cons (vs_getfield (T := TX1) dX1_latestBelieved_1 rfl (by decide) ww_inX1 q_16 rfl) ?_
  refine vg_cons (vs_iconst dX1_latestBelieved_4 rfl rfl) ?_
  refine vg_cons (vs_isub dX1_latestBelieved_5 rfl) ?_
  refine vg_cons (vs_istore_n dX1_latestBelieved_6 rfl (by decide) rfl) ?_
  refine vg_cons (vs_iload_n dX1_latestBelieved_7 rfl rfl) ?_
  refine vg_cons (vs_if_lt dX1_latestBelieved_8 (by decide) rfl) ?_
  refine vg_cons (vs_aload_n dX1_latestBelieved_11 rfl rfl) ?_
  refine vg_cons (vs_getfield (T := TX1) dX1_latestBelieved_12 rfl (by decide) ww_inX1 q_17 rfl) ?_
  refine vg_cons (vs_iload_n dX1_latestBelieved_15 rfl rfl) ?_
  refine vg_cons (vs_aaload dX1_latestBelieved_16 rfl rfl) ?_
  refine vg_cons (vs_getfield (T := TX4) dX1_latestBelieved_17 rfl (by decide) ww_inX4 q_18 rfl) ?_
  refine vg_cons (vs_if_eq dX1_latestBelieved_20 (by decide) rfl) ?_
  refine vg_cons (vs_aload_n dX1_latestBelieved_23 rfl rfl) ?_
  refine vg_cons (vs_getfield (T := TX0) dX1_latestBelieved_24 rfl (by decide) ww_inX0 q_19 rfl) ?_
  refine vg_cons (vs_iload_n dX1_latestBelieved_27 rfl rfl) ?_
  refine vg_cons (vs_iaload dX1_latestBelieved_28 rfl rfl) ?_
  refine vg_cons (vs_iconst dX1_latestBelieved_29 rfl rfl) ?_
  refine vg_cons (vs_cmp_eq dX1_latestBelieved_30 (by decide) rfl) ?_
  refine vg_cons (vs_iload_n dX1_latestBelieved_33 rfl rfl) ?_
  refine vg_cons (vs_ireturn dX1_latestBelieved_34 rfl) ?_
  refine vg_cons (vs_iinc dX1_latestBelieved_35 rfl rfl) ?_
  refine vg_cons (vs_goto dX1_latestBelieved_38 (by decide)) ?_
  refine vg_cons (vs_iconst dX1_latestBelieved_41 rfl rfl) ?_
  refine vg_cons (vs_ireturn dX1_latestBelieved_42 rfl) ?_
  exact fun _ h => absurd h List.not_mem_nil
theorem m_X1_latestBelieved : vg_Code k_X1_latestBelieved := fun q h => (s_X1_latestBelieved q h).1

theorem w_X1_latestBelieved : vg_Wd sp_X1_latestBelieved 3 := by
  intro av σ h
  unfold sp_X1_latestBelieved at h
  split at h
  · exact Nat.le_of_ble_eq_true rfl
  · exact h.elim
theorem g_X1_latestBelieved : vg_G k_X1_latestBelieved sp_X1_latestBelieved := by
  intro av σ h
  unfold sp_X1_latestBelieved at h ⊢
  split at h
  next b b' g =>
    obtain ⟨hw, rfl⟩ := h
    refine vg_run (cuts := [(7, [0, 1, 2])]) m_X1_latestBelieved 20 ?_
    have hwc := hw.2.2.1
    refine vg_loopD (fun k lv σ' => k ≤ 12 ∧ σ' = σ ∧ jLt (jV σ b') g = jLat (jV σ b') g k ∧ ∃ x, x = nI k - 1 ∧ lv = [(0, .inr (1, b', 0)), (1, .inr (9, b', g)), (2, .inl (.int x))]) ?_ ?_ (jWc (jV σ b')) _ _ ⟨hwc.2, rfl, rfl, _, congrArg (· - 1) hwc.1, rfl⟩
    · rintro k lv σ' ⟨hk, e, he, x, hx, rfl⟩ ih
      subst e
      rw [nI_pred] at hx
      have hi : x.toNatClampNeg = k := jcl hx (by omega)
      have hv : vp_in x 12 := jin hx (by omega) (by decide)
      have ih' : ∀ lv', (∃ x', x' = nI k - 1 ∧ lv' = [(0, .inr (1, b', 0)), (1, .inr (9, b', g)), (2, .inl (.int x'))]) → jLat (jV σ' b') g (k + 1) = jLat (jV σ' b') g k → vg_Go _ _ 7 lv' [] σ' := fun lv' q z => ih lv' σ' ⟨by omega, rfl, he.trans z, q⟩
      refine vg_run (cuts := [(7, [0, 1, 2])]) m_X1_latestBelieved 20 ?_
      refine And.intro (fun hc => absurd hc (by rw [hx]; exact nI_pos (by omega))) (fun hc => And.intro hv ?_)
      refine And.intro (fun hd => ?_) (fun hd => And.intro hv ?_)
      · refine ih' _ ⟨x + (-1), by rw [hx, Int32.sub_eq_add_neg], rfl⟩ ?_
        rw [hi] at hd
        exact if_pos hd
      · refine And.intro (fun hf => ?_) (fun hf => ?_)
        · refine ih' _ ⟨x + (-1), by rw [hx, Int32.sub_eq_add_neg], rfl⟩ ?_
          rw [hi] at hd hf
          exact (if_neg hd).trans (if_pos hf)
        · refine And.intro ?_ rfl
          rw [hi] at hd hf
          show some (Sum.inl (Value.int x)) = some (Sum.inl (Value.int (jLt (jV σ' b') g)))
          rw [he, hx]
          exact congrArg (fun z => some (Sum.inl (Value.int z))) ((if_neg hd).trans (if_neg hf)).symm
    · rintro lv σ' ⟨hk, e, he, x, hx, rfl⟩
      subst e
      refine vg_run (cuts := [(7, [0, 1, 2])]) m_X1_latestBelieved 20 ?_
      refine And.intro (fun hc => ?_) (fun hc => absurd (by rw [hx]; decide) hc)
      refine And.intro ?_ rfl
      show some (Sum.inl (Value.int (-1))) = some (Sum.inl (Value.int (jLt (jV σ' b') g)))
      rw [he]
      rfl
  next => exact h.elim
theorem c_X1_latestBelieved : vg_MetF ww_tb ww_nw ww_shp ww_nm ww_cl ww_tyl yX1_latestBelieved cX1_latestBelieved 3 (some .int) 0 sp_X1_latestBelieved := vg_met ww_closed (by decide +kernel) rfl s_X1_latestBelieved w_X1_latestBelieved g_X1_latestBelieved
abbrev jSleep (v : jN) (g : Nat) : Prop := ¬ jGone v g ∧ jNight (v 1 0 0) ∧ jLt v g = -1
def sp_X1_isAsleep : vgC := fun av σ => match av with
  | [.inr (1, b, 0), .inr (9, b', g)] => (jWf (jV σ b) ∧ b' = b, some (.inl (.int (jb (jSleep (jV σ b) g)))), σ)
  | _ => (False, none, σ)
def k_X1_isAsleep : List (Nat × vgF) := [(0, vi_aload 1 1), (1, vi_callV ww_shp 5 sp_X0_isGone 0 4), (4, vi_if (fun x => x = 0) 7 27), (7, vi_aload 0 8), (8, vi_callV ww_shp 1 sp_X1_isNight 0 11), (11, vi_if (fun x => x = 0) 27 14), (14, vi_aload 0 15), (15, vi_aload 1 16), (16, vi_callV ww_shp 1 sp_X1_latestBelieved 1 19), (19, vi_icst (-1) 20), (20, vi_cmp (fun x y => x = y) 23 27), (23, vi_icst (1) 24), (24, vi_goto 28), (27, vi_icst (0) 28), (28, vi_retZ)]
set_option maxRecDepth 20000 in
theorem s_X1_isAsleep : ∀ q ∈ k_X1_isAsleep, vg_Snd ww_tb ww_nw ww_shp ww_nm ww_cl ww_tyl cX1_isAsleep 2 RX1 (some .boolean) 2 q.1 q.2 := by
  refine vg_cons (vs_aload_n dX1_isAsleep_0 rfl rfl) ?_
  refine vg_cons (vs_callV (T := TX0) c_X0_isGone dX1_isAsleep_1 rfl ww_good q_20 q_21 q_22 q_23 q_24 (by decide +kernel) (by decide) rfl) ?_
  refine vg_cons (vs_if_ne dX1_isAsleep_4 (by decide) rfl) ?_
  refine vg_cons (vs_aload_n dX1_isAsleep_7 rfl rfl) ?_
  refine vg_cons (vs_callV (T := TX1) c_X1_isNight dX1_isAsleep_8 rfl ww_good q_25 q_12 q_26 q_27 q_28 (by decide +kernel) (by decide) rfl) ?_
  refine vg_cons (vs_if_eq dX1_isAsleep_11 (by decide) rfl) ?_
  refine vg_cons (vs_aload_n dX1_isAsleep_14 rfl rfl) ?_
  refine vg_cons (vs_aload_n dX1_isAsleep_15 rfl rfl) ?_
  refine vg_cons (vs_callV (T := TX1) c_X1_latestBelieved dX1_isAsleep_16 rfl ww_good q_29 q_12 q_30 q_31 q_32 (by decide +kernel) (by decide) rfl) ?_
  refine vg_cons (vs_iconst dX1_isAsleep_19 rfl rfl) ?_
  refine vg_cons (vs_cmp_ne dX1_isAsleep_20 (by decide) rfl) ?_
  refine vg_cons (vs_iconst dX1_isAsleep_23 rfl rfl) ?_
  refine vg_cons (vs_goto dX1_isAsleep_24 (by decide)) ?_
  refine vg_cons (vs_iconst dX1_isAsleep_27 rfl rfl) ?_
  refine vg_cons (vs_zreturn dX1_isAsleep_28 rfl) ?_
  exact fun _ h => absurd h List.not_mem_nil
theorem m_X1_isAsleep : vg_Code k_X1_isAsleep := fun q h => (s_X1_isAsleep q h).1

theorem w_X1_isAsleep : vg_Wd sp_X1_isAsleep 2 := by
  intro av σ h
  unfold sp_X1_isAsleep at h
  split at h
  · exact Nat.le_of_ble_eq_true rfl
  · exact h.elim
theorem g_X1_isAsleep : vg_G k_X1_isAsleep sp_X1_isAsleep := by
  intro av σ h
  unfold sp_X1_isAsleep at h ⊢
  split at h
  next b b' g =>
    obtain ⟨hw, rfl⟩ := h
    have F : ∀ c, ¬ jSleep (jV σ b') g → c = (0 : Int32) → some (Sum.inl (Value.int c)) = (some (Sum.inl (Value.int (jb (jSleep (jV σ b') g)))) : Option vgV) := fun c hn e => by rw [e, jb_f hn]
    refine vg_run (cuts := []) m_X1_isAsleep 40 ?_
    refine And.intro trivial (And.intro (fun hc => ?_) (fun hc => ?_))
    · have hc' := jb_0.mp hc
      refine And.intro trivial (And.intro (fun hd => ?_) (fun hd => ?_))
      · exact And.intro (Or.inl rfl) (And.intro (F _ (fun z => jb_0.mp hd z.2.1) rfl) rfl)
      · have hd' : jNight (jV σ b' 1 0 0) := Classical.byContradiction (fun z => hd (jb_f z))
        refine And.intro ⟨hw, rfl⟩ (And.intro (fun he => ?_) (fun he => ?_))
        · exact And.intro (Or.inr rfl) (And.intro (congrArg (fun z => some (Sum.inl (Value.int z))) (jb_t (c := jSleep (jV σ b') g) ⟨hc', hd', he⟩).symm) rfl)
        · exact And.intro (Or.inl rfl) (And.intro (F _ (fun z => he z.2.2) rfl) rfl)
    · exact And.intro (Or.inl rfl) (And.intro (F _ (fun z => hc (jb_f z.1)) rfl) rfl)
  next => exact h.elim
theorem c_X1_isAsleep : vg_MetF ww_tb ww_nw ww_shp ww_nm ww_cl ww_tyl yX1_isAsleep cX1_isAsleep 2 (some .boolean) 2 sp_X1_isAsleep := vg_met ww_closed (by decide +kernel) rfl s_X1_isAsleep w_X1_isAsleep g_X1_isAsleep
abbrev jDng (v : jN) (c : Nat) : Prop := ¬ v 6 0 c = -1 ∧ ¬ v 1 0 0 < v 6 0 c
def sp_X1_isInDanger : vgC := fun av σ => match av with
  | [.inr (1, b, 0), .inl (.int c)] => (vp_in c 16, some (.inl (.int (jb (jDng (jV σ b) c.toNatClampNeg)))), σ)
  | _ => (False, none, σ)
def k_X1_isInDanger : List (Nat × vgF) := [(0, vi_aload 0 1), (1, vi_get ww_shp 1 12 4), (4, vi_iload 1 5), (5, vi_ald ww_shp 0 6), (6, vi_icst (-1) 7), (7, vi_cmp (fun x y => x = y) 27 10), (10, vi_aload 0 11), (11, vi_get ww_shp 1 12 14), (14, vi_iload 1 15), (15, vi_ald ww_shp 0 16), (16, vi_aload 0 17), (17, vi_get ww_shp 1 0 20), (20, vi_cmp (fun x y => y < x) 27 23), (23, vi_icst (1) 24), (24, vi_goto 28), (27, vi_icst (0) 28), (28, vi_retZ)]
set_option maxRecDepth 20000 in
theorem s_X1_isInDanger : ∀ q ∈ k_X1_isInDanger, vg_Snd ww_tb ww_nw ww_shp ww_nm ww_cl ww_tyl cX1_isInDanger 2 RX1 (some .boolean) 0 q.1 q.2 := by
  refine vg_cons (vs_aload_n dX1_isInDanger_0 rfl rfl) ?_
  refine vg_cons (vs_getfield (T := TX1) dX1_isInDanger_1 rfl (by decide) ww_inX1 q_33 rfl) ?_
  refine vg_cons (vs_iload_n dX1_isInDanger_4 rfl rfl) ?_
  refine vg_cons (vs_iaload dX1_isInDanger_5 rfl rfl) ?_
  refine vg_cons (vs_iconst dX1_isInDanger_6 rfl rfl) ?_
  refine vg_cons (vs_cmp_eq dX1_isInDanger_7 (by decide) rfl) ?_
  refine vg_cons (vs_aload_n dX1_isInDanger_10 rfl rfl) ?_
  refine vg_cons (vs_getfield (T := TX1) dX1_isInDanger_11 rfl (by decide) ww_inX1 q_33 rfl) ?_
  refine vg_cons (vs_iload_n dX1_isInDanger_14 rfl rfl) ?_
  refine vg_cons (vs_iaload dX1_isInDanger_15 rfl rfl) ?_
  refine vg_cons (vs_aload_n dX1_isInDanger_16 rfl rfl) ?_
  refine vg_cons (vs_getfield (T := TX1) dX1_isInDanger_17 rfl (by decide) ww_inX1 q_10 rfl) ?_
  refine vg_cons (vs_cmp_gt dX1_isInDanger_20 (by decide) rfl) ?_
  refine vg_cons (vs_iconst dX1_isInDanger_23 rfl rfl) ?_
  refine vg_cons (vs_goto dX1_isInDanger_24 (by decide)) ?_
  refine vg_cons (vs_iconst dX1_isInDanger_27 rfl rfl) ?_
  refine vg_cons (vs_zreturn dX1_isInDanger_28 rfl) ?_
  exact fun _ h => absurd h List.not_mem_nil
theorem m_X1_isInDanger : vg_Code k_X1_isInDanger := fun q h => (s_X1_isInDanger q h).1

theorem w_X1_isInDanger : vg_Wd sp_X1_isInDanger 2 := by
  intro av σ h
  unfold sp_X1_isInDanger at h
  split at h
  · exact Nat.le_of_ble_eq_true rfl
  · exact h.elim
theorem g_X1_isInDanger : vg_G k_X1_isInDanger sp_X1_isInDanger := by
  intro av σ h
  unfold sp_X1_isInDanger at h ⊢
  split at h
  next b c =>
    have F : ∀ z, ¬ jDng (jV σ b) c.toNatClampNeg → z = (0 : Int32) → some (Sum.inl (Value.int z)) = (some (Sum.inl (Value.int (jb (jDng (jV σ b) c.toNatClampNeg)))) : Option vgV) := fun z hn e => by rw [e, jb_f hn]
    refine vg_run (cuts := []) m_X1_isInDanger 40 ?_
    refine And.intro h (And.intro (fun hc => ?_) (fun hc => And.intro h (And.intro (fun hd => ?_) (fun hd => ?_))))
    · exact And.intro (Or.inl rfl) (And.intro (F _ (fun z => z.1 hc) rfl) rfl)
    · exact And.intro (Or.inl rfl) (And.intro (F _ (fun z => z.2 hd) rfl) rfl)
    · exact And.intro (Or.inr rfl) (And.intro (congrArg (fun z => some (Sum.inl (Value.int z))) (jb_t (c := jDng (jV σ b) c.toNatClampNeg) ⟨hc, hd⟩).symm) rfl)
  next => exact h.elim
theorem c_X1_isInDanger : vg_MetF ww_tb ww_nw ww_shp ww_nm ww_cl ww_tyl yX1_isInDanger cX1_isInDanger 2 (some .boolean) 0 sp_X1_isInDanger := vg_met ww_closed (by decide +kernel) rfl s_X1_isInDanger w_X1_isInDanger g_X1_isInDanger
/-- sets of cells, laid bit by bit -/
def jSet (f : Nat → Prop) [DecidablePred f] : Nat → Int32
  | 0 => 0
  | n + 1 => if f n then jSet f n ||| ((1 : Int32) <<< (nI n &&& 31)) else jSet f n
def sp_X1_cellsInDanger : vgC := fun av σ => match av with
  | [.inr (1, b, 0)] => (True, some (.inl (.int (jSet (jDng (jV σ b)) 16))), σ)
  | _ => (False, none, σ)
def k_X1_cellsInDanger : List (Nat × vgF) := [(0, vi_icst (0) 1), (1, vi_istore 1 2), (2, vi_icst (0) 3), (3, vi_istore 2 4), (4, vi_iload 2 5), (5, vi_icst (16) 7), (7, vi_cmp (fun x y => y ≤ x) 30 10), (10, vi_aload 0 11), (11, vi_iload 2 12), (12, vi_callV ww_shp 1 sp_X1_isInDanger 1 15), (15, vi_if (fun x => x = 0) 24 18), (18, vi_iload 1 19), (19, vi_icst (1) 20), (20, vi_iload 2 21), (21, vi_bin (fun x y => x <<< (y &&& 31)) 22), (22, vi_bin (fun x y => x ||| y) 23), (23, vi_istore 1 24), (24, vi_iinc 2 (1) 27), (27, vi_goto 4), (30, vi_iload 1 31), (31, vi_ret)]
set_option maxRecDepth 20000 in
theorem s_X1_cellsInDanger : ∀ q ∈ k_X1_cellsInDanger, vg_Snd ww_tb ww_nw ww_shp ww_nm ww_cl ww_tyl cX1_cellsInDanger 3 RX1 (some .int) 1 q.1 q.2 := by
  refine vg_cons (vs_iconst dX1_cellsInDanger_0 rfl rfl) ?_
  refine vg_cons (vs_istore_n dX1_cellsInDanger_1 rfl (by decide) rfl) ?_
  refine vg_cons (vs_iconst dX1_cellsInDanger_2 rfl rfl) ?_
  refine vg_cons (vs_istore_n dX1_cellsInDanger_3 rfl (by decide) rfl) ?_
  refine vg_cons (vs_iload_n dX1_cellsInDanger_4 rfl rfl) ?_
  refine vg_cons (vs_bipush dX1_cellsInDanger_5 (by decide) rfl) ?_
  refine vg_cons (vs_cmp_ge dX1_cellsInDanger_7 (by decide) rfl) ?_
  refine vg_cons (vs_aload_n dX1_cellsInDanger_10 rfl rfl) ?_
  refine vg_cons (vs_iload_n dX1_cellsInDanger_11 rfl rfl) ?_
  refine vg_cons (vs_callV (T := TX1) c_X1_isInDanger dX1_cellsInDanger_12 rfl ww_good q_34 q_12 q_35 q_36 q_37 (by decide +kernel) (by decide) rfl) ?_
  refine vg_cons (vs_if_eq dX1_cellsInDanger_15 (by decide) rfl) ?_
  refine vg_cons (vs_iload_n dX1_cellsInDanger_18 rfl rfl) ?_
  refine vg_cons (vs_iconst dX1_cellsInDanger_19 rfl rfl) ?_
  refine vg_cons (vs_iload_n dX1_cellsInDanger_20 rfl rfl) ?_
  refine vg_cons (vs_ishl dX1_cellsInDanger_21 rfl) ?_
  refine vg_cons (vs_ior dX1_cellsInDanger_22 rfl) ?_
  refine vg_cons (vs_istore_n dX1_cellsInDanger_23 rfl (by decide) rfl) ?_
  refine vg_cons (vs_iinc dX1_cellsInDanger_24 rfl rfl) ?_
  refine vg_cons (vs_goto dX1_cellsInDanger_27 (by decide)) ?_
  refine vg_cons (vs_iload_n dX1_cellsInDanger_30 rfl rfl) ?_
  refine vg_cons (vs_ireturn dX1_cellsInDanger_31 rfl) ?_
  exact fun _ h => absurd h List.not_mem_nil
theorem m_X1_cellsInDanger : vg_Code k_X1_cellsInDanger := fun q h => (s_X1_cellsInDanger q h).1

theorem w_X1_cellsInDanger : vg_Wd sp_X1_cellsInDanger 3 := by
  intro av σ h
  unfold sp_X1_cellsInDanger at h
  split at h
  · exact Nat.le_of_ble_eq_true rfl
  · exact h.elim
theorem g_X1_cellsInDanger : vg_G k_X1_cellsInDanger sp_X1_cellsInDanger := by
  intro av σ h
  unfold sp_X1_cellsInDanger at h ⊢
  split at h
  next b =>
    refine vg_run (cuts := [(4, [0, 1, 2])]) m_X1_cellsInDanger 20 ?_
    refine vg_loop (fun i lv σ' => σ' = σ ∧ ∃ x a, x = nI i ∧ a = jSet (jDng (jV σ b)) i ∧ lv = [(0, .inr (1, b, 0)), (1, .inl (.int a)), (2, .inl (.int x))]) 16 ?_ ?_ 0 _ _ (Nat.zero_le _) ⟨rfl, 0, 0, rfl, rfl, rfl⟩
    · rintro i lv σ' hi ⟨e, x, a, hx, ha, rfl⟩ ih
      subst e
      have hc0 : x.toNatClampNeg = i := jcl hx (by omega)
      refine vg_run (cuts := [(4, [0, 1, 2])]) m_X1_cellsInDanger 20 ?_
      refine And.intro (fun hc => absurd ((jle (n := 16) rfl hx (by omega) (by omega)).mp hc) (by omega)) (fun _ => And.intro (jin hx hi (by omega)) (And.intro (fun hd => ?_) (fun hd => ?_)))
      · have hd' := jb_0.mp hd
        rw [hc0] at hd'
        exact ih _ _ ⟨rfl, x + 1, a, jinc hx, by rw [jSet, if_neg hd', ha], rfl⟩
      · have hd' : jDng (jV σ' b) x.toNatClampNeg := Classical.byContradiction (fun z => hd (jb_f z))
        rw [hc0] at hd'
        exact ih _ _ ⟨rfl, x + 1, a ||| ((1 : Int32) <<< (x &&& 31)), jinc hx, by rw [jSet, if_pos hd', ha, hx], rfl⟩
    · rintro lv σ' ⟨e, x, a, hx, ha, rfl⟩
      subst e
      refine vg_run (cuts := [(4, [0, 1, 2])]) m_X1_cellsInDanger 20 ?_
      refine And.intro (fun _ => And.intro (by rw [ha]) rfl) (fun hc => absurd ((jle (n := 16) rfl hx (by omega) (by omega)).mpr (Nat.le_refl _)) hc)
  next => exact h.elim
theorem c_X1_cellsInDanger : vg_MetF ww_tb ww_nw ww_shp ww_nm ww_cl ww_tyl yX1_cellsInDanger cX1_cellsInDanger 3 (some .int) 1 sp_X1_cellsInDanger := vg_met ww_closed (by decide +kernel) rfl s_X1_cellsInDanger w_X1_cellsInDanger g_X1_cellsInDanger
def sp_X1_countInForce : vgC := fun av σ => match av with
  | [.inr (1, b, 0)] => (jWf (jV σ b), some (.inl (.int (jSum (fun w => jb (¬ jV σ b 11 w 7 = 0)) (jWc (jV σ b))))), σ)
  | _ => (False, none, σ)
def k_X1_countInForce : List (Nat × vgF) := [(0, vi_icst (0) 1), (1, vi_istore 1 2), (2, vi_icst (0) 3), (3, vi_istore 2 4), (4, vi_iload 2 5), (5, vi_aload 0 6), (6, vi_get ww_shp 1 6 9), (9, vi_cmp (fun x y => y ≤ x) 38 12), (12, vi_iload 1 13), (13, vi_aload 0 14), (14, vi_get ww_shp 1 9 17), (17, vi_iload 2 18), (18, vi_aald ww_shp 4 19), (19, vi_get ww_shp 4 7 22), (22, vi_if (fun x => x = 0) 29 25), (25, vi_icst (1) 26), (26, vi_goto 30), (29, vi_icst (0) 30), (30, vi_bin (fun x y => x + y) 31), (31, vi_istore 1 32), (32, vi_iinc 2 (1) 35), (35, vi_goto 4), (38, vi_iload 1 39), (39, vi_ret)]
set_option maxRecDepth 20000 in
theorem s_X1_countInForce : ∀ q ∈ k_X1_countInForce, vg_Snd ww_tb ww_nw ww_shp ww_nm ww_cl ww_tyl cX1_countInForce 3 RX1 (some .int) 0 q.1 q.2 := by
  refine vg_cons (vs_iconst dX1_countInForce_0 rfl rfl) ?_
  refine vg_cons (vs_istore_n dX1_countInForce_1 rfl (by decide) rfl) ?_
  refine vg_cons (vs_iconst dX1_countInForce_2 rfl rfl) ?_
  refine vg_cons (vs_istore_n dX1_countInForce_3 rfl (by decide) rfl) ?_
  refine vg_cons (vs_iload_n dX1_countInForce_4 rfl rfl) ?_
  refine vg_cons (vs_aload_n dX1_countInForce_5 rfl rfl) ?_
  refine vg_cons (vs_getfield (T := TX1) dX1_countInForce_6 rfl (by decide) ww_inX1 q_16 rfl) ?_
  refine vg_cons (vs_cmp_ge dX1_countInForce_9 (by decide) rfl) ?_
  refine vg_cons (vs_iload_n dX1_countInForce_12 rfl rfl) ?_
  refine vg_cons (vs_aload_n dX1_countInForce_13 rfl rfl) ?_
  refine vg_cons (vs_getfield (T := TX1) dX1_countInForce_14 rfl (by decide) ww_inX1 q_17 rfl) ?_
  refine vg_cons (vs_iload_n dX1_countInForce_17 rfl rfl) ?_
  refine vg_cons (vs_aaload dX1_countInForce_18 rfl rfl) ?_
  refine vg_cons (vs_getfield (T := TX4) dX1_countInForce_19 rfl (by decide) ww_inX4 q_18 rfl) ?_
  refine vg_cons (vs_if_eq dX1_countInForce_22 (by decide) rfl) ?_
  refine vg_cons (vs_iconst dX1_countInForce_25 rfl rfl) ?_
  refine vg_cons (vs_goto dX1_countInForce_26 (by decide)) ?_
  refine vg_cons (vs_iconst dX1_countInForce_29 rfl rfl) ?_
  refine vg_cons (vs_iadd dX1_countInForce_30 rfl) ?_
  refine vg_cons (vs_istore_n dX1_countInForce_31 rfl (by decide) rfl) ?_
  refine vg_cons (vs_iinc dX1_countInForce_32 rfl rfl) ?_
  refine vg_cons (vs_goto dX1_countInForce_35 (by decide)) ?_
  refine vg_cons (vs_iload_n dX1_countInForce_38 rfl rfl) ?_
  refine vg_cons (vs_ireturn dX1_countInForce_39 rfl) ?_
  exact fun _ h => absurd h List.not_mem_nil
theorem m_X1_countInForce : vg_Code k_X1_countInForce := fun q h => (s_X1_countInForce q h).1

theorem w_X1_countInForce : vg_Wd sp_X1_countInForce 3 := by
  intro av σ h
  unfold sp_X1_countInForce at h
  split at h
  · exact Nat.le_of_ble_eq_true rfl
  · exact h.elim
theorem g_X1_countInForce : vg_G k_X1_countInForce sp_X1_countInForce := by
  intro av σ h
  unfold sp_X1_countInForce at h ⊢
  split at h
  next b =>
    have hwc := h.2.2.1
    have h12 := hwc.2
    refine vg_run (cuts := [(4, [0, 1, 2])]) m_X1_countInForce 20 ?_
    refine vg_loop (fun i lv σ' => σ' = σ ∧ ∃ x a, x = nI i ∧ a = jSum (fun w => jb (¬ jV σ b 11 w 7 = 0)) i ∧ lv = [(0, .inr (1, b, 0)), (1, .inl (.int a)), (2, .inl (.int x))]) (jWc (jV σ b)) ?_ ?_ 0 _ _ (Nat.zero_le _) ⟨rfl, 0, 0, rfl, rfl, rfl⟩
    · rintro i lv σ' hi ⟨e, x, a, hx, ha, rfl⟩ ih
      subst e
      have hc0 : x.toNatClampNeg = i := jcl hx (by omega)
      have hv : vp_in x 12 := jin hx (by omega) (by decide)
      refine vg_run (cuts := [(4, [0, 1, 2])]) m_X1_countInForce 40 ?_
      refine And.intro (fun hc => absurd ((jle hwc.1 hx (by omega) (by omega)).mp hc) (by omega)) (fun _ => ?_)
      refine And.intro hv (And.intro (fun hd => ?_) (fun hd => ?_))
      · rw [hc0] at hd
        have hd' : jV σ' b 11 i 7 = 0 := hd
        exact ih _ _ ⟨rfl, x + 1, a + 0, jinc hx, by rw [jSum, jb_f (fun z => z hd'), ha], rfl⟩
      · rw [hc0] at hd
        have hd' : ¬ jV σ' b 11 i 7 = 0 := hd
        exact ih _ _ ⟨rfl, x + 1, a + 1, jinc hx, by rw [jSum, jb_t hd', ha], rfl⟩
    · rintro lv σ' ⟨e, x, a, hx, ha, rfl⟩
      subst e
      refine vg_run (cuts := [(4, [0, 1, 2])]) m_X1_countInForce 20 ?_
      exact And.intro (fun _ => And.intro (by rw [ha]) rfl) (fun hc => absurd ((jle hwc.1 hx (by omega) (by omega)).mpr (Nat.le_refl _)) hc)
  next => exact h.elim
theorem c_X1_countInForce : vg_MetF ww_tb ww_nw ww_shp ww_nm ww_cl ww_tyl yX1_countInForce cX1_countInForce 3 (some .int) 0 sp_X1_countInForce := vg_met ww_closed (by decide +kernel) rfl s_X1_countInForce w_X1_countInForce g_X1_countInForce
def sp_X1_countAsleep : vgC := fun av σ => match av with
  | [.inr (1, b, 0)] => (jWf (jV σ b), some (.inl (.int (jSum (fun g => jb (jSleep (jV σ b) g)) (jGc (jV σ b))))), σ)
  | _ => (False, none, σ)
def k_X1_countAsleep : List (Nat × vgF) := [(0, vi_icst (0) 1), (1, vi_istore 1 2), (2, vi_icst (0) 3), (3, vi_istore 2 4), (4, vi_iload 2 5), (5, vi_aload 0 6), (6, vi_get ww_shp 1 4 9), (9, vi_cmp (fun x y => y ≤ x) 39 12), (12, vi_iload 1 13), (13, vi_aload 0 14), (14, vi_aload 0 15), (15, vi_get ww_shp 1 7 18), (18, vi_iload 2 19), (19, vi_aald ww_shp 2 20), (20, vi_callV ww_shp 1 sp_X1_isAsleep 1 23), (23, vi_if (fun x => x = 0) 30 26), (26, vi_icst (1) 27), (27, vi_goto 31), (30, vi_icst (0) 31), (31, vi_bin (fun x y => x + y) 32), (32, vi_istore 1 33), (33, vi_iinc 2 (1) 36), (36, vi_goto 4), (39, vi_iload 1 40), (40, vi_ret)]
set_option maxRecDepth 20000 in
theorem s_X1_countAsleep : ∀ q ∈ k_X1_countAsleep, vg_Snd ww_tb ww_nw ww_shp ww_nm ww_cl ww_tyl cX1_countAsleep 3 RX1 (some .int) 3 q.1 q.2 := by
  refine vg_cons (vs_iconst dX1_countAsleep_0 rfl rfl) ?_
  refine vg_cons (vs_istore_n dX1_countAsleep_1 rfl (by decide) rfl) ?_
  refine vg_cons (vs_iconst dX1_countAsleep_2 rfl rfl) ?_
  refine vg_cons (vs_istore_n dX1_countAsleep_3 rfl (by decide) rfl) ?_
  refine vg_cons (vs_iload_n dX1_countAsleep_4 rfl rfl) ?_
  refine vg_cons (vs_aload_n dX1_countAsleep_5 rfl rfl) ?_
  refine vg_cons (vs_getfield (T := TX1) dX1_countAsleep_6 rfl (by decide) ww_inX1 q_38 rfl) ?_
  refine vg_cons (vs_cmp_ge dX1_countAsleep_9 (by decide) rfl) ?_
  refine vg_cons (vs_iload_n dX1_countAsleep_12 rfl rfl) ?_
  refine vg_cons (vs_aload_n dX1_countAsleep_13 rfl rfl) ?_
  refine vg_cons (vs_aload_n dX1_countAsleep_14 rfl rfl) ?_
  refine vg_cons (vs_getfield (T := TX1) dX1_countAsleep_15 rfl (by decide) ww_inX1 q_39 rfl) ?_
  refine vg_cons (vs_iload_n dX1_countAsleep_18 rfl rfl) ?_
  refine vg_cons (vs_aaload dX1_countAsleep_19 rfl rfl) ?_
  refine vg_cons (vs_callV (T := TX1) c_X1_isAsleep dX1_countAsleep_20 rfl ww_good q_40 q_12 q_41 q_42 q_43 (by decide +kernel) (by decide) rfl) ?_
  refine vg_cons (vs_if_eq dX1_countAsleep_23 (by decide) rfl) ?_
  refine vg_cons (vs_iconst dX1_countAsleep_26 rfl rfl) ?_
  refine vg_cons (vs_goto dX1_countAsleep_27 (by decide)) ?_
  refine vg_cons (vs_iconst dX1_countAsleep_30 rfl rfl) ?_
  refine vg_cons (vs_iadd dX1_countAsleep_31 rfl) ?_
  refine vg_cons (vs_istore_n dX1_countAsleep_32 rfl (by decide) rfl) ?_
  refine vg_cons (vs_iinc dX1_countAsleep_33 rfl rfl) ?_
  refine vg_cons (vs_goto dX1_countAsleep_36 (by decide)) ?_
  refine vg_cons (vs_iload_n dX1_countAsleep_39 rfl rfl) ?_
  refine vg_cons (vs_ireturn dX1_countAsleep_40 rfl) ?_
  exact fun _ h => absurd h List.not_mem_nil
theorem m_X1_countAsleep : vg_Code k_X1_countAsleep := fun q h => (s_X1_countAsleep q h).1

theorem w_X1_countAsleep : vg_Wd sp_X1_countAsleep 3 := by
  intro av σ h
  unfold sp_X1_countAsleep at h
  split at h
  · exact Nat.le_of_ble_eq_true rfl
  · exact h.elim
theorem g_X1_countAsleep : vg_G k_X1_countAsleep sp_X1_countAsleep := by
  intro av σ h
  unfold sp_X1_countAsleep at h ⊢
  split at h
  next b =>
    have hgc := h.1
    have h8 := hgc.2
    refine vg_run (cuts := [(4, [0, 1, 2])]) m_X1_countAsleep 20 ?_
    refine vg_loop (fun i lv σ' => σ' = σ ∧ ∃ x a, x = nI i ∧ a = jSum (fun g => jb (jSleep (jV σ b) g)) i ∧ lv = [(0, .inr (1, b, 0)), (1, .inl (.int a)), (2, .inl (.int x))]) (jGc (jV σ b)) ?_ ?_ 0 _ _ (Nat.zero_le _) ⟨rfl, 0, 0, rfl, rfl, rfl⟩
    · rintro i lv σ' hi ⟨e, x, a, hx, ha, rfl⟩ ih
      subst e
      have hc0 : x.toNatClampNeg = i := jcl hx (by omega)
      have hv : vp_in x 8 := jin hx (by omega) (by decide)
      refine vg_run (cuts := [(4, [0, 1, 2])]) m_X1_countAsleep 40 ?_
      refine And.intro (fun hc => absurd ((jle hgc.1 hx (by omega) (by omega)).mp hc) (by omega)) (fun _ => ?_)
      refine And.intro hv (And.intro ⟨h, rfl⟩ (And.intro (fun hd => ?_) (fun hd => ?_)))
      · have hd' := jb_0.mp hd
        rw [hc0] at hd'
        exact ih _ _ ⟨rfl, x + 1, a + 0, jinc hx, by rw [jSum, jb_f hd', ha], rfl⟩
      · have hd' : jSleep (jV σ' b) x.toNatClampNeg := Classical.byContradiction (fun z => hd (jb_f z))
        rw [hc0] at hd'
        exact ih _ _ ⟨rfl, x + 1, a + 1, jinc hx, by rw [jSum, jb_t hd', ha], rfl⟩
    · rintro lv σ' ⟨e, x, a, hx, ha, rfl⟩
      subst e
      refine vg_run (cuts := [(4, [0, 1, 2])]) m_X1_countAsleep 20 ?_
      exact And.intro (fun _ => And.intro (by rw [ha]) rfl) (fun hc => absurd ((jle hgc.1 hx (by omega) (by omega)).mpr (Nat.le_refl _)) hc)
  next => exact h.elim
theorem c_X1_countAsleep : vg_MetF ww_tb ww_nw ww_shp ww_nm ww_cl ww_tyl yX1_countAsleep cX1_countAsleep 3 (some .int) 3 sp_X1_countAsleep := vg_met ww_closed (by decide +kernel) rfl s_X1_countAsleep w_X1_countAsleep g_X1_countAsleep
def sp_X1_countBelievers : vgC := fun av σ => match av with
  | [.inr (1, b, 0), .inl (.int w)] => (jWf (jV σ b) ∧ vp_in w 12, some (.inl (.int (jSum (fun g => jb (¬ jV σ b 18 g w.toNatClampNeg = -1)) (jGc (jV σ b))))), σ)
  | _ => (False, none, σ)
def k_X1_countBelievers : List (Nat × vgF) := [(0, vi_icst (0) 1), (1, vi_istore 2 2), (2, vi_icst (0) 3), (3, vi_istore 3 4), (4, vi_iload 3 5), (5, vi_aload 0 6), (6, vi_get ww_shp 1 4 9), (9, vi_cmp (fun x y => y ≤ x) 41 12), (12, vi_iload 2 13), (13, vi_aload 0 14), (14, vi_get ww_shp 1 7 17), (17, vi_iload 3 18), (18, vi_aald ww_shp 2 19), (19, vi_get ww_shp 5 12 22), (22, vi_iload 1 23), (23, vi_ald ww_shp 0 24), (24, vi_icst (-1) 25), (25, vi_cmp (fun x y => x = y) 32 28), (28, vi_icst (1) 29), (29, vi_goto 33), (32, vi_icst (0) 33), (33, vi_bin (fun x y => x + y) 34), (34, vi_istore 2 35), (35, vi_iinc 3 (1) 38), (38, vi_goto 4), (41, vi_iload 2 42), (42, vi_ret)]
set_option maxRecDepth 20000 in
theorem s_X1_countBelievers : ∀ q ∈ k_X1_countBelievers, vg_Snd ww_tb ww_nw ww_shp ww_nm ww_cl ww_tyl cX1_countBelievers 4 RX1 (some .int) 0 q.1 q.2 := by
  refine vg_cons (vs_iconst dX1_countBelievers_0 rfl rfl) ?_
  refine vg_cons (vs_istore_n dX1_countBelievers_1 rfl (by decide) rfl) ?_
  refine vg_cons (vs_iconst dX1_countBelievers_2 rfl rfl) ?_
  refine vg_cons (vs_istore_n dX1_countBelievers_3 rfl (by decide) rfl) ?_
  refine vg_cons (vs_iload_n dX1_countBelievers_4 rfl rfl) ?_
  refine vg_cons (vs_aload_n dX1_countBelievers_5 rfl rfl) ?_
  refine vg_cons (vs_getfield (T := TX1) dX1_countBelievers_6 rfl (by decide) ww_inX1 q_38 rfl) ?_
  refine vg_cons (vs_cmp_ge dX1_countBelievers_9 (by decide) rfl) ?_
  refine vg_cons (vs_iload_n dX1_countBelievers_12 rfl rfl) ?_
  refine vg_cons (vs_aload_n dX1_countBelievers_13 rfl rfl) ?_
  refine vg_cons (vs_getfield (T := TX1) dX1_countBelievers_14 rfl (by decide) ww_inX1 q_39 rfl) ?_
  refine vg_cons (vs_iload_n dX1_countBelievers_17 rfl rfl) ?_
  refine vg_cons (vs_aaload dX1_countBelievers_18 rfl rfl) ?_
  refine vg_cons (vs_getfield (T := TX0) dX1_countBelievers_19 rfl (by decide) ww_inX0 q_19 rfl) ?_
  refine vg_cons (vs_iload_n dX1_countBelievers_22 rfl rfl) ?_
  refine vg_cons (vs_iaload dX1_countBelievers_23 rfl rfl) ?_
  refine vg_cons (vs_iconst dX1_countBelievers_24 rfl rfl) ?_
  refine vg_cons (vs_cmp_eq dX1_countBelievers_25 (by decide) rfl) ?_
  refine vg_cons (vs_iconst dX1_countBelievers_28 rfl rfl) ?_
  refine vg_cons (vs_goto dX1_countBelievers_29 (by decide)) ?_
  refine vg_cons (vs_iconst dX1_countBelievers_32 rfl rfl) ?_
  refine vg_cons (vs_iadd dX1_countBelievers_33 rfl) ?_
  refine vg_cons (vs_istore_n dX1_countBelievers_34 rfl (by decide) rfl) ?_
  refine vg_cons (vs_iinc dX1_countBelievers_35 rfl rfl) ?_
  refine vg_cons (vs_goto dX1_countBelievers_38 (by decide)) ?_
  refine vg_cons (vs_iload_n dX1_countBelievers_41 rfl rfl) ?_
  refine vg_cons (vs_ireturn dX1_countBelievers_42 rfl) ?_
  exact fun _ h => absurd h List.not_mem_nil
theorem m_X1_countBelievers : vg_Code k_X1_countBelievers := fun q h => (s_X1_countBelievers q h).1

theorem w_X1_countBelievers : vg_Wd sp_X1_countBelievers 4 := by
  intro av σ h
  unfold sp_X1_countBelievers at h
  split at h
  · exact Nat.le_of_ble_eq_true rfl
  · exact h.elim
theorem g_X1_countBelievers : vg_G k_X1_countBelievers sp_X1_countBelievers := by
  intro av σ h
  unfold sp_X1_countBelievers at h ⊢
  split at h
  next b w =>
    obtain ⟨h, hw12⟩ := h
    have hgc := h.1
    have h8 := hgc.2
    refine vg_run (cuts := [(4, [0, 1, 2, 3])]) m_X1_countBelievers 20 ?_
    refine vg_loop (fun i lv σ' => σ' = σ ∧ ∃ x a, x = nI i ∧ a = jSum (fun g => jb (¬ jV σ b 18 g w.toNatClampNeg = -1)) i ∧ lv = [(0, .inr (1, b, 0)), (1, .inl (.int w)), (2, .inl (.int a)), (3, .inl (.int x))]) (jGc (jV σ b)) ?_ ?_ 0 _ _ (Nat.zero_le _) ⟨rfl, 0, 0, rfl, rfl, rfl⟩
    · rintro i lv σ' hi ⟨e, x, a, hx, ha, rfl⟩ ih
      subst e
      have hc0 : x.toNatClampNeg = i := jcl hx (by omega)
      have hv : vp_in x 8 := jin hx (by omega) (by decide)
      refine vg_run (cuts := [(4, [0, 1, 2, 3])]) m_X1_countBelievers 40 ?_
      refine And.intro (fun hc => absurd ((jle hgc.1 hx (by omega) (by omega)).mp hc) (by omega)) (fun _ => ?_)
      refine And.intro hv (And.intro hw12 (And.intro (fun hd => ?_) (fun hd => ?_)))
      · rw [hc0] at hd
        have hd' : jV σ' b 18 i w.toNatClampNeg = -1 := hd
        exact ih _ _ ⟨rfl, x + 1, a + 0, jinc hx, by rw [jSum, jb_f (fun z => z hd'), ha], rfl⟩
      · rw [hc0] at hd
        have hd' : ¬ jV σ' b 18 i w.toNatClampNeg = -1 := hd
        exact ih _ _ ⟨rfl, x + 1, a + 1, jinc hx, by rw [jSum, jb_t hd', ha], rfl⟩
    · rintro lv σ' ⟨e, x, a, hx, ha, rfl⟩
      subst e
      refine vg_run (cuts := [(4, [0, 1, 2, 3])]) m_X1_countBelievers 20 ?_
      exact And.intro (fun _ => And.intro (by rw [ha]) rfl) (fun hc => absurd ((jle hgc.1 hx (by omega) (by omega)).mpr (Nat.le_refl _)) hc)
  next => exact h.elim
theorem c_X1_countBelievers : vg_MetF ww_tb ww_nw ww_shp ww_nm ww_cl ww_tyl yX1_countBelievers cX1_countBelievers 4 (some .int) 0 sp_X1_countBelievers := vg_met ww_closed (by decide +kernel) rfl s_X1_countBelievers w_X1_countBelievers g_X1_countBelievers
def sp_X1_peopleOfAll : vgC := fun av σ => match av with
  | [.inr (1, b, 0)] => (jWf (jV σ b), some (.inl (.int (jSum (fun g => jV σ b 9 g 1) (jGc (jV σ b))))), σ)
  | _ => (False, none, σ)
def k_X1_peopleOfAll : List (Nat × vgF) := [(0, vi_icst (0) 1), (1, vi_istore 1 2), (2, vi_icst (0) 3), (3, vi_istore 2 4), (4, vi_iload 2 5), (5, vi_aload 0 6), (6, vi_get ww_shp 1 4 9), (9, vi_cmp (fun x y => y ≤ x) 30 12), (12, vi_iload 1 13), (13, vi_aload 0 14), (14, vi_get ww_shp 1 7 17), (17, vi_iload 2 18), (18, vi_aald ww_shp 2 19), (19, vi_get ww_shp 5 1 22), (22, vi_bin (fun x y => x + y) 23), (23, vi_istore 1 24), (24, vi_iinc 2 (1) 27), (27, vi_goto 4), (30, vi_iload 1 31), (31, vi_ret)]
set_option maxRecDepth 20000 in
theorem s_X1_peopleOfAll : ∀ q ∈ k_X1_peopleOfAll, vg_Snd ww_tb ww_nw ww_shp ww_nm ww_cl ww_tyl cX1_peopleOfAll 3 RX1 (some .int) 0 q.1 q.2 := by
  refine vg_cons (vs_iconst dX1_peopleOfAll_0 rfl rfl) ?_
  refine vg_cons (vs_istore_n dX1_peopleOfAll_1 rfl (by decide) rfl) ?_
  refine vg_cons (vs_iconst dX1_peopleOfAll_2 rfl rfl) ?_
  refine vg_cons (vs_istore_n dX1_peopleOfAll_3 rfl (by decide) rfl) ?_
  refine vg_cons (vs_iload_n dX1_peopleOfAll_4 rfl rfl) ?_
  refine vg_cons (vs_aload_n dX1_peopleOfAll_5 rfl rfl) ?_
  refine vg_cons (vs_getfield (T := TX1) dX1_peopleOfAll_6 rfl (by decide) ww_inX1 q_38 rfl) ?_
  refine vg_cons (vs_cmp_ge dX1_peopleOfAll_9 (by decide) rfl) ?_
  refine vg_cons (vs_iload_n dX1_peopleOfAll_12 rfl rfl) ?_
  refine vg_cons (vs_aload_n dX1_peopleOfAll_13 rfl rfl) ?_
  refine vg_cons (vs_getfield (T := TX1) dX1_peopleOfAll_14 rfl (by decide) ww_inX1 q_39 rfl) ?_
  refine vg_cons (vs_iload_n dX1_peopleOfAll_17 rfl rfl) ?_
  refine vg_cons (vs_aaload dX1_peopleOfAll_18 rfl rfl) ?_
  refine vg_cons (vs_getfield (T := TX0) dX1_peopleOfAll_19 rfl (by decide) ww_inX0 q_44 rfl) ?_
  refine vg_cons (vs_iadd dX1_peopleOfAll_22 rfl) ?_
  refine vg_cons (vs_istore_n dX1_peopleOfAll_23 rfl (by decide) rfl) ?_
  refine vg_cons (vs_iinc dX1_peopleOfAll_24 rfl rfl) ?_
  refine vg_cons (vs_goto dX1_peopleOfAll_27 (by decide)) ?_
  refine vg_cons (vs_iload_n dX1_peopleOfAll_30 rfl rfl) ?_
  refine vg_cons (vs_ireturn dX1_peopleOfAll_31 rfl) ?_
  exact fun _ h => absurd h List.not_mem_nil
theorem m_X1_peopleOfAll : vg_Code k_X1_peopleOfAll := fun q h => (s_X1_peopleOfAll q h).1

theorem w_X1_peopleOfAll : vg_Wd sp_X1_peopleOfAll 3 := by
  intro av σ h
  unfold sp_X1_peopleOfAll at h
  split at h
  · exact Nat.le_of_ble_eq_true rfl
  · exact h.elim
theorem g_X1_peopleOfAll : vg_G k_X1_peopleOfAll sp_X1_peopleOfAll := by
  intro av σ h
  unfold sp_X1_peopleOfAll at h ⊢
  split at h
  next b =>
    have hgc := h.1
    have h8 := hgc.2
    refine vg_run (cuts := [(4, [0, 1, 2])]) m_X1_peopleOfAll 20 ?_
    refine vg_loop (fun i lv σ' => σ' = σ ∧ ∃ x a, x = nI i ∧ a = jSum (fun g => jV σ b 9 g 1) i ∧ lv = [(0, .inr (1, b, 0)), (1, .inl (.int a)), (2, .inl (.int x))]) (jGc (jV σ b)) ?_ ?_ 0 _ _ (Nat.zero_le _) ⟨rfl, 0, 0, rfl, rfl, rfl⟩
    · rintro i lv σ' hi ⟨e, x, a, hx, ha, rfl⟩ ih
      subst e
      have hc0 : x.toNatClampNeg = i := jcl hx (by omega)
      have hv : vp_in x 8 := jin hx (by omega) (by decide)
      refine vg_run (cuts := [(4, [0, 1, 2])]) m_X1_peopleOfAll 40 ?_
      refine And.intro (fun hc => absurd ((jle hgc.1 hx (by omega) (by omega)).mp hc) (by omega)) (fun _ => ?_)
      refine And.intro hv ?_
      exact ih _ _ ⟨rfl, x + 1, a + σ' (9, b, x.toNatClampNeg) 1, jinc hx, by rw [jSum, hc0, ha]; rfl, rfl⟩
    · rintro lv σ' ⟨e, x, a, hx, ha, rfl⟩
      subst e
      refine vg_run (cuts := [(4, [0, 1, 2])]) m_X1_peopleOfAll 20 ?_
      exact And.intro (fun _ => And.intro (by rw [ha]) rfl) (fun hc => absurd ((jle hgc.1 hx (by omega) (by omega)).mpr (Nat.le_refl _)) hc)
  next => exact h.elim
theorem c_X1_peopleOfAll : vg_MetF ww_tb ww_nw ww_shp ww_nm ww_cl ww_tyl yX1_peopleOfAll cX1_peopleOfAll 3 (some .int) 0 sp_X1_peopleOfAll := vg_met ww_closed (by decide +kernel) rfl s_X1_peopleOfAll w_X1_peopleOfAll g_X1_peopleOfAll
def sp_X1_peopleSafe : vgC := fun av σ => match av with
  | [.inr (1, b, 0)] => (jWf (jV σ b), some (.inl (.int (jSum (fun g => if jSafe (jV σ b) g then jV σ b 9 g 1 else 0) (jGc (jV σ b))))), σ)
  | _ => (False, none, σ)
def k_X1_peopleSafe : List (Nat × vgF) := [(0, vi_icst (0) 1), (1, vi_istore 1 2), (2, vi_icst (0) 3), (3, vi_istore 2 4), (4, vi_iload 2 5), (5, vi_aload 0 6), (6, vi_get ww_shp 1 4 9), (9, vi_cmp (fun x y => y ≤ x) 46 12), (12, vi_iload 1 13), (13, vi_aload 0 14), (14, vi_get ww_shp 1 7 17), (17, vi_iload 2 18), (18, vi_aald ww_shp 2 19), (19, vi_callV ww_shp 5 sp_X0_isSafe 0 22), (22, vi_if (fun x => x = 0) 37 25), (25, vi_aload 0 26), (26, vi_get ww_shp 1 7 29), (29, vi_iload 2 30), (30, vi_aald ww_shp 2 31), (31, vi_get ww_shp 5 1 34), (34, vi_goto 38), (37, vi_icst (0) 38), (38, vi_bin (fun x y => x + y) 39), (39, vi_istore 1 40), (40, vi_iinc 2 (1) 43), (43, vi_goto 4), (46, vi_iload 1 47), (47, vi_ret)]
set_option maxRecDepth 20000 in
theorem s_X1_peopleSafe : ∀ q ∈ k_X1_peopleSafe, vg_Snd ww_tb ww_nw ww_shp ww_nm ww_cl ww_tyl cX1_peopleSafe 3 RX1 (some .int) 1 q.1 q.2 := by
  refine vg_cons (vs_iconst dX1_peopleSafe_0 rfl rfl) ?_
  refine vg_cons (vs_istore_n dX1_peopleSafe_1 rfl (by decide) rfl) ?_
  refine vg_cons (vs_iconst dX1_peopleSafe_2 rfl rfl) ?_
  refine vg_cons (vs_istore_n dX1_peopleSafe_3 rfl (by decide) rfl) ?_
  refine vg_cons (vs_iload_n dX1_peopleSafe_4 rfl rfl) ?_
  refine vg_cons (vs_aload_n dX1_peopleSafe_5 rfl rfl) ?_
  refine vg_cons (vs_getfield (T := TX1) dX1_peopleSafe_6 rfl (by decide) ww_inX1 q_38 rfl) ?_
  refine vg_cons (vs_cmp_ge dX1_peopleSafe_9 (by decide) rfl) ?_
  refine vg_cons (vs_iload_n dX1_peopleSafe_12 rfl rfl) ?_
  refine vg_cons (vs_aload_n dX1_peopleSafe_13 rfl rfl) ?_
  refine vg_cons (vs_getfield (T := TX1) dX1_peopleSafe_14 rfl (by decide) ww_inX1 q_39 rfl) ?_
  refine vg_cons (vs_iload_n dX1_peopleSafe_17 rfl rfl) ?_
  refine vg_cons (vs_aaload dX1_peopleSafe_18 rfl rfl) ?_
  refine vg_cons (vs_callV (T := TX0) c_X0_isSafe dX1_peopleSafe_19 rfl ww_good q_45 q_21 q_46 q_47 q_48 (by decide +kernel) (by decide) rfl) ?_
  refine vg_cons (vs_if_eq dX1_peopleSafe_22 (by decide) rfl) ?_
  refine vg_cons (vs_aload_n dX1_peopleSafe_25 rfl rfl) ?_
  refine vg_cons (vs_getfield (T := TX1) dX1_peopleSafe_26 rfl (by decide) ww_inX1 q_39 rfl) ?_
  refine vg_cons (vs_iload_n dX1_peopleSafe_29 rfl rfl) ?_
  refine vg_cons (vs_aaload dX1_peopleSafe_30 rfl rfl) ?_
  refine vg_cons (vs_getfield (T := TX0) dX1_peopleSafe_31 rfl (by decide) ww_inX0 q_44 rfl) ?_
  refine vg_cons (vs_goto dX1_peopleSafe_34 (by decide)) ?_
  refine vg_cons (vs_iconst dX1_peopleSafe_37 rfl rfl) ?_
  refine vg_cons (vs_iadd dX1_peopleSafe_38 rfl) ?_
  refine vg_cons (vs_istore_n dX1_peopleSafe_39 rfl (by decide) rfl) ?_
  refine vg_cons (vs_iinc dX1_peopleSafe_40 rfl rfl) ?_
  refine vg_cons (vs_goto dX1_peopleSafe_43 (by decide)) ?_
  refine vg_cons (vs_iload_n dX1_peopleSafe_46 rfl rfl) ?_
  refine vg_cons (vs_ireturn dX1_peopleSafe_47 rfl) ?_
  exact fun _ h => absurd h List.not_mem_nil
theorem m_X1_peopleSafe : vg_Code k_X1_peopleSafe := fun q h => (s_X1_peopleSafe q h).1

theorem w_X1_peopleSafe : vg_Wd sp_X1_peopleSafe 3 := by
  intro av σ h
  unfold sp_X1_peopleSafe at h
  split at h
  · exact Nat.le_of_ble_eq_true rfl
  · exact h.elim
theorem g_X1_peopleSafe : vg_G k_X1_peopleSafe sp_X1_peopleSafe := by
  intro av σ h
  unfold sp_X1_peopleSafe at h ⊢
  split at h
  next b =>
    have hgc := h.1
    have h8 := hgc.2
    refine vg_run (cuts := [(4, [0, 1, 2])]) m_X1_peopleSafe 20 ?_
    refine vg_loop (fun i lv σ' => σ' = σ ∧ ∃ x a, x = nI i ∧ a = jSum (fun g => if jSafe (jV σ b) g then jV σ b 9 g 1 else 0) i ∧ lv = [(0, .inr (1, b, 0)), (1, .inl (.int a)), (2, .inl (.int x))]) (jGc (jV σ b)) ?_ ?_ 0 _ _ (Nat.zero_le _) ⟨rfl, 0, 0, rfl, rfl, rfl⟩
    · rintro i lv σ' hi ⟨e, x, a, hx, ha, rfl⟩ ih
      subst e
      have hc0 : x.toNatClampNeg = i := jcl hx (by omega)
      have hv : vp_in x 8 := jin hx (by omega) (by decide)
      refine vg_run (cuts := [(4, [0, 1, 2])]) m_X1_peopleSafe 40 ?_
      refine And.intro (fun hc => absurd ((jle hgc.1 hx (by omega) (by omega)).mp hc) (by omega)) (fun _ => ?_)
      refine And.intro hv (And.intro trivial (And.intro (fun hd => ?_) (fun hd => And.intro hv ?_)))
      · have hd' := jb_0.mp hd
        rw [hc0] at hd'
        exact ih _ _ ⟨rfl, x + 1, a + 0, jinc hx, by rw [jSum, if_neg hd', ha], rfl⟩
      · have hd' : jSafe (jV σ' b) x.toNatClampNeg := Classical.byContradiction (fun z => hd (jb_f z))
        rw [hc0] at hd'
        exact ih _ _ ⟨rfl, x + 1, a + σ' (9, b, x.toNatClampNeg) 1, jinc hx, by rw [jSum, if_pos hd', hc0, ha]; rfl, rfl⟩
    · rintro lv σ' ⟨e, x, a, hx, ha, rfl⟩
      subst e
      refine vg_run (cuts := [(4, [0, 1, 2])]) m_X1_peopleSafe 20 ?_
      exact And.intro (fun _ => And.intro (by rw [ha]) rfl) (fun hc => absurd ((jle hgc.1 hx (by omega) (by omega)).mpr (Nat.le_refl _)) hc)
  next => exact h.elim
theorem c_X1_peopleSafe : vg_MetF ww_tb ww_nw ww_shp ww_nm ww_cl ww_tyl yX1_peopleSafe cX1_peopleSafe 3 (some .int) 1 sp_X1_peopleSafe := vg_met ww_closed (by decide +kernel) rfl s_X1_peopleSafe w_X1_peopleSafe g_X1_peopleSafe
def sp_X1_peopleGone : vgC := fun av σ => match av with
  | [.inr (1, b, 0)] => (jWf (jV σ b), some (.inl (.int (jSum (fun g => if jGone (jV σ b) g then jV σ b 9 g 1 else 0) (jGc (jV σ b))))), σ)
  | _ => (False, none, σ)
def k_X1_peopleGone : List (Nat × vgF) := [(0, vi_icst (0) 1), (1, vi_istore 1 2), (2, vi_icst (0) 3), (3, vi_istore 2 4), (4, vi_iload 2 5), (5, vi_aload 0 6), (6, vi_get ww_shp 1 4 9), (9, vi_cmp (fun x y => y ≤ x) 46 12), (12, vi_iload 1 13), (13, vi_aload 0 14), (14, vi_get ww_shp 1 7 17), (17, vi_iload 2 18), (18, vi_aald ww_shp 2 19), (19, vi_callV ww_shp 5 sp_X0_isGone 0 22), (22, vi_if (fun x => x = 0) 37 25), (25, vi_aload 0 26), (26, vi_get ww_shp 1 7 29), (29, vi_iload 2 30), (30, vi_aald ww_shp 2 31), (31, vi_get ww_shp 5 1 34), (34, vi_goto 38), (37, vi_icst (0) 38), (38, vi_bin (fun x y => x + y) 39), (39, vi_istore 1 40), (40, vi_iinc 2 (1) 43), (43, vi_goto 4), (46, vi_iload 1 47), (47, vi_ret)]
set_option maxRecDepth 20000 in
theorem s_X1_peopleGone : ∀ q ∈ k_X1_peopleGone, vg_Snd ww_tb ww_nw ww_shp ww_nm ww_cl ww_tyl cX1_peopleGone 3 RX1 (some .int) 1 q.1 q.2 := by
  refine vg_cons (vs_iconst dX1_peopleGone_0 rfl rfl) ?_
  refine vg_cons (vs_istore_n dX1_peopleGone_1 rfl (by decide) rfl) ?_
  refine vg_cons (vs_iconst dX1_peopleGone_2 rfl rfl) ?_
  refine vg_cons (vs_istore_n dX1_peopleGone_3 rfl (by decide) rfl) ?_
  refine vg_cons (vs_iload_n dX1_peopleGone_4 rfl rfl) ?_
  refine vg_cons (vs_aload_n dX1_peopleGone_5 rfl rfl) ?_
  refine vg_cons (vs_getfield (T := TX1) dX1_peopleGone_6 rfl (by decide) ww_inX1 q_38 rfl) ?_
  refine vg_cons (vs_cmp_ge dX1_peopleGone_9 (by decide) rfl) ?_
  refine vg_cons (vs_iload_n dX1_peopleGone_12 rfl rfl) ?_
  refine vg_cons (vs_aload_n dX1_peopleGone_13 rfl rfl) ?_
  refine vg_cons (vs_getfield (T := TX1) dX1_peopleGone_14 rfl (by decide) ww_inX1 q_39 rfl) ?_
  refine vg_cons (vs_iload_n dX1_peopleGone_17 rfl rfl) ?_
  refine vg_cons (vs_aaload dX1_peopleGone_18 rfl rfl) ?_
  refine vg_cons (vs_callV (T := TX0) c_X0_isGone dX1_peopleGone_19 rfl ww_good q_20 q_21 q_22 q_23 q_24 (by decide +kernel) (by decide) rfl) ?_
  refine vg_cons (vs_if_eq dX1_peopleGone_22 (by decide) rfl) ?_
  refine vg_cons (vs_aload_n dX1_peopleGone_25 rfl rfl) ?_
  refine vg_cons (vs_getfield (T := TX1) dX1_peopleGone_26 rfl (by decide) ww_inX1 q_39 rfl) ?_
  refine vg_cons (vs_iload_n dX1_peopleGone_29 rfl rfl) ?_
  refine vg_cons (vs_aaload dX1_peopleGone_30 rfl rfl) ?_
  refine vg_cons (vs_getfield (T := TX0) dX1_peopleGone_31 rfl (by decide) ww_inX0 q_44 rfl) ?_
  refine vg_cons (vs_goto dX1_peopleGone_34 (by decide)) ?_
  refine vg_cons (vs_iconst dX1_peopleGone_37 rfl rfl) ?_
  refine vg_cons (vs_iadd dX1_peopleGone_38 rfl) ?_
  refine vg_cons (vs_istore_n dX1_peopleGone_39 rfl (by decide) rfl) ?_
  refine vg_cons (vs_iinc dX1_peopleGone_40 rfl rfl) ?_
  refine vg_cons (vs_goto dX1_peopleGone_43 (by decide)) ?_
  refine vg_cons (vs_iload_n dX1_peopleGone_46 rfl rfl) ?_
  refine vg_cons (vs_ireturn dX1_peopleGone_47 rfl) ?_
  exact fun _ h => absurd h List.not_mem_nil
theorem m_X1_peopleGone : vg_Code k_X1_peopleGone := fun q h => (s_X1_peopleGone q h).1

theorem w_X1_peopleGone : vg_Wd sp_X1_peopleGone 3 := by
  intro av σ h
  unfold sp_X1_peopleGone at h
  split at h
  · exact Nat.le_of_ble_eq_true rfl
  · exact h.elim
theorem g_X1_peopleGone : vg_G k_X1_peopleGone sp_X1_peopleGone := by
  intro av σ h
  unfold sp_X1_peopleGone at h ⊢
  split at h
  next b =>
    have hgc := h.1
    have h8 := hgc.2
    refine vg_run (cuts := [(4, [0, 1, 2])]) m_X1_peopleGone 20 ?_
    refine vg_loop (fun i lv σ' => σ' = σ ∧ ∃ x a, x = nI i ∧ a = jSum (fun g => if jGone (jV σ b) g then jV σ b 9 g 1 else 0) i ∧ lv = [(0, .inr (1, b, 0)), (1, .inl (.int a)), (2, .inl (.int x))]) (jGc (jV σ b)) ?_ ?_ 0 _ _ (Nat.zero_le _) ⟨rfl, 0, 0, rfl, rfl, rfl⟩
    · rintro i lv σ' hi ⟨e, x, a, hx, ha, rfl⟩ ih
      subst e
      have hc0 : x.toNatClampNeg = i := jcl hx (by omega)
      have hv : vp_in x 8 := jin hx (by omega) (by decide)
      refine vg_run (cuts := [(4, [0, 1, 2])]) m_X1_peopleGone 40 ?_
      refine And.intro (fun hc => absurd ((jle hgc.1 hx (by omega) (by omega)).mp hc) (by omega)) (fun _ => ?_)
      refine And.intro hv (And.intro trivial (And.intro (fun hd => ?_) (fun hd => And.intro hv ?_)))
      · have hd' := jb_0.mp hd
        rw [hc0] at hd'
        exact ih _ _ ⟨rfl, x + 1, a + 0, jinc hx, by rw [jSum, if_neg hd', ha], rfl⟩
      · have hd' : jGone (jV σ' b) x.toNatClampNeg := Classical.byContradiction (fun z => hd (jb_f z))
        rw [hc0] at hd'
        exact ih _ _ ⟨rfl, x + 1, a + σ' (9, b, x.toNatClampNeg) 1, jinc hx, by rw [jSum, if_pos hd', hc0, ha]; rfl, rfl⟩
    · rintro lv σ' ⟨e, x, a, hx, ha, rfl⟩
      subst e
      refine vg_run (cuts := [(4, [0, 1, 2])]) m_X1_peopleGone 20 ?_
      exact And.intro (fun _ => And.intro (by rw [ha]) rfl) (fun hc => absurd ((jle hgc.1 hx (by omega) (by omega)).mpr (Nat.le_refl _)) hc)
  next => exact h.elim
theorem c_X1_peopleGone : vg_MetF ww_tb ww_nw ww_shp ww_nm ww_cl ww_tyl yX1_peopleGone cX1_peopleGone 3 (some .int) 1 sp_X1_peopleGone := vg_met ww_closed (by decide +kernel) rfl s_X1_peopleGone w_X1_peopleGone g_X1_peopleGone
def sp_X1_peopleIn : vgC := fun av σ => match av with
  | [.inr (1, b, 0), .inl (.int s)] => (jWf (jV σ b), some (.inl (.int (jSum (fun g => if ¬ jGone (jV σ b) g ∧ ¬ jIn s (jV σ b 9 g 0) = 0 then jV σ b 9 g 1 else 0) (jGc (jV σ b))))), σ)
  | _ => (False, none, σ)
def k_X1_peopleIn : List (Nat × vgF) := [(0, vi_icst (0) 1), (1, vi_istore 2 2), (2, vi_icst (0) 3), (3, vi_istore 3 4), (4, vi_iload 3 5), (5, vi_aload 0 6), (6, vi_get ww_shp 1 4 9), (9, vi_cmp (fun x y => y ≤ x) 62 12), (12, vi_iload 2 13), (13, vi_aload 0 14), (14, vi_get ww_shp 1 7 17), (17, vi_iload 3 18), (18, vi_aald ww_shp 2 19), (19, vi_callV ww_shp 5 sp_X0_isGone 0 22), (22, vi_if (fun x => x = 0) 25 53), (25, vi_iload 1 26), (26, vi_aload 0 27), (27, vi_get ww_shp 1 7 30), (30, vi_iload 3 31), (31, vi_aald ww_shp 2 32), (32, vi_get ww_shp 5 0 35), (35, vi_callS sp_X5_isIn 2 38), (38, vi_if (fun x => x = 0) 53 41), (41, vi_aload 0 42), (42, vi_get ww_shp 1 7 45), (45, vi_iload 3 46), (46, vi_aald ww_shp 2 47), (47, vi_get ww_shp 5 1 50), (50, vi_goto 54), (53, vi_icst (0) 54), (54, vi_bin (fun x y => x + y) 55), (55, vi_istore 2 56), (56, vi_iinc 3 (1) 59), (59, vi_goto 4), (62, vi_iload 2 63), (63, vi_ret)]
set_option maxRecDepth 20000 in
theorem s_X1_peopleIn : ∀ q ∈ k_X1_peopleIn, vg_Snd ww_tb ww_nw ww_shp ww_nm ww_cl ww_tyl cX1_peopleIn 4 RX1 (some .int) 1 q.1 q.2 := by
  refine vg_cons (vs_iconst dX1_peopleIn_0 rfl rfl) ?_
  refine vg_cons (vs_istore_n dX1_peopleIn_1 rfl (by decide) rfl) ?_
  refine vg_cons (vs_iconst dX1_peopleIn_2 rfl rfl) ?_
  refine vg_cons (vs_istore_n dX1_peopleIn_3 rfl (by decide) rfl) ?_
  refine vg_cons (vs_iload_n dX1_peopleIn_4 rfl rfl) ?_
  refine vg_cons (vs_aload_n dX1_peopleIn_5 rfl rfl) ?_
  refine vg_cons (vs_getfield (T := TX1) dX1_peopleIn_6 rfl (by decide) ww_inX1 q_38 rfl) ?_
  refine vg_cons (vs_cmp_ge dX1_peopleIn_9 (by decide) rfl) ?_
  refine vg_cons (vs_iload_n dX1_peopleIn_12 rfl rfl) ?_
  refine vg_cons (vs_aload_n dX1_peopleIn_13 rfl rfl) ?_
  refine vg_cons (vs_getfield (T := TX1) dX1_peopleIn_14 rfl (by decide) ww_inX1 q_39 rfl) ?_
  refine vg_cons (vs_iload_n dX1_peopleIn_17 rfl rfl) ?_
  refine vg_cons (vs_aaload dX1_peopleIn_18 rfl rfl) ?_
  refine vg_cons (vs_callV (T := TX0) c_X0_isGone dX1_peopleIn_19 rfl ww_good q_20 q_21 q_22 q_23 q_24 (by decide +kernel) (by decide) rfl) ?_
  refine vg_cons (vs_if_ne dX1_peopleIn_22 (by decide) rfl) ?_
  refine vg_cons (vs_iload_n dX1_peopleIn_25 rfl rfl) ?_
  refine vg_cons (vs_aload_n dX1_peopleIn_26 rfl rfl) ?_
  refine vg_cons (vs_getfield (T := TX1) dX1_peopleIn_27 rfl (by decide) ww_inX1 q_39 rfl) ?_
  refine vg_cons (vs_iload_n dX1_peopleIn_30 rfl rfl) ?_
  refine vg_cons (vs_aaload dX1_peopleIn_31 rfl rfl) ?_
  refine vg_cons (vs_getfield (T := TX0) dX1_peopleIn_32 rfl (by decide) ww_inX0 q_49 rfl) ?_
  refine vg_cons (vs_callSN (host := "WarnWave") c_X5_isIn dX1_peopleIn_35 ww_good q_50 q_51 (by decide +kernel) q_52 (by decide +kernel) (by decide) rfl) ?_
  refine vg_cons (vs_if_eq dX1_peopleIn_38 (by decide) rfl) ?_
  refine vg_cons (vs_aload_n dX1_peopleIn_41 rfl rfl) ?_
  refine vg_cons (vs_getfield (T := TX1) dX1_peopleIn_42 rfl (by decide) ww_inX1 q_39 rfl) ?_
  refine vg_cons (vs_iload_n dX1_peopleIn_45 rfl rfl) ?_
  refine vg_cons (vs_aaload dX1_peopleIn_46 rfl rfl) ?_
  refine vg_cons (vs_getfield (T := TX0) dX1_peopleIn_47 rfl (by decide) ww_inX0 q_44 rfl) ?_
  refine vg_cons (vs_goto dX1_peopleIn_50 (by decide)) ?_
  refine vg_cons (vs_iconst dX1_peopleIn_53 rfl rfl) ?_
  refine vg_cons (vs_iadd dX1_peopleIn_54 rfl) ?_
  refine vg_cons (vs_istore_n dX1_peopleIn_55 rfl (by decide) rfl) ?_
  refine vg_cons (vs_iinc dX1_peopleIn_56 rfl rfl) ?_
  refine vg_cons (vs_goto dX1_peopleIn_59 (by decide)) ?_
  refine vg_cons (vs_iload_n dX1_peopleIn_62 rfl rfl) ?_
  refine vg_cons (vs_ireturn dX1_peopleIn_63 rfl) ?_
  exact fun _ h => absurd h List.not_mem_nil
theorem m_X1_peopleIn : vg_Code k_X1_peopleIn := fun q h => (s_X1_peopleIn q h).1

theorem w_X1_peopleIn : vg_Wd sp_X1_peopleIn 4 := by
  intro av σ h
  unfold sp_X1_peopleIn at h
  split at h
  · exact Nat.le_of_ble_eq_true rfl
  · exact h.elim
theorem g_X1_peopleIn : vg_G k_X1_peopleIn sp_X1_peopleIn := by
  intro av σ h
  unfold sp_X1_peopleIn at h ⊢
  split at h
  next b s =>
    have hgc := h.1
    have h8 := hgc.2
    refine vg_run (cuts := [(4, [0, 1, 2, 3])]) m_X1_peopleIn 20 ?_
    refine vg_loop (fun i lv σ' => σ' = σ ∧ ∃ x a, x = nI i ∧ a = jSum (fun g => if ¬ jGone (jV σ b) g ∧ ¬ jIn s (jV σ b 9 g 0) = 0 then jV σ b 9 g 1 else 0) i ∧ lv = [(0, .inr (1, b, 0)), (1, .inl (.int s)), (2, .inl (.int a)), (3, .inl (.int x))]) (jGc (jV σ b)) ?_ ?_ 0 _ _ (Nat.zero_le _) ⟨rfl, 0, 0, rfl, rfl, rfl⟩
    · rintro i lv σ' hi ⟨e, x, a, hx, ha, rfl⟩ ih
      subst e
      have hc0 : x.toNatClampNeg = i := jcl hx (by omega)
      have hv : vp_in x 8 := jin hx (by omega) (by decide)
      refine vg_run (cuts := [(4, [0, 1, 2, 3])]) m_X1_peopleIn 40 ?_
      refine And.intro (fun hc => absurd ((jle hgc.1 hx (by omega) (by omega)).mp hc) (by omega)) (fun _ => ?_)
      refine And.intro hv (And.intro trivial (And.intro (fun hd => And.intro hv (And.intro trivial (And.intro (fun he => ?_) (fun he => And.intro hv ?_)))) (fun hd => ?_)))
      · rw [hc0] at he
        have he' : jIn s (jV σ' b 9 i 0) = 0 := he
        exact ih _ _ ⟨rfl, x + 1, a + 0, jinc hx, by rw [jSum, if_neg (fun z => z.2 he'), ha], rfl⟩
      · have hd' := jb_0.mp hd
        rw [hc0] at hd' he
        have he' : ¬ jIn s (jV σ' b 9 i 0) = 0 := he
        exact ih _ _ ⟨rfl, x + 1, a + σ' (9, b, x.toNatClampNeg) 1, jinc hx, by rw [jSum, if_pos ⟨hd', he'⟩, hc0, ha]; rfl, rfl⟩
      · have hd' : jGone (jV σ' b) x.toNatClampNeg := Classical.byContradiction (fun z => hd (jb_f z))
        rw [hc0] at hd'
        exact ih _ _ ⟨rfl, x + 1, a + 0, jinc hx, by rw [jSum, if_neg (fun z => z.1 hd'), ha], rfl⟩
    · rintro lv σ' ⟨e, x, a, hx, ha, rfl⟩
      subst e
      refine vg_run (cuts := [(4, [0, 1, 2, 3])]) m_X1_peopleIn 20 ?_
      exact And.intro (fun _ => And.intro (by rw [ha]) rfl) (fun hc => absurd ((jle hgc.1 hx (by omega) (by omega)).mpr (Nat.le_refl _)) hc)
  next => exact h.elim
theorem c_X1_peopleIn : vg_MetF ww_tb ww_nw ww_shp ww_nm ww_cl ww_tyl yX1_peopleIn cX1_peopleIn 4 (some .int) 1 sp_X1_peopleIn := vg_met ww_closed (by decide +kernel) rfl s_X1_peopleIn w_X1_peopleIn g_X1_peopleIn
def sp_X1_peopleBelieving : vgC := fun av σ => match av with
  | [.inr (1, b, 0)] => (jWf (jV σ b), some (.inl (.int (jSum (fun g => if jLt (jV σ b) g = -1 then 0 else jV σ b 9 g 1) (jGc (jV σ b))))), σ)
  | _ => (False, none, σ)
def k_X1_peopleBelieving : List (Nat × vgF) := [(0, vi_icst (0) 1), (1, vi_istore 1 2), (2, vi_icst (0) 3), (3, vi_istore 2 4), (4, vi_iload 2 5), (5, vi_aload 0 6), (6, vi_get ww_shp 1 4 9), (9, vi_cmp (fun x y => y ≤ x) 48 12), (12, vi_iload 1 13), (13, vi_aload 0 14), (14, vi_aload 0 15), (15, vi_get ww_shp 1 7 18), (18, vi_iload 2 19), (19, vi_aald ww_shp 2 20), (20, vi_callV ww_shp 1 sp_X1_latestBelieved 1 23), (23, vi_icst (-1) 24), (24, vi_cmp (fun x y => x = y) 39 27), (27, vi_aload 0 28), (28, vi_get ww_shp 1 7 31), (31, vi_iload 2 32), (32, vi_aald ww_shp 2 33), (33, vi_get ww_shp 5 1 36), (36, vi_goto 40), (39, vi_icst (0) 40), (40, vi_bin (fun x y => x + y) 41), (41, vi_istore 1 42), (42, vi_iinc 2 (1) 45), (45, vi_goto 4), (48, vi_iload 1 49), (49, vi_ret)]
set_option maxRecDepth 20000 in
theorem s_X1_peopleBelieving : ∀ q ∈ k_X1_peopleBelieving, vg_Snd ww_tb ww_nw ww_shp ww_nm ww_cl ww_tyl cX1_peopleBelieving 3 RX1 (some .int) 1 q.1 q.2 := by
  refine vg_cons (vs_iconst dX1_peopleBelieving_0 rfl rfl) ?_
  refine vg_cons (vs_istore_n dX1_peopleBelieving_1 rfl (by decide) rfl) ?_
  refine vg_cons (vs_iconst dX1_peopleBelieving_2 rfl rfl) ?_
  refine vg_cons (vs_istore_n dX1_peopleBelieving_3 rfl (by decide) rfl) ?_
  refine vg_cons (vs_iload_n dX1_peopleBelieving_4 rfl rfl) ?_
  refine vg_cons (vs_aload_n dX1_peopleBelieving_5 rfl rfl) ?_
  refine vg_cons (vs_getfield (T := TX1) dX1_peopleBelieving_6 rfl (by decide) ww_inX1 q_38 rfl) ?_
  refine vg_cons (vs_cmp_ge dX1_peopleBelieving_9 (by decide) rfl) ?_
  refine vg_cons (vs_iload_n dX1_peopleBelieving_12 rfl rfl) ?_
  refine vg_cons (vs_aload_n dX1_peopleBelieving_13 rfl rfl) ?_
  refine vg_cons (vs_aload_n dX1_peopleBelieving_14 rfl rfl) ?_
  refine vg_cons (vs_getfield (T := TX1) dX1_peopleBelieving_15 rfl (by decide) ww_inX1 q_39 rfl) ?_
  refine vg_cons (vs_iload_n dX1_peopleBelieving_18 rfl rfl) ?_
  refine vg_cons (vs_aaload dX1_peopleBelieving_19 rfl rfl) ?_
  refine vg_cons (vs_callV (T := TX1) c_X1_latestBelieved dX1_peopleBelieving_20 rfl ww_good q_29 q_12 q_30 q_31 q_32 (by decide +kernel) (by decide) rfl) ?_
  refine vg_cons (vs_iconst dX1_peopleBelieving_23 rfl rfl) ?_
  refine vg_cons (vs_cmp_eq dX1_peopleBelieving_24 (by decide) rfl) ?_
  refine vg_cons (vs_aload_n dX1_peopleBelieving_27 rfl rfl) ?_
  refine vg_cons (vs_getfield (T := TX1) dX1_peopleBelieving_28 rfl (by decide) ww_inX1 q_39 rfl) ?_
  refine vg_cons (vs_iload_n dX1_peopleBelieving_31 rfl rfl) ?_
  refine vg_cons (vs_aaload dX1_peopleBelieving_32 rfl rfl) ?_
  refine vg_cons (vs_getfield (T := TX0) dX1_peopleBelieving_33 rfl (by decide) ww_inX0 q_44 rfl) ?_
  refine vg_cons (vs_goto dX1_peopleBelieving_36 (by decide)) ?_
  refine vg_cons (vs_iconst dX1_peopleBelieving_39 rfl rfl) ?_
  refine vg_cons (vs_iadd dX1_peopleBelieving_40 rfl) ?_
  refine vg_cons (vs_istore_n dX1_peopleBelieving_41 rfl (by decide) rfl) ?_
  refine vg_cons (vs_iinc dX1_peopleBelieving_42 rfl rfl) ?_
  refine vg_cons (vs_goto dX1_peopleBelieving_45 (by decide)) ?_
  refine vg_cons (vs_iload_n dX1_peopleBelieving_48 rfl rfl) ?_
  refine vg_cons (vs_ireturn dX1_peopleBelieving_49 rfl) ?_
  exact fun _ h => absurd h List.not_mem_nil
theorem m_X1_peopleBelieving : vg_Code k_X1_peopleBelieving := fun q h => (s_X1_peopleBelieving q h).1

theorem w_X1_peopleBelieving : vg_Wd sp_X1_peopleBelieving 3 := by
  intro av σ h
  unfold sp_X1_peopleBelieving at h
  split at h
  · exact Nat.le_of_ble_eq_true rfl
  · exact h.elim
theorem g_X1_peopleBelieving : vg_G k_X1_peopleBelieving sp_X1_peopleBelieving := by
  intro av σ h
  unfold sp_X1_peopleBelieving at h ⊢
  split at h
  next b =>
    have hgc := h.1
    have h8 := hgc.2
    refine vg_run (cuts := [(4, [0, 1, 2])]) m_X1_peopleBelieving 20 ?_
    refine vg_loop (fun i lv σ' => σ' = σ ∧ ∃ x a, x = nI i ∧ a = jSum (fun g => if jLt (jV σ b) g = -1 then 0 else jV σ b 9 g 1) i ∧ lv = [(0, .inr (1, b, 0)), (1, .inl (.int a)), (2, .inl (.int x))]) (jGc (jV σ b)) ?_ ?_ 0 _ _ (Nat.zero_le _) ⟨rfl, 0, 0, rfl, rfl, rfl⟩
    · rintro i lv σ' hi ⟨e, x, a, hx, ha, rfl⟩ ih
      subst e
      have hc0 : x.toNatClampNeg = i := jcl hx (by omega)
      have hv : vp_in x 8 := jin hx (by omega) (by decide)
      refine vg_run (cuts := [(4, [0, 1, 2])]) m_X1_peopleBelieving 40 ?_
      refine And.intro (fun hc => absurd ((jle hgc.1 hx (by omega) (by omega)).mp hc) (by omega)) (fun _ => ?_)
      refine And.intro hv (And.intro ⟨h, rfl⟩ (And.intro (fun hd => ?_) (fun hd => And.intro hv ?_)))
      · rw [hc0] at hd
        have hd' : jLt (jV σ' b) i = -1 := hd
        exact ih _ _ ⟨rfl, x + 1, a + 0, jinc hx, by rw [jSum, if_pos hd', ha], rfl⟩
      · rw [hc0] at hd
        have hd' : ¬ jLt (jV σ' b) i = -1 := hd
        exact ih _ _ ⟨rfl, x + 1, a + σ' (9, b, x.toNatClampNeg) 1, jinc hx, by rw [jSum, if_neg hd', hc0, ha]; rfl, rfl⟩
    · rintro lv σ' ⟨e, x, a, hx, ha, rfl⟩
      subst e
      refine vg_run (cuts := [(4, [0, 1, 2])]) m_X1_peopleBelieving 20 ?_
      exact And.intro (fun _ => And.intro (by rw [ha]) rfl) (fun hc => absurd ((jle hgc.1 hx (by omega) (by omega)).mpr (Nat.le_refl _)) hc)
  next => exact h.elim
theorem c_X1_peopleBelieving : vg_MetF ww_tb ww_nw ww_shp ww_nm ww_cl ww_tyl yX1_peopleBelieving cX1_peopleBelieving 3 (some .int) 1 sp_X1_peopleBelieving := vg_met ww_closed (by decide +kernel) rfl s_X1_peopleBelieving w_X1_peopleBelieving g_X1_peopleBelieving
