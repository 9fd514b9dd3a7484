/-! what stands at each place of the methods' code (laid by program) -/
theorem dX5_isIn_0 : decode cX5_isIn 0 = .ok (.iload_n 0, 1) := by decide +kernel
theorem dX5_isIn_1 : decode cX5_isIn 1 = .ok (.iload_n 1, 1) := by decide +kernel
theorem dX5_isIn_2 : decode cX5_isIn 2 = .ok (.ishr, 1) := by decide +kernel
theorem dX5_isIn_3 : decode cX5_isIn 3 = .ok (.iconst 1, 1) := by decide +kernel
theorem dX5_isIn_4 : decode cX5_isIn 4 = .ok (.iand, 1) := by decide +kernel
theorem dX5_isIn_5 : decode cX5_isIn 5 = .ok (.iconst 1, 1) := by decide +kernel
theorem dX5_isIn_6 : decode cX5_isIn 6 = .ok (.if_icmp .ne 7, 3) := by decide +kernel
theorem dX5_isIn_9 : decode cX5_isIn 9 = .ok (.iconst 1, 1) := by decide +kernel
theorem dX5_isIn_10 : decode cX5_isIn 10 = .ok (.goto 4, 3) := by decide +kernel
theorem dX5_isIn_13 : decode cX5_isIn 13 = .ok (.iconst 0, 1) := by decide +kernel
theorem dX5_isIn_14 : decode cX5_isIn 14 = .ok (.ireturn, 1) := by decide +kernel
theorem dX5_distance_0 : decode cX5_distance 0 = .ok (.iload_n 0, 1) := by decide +kernel
theorem dX5_distance_1 : decode cX5_distance 1 = .ok (.iconst 4, 1) := by decide +kernel
theorem dX5_distance_2 : decode cX5_distance 2 = .ok (.idiv, 1) := by decide +kernel
theorem dX5_distance_3 : decode cX5_distance 3 = .ok (.iload_n 1, 1) := by decide +kernel
theorem dX5_distance_4 : decode cX5_distance 4 = .ok (.iconst 4, 1) := by decide +kernel
theorem dX5_distance_5 : decode cX5_distance 5 = .ok (.idiv, 1) := by decide +kernel
theorem dX5_distance_6 : decode cX5_distance 6 = .ok (.isub, 1) := by decide +kernel
theorem dX5_distance_7 : decode cX5_distance 7 = .ok (.invokestatic 344, 3) := by decide +kernel
theorem dX5_distance_10 : decode cX5_distance 10 = .ok (.iload_n 0, 1) := by decide +kernel
theorem dX5_distance_11 : decode cX5_distance 11 = .ok (.iconst 4, 1) := by decide +kernel
theorem dX5_distance_12 : decode cX5_distance 12 = .ok (.irem, 1) := by decide +kernel
theorem dX5_distance_13 : decode cX5_distance 13 = .ok (.iload_n 1, 1) := by decide +kernel
theorem dX5_distance_14 : decode cX5_distance 14 = .ok (.iconst 4, 1) := by decide +kernel
theorem dX5_distance_15 : decode cX5_distance 15 = .ok (.irem, 1) := by decide +kernel
theorem dX5_distance_16 : decode cX5_distance 16 = .ok (.isub, 1) := by decide +kernel
theorem dX5_distance_17 : decode cX5_distance 17 = .ok (.invokestatic 344, 3) := by decide +kernel
theorem dX5_distance_20 : decode cX5_distance 20 = .ok (.iadd, 1) := by decide +kernel
theorem dX5_distance_21 : decode cX5_distance 21 = .ok (.ireturn, 1) := by decide +kernel
theorem dX5_stepTowards_0 : decode cX5_stepTowards 0 = .ok (.iload_n 0, 1) := by decide +kernel
theorem dX5_stepTowards_1 : decode cX5_stepTowards 1 = .ok (.iconst 4, 1) := by decide +kernel
theorem dX5_stepTowards_2 : decode cX5_stepTowards 2 = .ok (.idiv, 1) := by decide +kernel
theorem dX5_stepTowards_3 : decode cX5_stepTowards 3 = .ok (.iload_n 1, 1) := by decide +kernel
theorem dX5_stepTowards_4 : decode cX5_stepTowards 4 = .ok (.iconst 4, 1) := by decide +kernel
theorem dX5_stepTowards_5 : decode cX5_stepTowards 5 = .ok (.idiv, 1) := by decide +kernel
theorem dX5_stepTowards_6 : decode cX5_stepTowards 6 = .ok (.if_icmp .eq 18, 3) := by decide +kernel
theorem dX5_stepTowards_9 : decode cX5_stepTowards 9 = .ok (.iload_n 1, 1) := by decide +kernel
theorem dX5_stepTowards_10 : decode cX5_stepTowards 10 = .ok (.iload_n 0, 1) := by decide +kernel
theorem dX5_stepTowards_11 : decode cX5_stepTowards 11 = .ok (.if_icmp .le 9, 3) := by decide +kernel
theorem dX5_stepTowards_14 : decode cX5_stepTowards 14 = .ok (.iload_n 0, 1) := by decide +kernel
theorem dX5_stepTowards_15 : decode cX5_stepTowards 15 = .ok (.iconst 4, 1) := by decide +kernel
theorem dX5_stepTowards_16 : decode cX5_stepTowards 16 = .ok (.iadd, 1) := by decide +kernel
theorem dX5_stepTowards_17 : decode cX5_stepTowards 17 = .ok (.goto 6, 3) := by decide +kernel
theorem dX5_stepTowards_20 : decode cX5_stepTowards 20 = .ok (.iload_n 0, 1) := by decide +kernel
theorem dX5_stepTowards_21 : decode cX5_stepTowards 21 = .ok (.iconst 4, 1) := by decide +kernel
theorem dX5_stepTowards_22 : decode cX5_stepTowards 22 = .ok (.isub, 1) := by decide +kernel
theorem dX5_stepTowards_23 : decode cX5_stepTowards 23 = .ok (.ireturn, 1) := by decide +kernel
theorem dX5_stepTowards_24 : decode cX5_stepTowards 24 = .ok (.iload_n 0, 1) := by decide +kernel
theorem dX5_stepTowards_25 : decode cX5_stepTowards 25 = .ok (.iload_n 1, 1) := by decide +kernel
theorem dX5_stepTowards_26 : decode cX5_stepTowards 26 = .ok (.if_icmp .eq 18, 3) := by decide +kernel
theorem dX5_stepTowards_29 : decode cX5_stepTowards 29 = .ok (.iload_n 1, 1) := by decide +kernel
theorem dX5_stepTowards_30 : decode cX5_stepTowards 30 = .ok (.iload_n 0, 1) := by decide +kernel
theorem dX5_stepTowards_31 : decode cX5_stepTowards 31 = .ok (.if_icmp .le 9, 3) := by decide +kernel
theorem dX5_stepTowards_34 : decode cX5_stepTowards 34 = .ok (.iload_n 0, 1) := by decide +kernel
theorem dX5_stepTowards_35 : decode cX5_stepTowards 35 = .ok (.iconst 1, 1) := by decide +kernel
theorem dX5_stepTowards_36 : decode cX5_stepTowards 36 = .ok (.iadd, 1) := by decide +kernel
theorem dX5_stepTowards_37 : decode cX5_stepTowards 37 = .ok (.goto 6, 3) := by decide +kernel
theorem dX5_stepTowards_40 : decode cX5_stepTowards 40 = .ok (.iload_n 0, 1) := by decide +kernel
theorem dX5_stepTowards_41 : decode cX5_stepTowards 41 = .ok (.iconst 1, 1) := by decide +kernel
theorem dX5_stepTowards_42 : decode cX5_stepTowards 42 = .ok (.isub, 1) := by decide +kernel
theorem dX5_stepTowards_43 : decode cX5_stepTowards 43 = .ok (.ireturn, 1) := by decide +kernel
theorem dX5_stepTowards_44 : decode cX5_stepTowards 44 = .ok (.iload_n 0, 1) := by decide +kernel
theorem dX5_stepTowards_45 : decode cX5_stepTowards 45 = .ok (.ireturn, 1) := by decide +kernel
theorem dX0_isGone_0 : decode cX0_isGone 0 = .ok (.aload_n 0, 1) := by decide +kernel
theorem dX0_isGone_1 : decode cX0_isGone 1 = .ok (.getfield 50, 3) := by decide +kernel
theorem dX0_isGone_4 : decode cX0_isGone 4 = .ok (.iconst 5, 1) := by decide +kernel
theorem dX0_isGone_5 : decode cX0_isGone 5 = .ok (.if_icmp .lt 7, 3) := by decide +kernel
theorem dX0_isGone_8 : decode cX0_isGone 8 = .ok (.iconst 1, 1) := by decide +kernel
theorem dX0_isGone_9 : decode cX0_isGone 9 = .ok (.goto 4, 3) := by decide +kernel
theorem dX0_isGone_12 : decode cX0_isGone 12 = .ok (.iconst 0, 1) := by decide +kernel
theorem dX0_isGone_13 : decode cX0_isGone 13 = .ok (.ireturn, 1) := by decide +kernel
theorem dX0_isSafe_0 : decode cX0_isSafe 0 = .ok (.aload_n 0, 1) := by decide +kernel
theorem dX0_isSafe_1 : decode cX0_isSafe 1 = .ok (.getfield 15, 3) := by decide +kernel
theorem dX0_isSafe_4 : decode cX0_isSafe 4 = .ok (.iconst (-1), 1) := by decide +kernel
theorem dX0_isSafe_5 : decode cX0_isSafe 5 = .ok (.if_icmp .eq 7, 3) := by decide +kernel
theorem dX0_isSafe_8 : decode cX0_isSafe 8 = .ok (.iconst 1, 1) := by decide +kernel
theorem dX0_isSafe_9 : decode cX0_isSafe 9 = .ok (.goto 4, 3) := by decide +kernel
theorem dX0_isSafe_12 : decode cX0_isSafe 12 = .ok (.iconst 0, 1) := by decide +kernel
theorem dX0_isSafe_13 : decode cX0_isSafe 13 = .ok (.ireturn, 1) := by decide +kernel
theorem dX0_waysNeeded_0 : decode cX0_waysNeeded 0 = .ok (.iconst 1, 1) := by decide +kernel
theorem dX0_waysNeeded_1 : decode cX0_waysNeeded 1 = .ok (.bipush 11, 2) := by decide +kernel
theorem dX0_waysNeeded_3 : decode cX0_waysNeeded 3 = .ok (.aload_n 0, 1) := by decide +kernel
theorem dX0_waysNeeded_4 : decode cX0_waysNeeded 4 = .ok (.getfield 9, 3) := by decide +kernel
theorem dX0_waysNeeded_7 : decode cX0_waysNeeded 7 = .ok (.isub, 1) := by decide +kernel
theorem dX0_waysNeeded_8 : decode cX0_waysNeeded 8 = .ok (.iconst 4, 1) := by decide +kernel
theorem dX0_waysNeeded_9 : decode cX0_waysNeeded 9 = .ok (.idiv, 1) := by decide +kernel
theorem dX0_waysNeeded_10 : decode cX0_waysNeeded 10 = .ok (.invokestatic 59, 3) := by decide +kernel
theorem dX0_waysNeeded_13 : decode cX0_waysNeeded 13 = .ok (.ireturn, 1) := by decide +kernel
theorem dX1_hourNow_0 : decode cX1_hourNow 0 = .ok (.aload_n 0, 1) := by decide +kernel
theorem dX1_hourNow_1 : decode cX1_hourNow 1 = .ok (.getfield 56, 3) := by decide +kernel
theorem dX1_hourNow_4 : decode cX1_hourNow 4 = .ok (.bipush 60, 2) := by decide +kernel
theorem dX1_hourNow_6 : decode cX1_hourNow 6 = .ok (.idiv, 1) := by decide +kernel
theorem dX1_hourNow_7 : decode cX1_hourNow 7 = .ok (.bipush 24, 2) := by decide +kernel
theorem dX1_hourNow_9 : decode cX1_hourNow 9 = .ok (.irem, 1) := by decide +kernel
theorem dX1_hourNow_10 : decode cX1_hourNow 10 = .ok (.ireturn, 1) := by decide +kernel
theorem dX1_isNight_0 : decode cX1_isNight 0 = .ok (.aload_n 0, 1) := by decide +kernel
theorem dX1_isNight_1 : decode cX1_isNight 1 = .ok (.invokevirtual 93, 3) := by decide +kernel
theorem dX1_isNight_4 : decode cX1_isNight 4 = .ok (.bipush 22, 2) := by decide +kernel
theorem dX1_isNight_6 : decode cX1_isNight 6 = .ok (.if_icmp .ge 12, 3) := by decide +kernel
theorem dX1_isNight_9 : decode cX1_isNight 9 = .ok (.aload_n 0, 1) := by decide +kernel
theorem dX1_isNight_10 : decode cX1_isNight 10 = .ok (.invokevirtual 93, 3) := by decide +kernel
theorem dX1_isNight_13 : decode cX1_isNight 13 = .ok (.bipush 6, 2) := by decide +kernel
theorem dX1_isNight_15 : decode cX1_isNight 15 = .ok (.if_icmp .ge 7, 3) := by decide +kernel
theorem dX1_isNight_18 : decode cX1_isNight 18 = .ok (.iconst 1, 1) := by decide +kernel
theorem dX1_isNight_19 : decode cX1_isNight 19 = .ok (.goto 4, 3) := by decide +kernel
theorem dX1_isNight_22 : decode cX1_isNight 22 = .ok (.iconst 0, 1) := by decide +kernel
theorem dX1_isNight_23 : decode cX1_isNight 23 = .ok (.ireturn, 1) := by decide +kernel
theorem dX1_latestBelieved_0 : decode cX1_latestBelieved 0 = .ok (.aload_n 0, 1) := by decide +kernel
theorem dX1_latestBelieved_1 : decode cX1_latestBelieved 1 = .ok (.getfield 68, 3) := by decide +kernel
theorem dX1_latestBelieved_4 : decode cX1_latestBelieved 4 = .ok (.iconst 1, 1) := by decide +kernel
theorem dX1_latestBelieved_5 : decode cX1_latestBelieved 5 = .ok (.isub, 1) := by decide +kernel
theorem dX1_latestBelieved_6 : decode cX1_latestBelieved 6 = .ok (.istore_n 2, 1) := by decide +kernel
theorem dX1_latestBelieved_7 : decode cX1_latestBelieved 7 = .ok (.iload_n 2, 1) := by decide +kernel
theorem dX1_latestBelieved_8 : decode cX1_latestBelieved 8 = .ok (.ifCond .lt 33, 3) := by decide +kernel
theorem dX1_latestBelieved_11 : decode cX1_latestBelieved 11 = .ok (.aload_n 0, 1) := by decide +kernel
theorem dX1_latestBelieved_12 : decode cX1_latestBelieved 12 = .ok (.getfield 32, 3) := by decide +kernel
theorem dX1_latestBelieved_15 : decode cX1_latestBelieved 15 = .ok (.iload_n 2, 1) := by decide +kernel
theorem dX1_latestBelieved_16 : decode cX1_latestBelieved 16 = .ok (.aaload, 1) := by decide +kernel
theorem dX1_latestBelieved_17 : decode cX1_latestBelieved 17 = .ok (.getfield 112, 3) := by decide +kernel
theorem dX1_latestBelieved_20 : decode cX1_latestBelieved 20 = .ok (.ifCond .eq 15, 3) := by decide +kernel
theorem dX1_latestBelieved_23 : decode cX1_latestBelieved 23 = .ok (.aload_n 1, 1) := by decide +kernel
theorem dX1_latestBelieved_24 : decode cX1_latestBelieved 24 = .ok (.getfield 116, 3) := by decide +kernel
theorem dX1_latestBelieved_27 : decode cX1_latestBelieved 27 = .ok (.iload_n 2, 1) := by decide +kernel
theorem dX1_latestBelieved_28 : decode cX1_latestBelieved 28 = .ok (.iaload, 1) := by decide +kernel
theorem dX1_latestBelieved_29 : decode cX1_latestBelieved 29 = .ok (.iconst (-1), 1) := by decide +kernel
theorem dX1_latestBelieved_30 : decode cX1_latestBelieved 30 = .ok (.if_icmp .eq 5, 3) := by decide +kernel
theorem dX1_latestBelieved_33 : decode cX1_latestBelieved 33 = .ok (.iload_n 2, 1) := by decide +kernel
theorem dX1_latestBelieved_34 : decode cX1_latestBelieved 34 = .ok (.ireturn, 1) := by decide +kernel
theorem dX1_latestBelieved_35 : decode cX1_latestBelieved 35 = .ok (.iinc 2 (-1), 3) := by decide +kernel
theorem dX1_latestBelieved_38 : decode cX1_latestBelieved 38 = .ok (.goto (-31), 3) := by decide +kernel
theorem dX1_latestBelieved_41 : decode cX1_latestBelieved 41 = .ok (.iconst (-1), 1) := by decide +kernel
theorem dX1_latestBelieved_42 : decode cX1_latestBelieved 42 = .ok (.ireturn, 1) := by decide +kernel
theorem dX1_isAsleep_0 : decode cX1_isAsleep 0 = .ok (.aload_n 1, 1) := by decide +kernel
theorem dX1_isAsleep_1 : decode cX1_isAsleep 1 = .ok (.invokevirtual 97, 3) := by decide +kernel
theorem dX1_isAsleep_4 : decode cX1_isAsleep 4 = .ok (.ifCond .ne 23, 3) := by decide +kernel
theorem dX1_isAsleep_7 : decode cX1_isAsleep 7 = .ok (.aload_n 0, 1) := by decide +kernel
theorem dX1_isAsleep_8 : decode cX1_isAsleep 8 = .ok (.invokevirtual 101, 3) := by decide +kernel
theorem dX1_isAsleep_11 : decode cX1_isAsleep 11 = .ok (.ifCond .eq 16, 3) := by decide +kernel
theorem dX1_isAsleep_14 : decode cX1_isAsleep 14 = .ok (.aload_n 0, 1) := by decide +kernel
theorem dX1_isAsleep_15 : decode cX1_isAsleep 15 = .ok (.aload_n 1, 1) := by decide +kernel
theorem dX1_isAsleep_16 : decode cX1_isAsleep 16 = .ok (.invokevirtual 104, 3) := by decide +kernel
theorem dX1_isAsleep_19 : decode cX1_isAsleep 19 = .ok (.iconst (-1), 1) := by decide +kernel
theorem dX1_isAsleep_20 : decode cX1_isAsleep 20 = .ok (.if_icmp .ne 7, 3) := by decide +kernel
theorem dX1_isAsleep_23 : decode cX1_isAsleep 23 = .ok (.iconst 1, 1) := by decide +kernel
theorem dX1_isAsleep_24 : decode cX1_isAsleep 24 = .ok (.goto 4, 3) := by decide +kernel
theorem dX1_isAsleep_27 : decode cX1_isAsleep 27 = .ok (.iconst 0, 1) := by decide +kernel
theorem dX1_isAsleep_28 : decode cX1_isAsleep 28 = .ok (.ireturn, 1) := by decide +kernel
theorem dX1_isInDanger_0 : decode cX1_isInDanger 0 = .ok (.aload_n 0, 1) := by decide +kernel
theorem dX1_isInDanger_1 : decode cX1_isInDanger 1 = .ok (.getfield 46, 3) := by decide +kernel
theorem dX1_isInDanger_4 : decode cX1_isInDanger 4 = .ok (.iload_n 1, 1) := by decide +kernel
theorem dX1_isInDanger_5 : decode cX1_isInDanger 5 = .ok (.iaload, 1) := by decide +kernel
theorem dX1_isInDanger_6 : decode cX1_isInDanger 6 = .ok (.iconst (-1), 1) := by decide +kernel
theorem dX1_isInDanger_7 : decode cX1_isInDanger 7 = .ok (.if_icmp .eq 20, 3) := by decide +kernel
theorem dX1_isInDanger_10 : decode cX1_isInDanger 10 = .ok (.aload_n 0, 1) := by decide +kernel
theorem dX1_isInDanger_11 : decode cX1_isInDanger 11 = .ok (.getfield 46, 3) := by decide +kernel
theorem dX1_isInDanger_14 : decode cX1_isInDanger 14 = .ok (.iload_n 1, 1) := by decide +kernel
theorem dX1_isInDanger_15 : decode cX1_isInDanger 15 = .ok (.iaload, 1) := by decide +kernel
theorem dX1_isInDanger_16 : decode cX1_isInDanger 16 = .ok (.aload_n 0, 1) := by decide +kernel
theorem dX1_isInDanger_17 : decode cX1_isInDanger 17 = .ok (.getfield 56, 3) := by decide +kernel
theorem dX1_isInDanger_20 : decode cX1_isInDanger 20 = .ok (.if_icmp .gt 7, 3) := by decide +kernel
theorem dX1_isInDanger_23 : decode cX1_isInDanger 23 = .ok (.iconst 1, 1) := by decide +kernel
theorem dX1_isInDanger_24 : decode cX1_isInDanger 24 = .ok (.goto 4, 3) := by decide +kernel
theorem dX1_isInDanger_27 : decode cX1_isInDanger 27 = .ok (.iconst 0, 1) := by decide +kernel
theorem dX1_isInDanger_28 : decode cX1_isInDanger 28 = .ok (.ireturn, 1) := by decide +kernel
theorem dX1_cellsInDanger_0 : decode cX1_cellsInDanger 0 = .ok (.iconst 0, 1) := by decide +kernel
theorem dX1_cellsInDanger_1 : decode cX1_cellsInDanger 1 = .ok (.istore_n 1, 1) := by decide +kernel
theorem dX1_cellsInDanger_2 : decode cX1_cellsInDanger 2 = .ok (.iconst 0, 1) := by decide +kernel
theorem dX1_cellsInDanger_3 : decode cX1_cellsInDanger 3 = .ok (.istore_n 2, 1) := by decide +kernel
theorem dX1_cellsInDanger_4 : decode cX1_cellsInDanger 4 = .ok (.iload_n 2, 1) := by decide +kernel
theorem dX1_cellsInDanger_5 : decode cX1_cellsInDanger 5 = .ok (.bipush 16, 2) := by decide +kernel
theorem dX1_cellsInDanger_7 : decode cX1_cellsInDanger 7 = .ok (.if_icmp .ge 23, 3) := by decide +kernel
theorem dX1_cellsInDanger_10 : decode cX1_cellsInDanger 10 = .ok (.aload_n 0, 1) := by decide +kernel
theorem dX1_cellsInDanger_11 : decode cX1_cellsInDanger 11 = .ok (.iload_n 2, 1) := by decide +kernel
theorem dX1_cellsInDanger_12 : decode cX1_cellsInDanger 12 = .ok (.invokevirtual 108, 3) := by decide +kernel
theorem dX1_cellsInDanger_15 : decode cX1_cellsInDanger 15 = .ok (.ifCond .eq 9, 3) := by decide +kernel
theorem dX1_cellsInDanger_18 : decode cX1_cellsInDanger 18 = .ok (.iload_n 1, 1) := by decide +kernel
theorem dX1_cellsInDanger_19 : decode cX1_cellsInDanger 19 = .ok (.iconst 1, 1) := by decide +kernel
theorem dX1_cellsInDanger_20 : decode cX1_cellsInDanger 20 = .ok (.iload_n 2, 1) := by decide +kernel
theorem dX1_cellsInDanger_21 : decode cX1_cellsInDanger 21 = .ok (.ishl, 1) := by decide +kernel
theorem dX1_cellsInDanger_22 : decode cX1_cellsInDanger 22 = .ok (.ior, 1) := by decide +kernel
theorem dX1_cellsInDanger_23 : decode cX1_cellsInDanger 23 = .ok (.istore_n 1, 1) := by decide +kernel
theorem dX1_cellsInDanger_24 : decode cX1_cellsInDanger 24 = .ok (.iinc 2 1, 3) := by decide +kernel
theorem dX1_cellsInDanger_27 : decode cX1_cellsInDanger 27 = .ok (.goto (-23), 3) := by decide +kernel
theorem dX1_cellsInDanger_30 : decode cX1_cellsInDanger 30 = .ok (.iload_n 1, 1) := by decide +kernel
theorem dX1_cellsInDanger_31 : decode cX1_cellsInDanger 31 = .ok (.ireturn, 1) := by decide +kernel
theorem dX1_countInForce_0 : decode cX1_countInForce 0 = .ok (.iconst 0, 1) := by decide +kernel
theorem dX1_countInForce_1 : decode cX1_countInForce 1 = .ok (.istore_n 1, 1) := by decide +kernel
theorem dX1_countInForce_2 : decode cX1_countInForce 2 = .ok (.iconst 0, 1) := by decide +kernel
theorem dX1_countInForce_3 : decode cX1_countInForce 3 = .ok (.istore_n 2, 1) := by decide +kernel
theorem dX1_countInForce_4 : decode cX1_countInForce 4 = .ok (.iload_n 2, 1) := by decide +kernel
theorem dX1_countInForce_5 : decode cX1_countInForce 5 = .ok (.aload_n 0, 1) := by decide +kernel
theorem dX1_countInForce_6 : decode cX1_countInForce 6 = .ok (.getfield 68, 3) := by decide +kernel
theorem dX1_countInForce_9 : decode cX1_countInForce 9 = .ok (.if_icmp .ge 29, 3) := by decide +kernel
theorem dX1_countInForce_12 : decode cX1_countInForce 12 = .ok (.iload_n 1, 1) := by decide +kernel
theorem dX1_countInForce_13 : decode cX1_countInForce 13 = .ok (.aload_n 0, 1) := by decide +kernel
theorem dX1_countInForce_14 : decode cX1_countInForce 14 = .ok (.getfield 32, 3) := by decide +kernel
theorem dX1_countInForce_17 : decode cX1_countInForce 17 = .ok (.iload_n 2, 1) := by decide +kernel
theorem dX1_countInForce_18 : decode cX1_countInForce 18 = .ok (.aaload, 1) := by decide +kernel
theorem dX1_countInForce_19 : decode cX1_countInForce 19 = .ok (.getfield 112, 3) := by decide +kernel
theorem dX1_countInForce_22 : decode cX1_countInForce 22 = .ok (.ifCond .eq 7, 3) := by decide +kernel
theorem dX1_countInForce_25 : decode cX1_countInForce 25 = .ok (.iconst 1, 1) := by decide +kernel
theorem dX1_countInForce_26 : decode cX1_countInForce 26 = .ok (.goto 4, 3) := by decide +kernel
theorem dX1_countInForce_29 : decode cX1_countInForce 29 = .ok (.iconst 0, 1) := by decide +kernel
theorem dX1_countInForce_30 : decode cX1_countInForce 30 = .ok (.iadd, 1) := by decide +kernel
theorem dX1_countInForce_31 : decode cX1_countInForce 31 = .ok (.istore_n 1, 1) := by decide +kernel
theorem dX1_countInForce_32 : decode cX1_countInForce 32 = .ok (.iinc 2 1, 3) := by decide +kernel
theorem dX1_countInForce_35 : decode cX1_countInForce 35 = .ok (.goto (-31), 3) := by decide +kernel
theorem dX1_countInForce_38 : decode cX1_countInForce 38 = .ok (.iload_n 1, 1) := by decide +kernel
theorem dX1_countInForce_39 : decode cX1_countInForce 39 = .ok (.ireturn, 1) := by decide +kernel
theorem dX1_countAsleep_0 : decode cX1_countAsleep 0 = .ok (.iconst 0, 1) := by decide +kernel
theorem dX1_countAsleep_1 : decode cX1_countAsleep 1 = .ok (.istore_n 1, 1) := by decide +kernel
theorem dX1_countAsleep_2 : decode cX1_countAsleep 2 = .ok (.iconst 0, 1) := by decide +kernel
theorem dX1_countAsleep_3 : decode cX1_countAsleep 3 = .ok (.istore_n 2, 1) := by decide +kernel
theorem dX1_countAsleep_4 : decode cX1_countAsleep 4 = .ok (.iload_n 2, 1) := by decide +kernel
theorem dX1_countAsleep_5 : decode cX1_countAsleep 5 = .ok (.aload_n 0, 1) := by decide +kernel
theorem dX1_countAsleep_6 : decode cX1_countAsleep 6 = .ok (.getfield 62, 3) := by decide +kernel
theorem dX1_countAsleep_9 : decode cX1_countAsleep 9 = .ok (.if_icmp .ge 30, 3) := by decide +kernel
theorem dX1_countAsleep_12 : decode cX1_countAsleep 12 = .ok (.iload_n 1, 1) := by decide +kernel
theorem dX1_countAsleep_13 : decode cX1_countAsleep 13 = .ok (.aload_n 0, 1) := by decide +kernel
theorem dX1_countAsleep_14 : decode cX1_countAsleep 14 = .ok (.aload_n 0, 1) := by decide +kernel
theorem dX1_countAsleep_15 : decode cX1_countAsleep 15 = .ok (.getfield 20, 3) := by decide +kernel
theorem dX1_countAsleep_18 : decode cX1_countAsleep 18 = .ok (.iload_n 2, 1) := by decide +kernel
theorem dX1_countAsleep_19 : decode cX1_countAsleep 19 = .ok (.aaload, 1) := by decide +kernel
theorem dX1_countAsleep_20 : decode cX1_countAsleep 20 = .ok (.invokevirtual 119, 3) := by decide +kernel
theorem dX1_countAsleep_23 : decode cX1_countAsleep 23 = .ok (.ifCond .eq 7, 3) := by decide +kernel
theorem dX1_countAsleep_26 : decode cX1_countAsleep 26 = .ok (.iconst 1, 1) := by decide +kernel
theorem dX1_countAsleep_27 : decode cX1_countAsleep 27 = .ok (.goto 4, 3) := by decide +kernel
theorem dX1_countAsleep_30 : decode cX1_countAsleep 30 = .ok (.iconst 0, 1) := by decide +kernel
theorem dX1_countAsleep_31 : decode cX1_countAsleep 31 = .ok (.iadd, 1) := by decide +kernel
theorem dX1_countAsleep_32 : decode cX1_countAsleep 32 = .ok (.istore_n 1, 1) := by decide +kernel
theorem dX1_countAsleep_33 : decode cX1_countAsleep 33 = .ok (.iinc 2 1, 3) := by decide +kernel
theorem dX1_countAsleep_36 : decode cX1_countAsleep 36 = .ok (.goto (-32), 3) := by decide +kernel
theorem dX1_countAsleep_39 : decode cX1_countAsleep 39 = .ok (.iload_n 1, 1) := by decide +kernel
theorem dX1_countAsleep_40 : decode cX1_countAsleep 40 = .ok (.ireturn, 1) := by decide +kernel
theorem dX1_countBelievers_0 : decode cX1_countBelievers 0 = .ok (.iconst 0, 1) := by decide +kernel
theorem dX1_countBelievers_1 : decode cX1_countBelievers 1 = .ok (.istore_n 2, 1) := by decide +kernel
theorem dX1_countBelievers_2 : decode cX1_countBelievers 2 = .ok (.iconst 0, 1) := by decide +kernel
theorem dX1_countBelievers_3 : decode cX1_countBelievers 3 = .ok (.istore_n 3, 1) := by decide +kernel
theorem dX1_countBelievers_4 : decode cX1_countBelievers 4 = .ok (.iload_n 3, 1) := by decide +kernel
theorem dX1_countBelievers_5 : decode cX1_countBelievers 5 = .ok (.aload_n 0, 1) := by decide +kernel
theorem dX1_countBelievers_6 : decode cX1_countBelievers 6 = .ok (.getfield 62, 3) := by decide +kernel
theorem dX1_countBelievers_9 : decode cX1_countBelievers 9 = .ok (.if_icmp .ge 32, 3) := by decide +kernel
theorem dX1_countBelievers_12 : decode cX1_countBelievers 12 = .ok (.iload_n 2, 1) := by decide +kernel
theorem dX1_countBelievers_13 : decode cX1_countBelievers 13 = .ok (.aload_n 0, 1) := by decide +kernel
theorem dX1_countBelievers_14 : decode cX1_countBelievers 14 = .ok (.getfield 20, 3) := by decide +kernel
theorem dX1_countBelievers_17 : decode cX1_countBelievers 17 = .ok (.iload_n 3, 1) := by decide +kernel
theorem dX1_countBelievers_18 : decode cX1_countBelievers 18 = .ok (.aaload, 1) := by decide +kernel
theorem dX1_countBelievers_19 : decode cX1_countBelievers 19 = .ok (.getfield 116, 3) := by decide +kernel
theorem dX1_countBelievers_22 : decode cX1_countBelievers 22 = .ok (.iload_n 1, 1) := by decide +kernel
theorem dX1_countBelievers_23 : decode cX1_countBelievers 23 = .ok (.iaload, 1) := by decide +kernel
theorem dX1_countBelievers_24 : decode cX1_countBelievers 24 = .ok (.iconst (-1), 1) := by decide +kernel
theorem dX1_countBelievers_25 : decode cX1_countBelievers 25 = .ok (.if_icmp .eq 7, 3) := by decide +kernel
theorem dX1_countBelievers_28 : decode cX1_countBelievers 28 = .ok (.iconst 1, 1) := by decide +kernel
theorem dX1_countBelievers_29 : decode cX1_countBelievers 29 = .ok (.goto 4, 3) := by decide +kernel
theorem dX1_countBelievers_32 : decode cX1_countBelievers 32 = .ok (.iconst 0, 1) := by decide +kernel
theorem dX1_countBelievers_33 : decode cX1_countBelievers 33 = .ok (.iadd, 1) := by decide +kernel
theorem dX1_countBelievers_34 : decode cX1_countBelievers 34 = .ok (.istore_n 2, 1) := by decide +kernel
theorem dX1_countBelievers_35 : decode cX1_countBelievers 35 = .ok (.iinc 3 1, 3) := by decide +kernel
theorem dX1_countBelievers_38 : decode cX1_countBelievers 38 = .ok (.goto (-34), 3) := by decide +kernel
theorem dX1_countBelievers_41 : decode cX1_countBelievers 41 = .ok (.iload_n 2, 1) := by decide +kernel
theorem dX1_countBelievers_42 : decode cX1_countBelievers 42 = .ok (.ireturn, 1) := by decide +kernel
theorem dX1_peopleOfAll_0 : decode cX1_peopleOfAll 0 = .ok (.iconst 0, 1) := by decide +kernel
theorem dX1_peopleOfAll_1 : decode cX1_peopleOfAll 1 = .ok (.istore_n 1, 1) := by decide +kernel
theorem dX1_peopleOfAll_2 : decode cX1_peopleOfAll 2 = .ok (.iconst 0, 1) := by decide +kernel
theorem dX1_peopleOfAll_3 : decode cX1_peopleOfAll 3 = .ok (.istore_n 2, 1) := by decide +kernel
theorem dX1_peopleOfAll_4 : decode cX1_peopleOfAll 4 = .ok (.iload_n 2, 1) := by decide +kernel
theorem dX1_peopleOfAll_5 : decode cX1_peopleOfAll 5 = .ok (.aload_n 0, 1) := by decide +kernel
theorem dX1_peopleOfAll_6 : decode cX1_peopleOfAll 6 = .ok (.getfield 62, 3) := by decide +kernel
theorem dX1_peopleOfAll_9 : decode cX1_peopleOfAll 9 = .ok (.if_icmp .ge 21, 3) := by decide +kernel
theorem dX1_peopleOfAll_12 : decode cX1_peopleOfAll 12 = .ok (.iload_n 1, 1) := by decide +kernel
theorem dX1_peopleOfAll_13 : decode cX1_peopleOfAll 13 = .ok (.aload_n 0, 1) := by decide +kernel
theorem dX1_peopleOfAll_14 : decode cX1_peopleOfAll 14 = .ok (.getfield 20, 3) := by decide +kernel
theorem dX1_peopleOfAll_17 : decode cX1_peopleOfAll 17 = .ok (.iload_n 2, 1) := by decide +kernel
theorem dX1_peopleOfAll_18 : decode cX1_peopleOfAll 18 = .ok (.aaload, 1) := by decide +kernel
theorem dX1_peopleOfAll_19 : decode cX1_peopleOfAll 19 = .ok (.getfield 123, 3) := by decide +kernel
theorem dX1_peopleOfAll_22 : decode cX1_peopleOfAll 22 = .ok (.iadd, 1) := by decide +kernel
theorem dX1_peopleOfAll_23 : decode cX1_peopleOfAll 23 = .ok (.istore_n 1, 1) := by decide +kernel
theorem dX1_peopleOfAll_24 : decode cX1_peopleOfAll 24 = .ok (.iinc 2 1, 3) := by decide +kernel
theorem dX1_peopleOfAll_27 : decode cX1_peopleOfAll 27 = .ok (.goto (-23), 3) := by decide +kernel
theorem dX1_peopleOfAll_30 : decode cX1_peopleOfAll 30 = .ok (.iload_n 1, 1) := by decide +kernel
theorem dX1_peopleOfAll_31 : decode cX1_peopleOfAll 31 = .ok (.ireturn, 1) := by decide +kernel
theorem dX1_peopleSafe_0 : decode cX1_peopleSafe 0 = .ok (.iconst 0, 1) := by decide +kernel
theorem dX1_peopleSafe_1 : decode cX1_peopleSafe 1 = .ok (.istore_n 1, 1) := by decide +kernel
theorem dX1_peopleSafe_2 : decode cX1_peopleSafe 2 = .ok (.iconst 0, 1) := by decide +kernel
theorem dX1_peopleSafe_3 : decode cX1_peopleSafe 3 = .ok (.istore_n 2, 1) := by decide +kernel
theorem dX1_peopleSafe_4 : decode cX1_peopleSafe 4 = .ok (.iload_n 2, 1) := by decide +kernel
theorem dX1_peopleSafe_5 : decode cX1_peopleSafe 5 = .ok (.aload_n 0, 1) := by decide +kernel
theorem dX1_peopleSafe_6 : decode cX1_peopleSafe 6 = .ok (.getfield 62, 3) := by decide +kernel
theorem dX1_peopleSafe_9 : decode cX1_peopleSafe 9 = .ok (.if_icmp .ge 37, 3) := by decide +kernel
theorem dX1_peopleSafe_12 : decode cX1_peopleSafe 12 = .ok (.iload_n 1, 1) := by decide +kernel
theorem dX1_peopleSafe_13 : decode cX1_peopleSafe 13 = .ok (.aload_n 0, 1) := by decide +kernel
theorem dX1_peopleSafe_14 : decode cX1_peopleSafe 14 = .ok (.getfield 20, 3) := by decide +kernel
theorem dX1_peopleSafe_17 : decode cX1_peopleSafe 17 = .ok (.iload_n 2, 1) := by decide +kernel
theorem dX1_peopleSafe_18 : decode cX1_peopleSafe 18 = .ok (.aaload, 1) := by decide +kernel
theorem dX1_peopleSafe_19 : decode cX1_peopleSafe 19 = .ok (.invokevirtual 126, 3) := by decide +kernel
theorem dX1_peopleSafe_22 : decode cX1_peopleSafe 22 = .ok (.ifCond .eq 15, 3) := by decide +kernel
theorem dX1_peopleSafe_25 : decode cX1_peopleSafe 25 = .ok (.aload_n 0, 1) := by decide +kernel
theorem dX1_peopleSafe_26 : decode cX1_peopleSafe 26 = .ok (.getfield 20, 3) := by decide +kernel
theorem dX1_peopleSafe_29 : decode cX1_peopleSafe 29 = .ok (.iload_n 2, 1) := by decide +kernel
theorem dX1_peopleSafe_30 : decode cX1_peopleSafe 30 = .ok (.aaload, 1) := by decide +kernel
theorem dX1_peopleSafe_31 : decode cX1_peopleSafe 31 = .ok (.getfield 123, 3) := by decide +kernel
theorem dX1_peopleSafe_34 : decode cX1_peopleSafe 34 = .ok (.goto 4, 3) := by decide +kernel
theorem dX1_peopleSafe_37 : decode cX1_peopleSafe 37 = .ok (.iconst 0, 1) := by decide +kernel
theorem dX1_peopleSafe_38 : decode cX1_peopleSafe 38 = .ok (.iadd, 1) := by decide +kernel
theorem dX1_peopleSafe_39 : decode cX1_peopleSafe 39 = .ok (.istore_n 1, 1) := by decide +kernel
theorem dX1_peopleSafe_40 : decode cX1_peopleSafe 40 = .ok (.iinc 2 1, 3) := by decide +kernel
theorem dX1_peopleSafe_43 : decode cX1_peopleSafe 43 = .ok (.goto (-39), 3) := by decide +kernel
theorem dX1_peopleSafe_46 : decode cX1_peopleSafe 46 = .ok (.iload_n 1, 1) := by decide +kernel
theorem dX1_peopleSafe_47 : decode cX1_peopleSafe 47 = .ok (.ireturn, 1) := by decide +kernel
theorem dX1_peopleGone_0 : decode cX1_peopleGone 0 = .ok (.iconst 0, 1) := by decide +kernel
theorem dX1_peopleGone_1 : decode cX1_peopleGone 1 = .ok (.istore_n 1, 1) := by decide +kernel
theorem dX1_peopleGone_2 : decode cX1_peopleGone 2 = .ok (.iconst 0, 1) := by decide +kernel
theorem dX1_peopleGone_3 : decode cX1_peopleGone 3 = .ok (.istore_n 2, 1) := by decide +kernel
theorem dX1_peopleGone_4 : decode cX1_peopleGone 4 = .ok (.iload_n 2, 1) := by decide +kernel
theorem dX1_peopleGone_5 : decode cX1_peopleGone 5 = .ok (.aload_n 0, 1) := by decide +kernel
theorem dX1_peopleGone_6 : decode cX1_peopleGone 6 = .ok (.getfield 62, 3) := by decide +kernel
theorem dX1_peopleGone_9 : decode cX1_peopleGone 9 = .ok (.if_icmp .ge 37, 3) := by decide +kernel
theorem dX1_peopleGone_12 : decode cX1_peopleGone 12 = .ok (.iload_n 1, 1) := by decide +kernel
theorem dX1_peopleGone_13 : decode cX1_peopleGone 13 = .ok (.aload_n 0, 1) := by decide +kernel
theorem dX1_peopleGone_14 : decode cX1_peopleGone 14 = .ok (.getfield 20, 3) := by decide +kernel
theorem dX1_peopleGone_17 : decode cX1_peopleGone 17 = .ok (.iload_n 2, 1) := by decide +kernel
theorem dX1_peopleGone_18 : decode cX1_peopleGone 18 = .ok (.aaload, 1) := by decide +kernel
theorem dX1_peopleGone_19 : decode cX1_peopleGone 19 = .ok (.invokevirtual 97, 3) := by decide +kernel
theorem dX1_peopleGone_22 : decode cX1_peopleGone 22 = .ok (.ifCond .eq 15, 3) := by decide +kernel
theorem dX1_peopleGone_25 : decode cX1_peopleGone 25 = .ok (.aload_n 0, 1) := by decide +kernel
theorem dX1_peopleGone_26 : decode cX1_peopleGone 26 = .ok (.getfield 20, 3) := by decide +kernel
theorem dX1_peopleGone_29 : decode cX1_peopleGone 29 = .ok (.iload_n 2, 1) := by decide +kernel
theorem dX1_peopleGone_30 : decode cX1_peopleGone 30 = .ok (.aaload, 1) := by decide +kernel
theorem dX1_peopleGone_31 : decode cX1_peopleGone 31 = .ok (.getfield 123, 3) := by decide +kernel
theorem dX1_peopleGone_34 : decode cX1_peopleGone 34 = .ok (.goto 4, 3) := by decide +kernel
theorem dX1_peopleGone_37 : decode cX1_peopleGone 37 = .ok (.iconst 0, 1) := by decide +kernel
theorem dX1_peopleGone_38 : decode cX1_peopleGone 38 = .ok (.iadd, 1) := by decide +kernel
theorem dX1_peopleGone_39 : decode cX1_peopleGone 39 = .ok (.istore_n 1, 1) := by decide +kernel
theorem dX1_peopleGone_40 : decode cX1_peopleGone 40 = .ok (.iinc 2 1, 3) := by decide +kernel
theorem dX1_peopleGone_43 : decode cX1_peopleGone 43 = .ok (.goto (-39), 3) := by decide +kernel
theorem dX1_peopleGone_46 : decode cX1_peopleGone 46 = .ok (.iload_n 1, 1) := by decide +kernel
theorem dX1_peopleGone_47 : decode cX1_peopleGone 47 = .ok (.ireturn, 1) := by decide +kernel
theorem dX1_peopleIn_0 : decode cX1_peopleIn 0 = .ok (.iconst 0, 1) := by decide +kernel
theorem dX1_peopleIn_1 : decode cX1_peopleIn 1 = .ok (.istore_n 2, 1) := by decide +kernel
theorem dX1_peopleIn_2 : decode cX1_peopleIn 2 = .ok (.iconst 0, 1) := by decide +kernel
theorem dX1_peopleIn_3 : decode cX1_peopleIn 3 = .ok (.istore_n 3, 1) := by decide +kernel
theorem dX1_peopleIn_4 : decode cX1_peopleIn 4 = .ok (.iload_n 3, 1) := by decide +kernel
theorem dX1_peopleIn_5 : decode cX1_peopleIn 5 = .ok (.aload_n 0, 1) := by decide +kernel
theorem dX1_peopleIn_6 : decode cX1_peopleIn 6 = .ok (.getfield 62, 3) := by decide +kernel
theorem dX1_peopleIn_9 : decode cX1_peopleIn 9 = .ok (.if_icmp .ge 53, 3) := by decide +kernel
theorem dX1_peopleIn_12 : decode cX1_peopleIn 12 = .ok (.iload_n 2, 1) := by decide +kernel
theorem dX1_peopleIn_13 : decode cX1_peopleIn 13 = .ok (.aload_n 0, 1) := by decide +kernel
theorem dX1_peopleIn_14 : decode cX1_peopleIn 14 = .ok (.getfield 20, 3) := by decide +kernel
theorem dX1_peopleIn_17 : decode cX1_peopleIn 17 = .ok (.iload_n 3, 1) := by decide +kernel
theorem dX1_peopleIn_18 : decode cX1_peopleIn 18 = .ok (.aaload, 1) := by decide +kernel
theorem dX1_peopleIn_19 : decode cX1_peopleIn 19 = .ok (.invokevirtual 97, 3) := by decide +kernel
theorem dX1_peopleIn_22 : decode cX1_peopleIn 22 = .ok (.ifCond .ne 31, 3) := by decide +kernel
theorem dX1_peopleIn_25 : decode cX1_peopleIn 25 = .ok (.iload_n 1, 1) := by decide +kernel
theorem dX1_peopleIn_26 : decode cX1_peopleIn 26 = .ok (.aload_n 0, 1) := by decide +kernel
theorem dX1_peopleIn_27 : decode cX1_peopleIn 27 = .ok (.getfield 20, 3) := by decide +kernel
theorem dX1_peopleIn_30 : decode cX1_peopleIn 30 = .ok (.iload_n 3, 1) := by decide +kernel
theorem dX1_peopleIn_31 : decode cX1_peopleIn 31 = .ok (.aaload, 1) := by decide +kernel
theorem dX1_peopleIn_32 : decode cX1_peopleIn 32 = .ok (.getfield 129, 3) := by decide +kernel
theorem dX1_peopleIn_35 : decode cX1_peopleIn 35 = .ok (.invokestatic 130, 3) := by decide +kernel
theorem dX1_peopleIn_38 : decode cX1_peopleIn 38 = .ok (.ifCond .eq 15, 3) := by decide +kernel
theorem dX1_peopleIn_41 : decode cX1_peopleIn 41 = .ok (.aload_n 0, 1) := by decide +kernel
theorem dX1_peopleIn_42 : decode cX1_peopleIn 42 = .ok (.getfield 20, 3) := by decide +kernel
theorem dX1_peopleIn_45 : decode cX1_peopleIn 45 = .ok (.iload_n 3, 1) := by decide +kernel
theorem dX1_peopleIn_46 : decode cX1_peopleIn 46 = .ok (.aaload, 1) := by decide +kernel
theorem dX1_peopleIn_47 : decode cX1_peopleIn 47 = .ok (.getfield 123, 3) := by decide +kernel
theorem dX1_peopleIn_50 : decode cX1_peopleIn 50 = .ok (.goto 4, 3) := by decide +kernel
theorem dX1_peopleIn_53 : decode cX1_peopleIn 53 = .ok (.iconst 0, 1) := by decide +kernel
theorem dX1_peopleIn_54 : decode cX1_peopleIn 54 = .ok (.iadd, 1) := by decide +kernel
theorem dX1_peopleIn_55 : decode cX1_peopleIn 55 = .ok (.istore_n 2, 1) := by decide +kernel
theorem dX1_peopleIn_56 : decode cX1_peopleIn 56 = .ok (.iinc 3 1, 3) := by decide +kernel
theorem dX1_peopleIn_59 : decode cX1_peopleIn 59 = .ok (.goto (-55), 3) := by decide +kernel
theorem dX1_peopleIn_62 : decode cX1_peopleIn 62 = .ok (.iload_n 2, 1) := by decide +kernel
theorem dX1_peopleIn_63 : decode cX1_peopleIn 63 = .ok (.ireturn, 1) := by decide +kernel
theorem dX1_peopleBelieving_0 : decode cX1_peopleBelieving 0 = .ok (.iconst 0, 1) := by decide +kernel
theorem dX1_peopleBelieving_1 : decode cX1_peopleBelieving 1 = .ok (.istore_n 1, 1) := by decide +kernel
theorem dX1_peopleBelieving_2 : decode cX1_peopleBelieving 2 = .ok (.iconst 0, 1) := by decide +kernel
theorem dX1_peopleBelieving_3 : decode cX1_peopleBelieving 3 = .ok (.istore_n 2, 1) := by decide +kernel
theorem dX1_peopleBelieving_4 : decode cX1_peopleBelieving 4 = .ok (.iload_n 2, 1) := by decide +kernel
theorem dX1_peopleBelieving_5 : decode cX1_peopleBelieving 5 = .ok (.aload_n 0, 1) := by decide +kernel
theorem dX1_peopleBelieving_6 : decode cX1_peopleBelieving 6 = .ok (.getfield 62, 3) := by decide +kernel
theorem dX1_peopleBelieving_9 : decode cX1_peopleBelieving 9 = .ok (.if_icmp .ge 39, 3) := by decide +kernel
theorem dX1_peopleBelieving_12 : decode cX1_peopleBelieving 12 = .ok (.iload_n 1, 1) := by decide +kernel
theorem dX1_peopleBelieving_13 : decode cX1_peopleBelieving 13 = .ok (.aload_n 0, 1) := by decide +kernel
theorem dX1_peopleBelieving_14 : decode cX1_peopleBelieving 14 = .ok (.aload_n 0, 1) := by decide +kernel
theorem dX1_peopleBelieving_15 : decode cX1_peopleBelieving 15 = .ok (.getfield 20, 3) := by decide +kernel
theorem dX1_peopleBelieving_18 : decode cX1_peopleBelieving 18 = .ok (.iload_n 2, 1) := by decide +kernel
theorem dX1_peopleBelieving_19 : decode cX1_peopleBelieving 19 = .ok (.aaload, 1) := by decide +kernel
theorem dX1_peopleBelieving_20 : decode cX1_peopleBelieving 20 = .ok (.invokevirtual 104, 3) := by decide +kernel
theorem dX1_peopleBelieving_23 : decode cX1_peopleBelieving 23 = .ok (.iconst (-1), 1) := by decide +kernel
theorem dX1_peopleBelieving_24 : decode cX1_peopleBelieving 24 = .ok (.if_icmp .eq 15, 3) := by decide +kernel
theorem dX1_peopleBelieving_27 : decode cX1_peopleBelieving 27 = .ok (.aload_n 0, 1) := by decide +kernel
theorem dX1_peopleBelieving_28 : decode cX1_peopleBelieving 28 = .ok (.getfield 20, 3) := by decide +kernel
theorem dX1_peopleBelieving_31 : decode cX1_peopleBelieving 31 = .ok (.iload_n 2, 1) := by decide +kernel
theorem dX1_peopleBelieving_32 : decode cX1_peopleBelieving 32 = .ok (.aaload, 1) := by decide +kernel
theorem dX1_peopleBelieving_33 : decode cX1_peopleBelieving 33 = .ok (.getfield 123, 3) := by decide +kernel
theorem dX1_peopleBelieving_36 : decode cX1_peopleBelieving 36 = .ok (.goto 4, 3) := by decide +kernel
theorem dX1_peopleBelieving_39 : decode cX1_peopleBelieving 39 = .ok (.iconst 0, 1) := by decide +kernel
theorem dX1_peopleBelieving_40 : decode cX1_peopleBelieving 40 = .ok (.iadd, 1) := by decide +kernel
theorem dX1_peopleBelieving_41 : decode cX1_peopleBelieving 41 = .ok (.istore_n 1, 1) := by decide +kernel
theorem dX1_peopleBelieving_42 : decode cX1_peopleBelieving 42 = .ok (.iinc 2 1, 3) := by decide +kernel
theorem dX1_peopleBelieving_45 : decode cX1_peopleBelieving 45 = .ok (.goto (-41), 3) := by decide +kernel
theorem dX1_peopleBelieving_48 : decode cX1_peopleBelieving 48 = .ok (.iload_n 1, 1) := by decide +kernel
theorem dX1_peopleBelieving_49 : decode cX1_peopleBelieving 49 = .ok (.ireturn, 1) := by decide +kernel
theorem dX1_firstToCall_0 : decode cX1_firstToCall 0 = .ok (.aload_n 0, 1) := by decide +kernel
theorem dX1_firstToCall_1 : decode cX1_firstToCall 1 = .ok (.getfield 32, 3) := by decide +kernel
theorem dX1_firstToCall_4 : decode cX1_firstToCall 4 = .ok (.iload_n 1, 1) := by decide +kernel
theorem dX1_firstToCall_5 : decode cX1_firstToCall 5 = .ok (.aaload, 1) := by decide +kernel
theorem dX1_firstToCall_6 : decode cX1_firstToCall 6 = .ok (.getfield 176, 3) := by decide +kernel
theorem dX1_firstToCall_9 : decode cX1_firstToCall 9 = .ok (.istore_n 2, 1) := by decide +kernel
theorem dX1_firstToCall_10 : decode cX1_firstToCall 10 = .ok (.aload_n 0, 1) := by decide +kernel
theorem dX1_firstToCall_11 : decode cX1_firstToCall 11 = .ok (.getfield 32, 3) := by decide +kernel
theorem dX1_firstToCall_14 : decode cX1_firstToCall 14 = .ok (.iload_n 1, 1) := by decide +kernel
theorem dX1_firstToCall_15 : decode cX1_firstToCall 15 = .ok (.aaload, 1) := by decide +kernel
theorem dX1_firstToCall_16 : decode cX1_firstToCall 16 = .ok (.getfield 206, 3) := by decide +kernel
theorem dX1_firstToCall_19 : decode cX1_firstToCall 19 = .ok (.istore_n 3, 1) := by decide +kernel
theorem dX1_firstToCall_20 : decode cX1_firstToCall 20 = .ok (.iconst 0, 1) := by decide +kernel
theorem dX1_firstToCall_21 : decode cX1_firstToCall 21 = .ok (.istore 4, 2) := by decide +kernel
theorem dX1_firstToCall_23 : decode cX1_firstToCall 23 = .ok (.iload 4, 2) := by decide +kernel
theorem dX1_firstToCall_25 : decode cX1_firstToCall 25 = .ok (.aload_n 0, 1) := by decide +kernel
theorem dX1_firstToCall_26 : decode cX1_firstToCall 26 = .ok (.getfield 62, 3) := by decide +kernel
theorem dX1_firstToCall_29 : decode cX1_firstToCall 29 = .ok (.if_icmp .ge 87, 3) := by decide +kernel
theorem dX1_firstToCall_32 : decode cX1_firstToCall 32 = .ok (.aload_n 0, 1) := by decide +kernel
theorem dX1_firstToCall_33 : decode cX1_firstToCall 33 = .ok (.getfield 20, 3) := by decide +kernel
theorem dX1_firstToCall_36 : decode cX1_firstToCall 36 = .ok (.iload 4, 2) := by decide +kernel
theorem dX1_firstToCall_38 : decode cX1_firstToCall 38 = .ok (.aaload, 1) := by decide +kernel
theorem dX1_firstToCall_39 : decode cX1_firstToCall 39 = .ok (.astore 5, 2) := by decide +kernel
theorem dX1_firstToCall_41 : decode cX1_firstToCall 41 = .ok (.iload_n 2, 1) := by decide +kernel
theorem dX1_firstToCall_42 : decode cX1_firstToCall 42 = .ok (.aload 5, 2) := by decide +kernel
theorem dX1_firstToCall_44 : decode cX1_firstToCall 44 = .ok (.getfield 129, 3) := by decide +kernel
theorem dX1_firstToCall_47 : decode cX1_firstToCall 47 = .ok (.invokestatic 130, 3) := by decide +kernel
theorem dX1_firstToCall_50 : decode cX1_firstToCall 50 = .ok (.ifCond .eq 19, 3) := by decide +kernel
theorem dX1_firstToCall_53 : decode cX1_firstToCall 53 = .ok (.iload_n 3, 1) := by decide +kernel
theorem dX1_firstToCall_54 : decode cX1_firstToCall 54 = .ok (.aload 5, 2) := by decide +kernel
theorem dX1_firstToCall_56 : decode cX1_firstToCall 56 = .ok (.getfield 209, 3) := by decide +kernel
theorem dX1_firstToCall_59 : decode cX1_firstToCall 59 = .ok (.invokestatic 130, 3) := by decide +kernel
theorem dX1_firstToCall_62 : decode cX1_firstToCall 62 = .ok (.ifCond .eq 7, 3) := by decide +kernel
theorem dX1_firstToCall_65 : decode cX1_firstToCall 65 = .ok (.iconst 1, 1) := by decide +kernel
theorem dX1_firstToCall_66 : decode cX1_firstToCall 66 = .ok (.goto 4, 3) := by decide +kernel
theorem dX1_firstToCall_69 : decode cX1_firstToCall 69 = .ok (.iconst 0, 1) := by decide +kernel
theorem dX1_firstToCall_70 : decode cX1_firstToCall 70 = .ok (.istore 6, 2) := by decide +kernel
theorem dX1_firstToCall_72 : decode cX1_firstToCall 72 = .ok (.iload 6, 2) := by decide +kernel
theorem dX1_firstToCall_74 : decode cX1_firstToCall 74 = .ok (.ifCond .eq 36, 3) := by decide +kernel
theorem dX1_firstToCall_77 : decode cX1_firstToCall 77 = .ok (.aload 5, 2) := by decide +kernel
theorem dX1_firstToCall_79 : decode cX1_firstToCall 79 = .ok (.getfield 212, 3) := by decide +kernel
theorem dX1_firstToCall_82 : decode cX1_firstToCall 82 = .ok (.iload_n 1, 1) := by decide +kernel
theorem dX1_firstToCall_83 : decode cX1_firstToCall 83 = .ok (.iaload, 1) := by decide +kernel
theorem dX1_firstToCall_84 : decode cX1_firstToCall 84 = .ok (.iconst 3, 1) := by decide +kernel
theorem dX1_firstToCall_85 : decode cX1_firstToCall 85 = .ok (.invokestatic 130, 3) := by decide +kernel
theorem dX1_firstToCall_88 : decode cX1_firstToCall 88 = .ok (.ifCond .ne 22, 3) := by decide +kernel
theorem dX1_firstToCall_91 : decode cX1_firstToCall 91 = .ok (.aload 5, 2) := by decide +kernel
theorem dX1_firstToCall_93 : decode cX1_firstToCall 93 = .ok (.getfield 215, 3) := by decide +kernel
theorem dX1_firstToCall_96 : decode cX1_firstToCall 96 = .ok (.ifCond .ne 14, 3) := by decide +kernel
theorem dX1_firstToCall_99 : decode cX1_firstToCall 99 = .ok (.aload 5, 2) := by decide +kernel
theorem dX1_firstToCall_101 : decode cX1_firstToCall 101 = .ok (.invokevirtual 97, 3) := by decide +kernel
theorem dX1_firstToCall_104 : decode cX1_firstToCall 104 = .ok (.ifCond .ne 6, 3) := by decide +kernel
theorem dX1_firstToCall_107 : decode cX1_firstToCall 107 = .ok (.iload 4, 2) := by decide +kernel
theorem dX1_firstToCall_109 : decode cX1_firstToCall 109 = .ok (.ireturn, 1) := by decide +kernel
theorem dX1_firstToCall_110 : decode cX1_firstToCall 110 = .ok (.iinc 4 1, 3) := by decide +kernel
theorem dX1_firstToCall_113 : decode cX1_firstToCall 113 = .ok (.goto (-90), 3) := by decide +kernel
theorem dX1_firstToCall_116 : decode cX1_firstToCall 116 = .ok (.iconst (-1), 1) := by decide +kernel
theorem dX1_firstToCall_117 : decode cX1_firstToCall 117 = .ok (.ireturn, 1) := by decide +kernel
theorem dX1_believingNeighbour_0 : decode cX1_believingNeighbour 0 = .ok (.aload_n 0, 1) := by decide +kernel
theorem dX1_believingNeighbour_1 : decode cX1_believingNeighbour 1 = .ok (.getfield 20, 3) := by decide +kernel
theorem dX1_believingNeighbour_4 : decode cX1_believingNeighbour 4 = .ok (.iload_n 1, 1) := by decide +kernel
theorem dX1_believingNeighbour_5 : decode cX1_believingNeighbour 5 = .ok (.aaload, 1) := by decide +kernel
theorem dX1_believingNeighbour_6 : decode cX1_believingNeighbour 6 = .ok (.astore_n 3, 1) := by decide +kernel
theorem dX1_believingNeighbour_7 : decode cX1_believingNeighbour 7 = .ok (.iconst 0, 1) := by decide +kernel
theorem dX1_believingNeighbour_8 : decode cX1_believingNeighbour 8 = .ok (.istore 4, 2) := by decide +kernel
theorem dX1_believingNeighbour_10 : decode cX1_believingNeighbour 10 = .ok (.iload 4, 2) := by decide +kernel
theorem dX1_believingNeighbour_12 : decode cX1_believingNeighbour 12 = .ok (.aload_n 0, 1) := by decide +kernel
theorem dX1_believingNeighbour_13 : decode cX1_believingNeighbour 13 = .ok (.getfield 62, 3) := by decide +kernel
theorem dX1_believingNeighbour_16 : decode cX1_believingNeighbour 16 = .ok (.if_icmp .ge 86, 3) := by decide +kernel
theorem dX1_believingNeighbour_19 : decode cX1_believingNeighbour 19 = .ok (.aload_n 0, 1) := by decide +kernel
theorem dX1_believingNeighbour_20 : decode cX1_believingNeighbour 20 = .ok (.getfield 20, 3) := by decide +kernel
theorem dX1_believingNeighbour_23 : decode cX1_believingNeighbour 23 = .ok (.iload 4, 2) := by decide +kernel
theorem dX1_believingNeighbour_25 : decode cX1_believingNeighbour 25 = .ok (.aaload, 1) := by decide +kernel
theorem dX1_believingNeighbour_26 : decode cX1_believingNeighbour 26 = .ok (.astore 5, 2) := by decide +kernel
theorem dX1_believingNeighbour_28 : decode cX1_believingNeighbour 28 = .ok (.iload 4, 2) := by decide +kernel
theorem dX1_believingNeighbour_30 : decode cX1_believingNeighbour 30 = .ok (.iload_n 1, 1) := by decide +kernel
theorem dX1_believingNeighbour_31 : decode cX1_believingNeighbour 31 = .ok (.if_icmp .eq 26, 3) := by decide +kernel
theorem dX1_believingNeighbour_34 : decode cX1_believingNeighbour 34 = .ok (.aload 5, 2) := by decide +kernel
theorem dX1_believingNeighbour_36 : decode cX1_believingNeighbour 36 = .ok (.invokevirtual 97, 3) := by decide +kernel
theorem dX1_believingNeighbour_39 : decode cX1_believingNeighbour 39 = .ok (.ifCond .ne 18, 3) := by decide +kernel
theorem dX1_believingNeighbour_42 : decode cX1_believingNeighbour 42 = .ok (.aload 5, 2) := by decide +kernel
theorem dX1_believingNeighbour_44 : decode cX1_believingNeighbour 44 = .ok (.getfield 116, 3) := by decide +kernel
theorem dX1_believingNeighbour_47 : decode cX1_believingNeighbour 47 = .ok (.iload_n 2, 1) := by decide +kernel
theorem dX1_believingNeighbour_48 : decode cX1_believingNeighbour 48 = .ok (.iaload, 1) := by decide +kernel
theorem dX1_believingNeighbour_49 : decode cX1_believingNeighbour 49 = .ok (.iconst (-1), 1) := by decide +kernel
theorem dX1_believingNeighbour_50 : decode cX1_believingNeighbour 50 = .ok (.if_icmp .eq 7, 3) := by decide +kernel
theorem dX1_believingNeighbour_53 : decode cX1_believingNeighbour 53 = .ok (.iconst 1, 1) := by decide +kernel
theorem dX1_believingNeighbour_54 : decode cX1_believingNeighbour 54 = .ok (.goto 4, 3) := by decide +kernel
theorem dX1_believingNeighbour_57 : decode cX1_believingNeighbour 57 = .ok (.iconst 0, 1) := by decide +kernel
theorem dX1_believingNeighbour_58 : decode cX1_believingNeighbour 58 = .ok (.istore 6, 2) := by decide +kernel
theorem dX1_believingNeighbour_60 : decode cX1_believingNeighbour 60 = .ok (.iload 6, 2) := by decide +kernel
theorem dX1_believingNeighbour_62 : decode cX1_believingNeighbour 62 = .ok (.ifCond .eq 34, 3) := by decide +kernel
theorem dX1_believingNeighbour_65 : decode cX1_believingNeighbour 65 = .ok (.aload 5, 2) := by decide +kernel
theorem dX1_believingNeighbour_67 : decode cX1_believingNeighbour 67 = .ok (.getfield 209, 3) := by decide +kernel
theorem dX1_believingNeighbour_70 : decode cX1_believingNeighbour 70 = .ok (.aload_n 3, 1) := by decide +kernel
theorem dX1_believingNeighbour_71 : decode cX1_believingNeighbour 71 = .ok (.getfield 209, 3) := by decide +kernel
theorem dX1_believingNeighbour_74 : decode cX1_believingNeighbour 74 = .ok (.if_icmp .ne 22, 3) := by decide +kernel
theorem dX1_believingNeighbour_77 : decode cX1_believingNeighbour 77 = .ok (.aload 5, 2) := by decide +kernel
theorem dX1_believingNeighbour_79 : decode cX1_believingNeighbour 79 = .ok (.getfield 129, 3) := by decide +kernel
theorem dX1_believingNeighbour_82 : decode cX1_believingNeighbour 82 = .ok (.aload_n 3, 1) := by decide +kernel
theorem dX1_believingNeighbour_83 : decode cX1_believingNeighbour 83 = .ok (.getfield 129, 3) := by decide +kernel
theorem dX1_believingNeighbour_86 : decode cX1_believingNeighbour 86 = .ok (.invokestatic 239, 3) := by decide +kernel
theorem dX1_believingNeighbour_89 : decode cX1_believingNeighbour 89 = .ok (.iconst 1, 1) := by decide +kernel
theorem dX1_believingNeighbour_90 : decode cX1_believingNeighbour 90 = .ok (.if_icmp .gt 6, 3) := by decide +kernel
theorem dX1_believingNeighbour_93 : decode cX1_believingNeighbour 93 = .ok (.iload 4, 2) := by decide +kernel
theorem dX1_believingNeighbour_95 : decode cX1_believingNeighbour 95 = .ok (.ireturn, 1) := by decide +kernel
theorem dX1_believingNeighbour_96 : decode cX1_believingNeighbour 96 = .ok (.iinc 4 1, 3) := by decide +kernel
theorem dX1_believingNeighbour_99 : decode cX1_believingNeighbour 99 = .ok (.goto (-89), 3) := by decide +kernel
theorem dX1_believingNeighbour_102 : decode cX1_believingNeighbour 102 = .ok (.iconst (-1), 1) := by decide +kernel
theorem dX1_believingNeighbour_103 : decode cX1_believingNeighbour 103 = .ok (.ireturn, 1) := by decide +kernel
theorem dX1_nearestWithRoom_0 : decode cX1_nearestWithRoom 0 = .ok (.iconst (-1), 1) := by decide +kernel
theorem dX1_nearestWithRoom_1 : decode cX1_nearestWithRoom 1 = .ok (.istore_n 2, 1) := by decide +kernel
theorem dX1_nearestWithRoom_2 : decode cX1_nearestWithRoom 2 = .ok (.bipush 16, 2) := by decide +kernel
theorem dX1_nearestWithRoom_4 : decode cX1_nearestWithRoom 4 = .ok (.istore_n 3, 1) := by decide +kernel
theorem dX1_nearestWithRoom_5 : decode cX1_nearestWithRoom 5 = .ok (.iconst 0, 1) := by decide +kernel
theorem dX1_nearestWithRoom_6 : decode cX1_nearestWithRoom 6 = .ok (.istore 4, 2) := by decide +kernel
theorem dX1_nearestWithRoom_8 : decode cX1_nearestWithRoom 8 = .ok (.iload 4, 2) := by decide +kernel
theorem dX1_nearestWithRoom_10 : decode cX1_nearestWithRoom 10 = .ok (.aload_n 0, 1) := by decide +kernel
theorem dX1_nearestWithRoom_11 : decode cX1_nearestWithRoom 11 = .ok (.getfield 65, 3) := by decide +kernel
theorem dX1_nearestWithRoom_14 : decode cX1_nearestWithRoom 14 = .ok (.if_icmp .ge 57, 3) := by decide +kernel
theorem dX1_nearestWithRoom_17 : decode cX1_nearestWithRoom 17 = .ok (.aload_n 1, 1) := by decide +kernel
theorem dX1_nearestWithRoom_18 : decode cX1_nearestWithRoom 18 = .ok (.getfield 129, 3) := by decide +kernel
theorem dX1_nearestWithRoom_21 : decode cX1_nearestWithRoom 21 = .ok (.aload_n 0, 1) := by decide +kernel
theorem dX1_nearestWithRoom_22 : decode cX1_nearestWithRoom 22 = .ok (.getfield 26, 3) := by decide +kernel
theorem dX1_nearestWithRoom_25 : decode cX1_nearestWithRoom 25 = .ok (.iload 4, 2) := by decide +kernel
theorem dX1_nearestWithRoom_27 : decode cX1_nearestWithRoom 27 = .ok (.aaload, 1) := by decide +kernel
theorem dX1_nearestWithRoom_28 : decode cX1_nearestWithRoom 28 = .ok (.getfield 75, 3) := by decide +kernel
theorem dX1_nearestWithRoom_31 : decode cX1_nearestWithRoom 31 = .ok (.invokestatic 239, 3) := by decide +kernel
theorem dX1_nearestWithRoom_34 : decode cX1_nearestWithRoom 34 = .ok (.istore 5, 2) := by decide +kernel
theorem dX1_nearestWithRoom_36 : decode cX1_nearestWithRoom 36 = .ok (.aload_n 0, 1) := by decide +kernel
theorem dX1_nearestWithRoom_37 : decode cX1_nearestWithRoom 37 = .ok (.getfield 26, 3) := by decide +kernel
theorem dX1_nearestWithRoom_40 : decode cX1_nearestWithRoom 40 = .ok (.iload 4, 2) := by decide +kernel
theorem dX1_nearestWithRoom_42 : decode cX1_nearestWithRoom 42 = .ok (.aaload, 1) := by decide +kernel
theorem dX1_nearestWithRoom_43 : decode cX1_nearestWithRoom 43 = .ok (.getfield 78, 3) := by decide +kernel
theorem dX1_nearestWithRoom_46 : decode cX1_nearestWithRoom 46 = .ok (.aload_n 1, 1) := by decide +kernel
theorem dX1_nearestWithRoom_47 : decode cX1_nearestWithRoom 47 = .ok (.getfield 123, 3) := by decide +kernel
theorem dX1_nearestWithRoom_50 : decode cX1_nearestWithRoom 50 = .ok (.if_icmp .lt 15, 3) := by decide +kernel
theorem dX1_nearestWithRoom_53 : decode cX1_nearestWithRoom 53 = .ok (.iload 5, 2) := by decide +kernel
theorem dX1_nearestWithRoom_55 : decode cX1_nearestWithRoom 55 = .ok (.iload_n 3, 1) := by decide +kernel
theorem dX1_nearestWithRoom_56 : decode cX1_nearestWithRoom 56 = .ok (.if_icmp .ge 9, 3) := by decide +kernel
theorem dX1_nearestWithRoom_59 : decode cX1_nearestWithRoom 59 = .ok (.iload 4, 2) := by decide +kernel
theorem dX1_nearestWithRoom_61 : decode cX1_nearestWithRoom 61 = .ok (.istore_n 2, 1) := by decide +kernel
theorem dX1_nearestWithRoom_62 : decode cX1_nearestWithRoom 62 = .ok (.iload 5, 2) := by decide +kernel
theorem dX1_nearestWithRoom_64 : decode cX1_nearestWithRoom 64 = .ok (.istore_n 3, 1) := by decide +kernel
theorem dX1_nearestWithRoom_65 : decode cX1_nearestWithRoom 65 = .ok (.iinc 4 1, 3) := by decide +kernel
theorem dX1_nearestWithRoom_68 : decode cX1_nearestWithRoom 68 = .ok (.goto (-60), 3) := by decide +kernel
theorem dX1_nearestWithRoom_71 : decode cX1_nearestWithRoom 71 = .ok (.iload_n 2, 1) := by decide +kernel
theorem dX1_nearestWithRoom_72 : decode cX1_nearestWithRoom 72 = .ok (.ireturn, 1) := by decide +kernel
theorem dX2_cellsReached_0 : decode cX2_cellsReached 0 = .ok (.iconst 0, 1) := by decide +kernel
theorem dX2_cellsReached_1 : decode cX2_cellsReached 1 = .ok (.istore_n 1, 1) := by decide +kernel
theorem dX2_cellsReached_2 : decode cX2_cellsReached 2 = .ok (.iconst 0, 1) := by decide +kernel
theorem dX2_cellsReached_3 : decode cX2_cellsReached 3 = .ok (.istore_n 2, 1) := by decide +kernel
theorem dX2_cellsReached_4 : decode cX2_cellsReached 4 = .ok (.iload_n 2, 1) := by decide +kernel
theorem dX2_cellsReached_5 : decode cX2_cellsReached 5 = .ok (.aload_n 0, 1) := by decide +kernel
theorem dX2_cellsReached_6 : decode cX2_cellsReached 6 = .ok (.getfield 22, 3) := by decide +kernel
theorem dX2_cellsReached_9 : decode cX2_cellsReached 9 = .ok (.if_icmp .ge 57, 3) := by decide +kernel
theorem dX2_cellsReached_12 : decode cX2_cellsReached 12 = .ok (.iconst 0, 1) := by decide +kernel
theorem dX2_cellsReached_13 : decode cX2_cellsReached 13 = .ok (.istore_n 3, 1) := by decide +kernel
theorem dX2_cellsReached_14 : decode cX2_cellsReached 14 = .ok (.aload_n 0, 1) := by decide +kernel
theorem dX2_cellsReached_15 : decode cX2_cellsReached 15 = .ok (.getfield 18, 3) := by decide +kernel
theorem dX2_cellsReached_18 : decode cX2_cellsReached 18 = .ok (.iload_n 2, 1) := by decide +kernel
theorem dX2_cellsReached_19 : decode cX2_cellsReached 19 = .ok (.baload, 1) := by decide +kernel
theorem dX2_cellsReached_20 : decode cX2_cellsReached 20 = .ok (.ifCond .eq 40, 3) := by decide +kernel
theorem dX2_cellsReached_23 : decode cX2_cellsReached 23 = .ok (.iload_n 3, 1) := by decide +kernel
theorem dX2_cellsReached_24 : decode cX2_cellsReached 24 = .ok (.bipush 16, 2) := by decide +kernel
theorem dX2_cellsReached_26 : decode cX2_cellsReached 26 = .ok (.if_icmp .ge 34, 3) := by decide +kernel
theorem dX2_cellsReached_29 : decode cX2_cellsReached 29 = .ok (.aload_n 0, 1) := by decide +kernel
theorem dX2_cellsReached_30 : decode cX2_cellsReached 30 = .ok (.getfield 9, 3) := by decide +kernel
theorem dX2_cellsReached_33 : decode cX2_cellsReached 33 = .ok (.iload_n 2, 1) := by decide +kernel
theorem dX2_cellsReached_34 : decode cX2_cellsReached 34 = .ok (.iaload, 1) := by decide +kernel
theorem dX2_cellsReached_35 : decode cX2_cellsReached 35 = .ok (.iload_n 3, 1) := by decide +kernel
theorem dX2_cellsReached_36 : decode cX2_cellsReached 36 = .ok (.invokestatic 26, 3) := by decide +kernel
theorem dX2_cellsReached_39 : decode cX2_cellsReached 39 = .ok (.aload_n 0, 1) := by decide +kernel
theorem dX2_cellsReached_40 : decode cX2_cellsReached 40 = .ok (.getfield 15, 3) := by decide +kernel
theorem dX2_cellsReached_43 : decode cX2_cellsReached 43 = .ok (.iload_n 2, 1) := by decide +kernel
theorem dX2_cellsReached_44 : decode cX2_cellsReached 44 = .ok (.iaload, 1) := by decide +kernel
theorem dX2_cellsReached_45 : decode cX2_cellsReached 45 = .ok (.if_icmp .gt 9, 3) := by decide +kernel
theorem dX2_cellsReached_48 : decode cX2_cellsReached 48 = .ok (.iload_n 1, 1) := by decide +kernel
theorem dX2_cellsReached_49 : decode cX2_cellsReached 49 = .ok (.iconst 1, 1) := by decide +kernel
theorem dX2_cellsReached_50 : decode cX2_cellsReached 50 = .ok (.iload_n 3, 1) := by decide +kernel
theorem dX2_cellsReached_51 : decode cX2_cellsReached 51 = .ok (.ishl, 1) := by decide +kernel
theorem dX2_cellsReached_52 : decode cX2_cellsReached 52 = .ok (.ior, 1) := by decide +kernel
theorem dX2_cellsReached_53 : decode cX2_cellsReached 53 = .ok (.istore_n 1, 1) := by decide +kernel
theorem dX2_cellsReached_54 : decode cX2_cellsReached 54 = .ok (.iinc 3 1, 3) := by decide +kernel
theorem dX2_cellsReached_57 : decode cX2_cellsReached 57 = .ok (.goto (-43), 3) := by decide +kernel
theorem dX2_cellsReached_60 : decode cX2_cellsReached 60 = .ok (.iinc 2 1, 3) := by decide +kernel
theorem dX2_cellsReached_63 : decode cX2_cellsReached 63 = .ok (.goto (-59), 3) := by decide +kernel
theorem dX2_cellsReached_66 : decode cX2_cellsReached 66 = .ok (.iload_n 1, 1) := by decide +kernel
theorem dX2_cellsReached_67 : decode cX2_cellsReached 67 = .ok (.ireturn, 1) := by decide +kernel
theorem dX1_publicWays_0 : decode cX1_publicWays 0 = .ok (.aload_n 2, 1) := by decide +kernel
theorem dX1_publicWays_1 : decode cX1_publicWays 1 = .ok (.getfield 176, 3) := by decide +kernel
theorem dX1_publicWays_4 : decode cX1_publicWays 4 = .ok (.aload_n 1, 1) := by decide +kernel
theorem dX1_publicWays_5 : decode cX1_publicWays 5 = .ok (.getfield 129, 3) := by decide +kernel
theorem dX1_publicWays_8 : decode cX1_publicWays 8 = .ok (.invokestatic 130, 3) := by decide +kernel
theorem dX1_publicWays_11 : decode cX1_publicWays 11 = .ok (.ifCond .ne 5, 3) := by decide +kernel
theorem dX1_publicWays_14 : decode cX1_publicWays 14 = .ok (.iconst 0, 1) := by decide +kernel
theorem dX1_publicWays_15 : decode cX1_publicWays 15 = .ok (.ireturn, 1) := by decide +kernel
theorem dX1_publicWays_16 : decode cX1_publicWays 16 = .ok (.iload_n 3, 1) := by decide +kernel
theorem dX1_publicWays_17 : decode cX1_publicWays 17 = .ok (.ifCond .eq 7, 3) := by decide +kernel
theorem dX1_publicWays_20 : decode cX1_publicWays 20 = .ok (.iconst 1, 1) := by decide +kernel
theorem dX1_publicWays_21 : decode cX1_publicWays 21 = .ok (.goto 4, 3) := by decide +kernel
theorem dX1_publicWays_24 : decode cX1_publicWays 24 = .ok (.iconst 0, 1) := by decide +kernel
theorem dX1_publicWays_25 : decode cX1_publicWays 25 = .ok (.istore 6, 2) := by decide +kernel
theorem dX1_publicWays_27 : decode cX1_publicWays 27 = .ok (.aload_n 2, 1) := by decide +kernel
theorem dX1_publicWays_28 : decode cX1_publicWays 28 = .ok (.getfield 206, 3) := by decide +kernel
theorem dX1_publicWays_31 : decode cX1_publicWays 31 = .ok (.aload_n 1, 1) := by decide +kernel
theorem dX1_publicWays_32 : decode cX1_publicWays 32 = .ok (.getfield 209, 3) := by decide +kernel
theorem dX1_publicWays_35 : decode cX1_publicWays 35 = .ok (.invokestatic 130, 3) := by decide +kernel
theorem dX1_publicWays_38 : decode cX1_publicWays 38 = .ok (.ifCond .ne 6, 3) := by decide +kernel
theorem dX1_publicWays_41 : decode cX1_publicWays 41 = .ok (.iload 6, 2) := by decide +kernel
theorem dX1_publicWays_43 : decode cX1_publicWays 43 = .ok (.ireturn, 1) := by decide +kernel
theorem dX1_publicWays_44 : decode cX1_publicWays 44 = .ok (.iload 4, 2) := by decide +kernel
theorem dX1_publicWays_46 : decode cX1_publicWays 46 = .ok (.ifCond .eq 27, 3) := by decide +kernel
theorem dX1_publicWays_49 : decode cX1_publicWays 49 = .ok (.iload 5, 2) := by decide +kernel
theorem dX1_publicWays_51 : decode cX1_publicWays 51 = .ok (.ifCond .eq 16, 3) := by decide +kernel
theorem dX1_publicWays_54 : decode cX1_publicWays 54 = .ok (.aload_n 0, 1) := by decide +kernel
theorem dX1_publicWays_55 : decode cX1_publicWays 55 = .ok (.getfield 56, 3) := by decide +kernel
theorem dX1_publicWays_58 : decode cX1_publicWays 58 = .ok (.aload_n 2, 1) := by decide +kernel
theorem dX1_publicWays_59 : decode cX1_publicWays 59 = .ok (.getfield 149, 3) := by decide +kernel
theorem dX1_publicWays_62 : decode cX1_publicWays 62 = .ok (.isub, 1) := by decide +kernel
theorem dX1_publicWays_63 : decode cX1_publicWays 63 = .ok (.iconst 2, 1) := by decide +kernel
theorem dX1_publicWays_64 : decode cX1_publicWays 64 = .ok (.if_icmp .lt 9, 3) := by decide +kernel
theorem dX1_publicWays_67 : decode cX1_publicWays 67 = .ok (.iload 6, 2) := by decide +kernel
theorem dX1_publicWays_69 : decode cX1_publicWays 69 = .ok (.iconst 2, 1) := by decide +kernel
theorem dX1_publicWays_70 : decode cX1_publicWays 70 = .ok (.ior, 1) := by decide +kernel
theorem dX1_publicWays_71 : decode cX1_publicWays 71 = .ok (.istore 6, 2) := by decide +kernel
theorem dX1_publicWays_73 : decode cX1_publicWays 73 = .ok (.aload_n 1, 1) := by decide +kernel
theorem dX1_publicWays_74 : decode cX1_publicWays 74 = .ok (.getfield 229, 3) := by decide +kernel
theorem dX1_publicWays_77 : decode cX1_publicWays 77 = .ok (.ifCond .eq 15, 3) := by decide +kernel
theorem dX1_publicWays_80 : decode cX1_publicWays 80 = .ok (.iload 5, 2) := by decide +kernel
theorem dX1_publicWays_82 : decode cX1_publicWays 82 = .ok (.ifCond .ne 10, 3) := by decide +kernel
theorem dX1_publicWays_85 : decode cX1_publicWays 85 = .ok (.iload 6, 2) := by decide +kernel
theorem dX1_publicWays_87 : decode cX1_publicWays 87 = .ok (.iconst 4, 1) := by decide +kernel
theorem dX1_publicWays_88 : decode cX1_publicWays 88 = .ok (.ior, 1) := by decide +kernel
theorem dX1_publicWays_89 : decode cX1_publicWays 89 = .ok (.goto 5, 3) := by decide +kernel
theorem dX1_publicWays_92 : decode cX1_publicWays 92 = .ok (.iload 6, 2) := by decide +kernel
theorem dX1_publicWays_94 : decode cX1_publicWays 94 = .ok (.ireturn, 1) := by decide +kernel
theorem dX1_harmAll_0 : decode cX1_harmAll 0 = .ok (.iconst 0, 1) := by decide +kernel
theorem dX1_harmAll_1 : decode cX1_harmAll 1 = .ok (.istore_n 1, 1) := by decide +kernel
theorem dX1_harmAll_2 : decode cX1_harmAll 2 = .ok (.iload_n 1, 1) := by decide +kernel
theorem dX1_harmAll_3 : decode cX1_harmAll 3 = .ok (.aload_n 0, 1) := by decide +kernel
theorem dX1_harmAll_4 : decode cX1_harmAll 4 = .ok (.getfield 62, 3) := by decide +kernel
theorem dX1_harmAll_7 : decode cX1_harmAll 7 = .ok (.if_icmp .ge 51, 3) := by decide +kernel
theorem dX1_harmAll_10 : decode cX1_harmAll 10 = .ok (.aload_n 0, 1) := by decide +kernel
theorem dX1_harmAll_11 : decode cX1_harmAll 11 = .ok (.getfield 20, 3) := by decide +kernel
theorem dX1_harmAll_14 : decode cX1_harmAll 14 = .ok (.iload_n 1, 1) := by decide +kernel
theorem dX1_harmAll_15 : decode cX1_harmAll 15 = .ok (.aaload, 1) := by decide +kernel
theorem dX1_harmAll_16 : decode cX1_harmAll 16 = .ok (.astore_n 2, 1) := by decide +kernel
theorem dX1_harmAll_17 : decode cX1_harmAll 17 = .ok (.aload_n 2, 1) := by decide +kernel
theorem dX1_harmAll_18 : decode cX1_harmAll 18 = .ok (.invokevirtual 97, 3) := by decide +kernel
theorem dX1_harmAll_21 : decode cX1_harmAll 21 = .ok (.ifCond .ne 31, 3) := by decide +kernel
theorem dX1_harmAll_24 : decode cX1_harmAll 24 = .ok (.aload_n 2, 1) := by decide +kernel
theorem dX1_harmAll_25 : decode cX1_harmAll 25 = .ok (.invokevirtual 126, 3) := by decide +kernel
theorem dX1_harmAll_28 : decode cX1_harmAll 28 = .ok (.ifCond .ne 24, 3) := by decide +kernel
theorem dX1_harmAll_31 : decode cX1_harmAll 31 = .ok (.aload_n 0, 1) := by decide +kernel
theorem dX1_harmAll_32 : decode cX1_harmAll 32 = .ok (.aload_n 2, 1) := by decide +kernel
theorem dX1_harmAll_33 : decode cX1_harmAll 33 = .ok (.getfield 129, 3) := by decide +kernel
theorem dX1_harmAll_36 : decode cX1_harmAll 36 = .ok (.invokevirtual 108, 3) := by decide +kernel
theorem dX1_harmAll_39 : decode cX1_harmAll 39 = .ok (.ifCond .eq 13, 3) := by decide +kernel
theorem dX1_harmAll_42 : decode cX1_harmAll 42 = .ok (.aload_n 2, 1) := by decide +kernel
theorem dX1_harmAll_43 : decode cX1_harmAll 43 = .ok (.dup, 1) := by decide +kernel
theorem dX1_harmAll_44 : decode cX1_harmAll 44 = .ok (.getfield 260, 3) := by decide +kernel
theorem dX1_harmAll_47 : decode cX1_harmAll 47 = .ok (.iconst 1, 1) := by decide +kernel
theorem dX1_harmAll_48 : decode cX1_harmAll 48 = .ok (.iadd, 1) := by decide +kernel
theorem dX1_harmAll_49 : decode cX1_harmAll 49 = .ok (.putfield 260, 3) := by decide +kernel
theorem dX1_harmAll_52 : decode cX1_harmAll 52 = .ok (.iinc 1 1, 3) := by decide +kernel
theorem dX1_harmAll_55 : decode cX1_harmAll 55 = .ok (.goto (-53), 3) := by decide +kernel
theorem dX1_harmAll_58 : decode cX1_harmAll 58 = .ok (.return_, 1) := by decide +kernel
theorem dX0_noteWays_0 : decode cX0_noteWays 0 = .ok (.aload_n 0, 1) := by decide +kernel
theorem dX0_noteWays_1 : decode cX0_noteWays 1 = .ok (.getfield 18, 3) := by decide +kernel
theorem dX0_noteWays_4 : decode cX0_noteWays 4 = .ok (.iload_n 1, 1) := by decide +kernel
theorem dX0_noteWays_5 : decode cX0_noteWays 5 = .ok (.iaload, 1) := by decide +kernel
theorem dX0_noteWays_6 : decode cX0_noteWays 6 = .ok (.ifCond .ne 79, 3) := by decide +kernel
theorem dX0_noteWays_9 : decode cX0_noteWays 9 = .ok (.iload_n 2, 1) := by decide +kernel
theorem dX0_noteWays_10 : decode cX0_noteWays 10 = .ok (.ifCond .eq 75, 3) := by decide +kernel
theorem dX0_noteWays_13 : decode cX0_noteWays 13 = .ok (.aload_n 0, 1) := by decide +kernel
theorem dX0_noteWays_14 : decode cX0_noteWays 14 = .ok (.getfield 22, 3) := by decide +kernel
theorem dX0_noteWays_17 : decode cX0_noteWays 17 = .ok (.iload_n 1, 1) := by decide +kernel
theorem dX0_noteWays_18 : decode cX0_noteWays 18 = .ok (.iload 4, 2) := by decide +kernel
theorem dX0_noteWays_20 : decode cX0_noteWays 20 = .ok (.iastore, 1) := by decide +kernel
theorem dX0_noteWays_21 : decode cX0_noteWays 21 = .ok (.aload_n 0, 1) := by decide +kernel
theorem dX0_noteWays_22 : decode cX0_noteWays 22 = .ok (.getfield 25, 3) := by decide +kernel
theorem dX0_noteWays_25 : decode cX0_noteWays 25 = .ok (.iload_n 1, 1) := by decide +kernel
theorem dX0_noteWays_26 : decode cX0_noteWays 26 = .ok (.iconst 0, 1) := by decide +kernel
theorem dX0_noteWays_27 : decode cX0_noteWays 27 = .ok (.iastore, 1) := by decide +kernel
theorem dX0_noteWays_28 : decode cX0_noteWays 28 = .ok (.aload_n 0, 1) := by decide +kernel
theorem dX0_noteWays_29 : decode cX0_noteWays 29 = .ok (.getfield 25, 3) := by decide +kernel
theorem dX0_noteWays_32 : decode cX0_noteWays 32 = .ok (.iload_n 1, 1) := by decide +kernel
theorem dX0_noteWays_33 : decode cX0_noteWays 33 = .ok (.iaload, 1) := by decide +kernel
theorem dX0_noteWays_34 : decode cX0_noteWays 34 = .ok (.iconst 4, 1) := by decide +kernel
theorem dX0_noteWays_35 : decode cX0_noteWays 35 = .ok (.if_icmp .ge 29, 3) := by decide +kernel
theorem dX0_noteWays_38 : decode cX0_noteWays 38 = .ok (.iload_n 2, 1) := by decide +kernel
theorem dX0_noteWays_39 : decode cX0_noteWays 39 = .ok (.aload_n 0, 1) := by decide +kernel
theorem dX0_noteWays_40 : decode cX0_noteWays 40 = .ok (.getfield 25, 3) := by decide +kernel
theorem dX0_noteWays_43 : decode cX0_noteWays 43 = .ok (.iload_n 1, 1) := by decide +kernel
theorem dX0_noteWays_44 : decode cX0_noteWays 44 = .ok (.iaload, 1) := by decide +kernel
theorem dX0_noteWays_45 : decode cX0_noteWays 45 = .ok (.invokestatic 65, 3) := by decide +kernel
theorem dX0_noteWays_48 : decode cX0_noteWays 48 = .ok (.ifCond .ne 16, 3) := by decide +kernel
theorem dX0_noteWays_51 : decode cX0_noteWays 51 = .ok (.aload_n 0, 1) := by decide +kernel
theorem dX0_noteWays_52 : decode cX0_noteWays 52 = .ok (.getfield 25, 3) := by decide +kernel
theorem dX0_noteWays_55 : decode cX0_noteWays 55 = .ok (.iload_n 1, 1) := by decide +kernel
theorem dX0_noteWays_56 : decode cX0_noteWays 56 = .ok (.dup2, 1) := by decide +kernel
theorem dX0_noteWays_57 : decode cX0_noteWays 57 = .ok (.iaload, 1) := by decide +kernel
theorem dX0_noteWays_58 : decode cX0_noteWays 58 = .ok (.iconst 1, 1) := by decide +kernel
theorem dX0_noteWays_59 : decode cX0_noteWays 59 = .ok (.iadd, 1) := by decide +kernel
theorem dX0_noteWays_60 : decode cX0_noteWays 60 = .ok (.iastore, 1) := by decide +kernel
theorem dX0_noteWays_61 : decode cX0_noteWays 61 = .ok (.goto (-33), 3) := by decide +kernel
theorem dX0_noteWays_64 : decode cX0_noteWays 64 = .ok (.aload_n 0, 1) := by decide +kernel
theorem dX0_noteWays_65 : decode cX0_noteWays 65 = .ok (.getfield 28, 3) := by decide +kernel
theorem dX0_noteWays_68 : decode cX0_noteWays 68 = .ok (.iload_n 1, 1) := by decide +kernel
theorem dX0_noteWays_69 : decode cX0_noteWays 69 = .ok (.aload_n 0, 1) := by decide +kernel
theorem dX0_noteWays_70 : decode cX0_noteWays 70 = .ok (.getfield 25, 3) := by decide +kernel
theorem dX0_noteWays_73 : decode cX0_noteWays 73 = .ok (.iload_n 1, 1) := by decide +kernel
theorem dX0_noteWays_74 : decode cX0_noteWays 74 = .ok (.iaload, 1) := by decide +kernel
theorem dX0_noteWays_75 : decode cX0_noteWays 75 = .ok (.iconst 4, 1) := by decide +kernel
theorem dX0_noteWays_76 : decode cX0_noteWays 76 = .ok (.if_icmp .ne 7, 3) := by decide +kernel
theorem dX0_noteWays_79 : decode cX0_noteWays 79 = .ok (.iload_n 3, 1) := by decide +kernel
theorem dX0_noteWays_80 : decode cX0_noteWays 80 = .ok (.goto 4, 3) := by decide +kernel
theorem dX0_noteWays_83 : decode cX0_noteWays 83 = .ok (.iconst (-1), 1) := by decide +kernel
theorem dX0_noteWays_84 : decode cX0_noteWays 84 = .ok (.iastore, 1) := by decide +kernel
theorem dX0_noteWays_85 : decode cX0_noteWays 85 = .ok (.aload_n 0, 1) := by decide +kernel
theorem dX0_noteWays_86 : decode cX0_noteWays 86 = .ok (.getfield 18, 3) := by decide +kernel
theorem dX0_noteWays_89 : decode cX0_noteWays 89 = .ok (.iload_n 1, 1) := by decide +kernel
theorem dX0_noteWays_90 : decode cX0_noteWays 90 = .ok (.dup2, 1) := by decide +kernel
theorem dX0_noteWays_91 : decode cX0_noteWays 91 = .ok (.iaload, 1) := by decide +kernel
theorem dX0_noteWays_92 : decode cX0_noteWays 92 = .ok (.iload_n 2, 1) := by decide +kernel
theorem dX0_noteWays_93 : decode cX0_noteWays 93 = .ok (.ior, 1) := by decide +kernel
theorem dX0_noteWays_94 : decode cX0_noteWays 94 = .ok (.iastore, 1) := by decide +kernel
theorem dX0_noteWays_95 : decode cX0_noteWays 95 = .ok (.return_, 1) := by decide +kernel
