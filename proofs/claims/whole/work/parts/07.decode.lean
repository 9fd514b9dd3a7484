/-! what stands at each place of the methods' code (laid by program) -/
theorem dX5_isIn_0 : decode cX5_isIn 0 = .ok (.iload_n 0, 1) := by decide +kernel
theorem dX5_isIn_1 : decode cX5_isIn 1 = .ok (.iload_n 1, 1) := by decide +kernel
theorem dX5_isIn_2 : decode cX5_isIn 2 = .ok (.ishr, 1) := by decide +kernel
theorem dX5_isIn_3 : decode cX5_isIn 3 = .ok (.iconst 1, 1) := by decide +kernel
theorem dX5_isIn_4 : decode cX5_isIn 4 = .ok (.iand, 1) := by decide +kernel
theorem dX5_isIn_5 : decode cX5_isIn 5 = .ok (.iconst 1, 1) := by decide +kernel
theorem dX5_isIn_6 : decode cX5_isIn 6 = .ok (.if_icmp .ne 7, 3) := by decide +kernel
theorem dX5_isIn_9 : decode cX5_isIn 9 = .ok (.iconst 1, 1) := by decide +kernel
theorem dX5_isIn_10 : decode cX5_isIn 10 = .ok (.goto 4, 3) := by decide +kernel
theorem dX5_isIn_13 : decode cX5_isIn 13 = .ok (.iconst 0, 1) := by decide +kernel
theorem dX5_isIn_14 : decode cX5_isIn 14 = .ok (.ireturn, 1) := by decide +kernel
theorem dX5_distance_0 : decode cX5_distance 0 = .ok (.iload_n 0, 1) := by decide +kernel
theorem dX5_distance_1 : decode cX5_distance 1 = .ok (.iconst 4, 1) := by decide +kernel
theorem dX5_distance_2 : decode cX5_distance 2 = .ok (.idiv, 1) := by decide +kernel
theorem dX5_distance_3 : decode cX5_distance 3 = .ok (.iload_n 1, 1) := by decide +kernel
theorem dX5_distance_4 : decode cX5_distance 4 = .ok (.iconst 4, 1) := by decide +kernel
theorem dX5_distance_5 : decode cX5_distance 5 = .ok (.idiv, 1) := by decide +kernel
theorem dX5_distance_6 : decode cX5_distance 6 = .ok (.isub, 1) := by decide +kernel
theorem dX5_distance_7 : decode cX5_distance 7 = .ok (.invokestatic 344, 3) := by decide +kernel
theorem dX5_distance_10 : decode cX5_distance 10 = .ok (.iload_n 0, 1) := by decide +kernel
theorem dX5_distance_11 : decode cX5_distance 11 = .ok (.iconst 4, 1) := by decide +kernel
theorem dX5_distance_12 : decode cX5_distance 12 = .ok (.irem, 1) := by decide +kernel
theorem dX5_distance_13 : decode cX5_distance 13 = .ok (.iload_n 1, 1) := by decide +kernel
theorem dX5_distance_14 : decode cX5_distance 14 = .ok (.iconst 4, 1) := by decide +kernel
theorem dX5_distance_15 : decode cX5_distance 15 = .ok (.irem, 1) := by decide +kernel
theorem dX5_distance_16 : decode cX5_distance 16 = .ok (.isub, 1) := by decide +kernel
theorem dX5_distance_17 : decode cX5_distance 17 = .ok (.invokestatic 344, 3) := by decide +kernel
theorem dX5_distance_20 : decode cX5_distance 20 = .ok (.iadd, 1) := by decide +kernel
theorem dX5_distance_21 : decode cX5_distance 21 = .ok (.ireturn, 1) := by decide +kernel
theorem dX5_stepTowards_0 : decode cX5_stepTowards 0 = .ok (.iload_n 0, 1) := by decide +kernel
theorem dX5_stepTowards_1 : decode cX5_stepTowards 1 = .ok (.iconst 4, 1) := by decide +kernel
theorem dX5_stepTowards_2 : decode cX5_stepTowards 2 = .ok (.idiv, 1) := by decide +kernel
theorem dX5_stepTowards_3 : decode cX5_stepTowards 3 = .ok (.iload_n 1, 1) := by decide +kernel
theorem dX5_stepTowards_4 : decode cX5_stepTowards 4 = .ok (.iconst 4, 1) := by decide +kernel
theorem dX5_stepTowards_5 : decode cX5_stepTowards 5 = .ok (.idiv, 1) := by decide +kernel
theorem dX5_stepTowards_6 : decode cX5_stepTowards 6 = .ok (.if_icmp .eq 18, 3) := by decide +kernel
theorem dX5_stepTowards_9 : decode cX5_stepTowards 9 = .ok (.iload_n 1, 1) := by decide +kernel
theorem dX5_stepTowards_10 : decode cX5_stepTowards 10 = .ok (.iload_n 0, 1) := by decide +kernel
theorem dX5_stepTowards_11 : decode cX5_stepTowards 11 = .ok (.if_icmp .le 9, 3) := by decide +kernel
theorem dX5_stepTowards_14 : decode cX5_stepTowards 14 = .ok (.iload_n 0, 1) := by decide +kernel
theorem dX5_stepTowards_15 : decode cX5_stepTowards 15 = .ok (.iconst 4, 1) := by decide +kernel
theorem dX5_stepTowards_16 : decode cX5_stepTowards 16 = .ok (.iadd, 1) := by decide +kernel
theorem dX5_stepTowards_17 : decode cX5_stepTowards 17 = .ok (.goto 6, 3) := by decide +kernel
theorem dX5_stepTowards_20 : decode cX5_stepTowards 20 = .ok (.iload_n 0, 1) := by decide +kernel
theorem dX5_stepTowards_21 : decode cX5_stepTowards 21 = .ok (.iconst 4, 1) := by decide +kernel
theorem dX5_stepTowards_22 : decode cX5_stepTowards 22 = .ok (.isub, 1) := by decide +kernel
theorem dX5_stepTowards_23 : decode cX5_stepTowards 23 = .ok (.ireturn, 1) := by decide +kernel
theorem dX5_stepTowards_24 : decode cX5_stepTowards 24 = .ok (.iload_n 0, 1) := by decide +kernel
theorem dX5_stepTowards_25 : decode cX5_stepTowards 25 = .ok (.iload_n 1, 1) := by decide +kernel
theorem dX5_stepTowards_26 : decode cX5_stepTowards 26 = .ok (.if_icmp .eq 18, 3) := by decide +kernel
theorem dX5_stepTowards_29 : decode cX5_stepTowards 29 = .ok (.iload_n 1, 1) := by decide +kernel
theorem dX5_stepTowards_30 : decode cX5_stepTowards 30 = .ok (.iload_n 0, 1) := by decide +kernel
theorem dX5_stepTowards_31 : decode cX5_stepTowards 31 = .ok (.if_icmp .le 9, 3) := by decide +kernel
theorem dX5_stepTowards_34 : decode cX5_stepTowards 34 = .ok (.iload_n 0, 1) := by decide +kernel
theorem dX5_stepTowards_35 : decode cX5_stepTowards 35 = .ok (.iconst 1, 1) := by decide +kernel
theorem dX5_stepTowards_36 : decode cX5_stepTowards 36 = .ok (.iadd, 1) := by decide +kernel
theorem dX5_stepTowards_37 : decode cX5_stepTowards 37 = .ok (.goto 6, 3) := by decide +kernel
theorem dX5_stepTowards_40 : decode cX5_stepTowards 40 = .ok (.iload_n 0, 1) := by decide +kernel
theorem dX5_stepTowards_41 : decode cX5_stepTowards 41 = .ok (.iconst 1, 1) := by decide +kernel
theorem dX5_stepTowards_42 : decode cX5_stepTowards 42 = .ok (.isub, 1) := by decide +kernel
theorem dX5_stepTowards_43 : decode cX5_stepTowards 43 = .ok (.ireturn, 1) := by decide +kernel
theorem dX5_stepTowards_44 : decode cX5_stepTowards 44 = .ok (.iload_n 0, 1) := by decide +kernel
theorem dX5_stepTowards_45 : decode cX5_stepTowards 45 = .ok (.ireturn, 1) := by decide +kernel
