-- words of the tables, and what stands at each place of the methods' code (laid by program)
theorem q_53 : Cond.fieldLink RX1 176 (TX4 2).1 (TX4 2).2.1 (TX4 2).2.2.1 ∈ ww_tb := by decide +kernel
theorem q_54 : Cond.fieldLink RX1 206 (TX4 4).1 (TX4 4).2.1 (TX4 4).2.2.1 ∈ ww_tb := by decide +kernel
theorem q_55 : Cond.fieldLink RX1 209 (TX0 2).1 (TX0 2).2.1 (TX0 2).2.2.1 ∈ ww_tb := by decide +kernel
theorem q_56 : Cond.fieldLink RX1 212 (TX0 8).1 (TX0 8).2.1 (TX0 8).2.2.1 ∈ ww_tb := by decide +kernel
theorem q_57 : Cond.fieldLink RX1 215 (TX0 4).1 (TX0 4).2.1 (TX0 4).2.2.1 ∈ ww_tb := by decide +kernel
theorem q_58 : Cond.code yX5_distance cX5_distance 2 (some .int) ∈ ww_tb := by decide +kernel
theorem q_59 : Cond.static yX5_distance ∈ ww_tb := by decide +kernel
theorem q_60 : Cond.fieldLink RX1 65 (TX1 5).1 (TX1 5).2.1 (TX1 5).2.2.1 ∈ ww_tb := by decide +kernel
theorem q_61 : Cond.fieldLink RX1 26 (TX1 8).1 (TX1 8).2.1 (TX1 8).2.2.1 ∈ ww_tb := by decide +kernel
theorem q_62 : Cond.fieldLink RX1 75 (TX3 0).1 (TX3 0).2.1 (TX3 0).2.2.1 ∈ ww_tb := by decide +kernel
theorem q_63 : Cond.fieldLink RX1 78 (TX3 1).1 (TX3 1).2.1 (TX3 1).2.2.1 ∈ ww_tb := by decide +kernel
theorem q_64 : Cond.fieldLink RX2 22 (TX2 3).1 (TX2 3).2.1 (TX2 3).2.2.1 ∈ ww_tb := by decide +kernel
theorem q_65 : Cond.fieldLink RX2 18 (TX2 2).1 (TX2 2).2.1 (TX2 2).2.2.1 ∈ ww_tb := by decide +kernel
theorem q_66 : Cond.fieldLink RX2 9 (TX2 0).1 (TX2 0).2.1 (TX2 0).2.2.1 ∈ ww_tb := by decide +kernel
theorem q_67 : Cond.fieldLink RX2 15 (TX2 1).1 (TX2 1).2.1 (TX2 1).2.2.1 ∈ ww_tb := by decide +kernel
theorem q_68 : Cond.fieldLink RX1 149 (TX4 6).1 (TX4 6).2.1 (TX4 6).2.2.1 ∈ ww_tb := by decide +kernel
theorem q_69 : Cond.fieldLink RX1 229 (TX0 5).1 (TX0 5).2.1 (TX0 5).2.2.1 ∈ ww_tb := by decide +kernel
theorem dX1_firstToCall_0 : decode cX1_firstToCall 0 = .ok (.aload_n 0, 1) := by decide +kernel
theorem dX1_firstToCall_1 : decode cX1_firstToCall 1 = .ok (.getfield 32, 3) := by decide +kernel
theorem dX1_firstToCall_4 : decode cX1_firstToCall 4 = .ok (.iload_n 1, 1) := by decide +kernel
theorem dX1_firstToCall_5 : decode cX1_firstToCall 5 = .ok (.aaload, 1) := by decide +kernel
theorem dX1_firstToCall_6 : decode cX1_firstToCall 6 = .ok (.getfield 176, 3) := by decide +kernel
theorem dX1_firstToCall_9 : decode cX1_firstToCall 9 = .ok (.istore_n 2, 1) := by decide +kernel
theorem dX1_firstToCall_10 : decode cX1_firstToCall 10 = .ok (.aload_n 0, 1) := by decide +kernel
theorem dX1_firstToCall_11 : decode cX1_firstToCall 11 = .ok (.getfield 32, 3) := by decide +kernel
theorem dX1_firstToCall_14 : decode cX1_firstToCall 14 = .ok (.iload_n 1, 1) := by decide +kernel
theorem dX1_firstToCall_15 : decode cX1_firstToCall 15 = .ok (.aaload, 1) := by decide +kernel
theorem dX1_firstToCall_16 : decode cX1_firstToCall 16 = .ok (.getfield 206, 3) := by decide +kernel
theorem dX1_firstToCall_19 : decode cX1_firstToCall 19 = .ok (.istore_n 3, 1) := by decide +kernel
theorem dX1_firstToCall_20 : decode cX1_firstToCall 20 = .ok (.iconst 0, 1) := by decide +kernel
theorem dX1_firstToCall_21 : decode cX1_firstToCall 21 = .ok (.istore 4, 2) := by decide +kernel
theorem dX1_firstToCall_23 : decode cX1_firstToCall 23 = .ok (.iload 4, 2) := by decide +kernel
theorem dX1_firstToCall_25 : decode cX1_firstToCall 25 = .ok (.aload_n 0, 1) := by decide +kernel
theorem dX1_firstToCall_26 : decode cX1_firstToCall 26 = .ok (.getfield 62, 3) := by decide +kernel
theorem dX1_firstToCall_29 : decode cX1_firstToCall 29 = .ok (.if_icmp .ge 87, 3) := by decide +kernel
theorem dX1_firstToCall_32 : decode cX1_firstToCall 32 = .ok (.aload_n 0, 1) := by decide +kernel
theorem dX1_firstToCall_33 : decode cX1_firstToCall 33 = .ok (.getfield 20, 3) := by decide +kernel
theorem dX1_firstToCall_36 : decode cX1_firstToCall 36 = .ok (.iload 4, 2) := by decide +kernel
theorem dX1_firstToCall_38 : decode cX1_firstToCall 38 = .ok (.aaload, 1) := by decide +kernel
theorem dX1_firstToCall_39 : decode cX1_firstToCall 39 = .ok (.astore 5, 2) := by decide +kernel
theorem dX1_firstToCall_41 : decode cX1_firstToCall 41 = .ok (.iload_n 2, 1) := by decide +kernel
theorem dX1_firstToCall_42 : decode cX1_firstToCall 42 = .ok (.aload 5, 2) := by decide +kernel
theorem dX1_firstToCall_44 : decode cX1_firstToCall 44 = .ok (.getfield 129, 3) := by decide +kernel
theorem dX1_firstToCall_47 : decode cX1_firstToCall 47 = .ok (.invokestatic 130, 3) := by decide +kernel
theorem dX1_firstToCall_50 : decode cX1_firstToCall 50 = .ok (.ifCond .eq 19, 3) := by decide +kernel
theorem dX1_firstToCall_53 : decode cX1_firstToCall 53 = .ok (.iload_n 3, 1) := by decide +kernel
theorem dX1_firstToCall_54 : decode cX1_firstToCall 54 = .ok (.aload 5, 2) := by decide +kernel
theorem dX1_firstToCall_56 : decode cX1_firstToCall 56 = .ok (.getfield 209, 3) := by decide +kernel
theorem dX1_firstToCall_59 : decode cX1_firstToCall 59 = .ok (.invokestatic 130, 3) := by decide +kernel
theorem dX1_firstToCall_62 : decode cX1_firstToCall 62 = .ok (.ifCond .eq 7, 3) := by decide +kernel
theorem dX1_firstToCall_65 : decode cX1_firstToCall 65 = .ok (.iconst 1, 1) := by decide +kernel
theorem dX1_firstToCall_66 : decode cX1_firstToCall 66 = .ok (.goto 4, 3) := by decide +kernel
theorem dX1_firstToCall_69 : decode cX1_firstToCall 69 = .ok (.iconst 0, 1) := by decide +kernel
theorem dX1_firstToCall_70 : decode cX1_firstToCall 70 = .ok (.istore 6, 2) := by decide +kernel
theorem dX1_firstToCall_72 : decode cX1_firstToCall 72 = .ok (.iload 6, 2) := by decide +kernel
theorem dX1_firstToCall_74 : decode cX1_firstToCall 74 = .ok (.ifCond .eq 36, 3) := by decide +kernel
theorem dX1_firstToCall_77 : decode cX1_firstToCall 77 = .ok (.aload 5, 2) := by decide +kernel
theorem dX1_firstToCall_79 : decode cX1_firstToCall 79 = .ok (.getfield 212, 3) := by decide +kernel
theorem dX1_firstToCall_82 : decode cX1_firstToCall 82 = .ok (.iload_n 1, 1) := by decide +kernel
theorem dX1_firstToCall_83 : decode cX1_firstToCall 83 = .ok (.iaload, 1) := by decide +kernel
theorem dX1_firstToCall_84 : decode cX1_firstToCall 84 = .ok (.iconst 3, 1) := by decide +kernel
theorem dX1_firstToCall_85 : decode cX1_firstToCall 85 = .ok (.invokestatic 130, 3) := by decide +kernel
theorem dX1_firstToCall_88 : decode cX1_firstToCall 88 = .ok (.ifCond .ne 22, 3) := by decide +kernel
theorem dX1_firstToCall_91 : decode cX1_firstToCall 91 = .ok (.aload 5, 2) := by decide +kernel
theorem dX1_firstToCall_93 : decode cX1_firstToCall 93 = .ok (.getfield 215, 3) := by decide +kernel
theorem dX1_firstToCall_96 : decode cX1_firstToCall 96 = .ok (.ifCond .ne 14, 3) := by decide +kernel
theorem dX1_firstToCall_99 : decode cX1_firstToCall 99 = .ok (.aload 5, 2) := by decide +kernel
theorem dX1_firstToCall_101 : decode cX1_firstToCall 101 = .ok (.invokevirtual 97, 3) := by decide +kernel
theorem dX1_firstToCall_104 : decode cX1_firstToCall 104 = .ok (.ifCond .ne 6, 3) := by decide +kernel
theorem dX1_firstToCall_107 : decode cX1_firstToCall 107 = .ok (.iload 4, 2) := by decide +kernel
theorem dX1_firstToCall_109 : decode cX1_firstToCall 109 = .ok (.ireturn, 1) := by decide +kernel
theorem dX1_firstToCall_110 : decode cX1_firstToCall 110 = .ok (.iinc 4 1, 3) := by decide +kernel
theorem dX1_firstToCall_113 : decode cX1_firstToCall 113 = .ok (.goto (-90), 3) := by decide +kernel
theorem dX1_firstToCall_116 : decode cX1_firstToCall 116 = .ok (.iconst (-1), 1) := by decide +kernel
theorem dX1_firstToCall_117 : decode cX1_firstToCall 117 = .ok (.ireturn, 1) := by decide +kernel
theorem dX1_believingNeighbour_0 : decode cX1_believingNeighbour 0 = .ok (.aload_n 0, 1) := by decide +kernel
theorem dX1_believingNeighbour_1 : decode cX1_believingNeighbour 1 = .ok (.getfield 20, 3) := by decide +kernel
theorem dX1_believingNeighbour_4 : decode cX1_believingNeighbour 4 = .ok (.iload_n 1, 1) := by decide +kernel
theorem dX1_believingNeighbour_5 : decode cX1_believingNeighbour 5 = .ok (.aaload, 1) := by decide +kernel
theorem dX1_believingNeighbour_6 : decode cX1_believingNeighbour 6 = .ok (.astore_n 3, 1) := by decide +kernel
theorem dX1_believingNeighbour_7 : decode cX1_believingNeighbour 7 = .ok (.iconst 0, 1) := by decide +kernel
theorem dX1_believingNeighbour_8 : decode cX1_believingNeighbour 8 = .ok (.istore 4, 2) := by decide +kernel
theorem dX1_believingNeighbour_10 : decode cX1_believingNeighbour 10 = .ok (.iload 4, 2) := by decide +kernel
theorem dX1_believingNeighbour_12 : decode cX1_believingNeighbour 12 = .ok (.aload_n 0, 1) := by decide +kernel
theorem dX1_believingNeighbour_13 : decode cX1_believingNeighbour 13 = .ok (.getfield 62, 3) := by decide +kernel
theorem dX1_believingNeighbour_16 : decode cX1_believingNeighbour 16 = .ok (.if_icmp .ge 86, 3) := by decide +kernel
theorem dX1_believingNeighbour_19 : decode cX1_believingNeighbour 19 = .ok (.aload_n 0, 1) := by decide +kernel
theorem dX1_believingNeighbour_20 : decode cX1_believingNeighbour 20 = .ok (.getfield 20, 3) := by decide +kernel
theorem dX1_believingNeighbour_23 : decode cX1_believingNeighbour 23 = .ok (.iload 4, 2) := by decide +kernel
theorem dX1_believingNeighbour_25 : decode cX1_believingNeighbour 25 = .ok (.aaload, 1) := by decide +kernel
theorem dX1_believingNeighbour_26 : decode cX1_believingNeighbour 26 = .ok (.astore 5, 2) := by decide +kernel
theorem dX1_believingNeighbour_28 : decode cX1_believingNeighbour 28 = .ok (.iload 4, 2) := by decide +kernel
theorem dX1_believingNeighbour_30 : decode cX1_believingNeighbour 30 = .ok (.iload_n 1, 1) := by decide +kernel
theorem dX1_believingNeighbour_31 : decode cX1_believingNeighbour 31 = .ok (.if_icmp .eq 26, 3) := by decide +kernel
theorem dX1_believingNeighbour_34 : decode cX1_believingNeighbour 34 = .ok (.aload 5, 2) := by decide +kernel
theorem dX1_believingNeighbour_36 : decode cX1_believingNeighbour 36 = .ok (.invokevirtual 97, 3) := by decide +kernel
theorem dX1_believingNeighbour_39 : decode cX1_believingNeighbour 39 = .ok (.ifCond .ne 18, 3) := by decide +kernel
theorem dX1_believingNeighbour_42 : decode cX1_believingNeighbour 42 = .ok (.aload 5, 2) := by decide +kernel
theorem dX1_believingNeighbour_44 : decode cX1_believingNeighbour 44 = .ok (.getfield 116, 3) := by decide +kernel
theorem dX1_believingNeighbour_47 : decode cX1_believingNeighbour 47 = .ok (.iload_n 2, 1) := by decide +kernel
theorem dX1_believingNeighbour_48 : decode cX1_believingNeighbour 48 = .ok (.iaload, 1) := by decide +kernel
theorem dX1_believingNeighbour_49 : decode cX1_believingNeighbour 49 = .ok (.iconst (-1), 1) := by decide +kernel
theorem dX1_believingNeighbour_50 : decode cX1_believingNeighbour 50 = .ok (.if_icmp .eq 7, 3) := by decide +kernel
theorem dX1_believingNeighbour_53 : decode cX1_believingNeighbour 53 = .ok (.iconst 1, 1) := by decide +kernel
theorem dX1_believingNeighbour_54 : decode cX1_believingNeighbour 54 = .ok (.goto 4, 3) := by decide +kernel
theorem dX1_believingNeighbour_57 : decode cX1_believingNeighbour 57 = .ok (.iconst 0, 1) := by decide +kernel
theorem dX1_believingNeighbour_58 : decode cX1_believingNeighbour 58 = .ok (.istore 6, 2) := by decide +kernel
theorem dX1_believingNeighbour_60 : decode cX1_believingNeighbour 60 = .ok (.iload 6, 2) := by decide +kernel
theorem dX1_believingNeighbour_62 : decode cX1_believingNeighbour 62 = .ok (.ifCond .eq 34, 3) := by decide +kernel
theorem dX1_believingNeighbour_65 : decode cX1_believingNeighbour 65 = .ok (.aload 5, 2) := by decide +kernel
theorem dX1_believingNeighbour_67 : decode cX1_believingNeighbour 67 = .ok (.getfield 209, 3) := by decide +kernel
theorem dX1_believingNeighbour_70 : decode cX1_believingNeighbour 70 = .ok (.aload_n 3, 1) := by decide +kernel
theorem dX1_believingNeighbour_71 : decode cX1_believingNeighbour 71 = .ok (.getfield 209, 3) := by decide +kernel
theorem dX1_believingNeighbour_74 : decode cX1_believingNeighbour 74 = .ok (.if_icmp .ne 22, 3) := by decide +kernel
theorem dX1_believingNeighbour_77 : decode cX1_believingNeighbour 77 = .ok (.aload 5, 2) := by decide +kernel
theorem dX1_believingNeighbour_79 : decode cX1_believingNeighbour 79 = .ok (.getfield 129, 3) := by decide +kernel
theorem dX1_believingNeighbour_82 : decode cX1_believingNeighbour 82 = .ok (.aload_n 3, 1) := by decide +kernel
theorem dX1_believingNeighbour_83 : decode cX1_believingNeighbour 83 = .ok (.getfield 129, 3) := by decide +kernel
theorem dX1_believingNeighbour_86 : decode cX1_believingNeighbour 86 = .ok (.invokestatic 239, 3) := by decide +kernel
theorem dX1_believingNeighbour_89 : decode cX1_believingNeighbour 89 = .ok (.iconst 1, 1) := by decide +kernel
theorem dX1_believingNeighbour_90 : decode cX1_believingNeighbour 90 = .ok (.if_icmp .gt 6, 3) := by decide +kernel
theorem dX1_believingNeighbour_93 : decode cX1_believingNeighbour 93 = .ok (.iload 4, 2) := by decide +kernel
theorem dX1_believingNeighbour_95 : decode cX1_believingNeighbour 95 = .ok (.ireturn, 1) := by decide +kernel
theorem dX1_believingNeighbour_96 : decode cX1_believingNeighbour 96 = .ok (.iinc 4 1, 3) := by decide +kernel
theorem dX1_believingNeighbour_99 : decode cX1_believingNeighbour 99 = .ok (.goto (-89), 3) := by decide +kernel
theorem dX1_believingNeighbour_102 : decode cX1_believingNeighbour 102 = .ok (.iconst (-1), 1) := by decide +kernel
theorem dX1_believingNeighbour_103 : decode cX1_believingNeighbour 103 = .ok (.ireturn, 1) := by decide +kernel
theorem dX1_nearestWithRoom_0 : decode cX1_nearestWithRoom 0 = .ok (.iconst (-1), 1) := by decide +kernel
theorem dX1_nearestWithRoom_1 : decode cX1_nearestWithRoom 1 = .ok (.istore_n 2, 1) := by decide +kernel
theorem dX1_nearestWithRoom_2 : decode cX1_nearestWithRoom 2 = .ok (.bipush 16, 2) := by decide +kernel
theorem dX1_nearestWithRoom_4 : decode cX1_nearestWithRoom 4 = .ok (.istore_n 3, 1) := by decide +kernel
theorem dX1_nearestWithRoom_5 : decode cX1_nearestWithRoom 5 = .ok (.iconst 0, 1) := by decide +kernel
theorem dX1_nearestWithRoom_6 : decode cX1_nearestWithRoom 6 = .ok (.istore 4, 2) := by decide +kernel
theorem dX1_nearestWithRoom_8 : decode cX1_nearestWithRoom 8 = .ok (.iload 4, 2) := by decide +kernel
theorem dX1_nearestWithRoom_10 : decode cX1_nearestWithRoom 10 = .ok (.aload_n 0, 1) := by decide +kernel
theorem dX1_nearestWithRoom_11 : decode cX1_nearestWithRoom 11 = .ok (.getfield 65, 3) := by decide +kernel
theorem dX1_nearestWithRoom_14 : decode cX1_nearestWithRoom 14 = .ok (.if_icmp .ge 57, 3) := by decide +kernel
theorem dX1_nearestWithRoom_17 : decode cX1_nearestWithRoom 17 = .ok (.aload_n 1, 1) := by decide +kernel
theorem dX1_nearestWithRoom_18 : decode cX1_nearestWithRoom 18 = .ok (.getfield 129, 3) := by decide +kernel
theorem dX1_nearestWithRoom_21 : decode cX1_nearestWithRoom 21 = .ok (.aload_n 0, 1) := by decide +kernel
theorem dX1_nearestWithRoom_22 : decode cX1_nearestWithRoom 22 = .ok (.getfield 26, 3) := by decide +kernel
theorem dX1_nearestWithRoom_25 : decode cX1_nearestWithRoom 25 = .ok (.iload 4, 2) := by decide +kernel
theorem dX1_nearestWithRoom_27 : decode cX1_nearestWithRoom 27 = .ok (.aaload, 1) := by decide +kernel
theorem dX1_nearestWithRoom_28 : decode cX1_nearestWithRoom 28 = .ok (.getfield 75, 3) := by decide +kernel
theorem dX1_nearestWithRoom_31 : decode cX1_nearestWithRoom 31 = .ok (.invokestatic 239, 3) := by decide +kernel
theorem dX1_nearestWithRoom_34 : decode cX1_nearestWithRoom 34 = .ok (.istore 5, 2) := by decide +kernel
theorem dX1_nearestWithRoom_36 : decode cX1_nearestWithRoom 36 = .ok (.aload_n 0, 1) := by decide +kernel
theorem dX1_nearestWithRoom_37 : decode cX1_nearestWithRoom 37 = .ok (.getfield 26, 3) := by decide +kernel
theorem dX1_nearestWithRoom_40 : decode cX1_nearestWithRoom 40 = .ok (.iload 4, 2) := by decide +kernel
theorem dX1_nearestWithRoom_42 : decode cX1_nearestWithRoom 42 = .ok (.aaload, 1) := by decide +kernel
theorem dX1_nearestWithRoom_43 : decode cX1_nearestWithRoom 43 = .ok (.getfield 78, 3) := by decide +kernel
theorem dX1_nearestWithRoom_46 : decode cX1_nearestWithRoom 46 = .ok (.aload_n 1, 1) := by decide +kernel
theorem dX1_nearestWithRoom_47 : decode cX1_nearestWithRoom 47 = .ok (.getfield 123, 3) := by decide +kernel
theorem dX1_nearestWithRoom_50 : decode cX1_nearestWithRoom 50 = .ok (.if_icmp .lt 15, 3) := by decide +kernel
theorem dX1_nearestWithRoom_53 : decode cX1_nearestWithRoom 53 = .ok (.iload 5, 2) := by decide +kernel
theorem dX1_nearestWithRoom_55 : decode cX1_nearestWithRoom 55 = .ok (.iload_n 3, 1) := by decide +kernel
theorem dX1_nearestWithRoom_56 : decode cX1_nearestWithRoom 56 = .ok (.if_icmp .ge 9, 3) := by decide +kernel
theorem dX1_nearestWithRoom_59 : decode cX1_nearestWithRoom 59 = .ok (.iload 4, 2) := by decide +kernel
theorem dX1_nearestWithRoom_61 : decode cX1_nearestWithRoom 61 = .ok (.istore_n 2, 1) := by decide +kernel
theorem dX1_nearestWithRoom_62 : decode cX1_nearestWithRoom 62 = .ok (.iload 5, 2) := by decide +kernel
theorem dX1_nearestWithRoom_64 : decode cX1_nearestWithRoom 64 = .ok (.istore_n 3, 1) := by decide +kernel
theorem dX1_nearestWithRoom_65 : decode cX1_nearestWithRoom 65 = .ok (.iinc 4 1, 3) := by decide +kernel
theorem dX1_nearestWithRoom_68 : decode cX1_nearestWithRoom 68 = .ok (.goto (-60), 3) := by decide +kernel
theorem dX1_nearestWithRoom_71 : decode cX1_nearestWithRoom 71 = .ok (.iload_n 2, 1) := by decide +kernel
theorem dX1_nearestWithRoom_72 : decode cX1_nearestWithRoom 72 = .ok (.ireturn, 1) := by decide +kernel
theorem dX2_cellsReached_0 : decode cX2_cellsReached 0 = .ok (.iconst 0, 1) := by decide +kernel
theorem dX2_cellsReached_1 : decode cX2_cellsReached 1 = .ok (.istore_n 1, 1) := by decide +kernel
theorem dX2_cellsReached_2 : decode cX2_cellsReached 2 = .ok (.iconst 0, 1) := by decide +kernel
theorem dX2_cellsReached_3 : decode cX2_cellsReached 3 = .ok (.istore_n 2, 1) := by decide +kernel
theorem dX2_cellsReached_4 : decode cX2_cellsReached 4 = .ok (.iload_n 2, 1) := by decide +kernel
theorem dX2_cellsReached_5 : decode cX2_cellsReached 5 = .ok (.aload_n 0, 1) := by decide +kernel
theorem dX2_cellsReached_6 : decode cX2_cellsReached 6 = .ok (.getfield 22, 3) := by decide +kernel
theorem dX2_cellsReached_9 : decode cX2_cellsReached 9 = .ok (.if_icmp .ge 57, 3) := by decide +kernel
theorem dX2_cellsReached_12 : decode cX2_cellsReached 12 = .ok (.iconst 0, 1) := by decide +kernel
theorem dX2_cellsReached_13 : decode cX2_cellsReached 13 = .ok (.istore_n 3, 1) := by decide +kernel
theorem dX2_cellsReached_14 : decode cX2_cellsReached 14 = .ok (.aload_n 0, 1) := by decide +kernel
theorem dX2_cellsReached_15 : decode cX2_cellsReached 15 = .ok (.getfield 18, 3) := by decide +kernel
theorem dX2_cellsReached_18 : decode cX2_cellsReached 18 = .ok (.iload_n 2, 1) := by decide +kernel
theorem dX2_cellsReached_19 : decode cX2_cellsReached 19 = .ok (.baload, 1) := by decide +kernel
theorem dX2_cellsReached_20 : decode cX2_cellsReached 20 = .ok (.ifCond .eq 40, 3) := by decide +kernel
theorem dX2_cellsReached_23 : decode cX2_cellsReached 23 = .ok (.iload_n 3, 1) := by decide +kernel
theorem dX2_cellsReached_24 : decode cX2_cellsReached 24 = .ok (.bipush 16, 2) := by decide +kernel
theorem dX2_cellsReached_26 : decode cX2_cellsReached 26 = .ok (.if_icmp .ge 34, 3) := by decide +kernel
theorem dX2_cellsReached_29 : decode cX2_cellsReached 29 = .ok (.aload_n 0, 1) := by decide +kernel
theorem dX2_cellsReached_30 : decode cX2_cellsReached 30 = .ok (.getfield 9, 3) := by decide +kernel
theorem dX2_cellsReached_33 : decode cX2_cellsReached 33 = .ok (.iload_n 2, 1) := by decide +kernel
theorem dX2_cellsReached_34 : decode cX2_cellsReached 34 = .ok (.iaload, 1) := by decide +kernel
theorem dX2_cellsReached_35 : decode cX2_cellsReached 35 = .ok (.iload_n 3, 1) := by decide +kernel
theorem dX2_cellsReached_36 : decode cX2_cellsReached 36 = .ok (.invokestatic 26, 3) := by decide +kernel
theorem dX2_cellsReached_39 : decode cX2_cellsReached 39 = .ok (.aload_n 0, 1) := by decide +kernel
theorem dX2_cellsReached_40 : decode cX2_cellsReached 40 = .ok (.getfield 15, 3) := by decide +kernel
theorem dX2_cellsReached_43 : decode cX2_cellsReached 43 = .ok (.iload_n 2, 1) := by decide +kernel
theorem dX2_cellsReached_44 : decode cX2_cellsReached 44 = .ok (.iaload, 1) := by decide +kernel
theorem dX2_cellsReached_45 : decode cX2_cellsReached 45 = .ok (.if_icmp .gt 9, 3) := by decide +kernel
theorem dX2_cellsReached_48 : decode cX2_cellsReached 48 = .ok (.iload_n 1, 1) := by decide +kernel
theorem dX2_cellsReached_49 : decode cX2_cellsReached 49 = .ok (.iconst 1, 1) := by decide +kernel
theorem dX2_cellsReached_50 : decode cX2_cellsReached 50 = .ok (.iload_n 3, 1) := by decide +kernel
theorem dX2_cellsReached_51 : decode cX2_cellsReached 51 = .ok (.ishl, 1) := by decide +kernel
theorem dX2_cellsReached_52 : decode cX2_cellsReached 52 = .ok (.ior, 1) := by decide +kernel
theorem dX2_cellsReached_53 : decode cX2_cellsReached 53 = .ok (.istore_n 1, 1) := by decide +kernel
theorem dX2_cellsReached_54 : decode cX2_cellsReached 54 = .ok (.iinc 3 1, 3) := by decide +kernel
theorem dX2_cellsReached_57 : decode cX2_cellsReached 57 = .ok (.goto (-43), 3) := by decide +kernel
theorem dX2_cellsReached_60 : decode cX2_cellsReached 60 = .ok (.iinc 2 1, 3) := by decide +kernel
theorem dX2_cellsReached_63 : decode cX2_cellsReached 63 = .ok (.goto (-59), 3) := by decide +kernel
theorem dX2_cellsReached_66 : decode cX2_cellsReached 66 = .ok (.iload_n 1, 1) := by decide +kernel
theorem dX2_cellsReached_67 : decode cX2_cellsReached 67 = .ok (.ireturn, 1) := by decide +kernel
theorem dX1_publicWays_0 : decode cX1_publicWays 0 = .ok (.aload_n 2, 1) := by decide +kernel
theorem dX1_publicWays_1 : decode cX1_publicWays 1 = .ok (.getfield 176, 3) := by decide +kernel
theorem dX1_publicWays_4 : decode cX1_publicWays 4 = .ok (.aload_n 1, 1) := by decide +kernel
theorem dX1_publicWays_5 : decode cX1_publicWays 5 = .ok (.getfield 129, 3) := by decide +kernel
theorem dX1_publicWays_8 : decode cX1_publicWays 8 = .ok (.invokestatic 130, 3) := by decide +kernel
theorem dX1_publicWays_11 : decode cX1_publicWays 11 = .ok (.ifCond .ne 5, 3) := by decide +kernel
theorem dX1_publicWays_14 : decode cX1_publicWays 14 = .ok (.iconst 0, 1) := by decide +kernel
theorem dX1_publicWays_15 : decode cX1_publicWays 15 = .ok (.ireturn, 1) := by decide +kernel
theorem dX1_publicWays_16 : decode cX1_publicWays 16 = .ok (.iload_n 3, 1) := by decide +kernel
theorem dX1_publicWays_17 : decode cX1_publicWays 17 = .ok (.ifCond .eq 7, 3) := by decide +kernel
theorem dX1_publicWays_20 : decode cX1_publicWays 20 = .ok (.iconst 1, 1) := by decide +kernel
theorem dX1_publicWays_21 : decode cX1_publicWays 21 = .ok (.goto 4, 3) := by decide +kernel
theorem dX1_publicWays_24 : decode cX1_publicWays 24 = .ok (.iconst 0, 1) := by decide +kernel
theorem dX1_publicWays_25 : decode cX1_publicWays 25 = .ok (.istore 6, 2) := by decide +kernel
theorem dX1_publicWays_27 : decode cX1_publicWays 27 = .ok (.aload_n 2, 1) := by decide +kernel
theorem dX1_publicWays_28 : decode cX1_publicWays 28 = .ok (.getfield 206, 3) := by decide +kernel
theorem dX1_publicWays_31 : decode cX1_publicWays 31 = .ok (.aload_n 1, 1) := by decide +kernel
theorem dX1_publicWays_32 : decode cX1_publicWays 32 = .ok (.getfield 209, 3) := by decide +kernel
theorem dX1_publicWays_35 : decode cX1_publicWays 35 = .ok (.invokestatic 130, 3) := by decide +kernel
theorem dX1_publicWays_38 : decode cX1_publicWays 38 = .ok (.ifCond .ne 6, 3) := by decide +kernel
theorem dX1_publicWays_41 : decode cX1_publicWays 41 = .ok (.iload 6, 2) := by decide +kernel
theorem dX1_publicWays_43 : decode cX1_publicWays 43 = .ok (.ireturn, 1) := by decide +kernel
theorem dX1_publicWays_44 : decode cX1_publicWays 44 = .ok (.iload 4, 2) := by decide +kernel
theorem dX1_publicWays_46 : decode cX1_publicWays 46 = .ok (.ifCond .eq 27, 3) := by decide +kernel
theorem dX1_publicWays_49 : decode cX1_publicWays 49 = .ok (.iload 5, 2) := by decide +kernel
theorem dX1_publicWays_51 : decode cX1_publicWays 51 = .ok (.ifCond .eq 16, 3) := by decide +kernel
theorem dX1_publicWays_54 : decode cX1_publicWays 54 = .ok (.aload_n 0, 1) := by decide +kernel
theorem dX1_publicWays_55 : decode cX1_publicWays 55 = .ok (.getfield 56, 3) := by decide +kernel
theorem dX1_publicWays_58 : decode cX1_publicWays 58 = .ok (.aload_n 2, 1) := by decide +kernel
theorem dX1_publicWays_59 : decode cX1_publicWays 59 = .ok (.getfield 149, 3) := by decide +kernel
theorem dX1_publicWays_62 : decode cX1_publicWays 62 = .ok (.isub, 1) := by decide +kernel
theorem dX1_publicWays_63 : decode cX1_publicWays 63 = .ok (.iconst 2, 1) := by decide +kernel
theorem dX1_publicWays_64 : decode cX1_publicWays 64 = .ok (.if_icmp .lt 9, 3) := by decide +kernel
theorem dX1_publicWays_67 : decode cX1_publicWays 67 = .ok (.iload 6, 2) := by decide +kernel
theorem dX1_publicWays_69 : decode cX1_publicWays 69 = .ok (.iconst 2, 1) := by decide +kernel
theorem dX1_publicWays_70 : decode cX1_publicWays 70 = .ok (.ior, 1) := by decide +kernel
theorem dX1_publicWays_71 : decode cX1_publicWays 71 = .ok (.istore 6, 2) := by decide +kernel
theorem dX1_publicWays_73 : decode cX1_publicWays 73 = .ok (.aload_n 1, 1) := by decide +kernel
theorem dX1_publicWays_74 : decode cX1_publicWays 74 = .ok (.getfield 229, 3) := by decide +kernel
theorem dX1_publicWays_77 : decode cX1_publicWays 77 = .ok (.ifCond .eq 15, 3) := by decide +kernel
theorem dX1_publicWays_80 : decode cX1_publicWays 80 = .ok (.iload 5, 2) := by decide +kernel
theorem dX1_publicWays_82 : decode cX1_publicWays 82 = .ok (.ifCond .ne 10, 3) := by decide +kernel
theorem dX1_publicWays_85 : decode cX1_publicWays 85 = .ok (.iload 6, 2) := by decide +kernel
theorem dX1_publicWays_87 : decode cX1_publicWays 87 = .ok (.iconst 4, 1) := by decide +kernel
theorem dX1_publicWays_88 : decode cX1_publicWays 88 = .ok (.ior, 1) := by decide +kernel
theorem dX1_publicWays_89 : decode cX1_publicWays 89 = .ok (.goto 5, 3) := by decide +kernel
theorem dX1_publicWays_92 : decode cX1_publicWays 92 = .ok (.iload 6, 2) := by decide +kernel
theorem dX1_publicWays_94 : decode cX1_publicWays 94 = .ok (.ireturn, 1) := by decide +kernel
/-! what a land finds, and what it writes -/
abbrev jCallee (v : jN) (w g : Nat) : Prop := ¬ jIn (v 11 w 2) (v 9 g 0) = 0 ∧ ¬ jIn (v 11 w 4) (v 9 g 2) = 0 ∧ jIn (v 14 g w) 3 = 0 ∧ v 9 g 4 = 0 ∧ ¬ jGone v g
def sp_X1_firstToCall : vgC := fun av σ => match av with
  | [.inr (1, b, 0), .inl (.int w)] => (jWf (jV σ b) ∧ vp_in w 12, some (.inl (.int (jFind (jCallee (jV σ b) w.toNatClampNeg) 0 (jGc (jV σ b))))), σ)
  | _ => (False, none, σ)
def k_X1_firstToCall : List (Nat × vgF) := [(0, vi_aload 0 1), (1, vi_get ww_shp 1 9 4), (4, vi_iload 1 5), (5, vi_aald ww_shp 4 6), (6, vi_get ww_shp 4 2 9), (9, vi_istore 2 10), (10, vi_aload 0 11), (11, vi_get ww_shp 1 9 14), (14, vi_iload 1 15), (15, vi_aald ww_shp 4 16), (16, vi_get ww_shp 4 4 19), (19, vi_istore 3 20), (20, vi_icst (0) 21), (21, vi_istore 4 23), (23, vi_iload 4 25), (25, vi_aload 0 26), (26, vi_get ww_shp 1 4 29), (29, vi_cmp (fun x y => y ≤ x) 116 32), (32, vi_aload 0 33), (33, vi_get ww_shp 1 7 36), (36, vi_iload 4 38), (38, vi_aald ww_shp 2 39), (39, vi_astore 5 41), (41, vi_iload 2 42), (42, vi_aload 5 44), (44, vi_get ww_shp 5 0 47), (47, vi_callS sp_X5_isIn 2 50), (50, vi_if (fun x => x = 0) 69 53), (53, vi_iload 3 54), (54, vi_aload 5 56), (56, vi_get ww_shp 5 2 59), (59, vi_callS sp_X5_isIn 2 62), (62, vi_if (fun x => x = 0) 69 65), (65, vi_icst (1) 66), (66, vi_goto 70), (69, vi_icst (0) 70), (70, vi_istore 6 72), (72, vi_iload 6 74), (74, vi_if (fun x => x = 0) 110 77), (77, vi_aload 5 79), (79, vi_get ww_shp 5 8 82), (82, vi_iload 1 83), (83, vi_ald ww_shp 0 84), (84, vi_icst (3) 85), (85, vi_callS sp_X5_isIn 2 88), (88, vi_if (fun x => x = 0) 91 110), (91, vi_aload 5 93), (93, vi_get ww_shp 5 4 96), (96, vi_if (fun x => x = 0) 99 110), (99, vi_aload 5 101), (101, vi_callV ww_shp 5 sp_X0_isGone 0 104), (104, vi_if (fun x => x = 0) 107 110), (107, vi_iload 4 109), (109, vi_ret), (110, vi_iinc 4 (1) 113), (113, vi_goto 23), (116, vi_icst (-1) 117), (117, vi_ret)]
set_option maxRecDepth 20000 in
theorem s_X1_firstToCall : ∀ q ∈ k_X1_firstToCall, vg_Snd ww_tb ww_nw ww_shp ww_nm ww_cl ww_tyl cX1_firstToCall 7 RX1 (some .int) 1 q.1 q.2 := by
  refine vg_cons (vs_aload_n dX1_firstToCall_0 rfl rfl) ?_
  refine vg_cons (vs_getfield (T := TX1) dX1_firstToCall_1 rfl (by decide) ww_inX1 q_17 rfl) ?_
  refine vg_cons (vs_iload_n dX1_firstToCall_4 rfl rfl) ?_
  refine vg_cons (vs_aaload dX1_firstToCall_5 rfl rfl) ?_
  refine vg_cons (vs_getfield (T := TX4) dX1_firstToCall_6 rfl (by decide) ww_inX4 q_53 rfl) ?_
  refine vg_cons (vs_istore_n dX1_firstToCall_9 rfl (by decide) rfl) ?_
  refine vg_cons (vs_aload_n dX1_firstToCall_10 rfl rfl) ?_
  refine vg_cons (vs_getfield (T := TX1) dX1_firstToCall_11 rfl (by decide) ww_inX1 q_17 rfl) ?_
  refine vg_cons (vs_iload_n dX1_firstToCall_14 rfl rfl) ?_
  refine vg_cons (vs_aaload dX1_firstToCall_15 rfl rfl) ?_
  refine vg_cons (vs_getfield (T := TX4) dX1_firstToCall_16 rfl (by decide) ww_inX4 q_54 rfl) ?_
  refine vg_cons (vs_istore_n dX1_firstToCall_19 rfl (by decide) rfl) ?_
  refine vg_cons (vs_iconst dX1_firstToCall_20 rfl rfl) ?_
  refine vg_cons (vs_istore dX1_firstToCall_21 (by decide) rfl) ?_
  refine vg_cons (vs_iload dX1_firstToCall_23 rfl) ?_
  refine vg_cons (vs_aload_n dX1_firstToCall_25 rfl rfl) ?_
  refine vg_cons (vs_getfield (T := TX1) dX1_firstToCall_26 rfl (by decide) ww_inX1 q_38 rfl) ?_
  refine vg_cons (vs_cmp_ge dX1_firstToCall_29 (by decide) rfl) ?_
  refine vg_cons (vs_aload_n dX1_firstToCall_32 rfl rfl) ?_
  refine vg_cons (vs_getfield (T := TX1) dX1_firstToCall_33 rfl (by decide) ww_inX1 q_39 rfl) ?_
  refine vg_cons (vs_iload dX1_firstToCall_36 rfl) ?_
  refine vg_cons (vs_aaload dX1_firstToCall_38 rfl rfl) ?_
  refine vg_cons (vs_astore dX1_firstToCall_39 (by decide) rfl) ?_
  refine vg_cons (vs_iload_n dX1_firstToCall_41 rfl rfl) ?_
  refine vg_cons (vs_aload dX1_firstToCall_42 rfl) ?_
  refine vg_cons (vs_getfield (T := TX0) dX1_firstToCall_44 rfl (by decide) ww_inX0 q_49 rfl) ?_
  refine vg_cons (vs_callSN (host := "WarnWave") c_X5_isIn dX1_firstToCall_47 ww_good q_50 q_51 (by decide +kernel) q_52 (by decide +kernel) (by decide) rfl) ?_
  refine vg_cons (vs_if_eq dX1_firstToCall_50 (by decide) rfl) ?_
  refine vg_cons (vs_iload_n dX1_firstToCall_53 rfl rfl) ?_
  refine vg_cons (vs_aload dX1_firstToCall_54 rfl) ?_
  refine vg_cons (vs_getfield (T := TX0) dX1_firstToCall_56 rfl (by decide) ww_inX0 q_55 rfl) ?_
  refine vg_cons (vs_callSN (host := "WarnWave") c_X5_isIn dX1_firstToCall_59 ww_good q_50 q_51 (by decide +kernel) q_52 (by decide +kernel) (by decide) rfl) ?_
  refine vg_cons (vs_if_eq dX1_firstToCall_62 (by decide) rfl) ?_
  refine vg_cons (vs_iconst dX1_firstToCall_65 rfl rfl) ?_
  refine vg_cons (vs_goto dX1_firstToCall_66 (by decide)) ?_
  refine vg_cons (vs_iconst dX1_firstToCall_69 rfl rfl) ?_
  refine vg_cons (vs_istore dX1_firstToCall_70 (by decide) rfl) ?_
  refine vg_cons (vs_iload dX1_firstToCall_72 rfl) ?_
  refine vg_cons (vs_if_eq dX1_firstToCall_74 (by decide) rfl) ?_
  refine vg_cons (vs_aload dX1_firstToCall_77 rfl) ?_
  refine vg_cons (vs_getfield (T := TX0) dX1_firstToCall_79 rfl (by decide) ww_inX0 q_56 rfl) ?_
  refine vg_cons (vs_iload_n dX1_firstToCall_82 rfl rfl) ?_
  refine vg_cons (vs_iaload dX1_firstToCall_83 rfl rfl) ?_
  refine vg_cons (vs_iconst dX1_firstToCall_84 rfl rfl) ?_
  refine vg_cons (vs_callSN (host := "WarnWave") c_X5_isIn dX1_firstToCall_85 ww_good q_50 q_51 (by decide +kernel) q_52 (by decide +kernel) (by decide) rfl) ?_
  refine vg_cons (vs_if_ne dX1_firstToCall_88 (by decide) rfl) ?_
  refine vg_cons (vs_aload dX1_firstToCall_91 rfl) ?_
  refine vg_cons (vs_getfield (T := TX0) dX1_firstToCall_93 rfl (by decide) ww_inX0 q_57 rfl) ?_
  refine vg_cons (vs_if_ne dX1_firstToCall_96 (by decide) rfl) ?_
  refine vg_cons (vs_aload dX1_firstToCall_99 rfl) ?_
  refine vg_cons (vs_callV (T := TX0) c_X0_isGone dX1_firstToCall_101 rfl ww_good q_20 q_21 q_22 q_23 q_24 (by decide +kernel) (by decide) rfl) ?_
  refine vg_cons (vs_if_ne dX1_firstToCall_104 (by decide) rfl) ?_
  refine vg_cons (vs_iload dX1_firstToCall_107 rfl) ?_
  refine vg_cons (vs_ireturn dX1_firstToCall_109 rfl) ?_
  refine vg_cons (vs_iinc dX1_firstToCall_110 rfl rfl) ?_
  refine vg_cons (vs_goto dX1_firstToCall_113 (by decide)) ?_
  refine vg_cons (vs_iconst dX1_firstToCall_116 rfl rfl) ?_
  refine vg_cons (vs_ireturn dX1_firstToCall_117 rfl) ?_
  exact fun _ h => absurd h List.not_mem_nil
theorem m_X1_firstToCall : vg_Code k_X1_firstToCall := fun q h => (s_X1_firstToCall q h).1

theorem w_X1_firstToCall : vg_Wd sp_X1_firstToCall 7 := by
  intro av σ h
  unfold sp_X1_firstToCall at h
  split at h
  · exact Nat.le_of_ble_eq_true rfl
  · exact h.elim
theorem g_X1_firstToCall : vg_G k_X1_firstToCall sp_X1_firstToCall := by
  intro av σ h
  unfold sp_X1_firstToCall at h ⊢
  split at h
  next b w =>
    obtain ⟨hw, hw12⟩ := h
    have hgc := hw.1
    have h8 := hgc.2
    refine vg_run (cuts := [(23, [0, 1, 2, 3, 4])]) m_X1_firstToCall 40 ?_
    refine And.intro hw12 (And.intro hw12 ?_)
    refine vg_loop (fun i lv σ' => σ' = σ ∧ ∃ x, x = nI i ∧ jFind (jCallee (jV σ b) w.toNatClampNeg) 0 (jGc (jV σ b)) = jFind (jCallee (jV σ b) w.toNatClampNeg) i (jGc (jV σ b) - i) ∧ lv = [(0, .inr (1, b, 0)), (1, .inl (.int w)), (2, .inl (.int (jV σ b 11 w.toNatClampNeg 2))), (3, .inl (.int (jV σ b 11 w.toNatClampNeg 4))), (4, .inl (.int x))]) (jGc (jV σ b)) ?_ ?_ 0 _ _ (Nat.zero_le _) ⟨rfl, 0, rfl, rfl, rfl⟩
    · rintro i lv σ' hi ⟨e, x, hx, hr, rfl⟩ ih
      subst e
      have hc0 : x.toNatClampNeg = i := jcl hx (by omega)
      have hv : vp_in x 8 := jin hx (by omega) (by decide)
      have hs : jGc (jV σ' b) - i = (jGc (jV σ' b) - (i + 1)) + 1 := by omega
      have no : ¬ (jCallee (jV σ' b) w.toNatClampNeg) i → jFind (jCallee (jV σ' b) w.toNatClampNeg) 0 (jGc (jV σ' b)) = jFind (jCallee (jV σ' b) w.toNatClampNeg) (i + 1) (jGc (jV σ' b) - (i + 1)) := fun z => by rw [hr, hs, jFind, if_neg z]
      have yes : (jCallee (jV σ' b) w.toNatClampNeg) i → jFind (jCallee (jV σ' b) w.toNatClampNeg) 0 (jGc (jV σ' b)) = x := fun z => by rw [hr, hs, jFind, if_pos z, hx]
      refine vg_run (cuts := [(23, [0, 1, 2, 3, 4])]) m_X1_firstToCall 60 ?_
      refine And.intro (fun hc => absurd ((jle hgc.1 hx (by omega) (by omega)).mp hc) (by omega)) (fun _ => ?_)
      have nx : ¬ (jCallee (jV σ' b) w.toNatClampNeg) i → vg_Go k_X1_firstToCall _ 23 [(0, .inr (1, b, 0)), (1, .inl (.int w)), (2, .inl (.int (jV σ' b 11 w.toNatClampNeg 2))), (3, .inl (.int (jV σ' b 11 w.toNatClampNeg 4))), (4, .inl (.int (x + 1)))] [] σ' := fun z => ih _ _ ⟨rfl, x + 1, jinc hx, no z, rfl⟩
      refine And.intro hv (And.intro trivial (And.intro (fun hd => ?_) (fun hd => And.intro trivial (And.intro (fun he => ?_) (fun he => ?_)))))
      · rw [hc0] at hd
        exact And.intro (fun _ => nx (fun z => z.1 hd)) (fun z => absurd rfl z)
      · rw [hc0] at he
        exact And.intro (fun _ => nx (fun z => z.2.1 he)) (fun z => absurd rfl z)
      · rw [hc0] at hd he
        refine And.intro (fun z => absurd z (by decide)) (fun _ => And.intro hw12 (And.intro trivial (And.intro (fun hf => ?_) (fun hf => ?_))))
        · refine And.intro (fun hg => And.intro trivial (And.intro (fun hh => ?_) (fun hh => ?_))) (fun hg => ?_)
          · rw [hc0] at hf hg hh
            exact And.intro (by rw [yes ⟨hd, he, hf, hg, jb_0.mp hh⟩]) rfl
          · rw [hc0] at hh
            exact nx (fun z => hh (jb_f z.2.2.2.2))
          · rw [hc0] at hg
            exact nx (fun z => hg z.2.2.2.1)
        · rw [hc0] at hf
          exact nx (fun z => hf z.2.2.1)
    · rintro lv σ' ⟨e, x, hx, hr, rfl⟩
      subst e
      refine vg_run (cuts := [(23, [0, 1, 2, 3, 4])]) m_X1_firstToCall 20 ?_
      exact And.intro (fun _ => And.intro (by rw [hr, Nat.sub_self]; rfl) rfl) (fun hc => absurd ((jle hgc.1 hx (by omega) (by omega)).mpr (Nat.le_refl _)) hc)
  next => exact h.elim
theorem c_X1_firstToCall : vg_MetF ww_tb ww_nw ww_shp ww_nm ww_cl ww_tyl yX1_firstToCall cX1_firstToCall 7 (some .int) 1 sp_X1_firstToCall := vg_met ww_closed (by decide +kernel) rfl s_X1_firstToCall w_X1_firstToCall g_X1_firstToCall
abbrev jTells (v : jN) (g w o : Nat) : Prop := ¬ o = g ∧ ¬ jGone v o ∧ ¬ v 18 o w = -1 ∧ v 9 o 2 = v 9 g 2 ∧ ¬ (1 : Int32) < jDist (v 9 o 0) (v 9 g 0)
def sp_X1_believingNeighbour : vgC := fun av σ => match av with
  | [.inr (1, b, 0), .inl (.int g), .inl (.int w)] => (jWf (jV σ b) ∧ vp_in g 8 ∧ vp_in w 12, some (.inl (.int (jFind (jTells (jV σ b) g.toNatClampNeg w.toNatClampNeg) 0 (jGc (jV σ b))))), σ)
  | _ => (False, none, σ)
def k_X1_believingNeighbour : List (Nat × vgF) := [(0, vi_aload 0 1), (1, vi_get ww_shp 1 7 4), (4, vi_iload 1 5), (5, vi_aald ww_shp 2 6), (6, vi_astore 3 7), (7, vi_icst (0) 8), (8, vi_istore 4 10), (10, vi_iload 4 12), (12, vi_aload 0 13), (13, vi_get ww_shp 1 4 16), (16, vi_cmp (fun x y => y ≤ x) 102 19), (19, vi_aload 0 20), (20, vi_get ww_shp 1 7 23), (23, vi_iload 4 25), (25, vi_aald ww_shp 2 26), (26, vi_astore 5 28), (28, vi_iload 4 30), (30, vi_iload 1 31), (31, vi_cmp (fun x y => x = y) 57 34), (34, vi_aload 5 36), (36, vi_callV ww_shp 5 sp_X0_isGone 0 39), (39, vi_if (fun x => x = 0) 42 57), (42, vi_aload 5 44), (44, vi_get ww_shp 5 12 47), (47, vi_iload 2 48), (48, vi_ald ww_shp 0 49), (49, vi_icst (-1) 50), (50, vi_cmp (fun x y => x = y) 57 53), (53, vi_icst (1) 54), (54, vi_goto 58), (57, vi_icst (0) 58), (58, vi_istore 6 60), (60, vi_iload 6 62), (62, vi_if (fun x => x = 0) 96 65), (65, vi_aload 5 67), (67, vi_get ww_shp 5 2 70), (70, vi_aload 3 71), (71, vi_get ww_shp 5 2 74), (74, vi_cmp (fun x y => x = y) 77 96), (77, vi_aload 5 79), (79, vi_get ww_shp 5 0 82), (82, vi_aload 3 83), (83, vi_get ww_shp 5 0 86), (86, vi_callS sp_X5_distance 2 89), (89, vi_icst (1) 90), (90, vi_cmp (fun x y => y < x) 96 93), (93, vi_iload 4 95), (95, vi_ret), (96, vi_iinc 4 (1) 99), (99, vi_goto 10), (102, vi_icst (-1) 103), (103, vi_ret)]
set_option maxRecDepth 20000 in
theorem s_X1_believingNeighbour : ∀ q ∈ k_X1_believingNeighbour, vg_Snd ww_tb ww_nw ww_shp ww_nm ww_cl ww_tyl cX1_believingNeighbour 7 RX1 (some .int) 2 q.1 q.2 := by
  refine vg_cons (vs_aload_n dX1_believingNeighbour_0 rfl rfl) ?_
  refine vg_cons (vs_getfield (T := TX1) dX1_believingNeighbour_1 rfl (by decide) ww_inX1 q_39 rfl) ?_
  refine vg_cons (vs_iload_n dX1_believingNeighbour_4 rfl rfl) ?_
  refine vg_cons (vs_aaload dX1_believingNeighbour_5 rfl rfl) ?_
  refine vg_cons (vs_astore_n dX1_believingNeighbour_6 rfl (by decide) rfl) ?_
  refine vg_cons (vs_iconst dX1_believingNeighbour_7 rfl rfl) ?_
  refine vg_cons (vs_istore dX1_believingNeighbour_8 (by decide) rfl) ?_
  refine vg_cons (vs_iload dX1_believingNeighbour_10 rfl) ?_
  refine vg_cons (vs_aload_n dX1_believingNeighbour_12 rfl rfl) ?_
  refine vg_cons (vs_getfield (T := TX1) dX1_believingNeighbour_13 rfl (by decide) ww_inX1 q_38 rfl) ?_
  refine vg_cons (vs_cmp_ge dX1_believingNeighbour_16 (by decide) rfl) ?_
  refine vg_cons (vs_aload_n dX1_believingNeighbour_19 rfl rfl) ?_
  refine vg_cons (vs_getfield (T := TX1) dX1_believingNeighbour_20 rfl (by decide) ww_inX1 q_39 rfl) ?_
  refine vg_cons (vs_iload dX1_believingNeighbour_23 rfl) ?_
  refine vg_cons (vs_aaload dX1_believingNeighbour_25 rfl rfl) ?_
  refine vg_cons (vs_astore dX1_believingNeighbour_26 (by decide) rfl) ?_
  refine vg_cons (vs_iload dX1_believingNeighbour_28 rfl) ?_
  refine vg_cons (vs_iload_n dX1_believingNeighbour_30 rfl rfl) ?_
  refine vg_cons (vs_cmp_eq dX1_believingNeighbour_31 (by decide) rfl) ?_
  refine vg_cons (vs_aload dX1_believingNeighbour_34 rfl) ?_
  refine vg_cons (vs_callV (T := TX0) c_X0_isGone dX1_believingNeighbour_36 rfl ww_good q_20 q_21 q_22 q_23 q_24 (by decide +kernel) (by decide) rfl) ?_
  refine vg_cons (vs_if_ne dX1_believingNeighbour_39 (by decide) rfl) ?_
  refine vg_cons (vs_aload dX1_believingNeighbour_42 rfl) ?_
  refine vg_cons (vs_getfield (T := TX0) dX1_believingNeighbour_44 rfl (by decide) ww_inX0 q_19 rfl) ?_
  refine vg_cons (vs_iload_n dX1_believingNeighbour_47 rfl rfl) ?_
  refine vg_cons (vs_iaload dX1_believingNeighbour_48 rfl rfl) ?_
  refine vg_cons (vs_iconst dX1_believingNeighbour_49 rfl rfl) ?_
  refine vg_cons (vs_cmp_eq dX1_believingNeighbour_50 (by decide) rfl) ?_
  refine vg_cons (vs_iconst dX1_believingNeighbour_53 rfl rfl) ?_
  refine vg_cons (vs_goto dX1_believingNeighbour_54 (by decide)) ?_
  refine vg_cons (vs_iconst dX1_believingNeighbour_57 rfl rfl) ?_
  refine vg_cons (vs_istore dX1_believingNeighbour_58 (by decide) rfl) ?_
  refine vg_cons (vs_iload dX1_believingNeighbour_60 rfl) ?_
  refine vg_cons (vs_if_eq dX1_believingNeighbour_62 (by decide) rfl) ?_
  refine vg_cons (vs_aload dX1_believingNeighbour_65 rfl) ?_
  refine vg_cons (vs_getfield (T := TX0) dX1_believingNeighbour_67 rfl (by decide) ww_inX0 q_55 rfl) ?_
  refine vg_cons (vs_aload_n dX1_believingNeighbour_70 rfl rfl) ?_
  refine vg_cons (vs_getfield (T := TX0) dX1_believingNeighbour_71 rfl (by decide) ww_inX0 q_55 rfl) ?_
  refine vg_cons (vs_cmp_ne dX1_believingNeighbour_74 (by decide) rfl) ?_
  refine vg_cons (vs_aload dX1_believingNeighbour_77 rfl) ?_
  refine vg_cons (vs_getfield (T := TX0) dX1_believingNeighbour_79 rfl (by decide) ww_inX0 q_49 rfl) ?_
  refine vg_cons (vs_aload_n dX1_believingNeighbour_82 rfl rfl) ?_
  refine vg_cons (vs_getfield (T := TX0) dX1_believingNeighbour_83 rfl (by decide) ww_inX0 q_49 rfl) ?_
  refine vg_cons (vs_callSN (host := "WarnWave") c_X5_distance dX1_believingNeighbour_86 ww_good q_58 q_51 (by decide +kernel) q_59 (by decide +kernel) (by decide) rfl) ?_
  refine vg_cons (vs_iconst dX1_believingNeighbour_89 rfl rfl) ?_
  refine vg_cons (vs_cmp_gt dX1_believingNeighbour_90 (by decide) rfl) ?_
  refine vg_cons (vs_iload dX1_believingNeighbour_93 rfl) ?_
  refine vg_cons (vs_ireturn dX1_believingNeighbour_95 rfl) ?_
  refine vg_cons (vs_iinc dX1_believingNeighbour_96 rfl rfl) ?_
  refine vg_cons (vs_goto dX1_believingNeighbour_99 (by decide)) ?_
  refine vg_cons (vs_iconst dX1_believingNeighbour_102 rfl rfl) ?_
  refine vg_cons (vs_ireturn dX1_believingNeighbour_103 rfl) ?_
  exact fun _ h => absurd h List.not_mem_nil
theorem m_X1_believingNeighbour : vg_Code k_X1_believingNeighbour := fun q h => (s_X1_believingNeighbour q h).1

theorem w_X1_believingNeighbour : vg_Wd sp_X1_believingNeighbour 7 := by
  intro av σ h
  unfold sp_X1_believingNeighbour at h
  split at h
  · exact Nat.le_of_ble_eq_true rfl
  · exact h.elim
theorem g_X1_believingNeighbour : vg_G k_X1_believingNeighbour sp_X1_believingNeighbour := by
  intro av σ h
  unfold sp_X1_believingNeighbour at h ⊢
  split at h
  next b g w =>
    obtain ⟨hw, hg8, hw12⟩ := h
    have hgc := hw.1
    have h8 := hgc.2
    refine vg_run (cuts := [(10, [0, 1, 2, 3, 4])]) m_X1_believingNeighbour 40 ?_
    refine And.intro hg8 ?_
    refine vg_loop (fun i lv σ' => σ' = σ ∧ ∃ x, x = nI i ∧ jFind (jTells (jV σ b) g.toNatClampNeg w.toNatClampNeg) 0 (jGc (jV σ b)) = jFind (jTells (jV σ b) g.toNatClampNeg w.toNatClampNeg) i (jGc (jV σ b) - i) ∧ lv = [(0, .inr (1, b, 0)), (1, .inl (.int g)), (2, .inl (.int w)), (3, .inr (9, b, g.toNatClampNeg)), (4, .inl (.int x))]) (jGc (jV σ b)) ?_ ?_ 0 _ _ (Nat.zero_le _) ⟨rfl, 0, rfl, rfl, rfl⟩
    · rintro i lv σ' hi ⟨e, x, hx, hr, rfl⟩ ih
      subst e
      have hc0 : x.toNatClampNeg = i := jcl hx (by omega)
      have hv : vp_in x 8 := jin hx (by omega) (by decide)
      have hs : jGc (jV σ' b) - i = (jGc (jV σ' b) - (i + 1)) + 1 := by omega
      have no : ¬ (jTells (jV σ' b) g.toNatClampNeg w.toNatClampNeg) i → jFind (jTells (jV σ' b) g.toNatClampNeg w.toNatClampNeg) 0 (jGc (jV σ' b)) = jFind (jTells (jV σ' b) g.toNatClampNeg w.toNatClampNeg) (i + 1) (jGc (jV σ' b) - (i + 1)) := fun z => by rw [hr, hs, jFind, if_neg z]
      have yes : (jTells (jV σ' b) g.toNatClampNeg w.toNatClampNeg) i → jFind (jTells (jV σ' b) g.toNatClampNeg w.toNatClampNeg) 0 (jGc (jV σ' b)) = x := fun z => by rw [hr, hs, jFind, if_pos z, hx]
      refine vg_run (cuts := [(10, [0, 1, 2, 3, 4])]) m_X1_believingNeighbour 60 ?_
      refine And.intro (fun hc => absurd ((jle hgc.1 hx (by omega) (by omega)).mp hc) (by omega)) (fun _ => ?_)
      obtain ⟨g0, hg0, hgx⟩ := vp_in_of hg8 (by decide)
      have eg : g.toNatClampNeg = g0 := jcl hgx (by omega)
      have nx : ¬ (jTells (jV σ' b) g.toNatClampNeg w.toNatClampNeg) i → vg_Go k_X1_believingNeighbour _ 10 [(0, .inr (1, b, 0)), (1, .inl (.int g)), (2, .inl (.int w)), (3, .inr (9, b, g.toNatClampNeg)), (4, .inl (.int (x + 1)))] [] σ' := fun z => ih _ _ ⟨rfl, x + 1, jinc hx, no z, rfl⟩
      refine And.intro hv (And.intro (fun hd => ?_) (fun hd => And.intro trivial (And.intro (fun he => And.intro hw12 (And.intro (fun hf => ?_) (fun hf => ?_))) (fun he => ?_))))
      · have ei : i = g.toNatClampNeg := by rw [← hc0, hd]
        exact And.intro (fun _ => nx (fun z => z.1 ei)) (fun z => absurd rfl z)
      · rw [hc0] at hf
        exact And.intro (fun _ => nx (fun z => z.2.2.1 hf)) (fun z => absurd rfl z)
      · rw [hc0] at he hf
        have ni : ¬ i = g.toNatClampNeg := fun z => hd (by rw [hx, hgx, ← eg, z])
        refine And.intro (fun z => absurd z (by decide)) (fun _ => And.intro (fun hh => And.intro trivial (And.intro (fun hk => ?_) (fun hk => ?_))) (fun hh => ?_))
        · rw [hc0] at hk
          exact nx (fun z => z.2.2.2.2 hk)
        · rw [hc0] at hh hk
          exact And.intro (by rw [yes ⟨ni, jb_0.mp he, hf, hh, hk⟩]) rfl
        · rw [hc0] at hh
          exact nx (fun z => hh z.2.2.2.1)
      · rw [hc0] at he
        exact And.intro (fun _ => nx (fun z => he (jb_f z.2.1))) (fun z => absurd rfl z)
    · rintro lv σ' ⟨e, x, hx, hr, rfl⟩
      subst e
      refine vg_run (cuts := [(10, [0, 1, 2, 3, 4])]) m_X1_believingNeighbour 20 ?_
      exact And.intro (fun _ => And.intro (by rw [hr, Nat.sub_self]; rfl) rfl) (fun hc => absurd ((jle hgc.1 hx (by omega) (by omega)).mpr (Nat.le_refl _)) hc)
  next => exact h.elim
theorem c_X1_believingNeighbour : vg_MetF ww_tb ww_nw ww_shp ww_nm ww_cl ww_tyl yX1_believingNeighbour cX1_believingNeighbour 7 (some .int) 2 sp_X1_believingNeighbour := vg_met ww_closed (by decide +kernel) rfl s_X1_believingNeighbour w_X1_believingNeighbour g_X1_believingNeighbour
/-- the nearest shelter with room, of those below n, and how far -/
def jNear (v : jN) (g : Nat) : Nat → Int32 × Int32
  | 0 => (-1, 16)
  | n + 1 => if v 10 n 1 < v 9 g 1 then jNear v g n else if (jNear v g n).2 ≤ jDist (v 9 g 0) (v 10 n 0) then jNear v g n else (nI n, jDist (v 9 g 0) (v 10 n 0))
def sp_X1_nearestWithRoom : vgC := fun av σ => match av with
  | [.inr (1, b, 0), .inr (9, b', g)] => (jWf (jV σ b) ∧ b' = b, some (.inl (.int ((jNear (jV σ b) g (jSc (jV σ b))).1))), σ)
  | _ => (False, none, σ)
def k_X1_nearestWithRoom : List (Nat × vgF) := [(0, vi_icst (-1) 1), (1, vi_istore 2 2), (2, vi_icst (16) 4), (4, vi_istore 3 5), (5, vi_icst (0) 6), (6, vi_istore 4 8), (8, vi_iload 4 10), (10, vi_aload 0 11), (11, vi_get ww_shp 1 5 14), (14, vi_cmp (fun x y => y ≤ x) 71 17), (17, vi_aload 1 18), (18, vi_get ww_shp 5 0 21), (21, vi_aload 0 22), (22, vi_get ww_shp 1 8 25), (25, vi_iload 4 27), (27, vi_aald ww_shp 3 28), (28, vi_get ww_shp 3 0 31), (31, vi_callS sp_X5_distance 2 34), (34, vi_istore 5 36), (36, vi_aload 0 37), (37, vi_get ww_shp 1 8 40), (40, vi_iload 4 42), (42, vi_aald ww_shp 3 43), (43, vi_get ww_shp 3 1 46), (46, vi_aload 1 47), (47, vi_get ww_shp 5 1 50), (50, vi_cmp (fun x y => x < y) 65 53), (53, vi_iload 5 55), (55, vi_iload 3 56), (56, vi_cmp (fun x y => y ≤ x) 65 59), (59, vi_iload 4 61), (61, vi_istore 2 62), (62, vi_iload 5 64), (64, vi_istore 3 65), (65, vi_iinc 4 (1) 68), (68, vi_goto 8), (71, vi_iload 2 72), (72, vi_ret)]
set_option maxRecDepth 20000 in
theorem s_X1_nearestWithRoom : ∀ q ∈ k_X1_nearestWithRoom, vg_Snd ww_tb ww_nw ww_shp ww_nm ww_cl ww_tyl cX1_nearestWithRoom 6 RX1 (some .int) 2 q.1 q.2 := by
  refine vg_cons (vs_iconst dX1_nearestWithRoom_0 rfl rfl) ?_
  refine vg_cons (vs_istore_n dX1_nearestWithRoom_1 rfl (by decide) rfl) ?_
  refine vg_cons (vs_bipush dX1_nearestWithRoom_2 (by decide) rfl) ?_
  refine vg_cons (vs_istore_n dX1_nearestWithRoom_4 rfl (by decide) rfl) ?_
  refine vg_cons (vs_iconst dX1_nearestWithRoom_5 rfl rfl) ?_
  refine vg_cons (vs_istore dX1_nearestWithRoom_6 (by decide) rfl) ?_
  refine vg_cons (vs_iload dX1_nearestWithRoom_8 rfl) ?_
  refine vg_cons (vs_aload_n dX1_nearestWithRoom_10 rfl rfl) ?_
  refine vg_cons (vs_getfield (T := TX1) dX1_nearestWithRoom_11 rfl (by decide) ww_inX1 q_60 rfl) ?_
  refine vg_cons (vs_cmp_ge dX1_nearestWithRoom_14 (by decide) rfl) ?_
  refine vg_cons (vs_aload_n dX1_nearestWithRoom_17 rfl rfl) ?_
  refine vg_cons (vs_getfield (T := TX0) dX1_nearestWithRoom_18 rfl (by decide) ww_inX0 q_49 rfl) ?_
  refine vg_cons (vs_aload_n dX1_nearestWithRoom_21 rfl rfl) ?_
  refine vg_cons (vs_getfield (T := TX1) dX1_nearestWithRoom_22 rfl (by decide) ww_inX1 q_61 rfl) ?_
  refine vg_cons (vs_iload dX1_nearestWithRoom_25 rfl) ?_
  refine vg_cons (vs_aaload dX1_nearestWithRoom_27 rfl rfl) ?_
  refine vg_cons (vs_getfield (T := TX3) dX1_nearestWithRoom_28 rfl (by decide) ww_inX3 q_62 rfl) ?_
  refine vg_cons (vs_callSN (host := "WarnWave") c_X5_distance dX1_nearestWithRoom_31 ww_good q_58 q_51 (by decide +kernel) q_59 (by decide +kernel) (by decide) rfl) ?_
  refine vg_cons (vs_istore dX1_nearestWithRoom_34 (by decide) rfl) ?_
  refine vg_cons (vs_aload_n dX1_nearestWithRoom_36 rfl rfl) ?_
  refine vg_cons (vs_getfield (T := TX1) dX1_nearestWithRoom_37 rfl (by decide) ww_inX1 q_61 rfl) ?_
  refine vg_cons (vs_iload dX1_nearestWithRoom_40 rfl) ?_
  refine vg_cons (vs_aaload dX1_nearestWithRoom_42 rfl rfl) ?_
  refine vg_cons (vs_getfield (T := TX3) dX1_nearestWithRoom_43 rfl (by decide) ww_inX3 q_63 rfl) ?_
  refine vg_cons (vs_aload_n dX1_nearestWithRoom_46 rfl rfl) ?_
  refine vg_cons (vs_getfield (T := TX0) dX1_nearestWithRoom_47 rfl (by decide) ww_inX0 q_44 rfl) ?_
  refine vg_cons (vs_cmp_lt dX1_nearestWithRoom_50 (by decide) rfl) ?_
  refine vg_cons (vs_iload dX1_nearestWithRoom_53 rfl) ?_
  refine vg_cons (vs_iload_n dX1_nearestWithRoom_55 rfl rfl) ?_
  refine vg_cons (vs_cmp_ge dX1_nearestWithRoom_56 (by decide) rfl) ?_
  refine vg_cons (vs_iload dX1_nearestWithRoom_59 rfl) ?_
  refine vg_cons (vs_istore_n dX1_nearestWithRoom_61 rfl (by decide) rfl) ?_
  refine vg_cons (vs_iload dX1_nearestWithRoom_62 rfl) ?_
  refine vg_cons (vs_istore_n dX1_nearestWithRoom_64 rfl (by decide) rfl) ?_
  refine vg_cons (vs_iinc dX1_nearestWithRoom_65 rfl rfl) ?_
  refine vg_cons (vs_goto dX1_nearestWithRoom_68 (by decide)) ?_
  refine vg_cons (vs_iload_n dX1_nearestWithRoom_71 rfl rfl) ?_
  refine vg_cons (vs_ireturn dX1_nearestWithRoom_72 rfl) ?_
  exact fun _ h => absurd h List.not_mem_nil
theorem m_X1_nearestWithRoom : vg_Code k_X1_nearestWithRoom := fun q h => (s_X1_nearestWithRoom q h).1

theorem w_X1_nearestWithRoom : vg_Wd sp_X1_nearestWithRoom 6 := by
  intro av σ h
  unfold sp_X1_nearestWithRoom at h
  split at h
  · exact Nat.le_of_ble_eq_true rfl
  · exact h.elim
theorem g_X1_nearestWithRoom : vg_G k_X1_nearestWithRoom sp_X1_nearestWithRoom := by
  intro av σ h
  unfold sp_X1_nearestWithRoom at h ⊢
  split at h
  next b b' g =>
    obtain ⟨hw, rfl⟩ := h
    have hsc := hw.2.1
    have h3 := hsc.2
    refine vg_run (cuts := [(8, [0, 1, 2, 3, 4])]) m_X1_nearestWithRoom 20 ?_
    refine vg_loop (fun i lv σ' => σ' = σ ∧ ∃ x q, x = nI i ∧ q = jNear (jV σ b') g i ∧ lv = [(0, .inr (1, b', 0)), (1, .inr (9, b', g)), (2, .inl (.int q.1)), (3, .inl (.int q.2)), (4, .inl (.int x))]) (jSc (jV σ b')) ?_ ?_ 0 _ _ (Nat.zero_le _) ⟨rfl, 0, (-1, 16), rfl, rfl, rfl⟩
    · rintro i lv σ' hi ⟨e, x, q, hx, hq, rfl⟩ ih
      subst e
      have hc0 : x.toNatClampNeg = i := jcl hx (by omega)
      have hv : vp_in x 3 := jin hx (by omega) (by decide)
      refine vg_run (cuts := [(8, [0, 1, 2, 3, 4])]) m_X1_nearestWithRoom 60 ?_
      refine And.intro (fun hc => absurd ((jle hsc.1 hx (by omega) (by omega)).mp hc) (by omega)) (fun _ => ?_)
      refine And.intro hv (And.intro trivial (And.intro hv (And.intro (fun hd => ?_) (fun hd => And.intro (fun he => ?_) (fun he => ?_)))))
      · rw [hc0] at hd
        exact ih _ _ ⟨rfl, x + 1, q, jinc hx, hq.trans (if_pos hd).symm, rfl⟩
      · rw [hc0, hq] at he
        rw [hc0] at hd
        exact ih _ _ ⟨rfl, x + 1, q, jinc hx, hq.trans ((if_neg hd).trans (if_pos he)).symm, rfl⟩
      · rw [hc0, hq] at he
        rw [hc0] at hd
        refine ih _ _ ⟨rfl, x + 1, (x, jDist (σ' (9, b', g) 0) (σ' (10, b', x.toNatClampNeg) 0)), jinc hx, ?_, rfl⟩
        rw [hc0, hx]
        exact ((if_neg hd).trans (if_neg he)).symm
    · rintro lv σ' ⟨e, x, q, hx, hq, rfl⟩
      subst e
      refine vg_run (cuts := [(8, [0, 1, 2, 3, 4])]) m_X1_nearestWithRoom 20 ?_
      exact And.intro (fun _ => And.intro (by rw [hq]) rfl) (fun hc => absurd ((jle hsc.1 hx (by omega) (by omega)).mpr (Nat.le_refl _)) hc)
  next => exact h.elim
theorem c_X1_nearestWithRoom : vg_MetF ww_tb ww_nw ww_shp ww_nm ww_cl ww_tyl yX1_nearestWithRoom cX1_nearestWithRoom 6 (some .int) 2 sp_X1_nearestWithRoom := vg_met ww_closed (by decide +kernel) rfl s_X1_nearestWithRoom w_X1_nearestWithRoom g_X1_nearestWithRoom
/-- cells added to a set -/
def jAdd (f : Nat → Prop) [DecidablePred f] (a : Int32) : Nat → Int32
  | 0 => a
  | n + 1 => if f n then jAdd f a n ||| ((1 : Int32) <<< (nI n &&& 31)) else jAdd f a n
abbrev jNearBy (v : jN) (j k c : Nat) : Prop := ¬ v 13 j k < jDist (v 7 j k) (nI c)
/-- the cells that the first n of the sirens (j = 0) or masts (j = 1) reach -/
def jReach (v : jN) (j : Nat) : Nat → Int32
  | 0 => 0
  | n + 1 => if v 8 j n = 0 then jReach v j n else jAdd (jNearBy v j n) (jReach v j n) 16
def sp_X2_cellsReached : vgC := fun av σ => match av with
  | [.inr (5, b, j)] => (jV σ b 5 j 3 = nI (jNc (jV σ b) j) ∧ jNc (jV σ b) j ≤ 5, some (.inl (.int (jReach (jV σ b) j (jNc (jV σ b) j)))), σ)
  | _ => (False, none, σ)
def k_X2_cellsReached : List (Nat × vgF) := [(0, vi_icst (0) 1), (1, vi_istore 1 2), (2, vi_icst (0) 3), (3, vi_istore 2 4), (4, vi_iload 2 5), (5, vi_aload 0 6), (6, vi_get ww_shp 2 3 9), (9, vi_cmp (fun x y => y ≤ x) 66 12), (12, vi_icst (0) 13), (13, vi_istore 3 14), (14, vi_aload 0 15), (15, vi_get ww_shp 2 2 18), (18, vi_iload 2 19), (19, vi_ald ww_shp 1 20), (20, vi_if (fun x => x = 0) 60 23), (23, vi_iload 3 24), (24, vi_icst (16) 26), (26, vi_cmp (fun x y => y ≤ x) 60 29), (29, vi_aload 0 30), (30, vi_get ww_shp 2 0 33), (33, vi_iload 2 34), (34, vi_ald ww_shp 0 35), (35, vi_iload 3 36), (36, vi_callS sp_X5_distance 2 39), (39, vi_aload 0 40), (40, vi_get ww_shp 2 1 43), (43, vi_iload 2 44), (44, vi_ald ww_shp 0 45), (45, vi_cmp (fun x y => y < x) 54 48), (48, vi_iload 1 49), (49, vi_icst (1) 50), (50, vi_iload 3 51), (51, vi_bin (fun x y => x <<< (y &&& 31)) 52), (52, vi_bin (fun x y => x ||| y) 53), (53, vi_istore 1 54), (54, vi_iinc 3 (1) 57), (57, vi_goto 14), (60, vi_iinc 2 (1) 63), (63, vi_goto 4), (66, vi_iload 1 67), (67, vi_ret)]
set_option maxRecDepth 20000 in
theorem s_X2_cellsReached : ∀ q ∈ k_X2_cellsReached, vg_Snd ww_tb ww_nw ww_shp ww_nm ww_cl ww_tyl cX2_cellsReached 4 RX2 (some .int) 2 q.1 q.2 := by
  refine vg_cons (vs_iconst dX2_cellsReached_0 rfl rfl) ?_
  refine vg_cons (vs_istore_n dX2_cellsReached_1 rfl (by decide) rfl) ?_
  refine vg_cons (vs_iconst dX2_cellsReached_2 rfl rfl) ?_
  refine vg_cons (vs_istore_n dX2_cellsReached_3 rfl (by decide) rfl) ?_
  refine vg_cons (vs_iload_n dX2_cellsReached_4 rfl rfl) ?_
  refine vg_cons (vs_aload_n dX2_cellsReached_5 rfl rfl) ?_
  refine vg_cons (vs_getfield (T := TX2) dX2_cellsReached_6 rfl (by decide) ww_inX2 q_64 rfl) ?_
  refine vg_cons (vs_cmp_ge dX2_cellsReached_9 (by decide) rfl) ?_
  refine vg_cons (vs_iconst dX2_cellsReached_12 rfl rfl) ?_
  refine vg_cons (vs_istore_n dX2_cellsReached_13 rfl (by decide) rfl) ?_
  refine vg_cons (vs_aload_n dX2_cellsReached_14 rfl rfl) ?_
  refine vg_cons (vs_getfield (T := TX2) dX2_cellsReached_15 rfl (by decide) ww_inX2 q_65 rfl) ?_
  refine vg_cons (vs_iload_n dX2_cellsReached_18 rfl rfl) ?_
  refine vg_cons (vs_zaload dX2_cellsReached_19 rfl rfl) ?_
  refine vg_cons (vs_if_eq dX2_cellsReached_20 (by decide) rfl) ?_
  refine vg_cons (vs_iload_n dX2_cellsReached_23 rfl rfl) ?_
  refine vg_cons (vs_bipush dX2_cellsReached_24 (by decide) rfl) ?_
  refine vg_cons (vs_cmp_ge dX2_cellsReached_26 (by decide) rfl) ?_
  refine vg_cons (vs_aload_n dX2_cellsReached_29 rfl rfl) ?_
  refine vg_cons (vs_getfield (T := TX2) dX2_cellsReached_30 rfl (by decide) ww_inX2 q_66 rfl) ?_
  refine vg_cons (vs_iload_n dX2_cellsReached_33 rfl rfl) ?_
  refine vg_cons (vs_iaload dX2_cellsReached_34 rfl rfl) ?_
  refine vg_cons (vs_iload_n dX2_cellsReached_35 rfl rfl) ?_
  refine vg_cons (vs_callSN (host := "WarnWave") c_X5_distance dX2_cellsReached_36 ww_good q_58 q_51 (by decide +kernel) q_59 (by decide +kernel) (by decide) rfl) ?_
  refine vg_cons (vs_aload_n dX2_cellsReached_39 rfl rfl) ?_
  refine vg_cons (vs_getfield (T := TX2) dX2_cellsReached_40 rfl (by decide) ww_inX2 q_67 rfl) ?_
  refine vg_cons (vs_iload_n dX2_cellsReached_43 rfl rfl) ?_
  refine vg_cons (vs_iaload dX2_cellsReached_44 rfl rfl) ?_
  refine vg_cons (vs_cmp_gt dX2_cellsReached_45 (by decide) rfl) ?_
  refine vg_cons (vs_iload_n dX2_cellsReached_48 rfl rfl) ?_
  refine vg_cons (vs_iconst dX2_cellsReached_49 rfl rfl) ?_
  refine vg_cons (vs_iload_n dX2_cellsReached_50 rfl rfl) ?_
  refine vg_cons (vs_ishl dX2_cellsReached_51 rfl) ?_
  refine vg_cons (vs_ior dX2_cellsReached_52 rfl) ?_
  refine vg_cons (vs_istore_n dX2_cellsReached_53 rfl (by decide) rfl) ?_
  refine vg_cons (vs_iinc dX2_cellsReached_54 rfl rfl) ?_
  refine vg_cons (vs_goto dX2_cellsReached_57 (by decide)) ?_
  refine vg_cons (vs_iinc dX2_cellsReached_60 rfl rfl) ?_
  refine vg_cons (vs_goto dX2_cellsReached_63 (by decide)) ?_
  refine vg_cons (vs_iload_n dX2_cellsReached_66 rfl rfl) ?_
  refine vg_cons (vs_ireturn dX2_cellsReached_67 rfl) ?_
  exact fun _ h => absurd h List.not_mem_nil
theorem m_X2_cellsReached : vg_Code k_X2_cellsReached := fun q h => (s_X2_cellsReached q h).1

theorem w_X2_cellsReached : vg_Wd sp_X2_cellsReached 4 := by
  intro av σ h
  unfold sp_X2_cellsReached at h
  split at h
  · exact Nat.le_of_ble_eq_true rfl
  · exact h.elim
theorem g_X2_cellsReached : vg_G k_X2_cellsReached sp_X2_cellsReached := by
  intro av σ h
  unfold sp_X2_cellsReached at h ⊢
  split at h
  next b j =>
    have hn := h
    have h5 := h.2
    refine vg_run (cuts := [(4, [0, 1, 2])]) m_X2_cellsReached 20 ?_
    refine vg_loop (fun i lv σ' => σ' = σ ∧ ∃ x a, x = nI i ∧ a = jReach (jV σ b) j i ∧ lv = [(0, .inr (5, b, j)), (1, .inl (.int a)), (2, .inl (.int x))]) (jNc (jV σ b) j) ?_ ?_ 0 _ _ (Nat.zero_le _) ⟨rfl, 0, 0, rfl, rfl, rfl⟩
    · rintro i lv σ' hi ⟨e, x, a, hx, ha, rfl⟩ ih
      subst e
      have hc0 : x.toNatClampNeg = i := jcl hx (by omega)
      have hv : vp_in x 5 := jin hx (by omega) (by decide)
      refine vg_run (cuts := [(4, [0, 1, 2]), (14, [0, 1, 2, 3])]) m_X2_cellsReached 20 ?_
      refine And.intro (fun hc => absurd ((jle hn.1 hx (by omega) (by omega)).mp hc) (by omega)) (fun _ => ?_)
      by_cases hp : jV σ' b 8 j i = 0
      · refine vg_run (cuts := [(4, [0, 1, 2])]) m_X2_cellsReached 20 ?_
        refine And.intro hv (And.intro (fun _ => ?_) (fun z => absurd (by rw [hc0]; exact hp) z))
        exact ih _ _ ⟨rfl, x + 1, a, jinc hx, by rw [jReach, if_pos hp, ha], rfl⟩
      · refine vg_loop (fun c lv σ'' => σ'' = σ' ∧ ∃ y a', y = nI c ∧ a' = jAdd (jNearBy (jV σ' b) j i) a c ∧ lv = [(0, .inr (5, b, j)), (1, .inl (.int a')), (2, .inl (.int x)), (3, .inl (.int y))]) 16 ?_ ?_ 0 _ _ (Nat.zero_le _) ⟨rfl, 0, a, rfl, rfl, rfl⟩
        · rintro c lv σ'' hi2 ⟨e, y, a', hy, ha', rfl⟩ ih2
          subst e
          refine vg_run (cuts := [(4, [0, 1, 2]), (14, [0, 1, 2, 3])]) m_X2_cellsReached 40 ?_
          refine And.intro hv (And.intro (fun z => absurd z (by rw [hc0]; exact hp)) (fun _ => And.intro (fun hc => absurd ((jle (n := 16) rfl hy (by omega) (by omega)).mp hc) (by omega)) (fun _ => ?_)))
          refine And.intro hv (And.intro trivial (And.intro hv (And.intro (fun hd => ?_) (fun hd => ?_))))
          · rw [hc0, hy] at hd
            have hd' : ¬ jNearBy (jV σ'' b) j i c := fun z => z hd
            exact ih2 _ _ ⟨rfl, y + 1, a', jinc hy, by rw [jAdd, if_neg hd', ha'], rfl⟩
          · rw [hc0, hy] at hd
            have hd' : jNearBy (jV σ'' b) j i c := hd
            exact ih2 _ _ ⟨rfl, y + 1, a' ||| ((1 : Int32) <<< (y &&& 31)), jinc hy, by rw [jAdd, if_pos hd', ha', hy], rfl⟩
        · rintro lv σ'' ⟨e, y, a', hy, ha', rfl⟩
          subst e
          refine vg_run (cuts := [(4, [0, 1, 2])]) m_X2_cellsReached 20 ?_
          refine And.intro hv (And.intro (fun z => absurd z (by rw [hc0]; exact hp)) (fun _ => And.intro (fun _ => ?_) (fun hc => absurd ((jle (n := 16) rfl hy (by omega) (by omega)).mpr (Nat.le_refl _)) hc)))
          exact ih _ _ ⟨rfl, x + 1, a', jinc hx, by rw [jReach, if_neg hp, ha', ha], rfl⟩
    · rintro lv σ' ⟨e, x, a, hx, ha, rfl⟩
      subst e
      refine vg_run (cuts := [(4, [0, 1, 2])]) m_X2_cellsReached 20 ?_
      exact And.intro (fun _ => And.intro (by rw [ha]) rfl) (fun hc => absurd ((jle hn.1 hx (by omega) (by omega)).mpr (Nat.le_refl _)) hc)
  next => exact h.elim
theorem c_X2_cellsReached : vg_MetF ww_tb ww_nw ww_shp ww_nm ww_cl ww_tyl yX2_cellsReached cX2_cellsReached 4 (some .int) 2 sp_X2_cellsReached := vg_met ww_closed (by decide +kernel) rfl s_X2_cellsReached w_X2_cellsReached g_X2_cellsReached
/-- the ways that don't hang on others: sirens, masts, radio -/
def jPub (v : jN) (g w : Nat) (si ma sl : Int32) : Int32 :=
  if jIn (v 11 w 2) (v 9 g 0) = 0 then 0 else
  let s0 : Int32 := if si = 0 then 0 else 1
  if jIn (v 11 w 4) (v 9 g 2) = 0 then s0 else
  let s1 : Int32 := if ma = 0 then s0 else if sl = 0 then s0 ||| 2 else if v 1 0 0 - v 11 w 6 < 2 then s0 else s0 ||| 2
  if v 9 g 5 = 0 then s1 else if sl = 0 then s1 ||| 4 else s1
def sp_X1_publicWays : vgC := fun av σ => match av with
  | [.inr (1, b, 0), .inr (9, b', g), .inr (11, b'', w), .inl (.int si), .inl (.int ma), .inl (.int sl)] => (b' = b ∧ b'' = b, some (.inl (.int (jPub (jV σ b) g w si ma sl))), σ)
  | _ => (False, none, σ)
def k_X1_publicWays : List (Nat × vgF) := [(0, vi_aload 2 1), (1, vi_get ww_shp 4 2 4), (4, vi_aload 1 5), (5, vi_get ww_shp 5 0 8), (8, vi_callS sp_X5_isIn 2 11), (11, vi_if (fun x => x = 0) 14 16), (14, vi_icst (0) 15), (15, vi_ret), (16, vi_iload 3 17), (17, vi_if (fun x => x = 0) 24 20), (20, vi_icst (1) 21), (21, vi_goto 25), (24, vi_icst (0) 25), (25, vi_istore 6 27), (27, vi_aload 2 28), (28, vi_get ww_shp 4 4 31), (31, vi_aload 1 32), (32, vi_get ww_shp 5 2 35), (35, vi_callS sp_X5_isIn 2 38), (38, vi_if (fun x => x = 0) 41 44), (41, vi_iload 6 43), (43, vi_ret), (44, vi_iload 4 46), (46, vi_if (fun x => x = 0) 73 49), (49, vi_iload 5 51), (51, vi_if (fun x => x = 0) 67 54), (54, vi_aload 0 55), (55, vi_get ww_shp 1 0 58), (58, vi_aload 2 59), (59, vi_get ww_shp 4 6 62), (62, vi_bin (fun x y => x - y) 63), (63, vi_icst (2) 64), (64, vi_cmp (fun x y => x < y) 73 67), (67, vi_iload 6 69), (69, vi_icst (2) 70), (70, vi_bin (fun x y => x ||| y) 71), (71, vi_istore 6 73), (73, vi_aload 1 74), (74, vi_get ww_shp 5 5 77), (77, vi_if (fun x => x = 0) 92 80), (80, vi_iload 5 82), (82, vi_if (fun x => x = 0) 85 92), (85, vi_iload 6 87), (87, vi_icst (4) 88), (88, vi_bin (fun x y => x ||| y) 89), (89, vi_goto 94), (92, vi_iload 6 94), (94, vi_ret)]
set_option maxRecDepth 20000 in
theorem s_X1_publicWays : ∀ q ∈ k_X1_publicWays, vg_Snd ww_tb ww_nw ww_shp ww_nm ww_cl ww_tyl cX1_publicWays 7 RX1 (some .int) 1 q.1 q.2 := by
  refine vg_cons (vs_aload_n dX1_publicWays_0 rfl rfl) ?_
  refine vg_cons (vs_getfield (T := TX4) dX1_publicWays_1 rfl (by decide) ww_inX4 q_53 rfl) ?_
  refine vg_cons (vs_aload_n dX1_publicWays_4 rfl rfl) ?_
  refine vg_cons (vs_getfield (T := TX0) dX1_publicWays_5 rfl (by decide) ww_inX0 q_49 rfl) ?_
  refine vg_cons (vs_callSN (host := "WarnWave") c_X5_isIn dX1_publicWays_8 ww_good q_50 q_51 (by decide +kernel) q_52 (by decide +kernel) (by decide) rfl) ?_
  refine vg_cons (vs_if_ne dX1_publicWays_11 (by decide) rfl) ?_
  refine vg_cons (vs_iconst dX1_publicWays_14 rfl rfl) ?_
  refine vg_cons (vs_ireturn dX1_publicWays_15 rfl) ?_
  refine vg_cons (vs_iload_n dX1_publicWays_16 rfl rfl) ?_
  refine vg_cons (vs_if_eq dX1_publicWays_17 (by decide) rfl) ?_
  refine vg_cons (vs_iconst dX1_publicWays_20 rfl rfl) ?_
  refine vg_cons (vs_goto dX1_publicWays_21 (by decide)) ?_
  refine vg_cons (vs_iconst dX1_publicWays_24 rfl rfl) ?_
  refine vg_cons (vs_istore dX1_publicWays_25 (by decide) rfl) ?_
  refine vg_cons (vs_aload_n dX1_publicWays_27 rfl rfl) ?_
  refine vg_cons (vs_getfield (T := TX4) dX1_publicWays_28 rfl (by decide) ww_inX4 q_54 rfl) ?_
  refine vg_cons (vs_aload_n dX1_publicWays_31 rfl rfl) ?_
  refine vg_cons (vs_getfield (T := TX0) dX1_publicWays_32 rfl (by decide) ww_inX0 q_55 rfl) ?_
  refine vg_cons (vs_callSN (host := "WarnWave") c_X5_isIn dX1_publicWays_35 ww_good q_50 q_51 (by decide +kernel) q_52 (by decide +kernel) (by decide) rfl) ?_
  refine vg_cons (vs_if_ne dX1_publicWays_38 (by decide) rfl) ?_
  refine vg_cons (vs_iload dX1_publicWays_41 rfl) ?_
  refine vg_cons (vs_ireturn dX1_publicWays_43 rfl) ?_
  refine vg_cons (vs_iload dX1_publicWays_44 rfl) ?_
  refine vg_cons (vs_if_eq dX1_publicWays_46 (by decide) rfl) ?_
  refine vg_cons (vs_iload dX1_publicWays_49 rfl) ?_
  refine vg_cons (vs_if_eq dX1_publicWays_51 (by decide) rfl) ?_
  refine vg_cons (vs_aload_n dX1_publicWays_54 rfl rfl) ?_
  refine vg_cons (vs_getfield (T := TX1) dX1_publicWays_55 rfl (by decide) ww_inX1 q_10 rfl) ?_
  refine vg_cons (vs_aload_n dX1_publicWays_58 rfl rfl) ?_
  refine vg_cons (vs_getfield (T := TX4) dX1_publicWays_59 rfl (by decide) ww_inX4 q_68 rfl) ?_
  refine vg_cons (vs_isub dX1_publicWays_62 rfl) ?_
  refine vg_cons (vs_iconst dX1_publicWays_63 rfl rfl) ?_
  refine vg_cons (vs_cmp_lt dX1_publicWays_64 (by decide) rfl) ?_
  refine vg_cons (vs_iload dX1_publicWays_67 rfl) ?_
  refine vg_cons (vs_iconst dX1_publicWays_69 rfl rfl) ?_
  refine vg_cons (vs_ior dX1_publicWays_70 rfl) ?_
  refine vg_cons (vs_istore dX1_publicWays_71 (by decide) rfl) ?_
  refine vg_cons (vs_aload_n dX1_publicWays_73 rfl rfl) ?_
  refine vg_cons (vs_getfield (T := TX0) dX1_publicWays_74 rfl (by decide) ww_inX0 q_69 rfl) ?_
  refine vg_cons (vs_if_eq dX1_publicWays_77 (by decide) rfl) ?_
  refine vg_cons (vs_iload dX1_publicWays_80 rfl) ?_
  refine vg_cons (vs_if_ne dX1_publicWays_82 (by decide) rfl) ?_
  refine vg_cons (vs_iload dX1_publicWays_85 rfl) ?_
  refine vg_cons (vs_iconst dX1_publicWays_87 rfl rfl) ?_
  refine vg_cons (vs_ior dX1_publicWays_88 rfl) ?_
  refine vg_cons (vs_goto dX1_publicWays_89 (by decide)) ?_
  refine vg_cons (vs_iload dX1_publicWays_92 rfl) ?_
  refine vg_cons (vs_ireturn dX1_publicWays_94 rfl) ?_
  exact fun _ h => absurd h List.not_mem_nil
theorem m_X1_publicWays : vg_Code k_X1_publicWays := fun q h => (s_X1_publicWays q h).1

theorem w_X1_publicWays : vg_Wd sp_X1_publicWays 7 := by
  intro av σ h
  unfold sp_X1_publicWays at h
  split at h
  · exact Nat.le_of_ble_eq_true rfl
  · exact h.elim
theorem g_X1_publicWays : vg_G k_X1_publicWays sp_X1_publicWays := by
  intro av σ h
  unfold sp_X1_publicWays at h ⊢
  split at h
  next b b' g b'' w si ma sl =>
    obtain ⟨rfl, rfl⟩ := h
    refine vg_run (cuts := []) m_X1_publicWays 80 ?_
    have A : ∀ z, z = jPub (jV σ b'') g w si ma sl → some (Sum.inl (Value.int z)) = (some (Sum.inl (Value.int (jPub (jV σ b'') g w si ma sl))) : Option vgV) := fun z e => by rw [e]
    refine And.intro trivial (And.intro (fun hc => And.intro (A _ (if_pos hc).symm) rfl) (fun hc => ?_))
    refine And.intro (fun hd => And.intro trivial (And.intro (fun he => ?_) (fun he => ?_))) (fun hd => And.intro trivial (And.intro (fun he => ?_) (fun he => ?_)))
    · exact And.intro (A _ (by unfold jPub; simp_all [jV])) rfl
    · refine And.intro (fun h1 => ?_) (fun h1 => And.intro (fun h2 => ?_) (fun h2 => And.intro (fun h3 => ?_) (fun h3 => ?_)))
      all_goals refine And.intro (fun h4 => ?_) (fun h4 => And.intro (fun h5 => ?_) (fun h5 => ?_))
      all_goals exact And.intro (A _ (by unfold jPub; simp_all [jV] <;> (intro hz; exact absurd hz (Int32.not_lt.mpr ‹_›)))) rfl
    · exact And.intro (A _ (by unfold jPub; simp_all [jV])) rfl
    · refine And.intro (fun h1 => ?_) (fun h1 => And.intro (fun h2 => ?_) (fun h2 => And.intro (fun h3 => ?_) (fun h3 => ?_)))
      all_goals refine And.intro (fun h4 => ?_) (fun h4 => And.intro (fun h5 => ?_) (fun h5 => ?_))
      all_goals exact And.intro (A _ (by unfold jPub; simp_all [jV] <;> (intro hz; exact absurd hz (Int32.not_lt.mpr ‹_›)))) rfl
  next => exact h.elim
theorem c_X1_publicWays : vg_MetF ww_tb ww_nw ww_shp ww_nm ww_cl ww_tyl yX1_publicWays cX1_publicWays 7 (some .int) 1 sp_X1_publicWays := vg_met ww_closed (by decide +kernel) rfl s_X1_publicWays w_X1_publicWays g_X1_publicWays
