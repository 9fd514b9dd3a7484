-- words of the tables, and what stands at each place of the methods' code (laid by program)
theorem q_75 : Cond.fieldLink RX1 50 (TX1 13).1 (TX1 13).2.1 (TX1 13).2.2.1 ∈ ww_tb := by decide +kernel
theorem q_76 : Cond.code yX1_believingNeighbour cX1_believingNeighbour 7 (some .int) ∈ ww_tb := by decide +kernel
theorem q_77 : Cond.methodLink RX1 232 yX1_believingNeighbour ∈ ww_tb := by decide +kernel
theorem q_78 : Cond.instanceMethod yX1_believingNeighbour ∈ ww_tb := by decide +kernel
theorem q_79 : Cond.selects RX1 yX1_believingNeighbour yX1_believingNeighbour ∈ ww_tb := by decide +kernel
theorem q_80 : Cond.code yX0_noteWays cX0_noteWays 5 none ∈ ww_tb := by decide +kernel
theorem q_81 : Cond.methodLink RX1 235 yX0_noteWays ∈ ww_tb := by decide +kernel
theorem q_82 : Cond.instanceMethod yX0_noteWays ∈ ww_tb := by decide +kernel
theorem q_83 : Cond.selects RX0 yX0_noteWays yX0_noteWays ∈ ww_tb := by decide +kernel
theorem q_84 : Cond.fieldLink RX1 39 (TX1 10).1 (TX1 10).2.1 (TX1 10).2.2.1 ∈ ww_tb := by decide +kernel
theorem q_85 : Cond.code yX2_cellsReached cX2_cellsReached 4 (some .int) ∈ ww_tb := by decide +kernel
theorem q_86 : Cond.initialized RX2 ∈ ww_tb := by decide +kernel
theorem q_87 : Cond.methodLink RX1 218 yX2_cellsReached ∈ ww_tb := by decide +kernel
theorem q_88 : Cond.instanceMethod yX2_cellsReached ∈ ww_tb := by decide +kernel
theorem q_89 : Cond.selects RX2 yX2_cellsReached yX2_cellsReached ∈ ww_tb := by decide +kernel
theorem q_90 : Cond.fieldLink RX1 43 (TX1 11).1 (TX1 11).2.1 (TX1 11).2.2.1 ∈ ww_tb := by decide +kernel
theorem q_91 : Cond.code yX1_publicWays cX1_publicWays 7 (some .int) ∈ ww_tb := by decide +kernel
theorem q_92 : Cond.methodLink RX1 221 yX1_publicWays ∈ ww_tb := by decide +kernel
theorem q_93 : Cond.instanceMethod yX1_publicWays ∈ ww_tb := by decide +kernel
theorem q_94 : Cond.selects RX1 yX1_publicWays yX1_publicWays ∈ ww_tb := by decide +kernel
theorem q_95 : Cond.code yX1_hearOne cX1_hearOne 7 none ∈ ww_tb := by decide +kernel
theorem q_96 : Cond.methodLink RX1 225 yX1_hearOne ∈ ww_tb := by decide +kernel
theorem q_97 : Cond.instanceMethod yX1_hearOne ∈ ww_tb := by decide +kernel
theorem q_98 : Cond.selects RX1 yX1_hearOne yX1_hearOne ∈ ww_tb := by decide +kernel
theorem q_99 : Cond.fieldLink RX1 9 (TX1 1).1 (TX1 1).2.1 (TX1 1).2.2.1 ∈ ww_tb := by decide +kernel
theorem q_100 : Cond.code yX1_firstToCall cX1_firstToCall 7 (some .int) ∈ ww_tb := by decide +kernel
theorem q_101 : Cond.methodLink RX1 203 yX1_firstToCall ∈ ww_tb := by decide +kernel
theorem q_102 : Cond.instanceMethod yX1_firstToCall ∈ ww_tb := by decide +kernel
theorem q_103 : Cond.selects RX1 yX1_firstToCall yX1_firstToCall ∈ ww_tb := by decide +kernel
theorem q_104 : Cond.fieldLink RX1 59 (TX1 3).1 (TX1 3).2.1 (TX1 3).2.2.1 ∈ ww_tb := by decide +kernel
theorem dX1_hearOne_0 : decode cX1_hearOne 0 = .ok (.iload_n 3, 1) := by decide +kernel
theorem dX1_hearOne_1 : decode cX1_hearOne 1 = .ok (.istore 4, 2) := by decide +kernel
theorem dX1_hearOne_3 : decode cX1_hearOne 3 = .ok (.aload_n 0, 1) := by decide +kernel
theorem dX1_hearOne_4 : decode cX1_hearOne 4 = .ok (.getfield 50, 3) := by decide +kernel
theorem dX1_hearOne_7 : decode cX1_hearOne 7 = .ok (.iload_n 2, 1) := by decide +kernel
theorem dX1_hearOne_8 : decode cX1_hearOne 8 = .ok (.iaload, 1) := by decide +kernel
theorem dX1_hearOne_9 : decode cX1_hearOne 9 = .ok (.iload_n 1, 1) := by decide +kernel
theorem dX1_hearOne_10 : decode cX1_hearOne 10 = .ok (.if_icmp .ne 10, 3) := by decide +kernel
theorem dX1_hearOne_13 : decode cX1_hearOne 13 = .ok (.iload 4, 2) := by decide +kernel
theorem dX1_hearOne_15 : decode cX1_hearOne 15 = .ok (.bipush 8, 2) := by decide +kernel
theorem dX1_hearOne_17 : decode cX1_hearOne 17 = .ok (.ior, 1) := by decide +kernel
theorem dX1_hearOne_18 : decode cX1_hearOne 18 = .ok (.istore 4, 2) := by decide +kernel
theorem dX1_hearOne_20 : decode cX1_hearOne 20 = .ok (.aload_n 0, 1) := by decide +kernel
theorem dX1_hearOne_21 : decode cX1_hearOne 21 = .ok (.getfield 20, 3) := by decide +kernel
theorem dX1_hearOne_24 : decode cX1_hearOne 24 = .ok (.iload_n 1, 1) := by decide +kernel
theorem dX1_hearOne_25 : decode cX1_hearOne 25 = .ok (.aaload, 1) := by decide +kernel
theorem dX1_hearOne_26 : decode cX1_hearOne 26 = .ok (.getfield 212, 3) := by decide +kernel
theorem dX1_hearOne_29 : decode cX1_hearOne 29 = .ok (.iload_n 2, 1) := by decide +kernel
theorem dX1_hearOne_30 : decode cX1_hearOne 30 = .ok (.iaload, 1) := by decide +kernel
theorem dX1_hearOne_31 : decode cX1_hearOne 31 = .ok (.iconst 4, 1) := by decide +kernel
theorem dX1_hearOne_32 : decode cX1_hearOne 32 = .ok (.invokestatic 130, 3) := by decide +kernel
theorem dX1_hearOne_35 : decode cX1_hearOne 35 = .ok (.istore 5, 2) := by decide +kernel
theorem dX1_hearOne_37 : decode cX1_hearOne 37 = .ok (.iload 5, 2) := by decide +kernel
theorem dX1_hearOne_39 : decode cX1_hearOne 39 = .ok (.ifCond .eq 7, 3) := by decide +kernel
theorem dX1_hearOne_42 : decode cX1_hearOne 42 = .ok (.iconst (-1), 1) := by decide +kernel
theorem dX1_hearOne_43 : decode cX1_hearOne 43 = .ok (.goto 9, 3) := by decide +kernel
theorem dX1_hearOne_46 : decode cX1_hearOne 46 = .ok (.aload_n 0, 1) := by decide +kernel
theorem dX1_hearOne_47 : decode cX1_hearOne 47 = .ok (.iload_n 1, 1) := by decide +kernel
theorem dX1_hearOne_48 : decode cX1_hearOne 48 = .ok (.iload_n 2, 1) := by decide +kernel
theorem dX1_hearOne_49 : decode cX1_hearOne 49 = .ok (.invokevirtual 232, 3) := by decide +kernel
theorem dX1_hearOne_52 : decode cX1_hearOne 52 = .ok (.istore 6, 2) := by decide +kernel
theorem dX1_hearOne_54 : decode cX1_hearOne 54 = .ok (.iload 6, 2) := by decide +kernel
theorem dX1_hearOne_56 : decode cX1_hearOne 56 = .ok (.iconst (-1), 1) := by decide +kernel
theorem dX1_hearOne_57 : decode cX1_hearOne 57 = .ok (.if_icmp .eq 10, 3) := by decide +kernel
theorem dX1_hearOne_60 : decode cX1_hearOne 60 = .ok (.iload 4, 2) := by decide +kernel
theorem dX1_hearOne_62 : decode cX1_hearOne 62 = .ok (.bipush 16, 2) := by decide +kernel
theorem dX1_hearOne_64 : decode cX1_hearOne 64 = .ok (.ior, 1) := by decide +kernel
theorem dX1_hearOne_65 : decode cX1_hearOne 65 = .ok (.istore 4, 2) := by decide +kernel
theorem dX1_hearOne_67 : decode cX1_hearOne 67 = .ok (.aload_n 0, 1) := by decide +kernel
theorem dX1_hearOne_68 : decode cX1_hearOne 68 = .ok (.getfield 20, 3) := by decide +kernel
theorem dX1_hearOne_71 : decode cX1_hearOne 71 = .ok (.iload_n 1, 1) := by decide +kernel
theorem dX1_hearOne_72 : decode cX1_hearOne 72 = .ok (.aaload, 1) := by decide +kernel
theorem dX1_hearOne_73 : decode cX1_hearOne 73 = .ok (.iload_n 2, 1) := by decide +kernel
theorem dX1_hearOne_74 : decode cX1_hearOne 74 = .ok (.iload 4, 2) := by decide +kernel
theorem dX1_hearOne_76 : decode cX1_hearOne 76 = .ok (.iload 6, 2) := by decide +kernel
theorem dX1_hearOne_78 : decode cX1_hearOne 78 = .ok (.aload_n 0, 1) := by decide +kernel
theorem dX1_hearOne_79 : decode cX1_hearOne 79 = .ok (.getfield 56, 3) := by decide +kernel
theorem dX1_hearOne_82 : decode cX1_hearOne 82 = .ok (.invokevirtual 235, 3) := by decide +kernel
theorem dX1_hearOne_85 : decode cX1_hearOne 85 = .ok (.return_, 1) := by decide +kernel
theorem dX1_hearAll_0 : decode cX1_hearAll 0 = .ok (.aload_n 0, 1) := by decide +kernel
theorem dX1_hearAll_1 : decode cX1_hearAll 1 = .ok (.getfield 56, 3) := by decide +kernel
theorem dX1_hearAll_4 : decode cX1_hearAll 4 = .ok (.iconst 3, 1) := by decide +kernel
theorem dX1_hearAll_5 : decode cX1_hearAll 5 = .ok (.irem, 1) := by decide +kernel
theorem dX1_hearAll_6 : decode cX1_hearAll 6 = .ok (.ifCond .ne 13, 3) := by decide +kernel
theorem dX1_hearAll_9 : decode cX1_hearAll 9 = .ok (.aload_n 0, 1) := by decide +kernel
theorem dX1_hearAll_10 : decode cX1_hearAll 10 = .ok (.getfield 39, 3) := by decide +kernel
theorem dX1_hearAll_13 : decode cX1_hearAll 13 = .ok (.invokevirtual 218, 3) := by decide +kernel
theorem dX1_hearAll_16 : decode cX1_hearAll 16 = .ok (.goto 4, 3) := by decide +kernel
theorem dX1_hearAll_19 : decode cX1_hearAll 19 = .ok (.iconst 0, 1) := by decide +kernel
theorem dX1_hearAll_20 : decode cX1_hearAll 20 = .ok (.istore_n 1, 1) := by decide +kernel
theorem dX1_hearAll_21 : decode cX1_hearAll 21 = .ok (.aload_n 0, 1) := by decide +kernel
theorem dX1_hearAll_22 : decode cX1_hearAll 22 = .ok (.getfield 43, 3) := by decide +kernel
theorem dX1_hearAll_25 : decode cX1_hearAll 25 = .ok (.invokevirtual 218, 3) := by decide +kernel
theorem dX1_hearAll_28 : decode cX1_hearAll 28 = .ok (.istore_n 2, 1) := by decide +kernel
theorem dX1_hearAll_29 : decode cX1_hearAll 29 = .ok (.iconst 0, 1) := by decide +kernel
theorem dX1_hearAll_30 : decode cX1_hearAll 30 = .ok (.istore_n 3, 1) := by decide +kernel
theorem dX1_hearAll_31 : decode cX1_hearAll 31 = .ok (.iload_n 3, 1) := by decide +kernel
theorem dX1_hearAll_32 : decode cX1_hearAll 32 = .ok (.aload_n 0, 1) := by decide +kernel
theorem dX1_hearAll_33 : decode cX1_hearAll 33 = .ok (.getfield 62, 3) := by decide +kernel
theorem dX1_hearAll_36 : decode cX1_hearAll 36 = .ok (.if_icmp .ge 135, 3) := by decide +kernel
theorem dX1_hearAll_39 : decode cX1_hearAll 39 = .ok (.aload_n 0, 1) := by decide +kernel
theorem dX1_hearAll_40 : decode cX1_hearAll 40 = .ok (.getfield 20, 3) := by decide +kernel
theorem dX1_hearAll_43 : decode cX1_hearAll 43 = .ok (.iload_n 3, 1) := by decide +kernel
theorem dX1_hearAll_44 : decode cX1_hearAll 44 = .ok (.aaload, 1) := by decide +kernel
theorem dX1_hearAll_45 : decode cX1_hearAll 45 = .ok (.astore 4, 2) := by decide +kernel
theorem dX1_hearAll_47 : decode cX1_hearAll 47 = .ok (.aload 4, 2) := by decide +kernel
theorem dX1_hearAll_49 : decode cX1_hearAll 49 = .ok (.invokevirtual 97, 3) := by decide +kernel
theorem dX1_hearAll_52 : decode cX1_hearAll 52 = .ok (.ifCond .eq 6, 3) := by decide +kernel
theorem dX1_hearAll_55 : decode cX1_hearAll 55 = .ok (.goto 110, 3) := by decide +kernel
theorem dX1_hearAll_58 : decode cX1_hearAll 58 = .ok (.aload_n 0, 1) := by decide +kernel
theorem dX1_hearAll_59 : decode cX1_hearAll 59 = .ok (.aload 4, 2) := by decide +kernel
theorem dX1_hearAll_61 : decode cX1_hearAll 61 = .ok (.invokevirtual 119, 3) := by decide +kernel
theorem dX1_hearAll_64 : decode cX1_hearAll 64 = .ok (.istore 5, 2) := by decide +kernel
theorem dX1_hearAll_66 : decode cX1_hearAll 66 = .ok (.iload_n 1, 1) := by decide +kernel
theorem dX1_hearAll_67 : decode cX1_hearAll 67 = .ok (.aload 4, 2) := by decide +kernel
theorem dX1_hearAll_69 : decode cX1_hearAll 69 = .ok (.getfield 129, 3) := by decide +kernel
theorem dX1_hearAll_72 : decode cX1_hearAll 72 = .ok (.invokestatic 130, 3) := by decide +kernel
theorem dX1_hearAll_75 : decode cX1_hearAll 75 = .ok (.ifCond .eq 15, 3) := by decide +kernel
theorem dX1_hearAll_78 : decode cX1_hearAll 78 = .ok (.aload 4, 2) := by decide +kernel
theorem dX1_hearAll_80 : decode cX1_hearAll 80 = .ok (.getfield 215, 3) := by decide +kernel
theorem dX1_hearAll_83 : decode cX1_hearAll 83 = .ok (.ifCond .ne 7, 3) := by decide +kernel
theorem dX1_hearAll_86 : decode cX1_hearAll 86 = .ok (.iconst 1, 1) := by decide +kernel
theorem dX1_hearAll_87 : decode cX1_hearAll 87 = .ok (.goto 4, 3) := by decide +kernel
theorem dX1_hearAll_90 : decode cX1_hearAll 90 = .ok (.iconst 0, 1) := by decide +kernel
theorem dX1_hearAll_91 : decode cX1_hearAll 91 = .ok (.istore 6, 2) := by decide +kernel
theorem dX1_hearAll_93 : decode cX1_hearAll 93 = .ok (.iload_n 2, 1) := by decide +kernel
theorem dX1_hearAll_94 : decode cX1_hearAll 94 = .ok (.aload 4, 2) := by decide +kernel
theorem dX1_hearAll_96 : decode cX1_hearAll 96 = .ok (.getfield 129, 3) := by decide +kernel
theorem dX1_hearAll_99 : decode cX1_hearAll 99 = .ok (.invokestatic 130, 3) := by decide +kernel
theorem dX1_hearAll_102 : decode cX1_hearAll 102 = .ok (.istore 7, 2) := by decide +kernel
theorem dX1_hearAll_104 : decode cX1_hearAll 104 = .ok (.iconst 0, 1) := by decide +kernel
theorem dX1_hearAll_105 : decode cX1_hearAll 105 = .ok (.istore 8, 2) := by decide +kernel
theorem dX1_hearAll_107 : decode cX1_hearAll 107 = .ok (.iload 8, 2) := by decide +kernel
theorem dX1_hearAll_109 : decode cX1_hearAll 109 = .ok (.aload_n 0, 1) := by decide +kernel
theorem dX1_hearAll_110 : decode cX1_hearAll 110 = .ok (.getfield 68, 3) := by decide +kernel
theorem dX1_hearAll_113 : decode cX1_hearAll 113 = .ok (.if_icmp .ge 52, 3) := by decide +kernel
theorem dX1_hearAll_116 : decode cX1_hearAll 116 = .ok (.aload_n 0, 1) := by decide +kernel
theorem dX1_hearAll_117 : decode cX1_hearAll 117 = .ok (.getfield 32, 3) := by decide +kernel
theorem dX1_hearAll_120 : decode cX1_hearAll 120 = .ok (.iload 8, 2) := by decide +kernel
theorem dX1_hearAll_122 : decode cX1_hearAll 122 = .ok (.aaload, 1) := by decide +kernel
theorem dX1_hearAll_123 : decode cX1_hearAll 123 = .ok (.getfield 112, 3) := by decide +kernel
theorem dX1_hearAll_126 : decode cX1_hearAll 126 = .ok (.ifCond .eq 33, 3) := by decide +kernel
theorem dX1_hearAll_129 : decode cX1_hearAll 129 = .ok (.aload_n 0, 1) := by decide +kernel
theorem dX1_hearAll_130 : decode cX1_hearAll 130 = .ok (.aload 4, 2) := by decide +kernel
theorem dX1_hearAll_132 : decode cX1_hearAll 132 = .ok (.aload_n 0, 1) := by decide +kernel
theorem dX1_hearAll_133 : decode cX1_hearAll 133 = .ok (.getfield 32, 3) := by decide +kernel
theorem dX1_hearAll_136 : decode cX1_hearAll 136 = .ok (.iload 8, 2) := by decide +kernel
theorem dX1_hearAll_138 : decode cX1_hearAll 138 = .ok (.aaload, 1) := by decide +kernel
theorem dX1_hearAll_139 : decode cX1_hearAll 139 = .ok (.iload 6, 2) := by decide +kernel
theorem dX1_hearAll_141 : decode cX1_hearAll 141 = .ok (.iload 7, 2) := by decide +kernel
theorem dX1_hearAll_143 : decode cX1_hearAll 143 = .ok (.iload 5, 2) := by decide +kernel
theorem dX1_hearAll_145 : decode cX1_hearAll 145 = .ok (.invokevirtual 221, 3) := by decide +kernel
theorem dX1_hearAll_148 : decode cX1_hearAll 148 = .ok (.istore 9, 2) := by decide +kernel
theorem dX1_hearAll_150 : decode cX1_hearAll 150 = .ok (.aload_n 0, 1) := by decide +kernel
theorem dX1_hearAll_151 : decode cX1_hearAll 151 = .ok (.iload_n 3, 1) := by decide +kernel
theorem dX1_hearAll_152 : decode cX1_hearAll 152 = .ok (.iload 8, 2) := by decide +kernel
theorem dX1_hearAll_154 : decode cX1_hearAll 154 = .ok (.iload 9, 2) := by decide +kernel
theorem dX1_hearAll_156 : decode cX1_hearAll 156 = .ok (.invokevirtual 225, 3) := by decide +kernel
theorem dX1_hearAll_159 : decode cX1_hearAll 159 = .ok (.iinc 8 1, 3) := by decide +kernel
theorem dX1_hearAll_162 : decode cX1_hearAll 162 = .ok (.goto (-55), 3) := by decide +kernel
theorem dX1_hearAll_165 : decode cX1_hearAll 165 = .ok (.iinc 3 1, 3) := by decide +kernel
theorem dX1_hearAll_168 : decode cX1_hearAll 168 = .ok (.goto (-137), 3) := by decide +kernel
theorem dX1_hearAll_171 : decode cX1_hearAll 171 = .ok (.return_, 1) := by decide +kernel
theorem dX1_chooseCalls_0 : decode cX1_chooseCalls 0 = .ok (.aload_n 0, 1) := by decide +kernel
theorem dX1_chooseCalls_1 : decode cX1_chooseCalls 1 = .ok (.getfield 9, 3) := by decide +kernel
theorem dX1_chooseCalls_4 : decode cX1_chooseCalls 4 = .ok (.istore_n 1, 1) := by decide +kernel
theorem dX1_chooseCalls_5 : decode cX1_chooseCalls 5 = .ok (.iconst 0, 1) := by decide +kernel
theorem dX1_chooseCalls_6 : decode cX1_chooseCalls 6 = .ok (.istore_n 2, 1) := by decide +kernel
theorem dX1_chooseCalls_7 : decode cX1_chooseCalls 7 = .ok (.iload_n 2, 1) := by decide +kernel
theorem dX1_chooseCalls_8 : decode cX1_chooseCalls 8 = .ok (.aload_n 0, 1) := by decide +kernel
theorem dX1_chooseCalls_9 : decode cX1_chooseCalls 9 = .ok (.getfield 68, 3) := by decide +kernel
theorem dX1_chooseCalls_12 : decode cX1_chooseCalls 12 = .ok (.if_icmp .ge 63, 3) := by decide +kernel
theorem dX1_chooseCalls_15 : decode cX1_chooseCalls 15 = .ok (.aload_n 0, 1) := by decide +kernel
theorem dX1_chooseCalls_16 : decode cX1_chooseCalls 16 = .ok (.getfield 50, 3) := by decide +kernel
theorem dX1_chooseCalls_19 : decode cX1_chooseCalls 19 = .ok (.iload_n 2, 1) := by decide +kernel
theorem dX1_chooseCalls_20 : decode cX1_chooseCalls 20 = .ok (.iload_n 1, 1) := by decide +kernel
theorem dX1_chooseCalls_21 : decode cX1_chooseCalls 21 = .ok (.ifCond .le 23, 3) := by decide +kernel
theorem dX1_chooseCalls_24 : decode cX1_chooseCalls 24 = .ok (.aload_n 0, 1) := by decide +kernel
theorem dX1_chooseCalls_25 : decode cX1_chooseCalls 25 = .ok (.getfield 32, 3) := by decide +kernel
theorem dX1_chooseCalls_28 : decode cX1_chooseCalls 28 = .ok (.iload_n 2, 1) := by decide +kernel
theorem dX1_chooseCalls_29 : decode cX1_chooseCalls 29 = .ok (.aaload, 1) := by decide +kernel
theorem dX1_chooseCalls_30 : decode cX1_chooseCalls 30 = .ok (.getfield 112, 3) := by decide +kernel
theorem dX1_chooseCalls_33 : decode cX1_chooseCalls 33 = .ok (.ifCond .eq 11, 3) := by decide +kernel
theorem dX1_chooseCalls_36 : decode cX1_chooseCalls 36 = .ok (.aload_n 0, 1) := by decide +kernel
theorem dX1_chooseCalls_37 : decode cX1_chooseCalls 37 = .ok (.iload_n 2, 1) := by decide +kernel
theorem dX1_chooseCalls_38 : decode cX1_chooseCalls 38 = .ok (.invokevirtual 203, 3) := by decide +kernel
theorem dX1_chooseCalls_41 : decode cX1_chooseCalls 41 = .ok (.goto 4, 3) := by decide +kernel
theorem dX1_chooseCalls_44 : decode cX1_chooseCalls 44 = .ok (.iconst (-1), 1) := by decide +kernel
theorem dX1_chooseCalls_45 : decode cX1_chooseCalls 45 = .ok (.iastore, 1) := by decide +kernel
theorem dX1_chooseCalls_46 : decode cX1_chooseCalls 46 = .ok (.aload_n 0, 1) := by decide +kernel
theorem dX1_chooseCalls_47 : decode cX1_chooseCalls 47 = .ok (.getfield 50, 3) := by decide +kernel
theorem dX1_chooseCalls_50 : decode cX1_chooseCalls 50 = .ok (.iload_n 2, 1) := by decide +kernel
theorem dX1_chooseCalls_51 : decode cX1_chooseCalls 51 = .ok (.iaload, 1) := by decide +kernel
theorem dX1_chooseCalls_52 : decode cX1_chooseCalls 52 = .ok (.iconst (-1), 1) := by decide +kernel
theorem dX1_chooseCalls_53 : decode cX1_chooseCalls 53 = .ok (.if_icmp .eq 16, 3) := by decide +kernel
theorem dX1_chooseCalls_56 : decode cX1_chooseCalls 56 = .ok (.iinc 1 (-1), 3) := by decide +kernel
theorem dX1_chooseCalls_59 : decode cX1_chooseCalls 59 = .ok (.aload_n 0, 1) := by decide +kernel
theorem dX1_chooseCalls_60 : decode cX1_chooseCalls 60 = .ok (.dup, 1) := by decide +kernel
theorem dX1_chooseCalls_61 : decode cX1_chooseCalls 61 = .ok (.getfield 59, 3) := by decide +kernel
theorem dX1_chooseCalls_64 : decode cX1_chooseCalls 64 = .ok (.iconst 1, 1) := by decide +kernel
theorem dX1_chooseCalls_65 : decode cX1_chooseCalls 65 = .ok (.iadd, 1) := by decide +kernel
theorem dX1_chooseCalls_66 : decode cX1_chooseCalls 66 = .ok (.putfield 59, 3) := by decide +kernel
theorem dX1_chooseCalls_69 : decode cX1_chooseCalls 69 = .ok (.iinc 2 1, 3) := by decide +kernel
theorem dX1_chooseCalls_72 : decode cX1_chooseCalls 72 = .ok (.goto (-65), 3) := by decide +kernel
theorem dX1_chooseCalls_75 : decode cX1_chooseCalls 75 = .ok (.return_, 1) := by decide +kernel
/-! hearing and calling -/
abbrev jNb (v : jN) (g w : Nat) : Int32 := jFind (jTells v g w) 0 (jGc v)
/-- one group hears of one warning: by the public ways pw, by a call, of a neighbour -/
def jNw (v : jN) (g w pw : Int32) : Int32 := if v 12 0 w.toNatClampNeg = g then pw ||| 8 else pw
def jNbT (v : jN) (g w : Int32) : Int32 := if jIn (v 14 g.toNatClampNeg w.toNatClampNeg) 4 = 0 then jNb v g.toNatClampNeg w.toNatClampNeg else -1
def jHear1 (v : jN) (g w pw : Int32) : jN := jNote v g.toNatClampNeg w.toNatClampNeg (if jNbT v g w = -1 then jNw v g w pw else jNw v g w pw ||| 16) (jNbT v g w) (v 1 0 0)
theorem jHear1_keep (v : jN) (g w pw : Int32) : jKeep v (jHear1 v g w pw) := jNote_keep _ _ _ _ _ _
def sp_X1_hearOne : vgC := fun av σ => match av with
  | [.inr (1, b, 0), .inl (.int g), .inl (.int w), .inl (.int pw)] => (jWf (jV σ b) ∧ vp_in g 8 ∧ vp_in w 12, none, jPut σ b (jHear1 (jV σ b) g w pw))
  | _ => (False, none, σ)
def k_X1_hearOne : List (Nat × vgF) := [(0, vi_iload 3 1), (1, vi_istore 4 3), (3, vi_aload 0 4), (4, vi_get ww_shp 1 13 7), (7, vi_iload 2 8), (8, vi_ald ww_shp 0 9), (9, vi_iload 1 10), (10, vi_cmp (fun x y => x = y) 13 20), (13, vi_iload 4 15), (15, vi_icst (8) 17), (17, vi_bin (fun x y => x ||| y) 18), (18, vi_istore 4 20), (20, vi_aload 0 21), (21, vi_get ww_shp 1 7 24), (24, vi_iload 1 25), (25, vi_aald ww_shp 2 26), (26, vi_get ww_shp 5 8 29), (29, vi_iload 2 30), (30, vi_ald ww_shp 0 31), (31, vi_icst (4) 32), (32, vi_callS sp_X5_isIn 2 35), (35, vi_istore 5 37), (37, vi_iload 5 39), (39, vi_if (fun x => x = 0) 46 42), (42, vi_icst (-1) 43), (43, vi_goto 52), (46, vi_aload 0 47), (47, vi_iload 1 48), (48, vi_iload 2 49), (49, vi_callV ww_shp 1 sp_X1_believingNeighbour 2 52), (52, vi_istore 6 54), (54, vi_iload 6 56), (56, vi_icst (-1) 57), (57, vi_cmp (fun x y => x = y) 67 60), (60, vi_iload 4 62), (62, vi_icst (16) 64), (64, vi_bin (fun x y => x ||| y) 65), (65, vi_istore 4 67), (67, vi_aload 0 68), (68, vi_get ww_shp 1 7 71), (71, vi_iload 1 72), (72, vi_aald ww_shp 2 73), (73, vi_iload 2 74), (74, vi_iload 4 76), (76, vi_iload 6 78), (78, vi_aload 0 79), (79, vi_get ww_shp 1 0 82), (82, vi_callV ww_shp 5 sp_X0_noteWays 4 85), (85, vi_retV)]
set_option maxRecDepth 20000 in
theorem s_X1_hearOne : ∀ q ∈ k_X1_hearOne, vg_Snd ww_tb ww_nw ww_shp ww_nm ww_cl ww_tyl cX1_hearOne 7 RX1 none 3 q.1 q.2 := by
  refine vg_cons (vs_iload_n dX1_hearOne_0 rfl rfl) ?_
  refine vg_cons (vs_istore dX1_hearOne_1 (by decide) rfl) ?_
  refine vg_cons (vs_aload_n dX1_hearOne_3 rfl rfl) ?_
  refine vg_cons (vs_getfield (T := TX1) dX1_hearOne_4 rfl (by decide) ww_inX1 q_75 rfl) ?_
  refine vg_cons (vs_iload_n dX1_hearOne_7 rfl rfl) ?_
  refine vg_cons (vs_iaload dX1_hearOne_8 rfl rfl) ?_
  refine vg_cons (vs_iload_n dX1_hearOne_9 rfl rfl) ?_
  refine vg_cons (vs_cmp_ne dX1_hearOne_10 (by decide) rfl) ?_
  refine vg_cons (vs_iload dX1_hearOne_13 rfl) ?_
  refine vg_cons (vs_bipush dX1_hearOne_15 (by decide) rfl) ?_
  refine vg_cons (vs_ior dX1_hearOne_17 rfl) ?_
  refine vg_cons (vs_istore dX1_hearOne_18 (by decide) rfl) ?_
  refine vg_cons (vs_aload_n dX1_hearOne_20 rfl rfl) ?_
  refine vg_cons (vs_getfield (T := TX1) dX1_hearOne_21 rfl (by decide) ww_inX1 q_39 rfl) ?_
  refine vg_cons (vs_iload_n dX1_hearOne_24 rfl rfl) ?_
  refine vg_cons (vs_aaload dX1_hearOne_25 rfl rfl) ?_
  refine vg_cons (vs_getfield (T := TX0) dX1_hearOne_26 rfl (by decide) ww_inX0 q_56 rfl) ?_
  refine vg_cons (vs_iload_n dX1_hearOne_29 rfl rfl) ?_
  refine vg_cons (vs_iaload dX1_hearOne_30 rfl rfl) ?_
  refine vg_cons (vs_iconst dX1_hearOne_31 rfl rfl) ?_
  refine vg_cons (vs_callSN (host := "WarnWave") c_X5_isIn dX1_hearOne_32 ww_good q_50 q_51 (by decide +kernel) q_52 (by decide +kernel) (by decide) rfl) ?_
  refine vg_cons (vs_istore dX1_hearOne_35 (by decide) rfl) ?_
  refine vg_cons (vs_iload dX1_hearOne_37 rfl) ?_
  refine vg_cons (vs_if_eq dX1_hearOne_39 (by decide) rfl) ?_
  refine vg_cons (vs_iconst dX1_hearOne_42 rfl rfl) ?_
  refine vg_cons (vs_goto dX1_hearOne_43 (by decide)) ?_
  refine vg_cons (vs_aload_n dX1_hearOne_46 rfl rfl) ?_
  refine vg_cons (vs_iload_n dX1_hearOne_47 rfl rfl) ?_
  refine vg_cons (vs_iload_n dX1_hearOne_48 rfl rfl) ?_
  refine vg_cons (vs_callV (T := TX1) c_X1_believingNeighbour dX1_hearOne_49 rfl ww_good q_76 q_12 q_77 q_78 q_79 (by decide +kernel) (by decide) rfl) ?_
  refine vg_cons (vs_istore dX1_hearOne_52 (by decide) rfl) ?_
  refine vg_cons (vs_iload dX1_hearOne_54 rfl) ?_
  refine vg_cons (vs_iconst dX1_hearOne_56 rfl rfl) ?_
  refine vg_cons (vs_cmp_eq dX1_hearOne_57 (by decide) rfl) ?_
  refine vg_cons (vs_iload dX1_hearOne_60 rfl) ?_
  refine vg_cons (vs_bipush dX1_hearOne_62 (by decide) rfl) ?_
  refine vg_cons (vs_ior dX1_hearOne_64 rfl) ?_
  refine vg_cons (vs_istore dX1_hearOne_65 (by decide) rfl) ?_
  refine vg_cons (vs_aload_n dX1_hearOne_67 rfl rfl) ?_
  refine vg_cons (vs_getfield (T := TX1) dX1_hearOne_68 rfl (by decide) ww_inX1 q_39 rfl) ?_
  refine vg_cons (vs_iload_n dX1_hearOne_71 rfl rfl) ?_
  refine vg_cons (vs_aaload dX1_hearOne_72 rfl rfl) ?_
  refine vg_cons (vs_iload_n dX1_hearOne_73 rfl rfl) ?_
  refine vg_cons (vs_iload dX1_hearOne_74 rfl) ?_
  refine vg_cons (vs_iload dX1_hearOne_76 rfl) ?_
  refine vg_cons (vs_aload_n dX1_hearOne_78 rfl rfl) ?_
  refine vg_cons (vs_getfield (T := TX1) dX1_hearOne_79 rfl (by decide) ww_inX1 q_10 rfl) ?_
  refine vg_cons (vs_callV (T := TX0) c_X0_noteWays dX1_hearOne_82 rfl ww_good q_80 q_21 q_81 q_82 q_83 (by decide +kernel) (by decide) rfl) ?_
  refine vg_cons (vs_return dX1_hearOne_85 rfl) ?_
  exact fun _ h => absurd h List.not_mem_nil
theorem m_X1_hearOne : vg_Code k_X1_hearOne := fun q h => (s_X1_hearOne q h).1

theorem w_X1_hearOne : vg_Wd sp_X1_hearOne 7 := by
  intro av σ h
  unfold sp_X1_hearOne at h
  split at h
  · exact Nat.le_of_ble_eq_true rfl
  · exact h.elim
theorem g_X1_hearOne : vg_G k_X1_hearOne sp_X1_hearOne := by
  intro av σ h
  unfold sp_X1_hearOne at h ⊢
  split at h
  next b g w pw =>
    obtain ⟨hw, hg8, hw12⟩ := h
    have fin : ∀ nw nb : Int32, jHear1 (jV σ b) g w pw = jNote (jV σ b) g.toNatClampNeg w.toNatClampNeg nw nb (jV σ b 1 0 0) → vg_Go k_X1_hearOne (fun r σ' => r = none ∧ σ' = jPut σ b (jHear1 (jV σ b) g w pw)) 67 [(0, .inr (1, b, 0)), (1, .inl (.int g)), (2, .inl (.int w)), (4, .inl (.int nw)), (6, .inl (.int nb))] [] σ := by
      intro nw nb e
      refine vg_run (cuts := []) m_X1_hearOne 40 ?_
      exact And.intro hg8 (And.intro hw12 (And.intro rfl (by rw [e]; rfl)))
    have mid : ∀ nw : Int32, nw = jNw (jV σ b) g w pw → vg_Go k_X1_hearOne (fun r σ' => r = none ∧ σ' = jPut σ b (jHear1 (jV σ b) g w pw)) 20 [(0, .inr (1, b, 0)), (1, .inl (.int g)), (2, .inl (.int w)), (4, .inl (.int nw))] [] σ := by
      intro nw e
      refine vg_run (cuts := [(67, [0, 1, 2, 4, 6])]) m_X1_hearOne 40 ?_
      refine And.intro hg8 (And.intro hw12 (And.intro trivial (And.intro (fun hc => ?_) (fun hc => ?_))))
      · refine And.intro ⟨hw, hg8, hw12⟩ (And.intro (fun hd => ?_) (fun hd => ?_))
        · refine fin _ _ ?_
          have en : jNbT (jV σ b) g w = jNb (jV σ b) g.toNatClampNeg w.toNatClampNeg := if_pos hc
          rw [jHear1, en, if_pos (show jNb (jV σ b) g.toNatClampNeg w.toNatClampNeg = -1 from hd), ← e]
        · refine fin _ _ ?_
          have en : jNbT (jV σ b) g w = jNb (jV σ b) g.toNatClampNeg w.toNatClampNeg := if_pos hc
          rw [jHear1, en, if_neg (show ¬ jNb (jV σ b) g.toNatClampNeg w.toNatClampNeg = -1 from hd), ← e]
      · refine And.intro (fun hd => ?_) (fun hd => absurd rfl hd)
        refine fin _ _ ?_
        have en : jNbT (jV σ b) g w = -1 := if_neg hc
        rw [jHear1, en, if_pos rfl, ← e]
    refine vg_run (cuts := [(20, [0, 1, 2, 4])]) m_X1_hearOne 40 ?_
    refine And.intro hw12 (And.intro (fun hc => ?_) (fun hc => ?_))
    · exact mid _ (if_pos hc).symm
    · exact mid _ (if_neg hc).symm
  next => exact h.elim
theorem c_X1_hearOne : vg_MetF ww_tb ww_nw ww_shp ww_nm ww_cl ww_tyl yX1_hearOne cX1_hearOne 7 none 3 sp_X1_hearOne := vg_met ww_closed (by decide +kernel) rfl s_X1_hearOne w_X1_hearOne g_X1_hearOne
abbrev jSi (v : jN) : Int32 := if v 1 0 0 - v 1 0 0 / 3 * 3 = 0 then jReach v 0 (jNc v 0) else 0
abbrev jMa (v : jN) : Int32 := jReach v 1 (jNc v 1)
/-- one group hears of one warning, in a minute -/
def jHearW (g : Nat) (si ma sl : Int32) (w : Nat) (v : jN) : jN := if v 11 w 7 = 0 then v else jHear1 v (nI g) (nI w) (jPub v g w si ma sl)
def jHearG (si ma : Int32) (g : Nat) (v : jN) : jN := if jGone v g then v else jIt (jHearW g (if jIn si (v 9 g 0) = 0 then 0 else if v 9 g 4 = 0 then 1 else 0) (jIn ma (v 9 g 0)) (jb (jSleep v g))) (jWc v) v
def jHearAll (v : jN) : jN := jIt (jHearG (jSi v) (jMa v)) (jGc v) v
theorem jHearW_keep (g : Nat) (si ma sl : Int32) (w : Nat) (v : jN) : jKeep v (jHearW g si ma sl w v) := by
  unfold jHearW
  split
  · exact jKeep.rf
  · exact jHear1_keep _ _ _ _
theorem jHearG_keep (si ma : Int32) (g : Nat) (v : jN) : jKeep v (jHearG si ma g v) := by
  unfold jHearG
  split
  · exact jKeep.rf
  · exact jIt_keep (jHearW_keep _ _ _ _) _ _
theorem jHearAll_keep (v : jN) : jKeep v (jHearAll v) := jIt_keep (jHearG_keep _ _) _ _
def sp_X1_hearAll : vgC := fun av σ => match av with
  | [.inr (1, b, 0)] => (jWf (jV σ b), none, jPut σ b (jHearAll (jV σ b)))
  | _ => (False, none, σ)
def k_X1_hearAll : List (Nat × vgF) := [(0, vi_aload 0 1), (1, vi_get ww_shp 1 0 4), (4, vi_icst (3) 5), (5, vi_div (fun x y => x - x / y * y) 6), (6, vi_if (fun x => x = 0) 9 19), (9, vi_aload 0 10), (10, vi_get ww_shp 1 10 13), (13, vi_callV ww_shp 2 sp_X2_cellsReached 0 16), (16, vi_goto 20), (19, vi_icst (0) 20), (20, vi_istore 1 21), (21, vi_aload 0 22), (22, vi_get ww_shp 1 11 25), (25, vi_callV ww_shp 2 sp_X2_cellsReached 0 28), (28, vi_istore 2 29), (29, vi_icst (0) 30), (30, vi_istore 3 31), (31, vi_iload 3 32), (32, vi_aload 0 33), (33, vi_get ww_shp 1 4 36), (36, vi_cmp (fun x y => y ≤ x) 171 39), (39, vi_aload 0 40), (40, vi_get ww_shp 1 7 43), (43, vi_iload 3 44), (44, vi_aald ww_shp 2 45), (45, vi_astore 4 47), (47, vi_aload 4 49), (49, vi_callV ww_shp 5 sp_X0_isGone 0 52), (52, vi_if (fun x => x = 0) 58 55), (55, vi_goto 165), (58, vi_aload 0 59), (59, vi_aload 4 61), (61, vi_callV ww_shp 1 sp_X1_isAsleep 1 64), (64, vi_istore 5 66), (66, vi_iload 1 67), (67, vi_aload 4 69), (69, vi_get ww_shp 5 0 72), (72, vi_callS sp_X5_isIn 2 75), (75, vi_if (fun x => x = 0) 90 78), (78, vi_aload 4 80), (80, vi_get ww_shp 5 4 83), (83, vi_if (fun x => x = 0) 86 90), (86, vi_icst (1) 87), (87, vi_goto 91), (90, vi_icst (0) 91), (91, vi_istore 6 93), (93, vi_iload 2 94), (94, vi_aload 4 96), (96, vi_get ww_shp 5 0 99), (99, vi_callS sp_X5_isIn 2 102), (102, vi_istore 7 104), (104, vi_icst (0) 105), (105, vi_istore 8 107), (107, vi_iload 8 109), (109, vi_aload 0 110), (110, vi_get ww_shp 1 6 113), (113, vi_cmp (fun x y => y ≤ x) 165 116), (116, vi_aload 0 117), (117, vi_get ww_shp 1 9 120), (120, vi_iload 8 122), (122, vi_aald ww_shp 4 123), (123, vi_get ww_shp 4 7 126), (126, vi_if (fun x => x = 0) 159 129), (129, vi_aload 0 130), (130, vi_aload 4 132), (132, vi_aload 0 133), (133, vi_get ww_shp 1 9 136), (136, vi_iload 8 138), (138, vi_aald ww_shp 4 139), (139, vi_iload 6 141), (141, vi_iload 7 143), (143, vi_iload 5 145), (145, vi_callV ww_shp 1 sp_X1_publicWays 5 148), (148, vi_istore 9 150), (150, vi_aload 0 151), (151, vi_iload 3 152), (152, vi_iload 8 154), (154, vi_iload 9 156), (156, vi_callV ww_shp 1 sp_X1_hearOne 3 159), (159, vi_iinc 8 (1) 162), (162, vi_goto 107), (165, vi_iinc 3 (1) 168), (168, vi_goto 31), (171, vi_retV)]
set_option maxRecDepth 20000 in
theorem s_X1_hearAll : ∀ q ∈ k_X1_hearAll, vg_Snd ww_tb ww_nw ww_shp ww_nm ww_cl ww_tyl cX1_hearAll 10 RX1 none 4 q.1 q.2 := by
  refine vg_cons (vs_aload_n dX1_hearAll_0 rfl rfl) ?_
  refine vg_cons (vs_getfield (T := TX1) dX1_hearAll_1 rfl (by decide) ww_inX1 q_10 rfl) ?_
  refine vg_cons (vs_iconst dX1_hearAll_4 rfl rfl) ?_
  refine vg_cons (vs_irem dX1_hearAll_5 rfl) ?_
  refine vg_cons (vs_if_ne dX1_hearAll_6 (by decide) rfl) ?_
  refine vg_cons (vs_aload_n dX1_hearAll_9 rfl rfl) ?_
  refine vg_cons (vs_getfield (T := TX1) dX1_hearAll_10 rfl (by decide) ww_inX1 q_84 rfl) ?_
  refine vg_cons (vs_callV (T := TX2) c_X2_cellsReached dX1_hearAll_13 rfl ww_good q_85 q_86 q_87 q_88 q_89 (by decide +kernel) (by decide) rfl) ?_
  refine vg_cons (vs_goto dX1_hearAll_16 (by decide)) ?_
  refine vg_cons (vs_iconst dX1_hearAll_19 rfl rfl) ?_
  refine vg_cons (vs_istore_n dX1_hearAll_20 rfl (by decide) rfl) ?_
  refine vg_cons (vs_aload_n dX1_hearAll_21 rfl rfl) ?_
  refine vg_cons (vs_getfield (T := TX1) dX1_hearAll_22 rfl (by decide) ww_inX1 q_90 rfl) ?_
  refine vg_cons (vs_callV (T := TX2) c_X2_cellsReached dX1_hearAll_25 rfl ww_good q_85 q_86 q_87 q_88 q_89 (by decide +kernel) (by decide) rfl) ?_
  refine vg_cons (vs_istore_n dX1_hearAll_28 rfl (by decide) rfl) ?_
  refine vg_cons (vs_iconst dX1_hearAll_29 rfl rfl) ?_
  refine vg_cons (vs_istore_n dX1_hearAll_30 rfl (by decide) rfl) ?_
  refine vg_cons (vs_iload_n dX1_hearAll_31 rfl rfl) ?_
  refine vg_cons (vs_aload_n dX1_hearAll_32 rfl rfl) ?_
  refine vg_cons (vs_getfield (T := TX1) dX1_hearAll_33 rfl (by decide) ww_inX1 q_38 rfl) ?_
  refine vg_cons (vs_cmp_ge dX1_hearAll_36 (by decide) rfl) ?_
  refine vg_cons (vs_aload_n dX1_hearAll_39 rfl rfl) ?_
  refine vg_cons (vs_getfield (T := TX1) dX1_hearAll_40 rfl (by decide) ww_inX1 q_39 rfl) ?_
  refine vg_cons (vs_iload_n dX1_hearAll_43 rfl rfl) ?_
  refine vg_cons (vs_aaload dX1_hearAll_44 rfl rfl) ?_
  refine vg_cons (vs_astore dX1_hearAll_45 (by decide) rfl) ?_
  refine vg_cons (vs_aload dX1_hearAll_47 rfl) ?_
  refine vg_cons (vs_callV (T := TX0) c_X0_isGone dX1_hearAll_49 rfl ww_good q_20 q_21 q_22 q_23 q_24 (by decide +kernel) (by decide) rfl) ?_
  refine vg_cons (vs_if_eq dX1_hearAll_52 (by decide) rfl) ?_
  refine vg_cons (vs_goto dX1_hearAll_55 (by decide)) ?_
  refine vg_cons (vs_aload_n dX1_hearAll_58 rfl rfl) ?_
  refine vg_cons (vs_aload dX1_hearAll_59 rfl) ?_
  refine vg_cons (vs_callV (T := TX1) c_X1_isAsleep dX1_hearAll_61 rfl ww_good q_40 q_12 q_41 q_42 q_43 (by decide +kernel) (by decide) rfl) ?_
  refine vg_cons (vs_istore dX1_hearAll_64 (by decide) rfl) ?_
  refine vg_cons (vs_iload_n dX1_hearAll_66 rfl rfl) ?_
  refine vg_cons (vs_aload dX1_hearAll_67 rfl) ?_
  refine vg_cons (vs_getfield (T := TX0) dX1_hearAll_69 rfl (by decide) ww_inX0 q_49 rfl) ?_
  refine vg_cons (vs_callSN (host := "WarnWave") c_X5_isIn dX1_hearAll_72 ww_good q_50 q_51 (by decide +kernel) q_52 (by decide +kernel) (by decide) rfl) ?_
  refine vg_cons (vs_if_eq dX1_hearAll_75 (by decide) rfl) ?_
  refine vg_cons (vs_aload dX1_hearAll_78 rfl) ?_
  refine vg_cons (vs_getfield (T := TX0) dX1_hearAll_80 rfl (by decide) ww_inX0 q_57 rfl) ?_
  refine vg_cons (vs_if_ne dX1_hearAll_83 (by decide) rfl) ?_
  refine vg_cons (vs_iconst dX1_hearAll_86 rfl rfl) ?_
  refine vg_cons (vs_goto dX1_hearAll_87 (by decide)) ?_
  refine vg_cons (vs_iconst dX1_hearAll_90 rfl rfl) ?_
  refine vg_cons (vs_istore dX1_hearAll_91 (by decide) rfl) ?_
  refine vg_cons (vs_iload_n dX1_hearAll_93 rfl rfl) ?_
  refine vg_cons (vs_aload dX1_hearAll_94 rfl) ?_
  refine vg_cons (vs_getfield (T := TX0) dX1_hearAll_96 rfl (by decide) ww_inX0 q_49 rfl) ?_
  refine vg_cons (vs_callSN (host := "WarnWave") c_X5_isIn dX1_hearAll_99 ww_good q_50 q_51 (by decide +kernel) q_52 (by decide +kernel) (by decide) rfl) ?_
  refine vg_cons (vs_istore dX1_hearAll_102 (by decide) rfl) ?_
  refine vg_cons (vs_iconst dX1_hearAll_104 rfl rfl) ?_
  refine vg_cons (vs_istore dX1_hearAll_105 (by decide) rfl) ?_
  refine vg_cons (vs_iload dX1_hearAll_107 rfl) ?_
  refine vg_cons (vs_aload_n dX1_hearAll_109 rfl rfl) ?_
  refine vg_cons (vs_getfield (T := TX1) dX1_hearAll_110 rfl (by decide) ww_inX1 q_16 rfl) ?_
  refine vg_cons (vs_cmp_ge dX1_hearAll_113 (by decide) rfl) ?_
  refine vg_cons (vs_aload_n dX1_hearAll_116 rfl rfl) ?_
  refine vg_cons (vs_getfield (T := TX1) dX1_hearAll_117 rfl (by decide) ww_inX1 q_17 rfl) ?_
  refine vg_cons (vs_iload dX1_hearAll_120 rfl) ?_
  refine vg_cons (vs_aaload dX1_hearAll_122 rfl rfl) ?_
  refine vg_cons (vs_getfield (T := TX4) dX1_hearAll_123 rfl (by decide) ww_inX4 q_18 rfl) ?_
  refine vg_cons (vs_if_eq dX1_hearAll_126 (by decide) rfl) ?_
  refine vg_cons (vs_aload_n dX1_hearAll_129 rfl rfl) ?_
  refine vg_cons (vs_aload dX1_hearAll_130 rfl) ?_
  refine vg_cons (vs_aload_n dX1_hearAll_132 rfl rfl) ?_
  refine vg_cons (vs_getfield (T := TX1) dX1_hearAll_133 rfl (by decide) ww_inX1 q_17 rfl) ?_
  refine vg_cons (vs_iload dX1_hearAll_136 rfl) ?_
  refine vg_cons (vs_aaload dX1_hearAll_138 rfl rfl) ?_
  refine vg_cons (vs_iload dX1_hearAll_139 rfl) ?_
  refine vg_cons (vs_iload dX1_hearAll_141 rfl) ?_
  refine vg_cons (vs_iload dX1_hearAll_143 rfl) ?_
  refine vg_cons (vs_callV (T := TX1) c_X1_publicWays dX1_hearAll_145 rfl ww_good q_91 q_12 q_92 q_93 q_94 (by decide +kernel) (by decide) rfl) ?_
  refine vg_cons (vs_istore dX1_hearAll_148 (by decide) rfl) ?_
  refine vg_cons (vs_aload_n dX1_hearAll_150 rfl rfl) ?_
  refine vg_cons (vs_iload_n dX1_hearAll_151 rfl rfl) ?_
  refine vg_cons (vs_iload dX1_hearAll_152 rfl) ?_
  refine vg_cons (vs_iload dX1_hearAll_154 rfl) ?_
  refine vg_cons (vs_callV (T := TX1) c_X1_hearOne dX1_hearAll_156 rfl ww_good q_95 q_12 q_96 q_97 q_98 (by decide +kernel) (by decide) rfl) ?_
  refine vg_cons (vs_iinc dX1_hearAll_159 rfl rfl) ?_
  refine vg_cons (vs_goto dX1_hearAll_162 (by decide)) ?_
  refine vg_cons (vs_iinc dX1_hearAll_165 rfl rfl) ?_
  refine vg_cons (vs_goto dX1_hearAll_168 (by decide)) ?_
  refine vg_cons (vs_return dX1_hearAll_171 rfl) ?_
  exact fun _ h => absurd h List.not_mem_nil
theorem m_X1_hearAll : vg_Code k_X1_hearAll := fun q h => (s_X1_hearAll q h).1

theorem w_X1_hearAll : vg_Wd sp_X1_hearAll 10 := by
  intro av σ h
  unfold sp_X1_hearAll at h
  split at h
  · exact Nat.le_of_ble_eq_true rfl
  · exact h.elim
theorem g_X1_hearAll : vg_G k_X1_hearAll sp_X1_hearAll := by
  intro av σ h
  unfold sp_X1_hearAll at h ⊢
  split at h
  next b =>
    have h8 := h.1.2
    have h12 := h.2.2.1.2
    have main : ∀ si ma : Int32, si = jSi (jV σ b) → ma = jMa (jV σ b) → vg_Go k_X1_hearAll (fun r σ' => r = none ∧ σ' = jPut σ b (jHearAll (jV σ b))) 31 [(0, .inr (1, b, 0)), (1, .inl (.int si)), (2, .inl (.int ma)), (3, .inl (.int 0))] [] σ := by
      intro si ma hsi hma
      refine vg_loop (fun i lv σ' => ∃ x v, v = jIt (jHearG si ma) i (jV σ b) ∧ σ' = jPut σ b v ∧ x = nI i ∧ lv = [(0, .inr (1, b, 0)), (1, .inl (.int si)), (2, .inl (.int ma)), (3, .inl (.int x))]) (jGc (jV σ b)) ?_ ?_ 0 _ _ (Nat.zero_le _) ⟨0, _, rfl, jPut_jV.symm, rfl, rfl⟩
      · rintro i lv σ' hi ⟨x, v, hvi, rfl, hx, rfl⟩ ih
        have hK : jKeep (jV σ b) v := by rw [hvi]; exact jIt_keep (jHearG_keep si ma) _ i
        have hcnt : jPut σ b v (1, b, 0) 4 = nI (jGc (jV σ b)) := jPut_at.trans ((hK.1 0 4 (by omega)).trans h.1.1)
        have hc0 : x.toNatClampNeg = i := jcl hx (by omega)
        have hv : vp_in x 8 := jin hx (by omega) (by decide)
        have hwf : jWf v := hK.wf h
        have inner : ∀ hs hm sl : Int32, ¬ jGone v i → hs = (if jIn si (v 9 i 0) = 0 then 0 else if v 9 i 4 = 0 then 1 else 0) → hm = jIn ma (v 9 i 0) → sl = jb (jSleep v i) →
            vg_Go k_X1_hearAll (fun r σ' => r = none ∧ σ' = jPut σ b (jHearAll (jV σ b))) 107 [(0, .inr (1, b, 0)), (1, .inl (.int si)), (2, .inl (.int ma)), (3, .inl (.int x)), (4, .inr (9, b, i)), (5, .inl (.int sl)), (6, .inl (.int hs)), (7, .inl (.int hm)), (8, .inl (.int 0))] [] (jPut σ b v) := by
          intro hs hm sl hng hhs hhm hsl
          refine vg_loop (fun j lv σ' => ∃ y u, u = jIt (jHearW i hs hm sl) j v ∧ σ' = jPut σ b u ∧ y = nI j ∧ lv = [(0, .inr (1, b, 0)), (1, .inl (.int si)), (2, .inl (.int ma)), (3, .inl (.int x)), (4, .inr (9, b, i)), (5, .inl (.int sl)), (6, .inl (.int hs)), (7, .inl (.int hm)), (8, .inl (.int y))]) (jWc v) ?_ ?_ 0 _ _ (Nat.zero_le _) ⟨0, _, rfl, rfl, rfl, rfl⟩
          · rintro j lv σ' hj ⟨y, u, hui, rfl, hy, rfl⟩ ih2
            have hK2 : jKeep v u := by rw [hui]; exact jIt_keep (jHearW_keep i hs hm sl) _ j
            have h12' : jWc v ≤ 12 := hwf.2.2.1.2
            have hcnt2 : jPut σ b u (1, b, 0) 6 = nI (jWc v) := jPut_at.trans ((hK2.1 0 6 (by omega)).trans hwf.2.2.1.1)
            have hd0 : y.toNatClampNeg = j := jcl hy (by omega)
            have hvy : vp_in y 12 := jin hy (by omega) (by decide)
            refine vg_run (cuts := [(31, [0, 1, 2, 3]), (107, [0, 1, 2, 3, 4, 5, 6, 7, 8])]) m_X1_hearAll 60 ?_
            refine And.intro (fun hc => absurd ((jle hcnt2 hy (by omega) (by omega)).mp hc) (by omega)) (fun _ => And.intro hvy (And.intro (fun hd => ?_) (fun hd => ?_)))
            · rw [jPut_at, hd0] at hd
              exact ih2 _ _ ⟨y + 1, u, by rw [hui]; rw [hui] at hd; exact (if_pos hd).symm, rfl, jinc hy, rfl⟩
            · rw [jPut_at, hd0] at hd
              refine And.intro hvy (And.intro ⟨rfl, rfl⟩ (And.intro ⟨by rw [jV_put]; exact hK2.wf hwf, hv, hvy⟩ (ih2 _ _ ⟨y + 1, jHearW i hs hm sl j u, by rw [hui]; rfl, ?_, jinc hy, rfl⟩)))
              show jPut (jPut σ b u) b (jHear1 (jV (jPut σ b u) b) x y (jPub (jV (jPut σ b u) b) i y.toNatClampNeg hs hm sl)) = _
              rw [jPut_put, jV_put, jHearW, if_neg hd, hd0, hx, hy]
          · rintro lv σ' ⟨y, u, hui, rfl, hy, rfl⟩
            have hK2 : jKeep v u := by rw [hui]; exact jIt_keep (jHearW_keep i hs hm sl) _ _
            have h12' : jWc v ≤ 12 := hwf.2.2.1.2
            have hcnt2 : jPut σ b u (1, b, 0) 6 = nI (jWc v) := jPut_at.trans ((hK2.1 0 6 (by omega)).trans hwf.2.2.1.1)
            refine vg_run (cuts := [(31, [0, 1, 2, 3]), (107, [0, 1, 2, 3, 4, 5, 6, 7, 8])]) m_X1_hearAll 60 ?_
            refine And.intro (fun _ => ih _ _ ⟨x + 1, u, ?_, rfl, jinc hx, rfl⟩) (fun hc => absurd ((jle hcnt2 hy (by omega) (by omega)).mpr (Nat.le_refl _)) hc)
            rw [jIt, ← hvi, jHearG, if_neg hng, ← hhs, ← hhm, ← hsl, hui]
        refine vg_run (cuts := [(31, [0, 1, 2, 3]), (107, [0, 1, 2, 3, 4, 5, 6, 7, 8])]) m_X1_hearAll 60 ?_
        refine And.intro (fun hc => absurd ((jle hcnt hx (by omega) (by omega)).mp hc) (by omega)) (fun _ => And.intro hv (And.intro trivial (And.intro (fun hd => ?_) (fun hd => ?_))))
        · rw [jV_put, hc0] at hd
          have hng := jb_0.mp hd
          have hin : ∀ hs, hs = (if jIn si (v 9 i 0) = 0 then 0 else if v 9 i 4 = 0 then (1 : Int32) else 0) → vg_Go k_X1_hearAll (fun r σ' => r = none ∧ σ' = jPut σ b (jHearAll (jV σ b))) 107 [(0, .inr (1, b, 0)), (1, .inl (.int si)), (2, .inl (.int ma)), (3, .inl (.int x)), (4, .inr (9, b, x.toNatClampNeg)), (5, .inl (.int (jb (jSleep (jV (jPut σ b v) b) x.toNatClampNeg)))), (6, .inl (.int hs)), (7, .inl (.int (jIn ma (jPut σ b v (9, b, x.toNatClampNeg) 0)))), (8, .inl (.int 0))] [] (jPut σ b v) := by
            intro hs hhs
            have := inner hs (jIn ma (v 9 i 0)) (jb (jSleep v i)) hng hhs rfl rfl
            rw [jV_put, jPut_at, hc0]
            exact this
          refine And.intro ⟨by rw [jV_put]; exact hwf, rfl⟩ (And.intro trivial (And.intro (fun he => And.intro trivial ?_) (fun he => And.intro (fun hf => And.intro trivial ?_) (fun hf => And.intro trivial ?_))))
          · rw [jPut_at, hc0] at he
            exact hin _ (if_pos he).symm
          · rw [jPut_at, hc0] at he hf
            exact hin _ ((if_neg he).trans (if_pos hf)).symm
          · rw [jPut_at, hc0] at he hf
            exact hin _ ((if_neg he).trans (if_neg hf)).symm
        · rw [jV_put, hc0] at hd
          have hg : jGone v i := Classical.byContradiction (fun z => hd (jb_f z))
          exact ih _ _ ⟨x + 1, v, by rw [hvi]; rw [hvi] at hg; exact (if_pos hg).symm, rfl, jinc hx, rfl⟩
      · rintro lv σ' ⟨x, v, hvi, rfl, hx, rfl⟩
        have hK : jKeep (jV σ b) v := by rw [hvi]; exact jIt_keep (jHearG_keep si ma) _ _
        have hcnt : jPut σ b v (1, b, 0) 4 = nI (jGc (jV σ b)) := jPut_at.trans ((hK.1 0 4 (by omega)).trans h.1.1)
        refine vg_run (cuts := [(31, [0, 1, 2, 3])]) m_X1_hearAll 20 ?_
        exact And.intro (fun _ => And.intro rfl (by rw [hvi, hsi, hma]; rfl)) (fun hc => absurd ((jle hcnt hx (by omega) (by omega)).mpr (Nat.le_refl _)) hc)
    refine vg_run (cuts := [(31, [0, 1, 2, 3])]) m_X1_hearAll 60 ?_
    refine And.intro (by decide) (And.intro (fun hc => And.intro h.2.2.2.1 (And.intro h.2.2.2.2 ?_)) (fun hc => And.intro h.2.2.2.2 ?_))
    · exact main _ _ (if_pos hc).symm rfl
    · exact main _ _ (if_neg hc).symm rfl
  next => exact h.elim
theorem c_X1_hearAll : vg_MetF ww_tb ww_nw ww_shp ww_nm ww_cl ww_tyl yX1_hearAll cX1_hearAll 10 none 4 sp_X1_hearAll := vg_met ww_closed (by decide +kernel) rfl s_X1_hearAll w_X1_hearAll g_X1_hearAll
abbrev jFirst (v : jN) (w : Nat) : Int32 := jFind (jCallee v w) 0 (jGc v)
/-- which group is called for one warning, with so many lines left -/
def jCh (w : Nat) (q : jN × Int32) : Int32 := if q.2 ≤ 0 then -1 else if q.1 11 w 7 = 0 then -1 else jFirst q.1 w
def jChoose (w : Nat) (q : jN × Int32) : jN × Int32 := if jCh w q = -1 then (jUp q.1 12 0 w (jCh w q), q.2) else (jUp (jUp q.1 12 0 w (jCh w q)) 1 0 3 (jUp q.1 12 0 w (jCh w q) 1 0 3 + 1), q.2 + (-1))
def jChooseAll (v : jN) : jN := (jIt jChoose (jWc v) (v, v 1 0 1)).1
theorem jChoose_keep (w : Nat) (q : jN × Int32) : jKeep q.1 (jChoose w q).1 := by
  unfold jChoose
  split
  · exact jKeep.rf.up (by omega)
  · exact (jKeep.rf.up (by omega)).up (by omega)
theorem jIt2_keep {f : Nat → jN × Int32 → jN × Int32} (hf : ∀ i v, jKeep v.1 (f i v).1) (v : jN × Int32) : ∀ n, jKeep v.1 (jIt f n v).1
  | 0 => jKeep.rf
  | n + 1 => (jIt2_keep hf v n).tr (hf n _)
theorem jChooseAll_keep (v : jN) : jKeep v (jChooseAll v) := jIt2_keep jChoose_keep (v, v 1 0 1) _
def sp_X1_chooseCalls : vgC := fun av σ => match av with
  | [.inr (1, b, 0)] => (jWf (jV σ b), none, jPut σ b (jChooseAll (jV σ b)))
  | _ => (False, none, σ)
def k_X1_chooseCalls : List (Nat × vgF) := [(0, vi_aload 0 1), (1, vi_get ww_shp 1 1 4), (4, vi_istore 1 5), (5, vi_icst (0) 6), (6, vi_istore 2 7), (7, vi_iload 2 8), (8, vi_aload 0 9), (9, vi_get ww_shp 1 6 12), (12, vi_cmp (fun x y => y ≤ x) 75 15), (15, vi_aload 0 16), (16, vi_get ww_shp 1 13 19), (19, vi_iload 2 20), (20, vi_iload 1 21), (21, vi_if (fun x => x ≤ 0) 44 24), (24, vi_aload 0 25), (25, vi_get ww_shp 1 9 28), (28, vi_iload 2 29), (29, vi_aald ww_shp 4 30), (30, vi_get ww_shp 4 7 33), (33, vi_if (fun x => x = 0) 44 36), (36, vi_aload 0 37), (37, vi_iload 2 38), (38, vi_callV ww_shp 1 sp_X1_firstToCall 1 41), (41, vi_goto 45), (44, vi_icst (-1) 45), (45, vi_ast ww_shp 0 46), (46, vi_aload 0 47), (47, vi_get ww_shp 1 13 50), (50, vi_iload 2 51), (51, vi_ald ww_shp 0 52), (52, vi_icst (-1) 53), (53, vi_cmp (fun x y => x = y) 69 56), (56, vi_iinc 1 (-1) 59), (59, vi_aload 0 60), (60, vi_dup 61), (61, vi_get ww_shp 1 3 64), (64, vi_icst (1) 65), (65, vi_bin (fun x y => x + y) 66), (66, vi_put ww_shp 1 3 69), (69, vi_iinc 2 (1) 72), (72, vi_goto 7), (75, vi_retV)]
set_option maxRecDepth 20000 in
theorem s_X1_chooseCalls : ∀ q ∈ k_X1_chooseCalls, vg_Snd ww_tb ww_nw ww_shp ww_nm ww_cl ww_tyl cX1_chooseCalls 3 RX1 none 2 q.1 q.2 := by
  refine vg_cons (vs_aload_n dX1_chooseCalls_0 rfl rfl) ?_
  refine vg_cons (vs_getfield (T := TX1) dX1_chooseCalls_1 rfl (by decide) ww_inX1 q_99 rfl) ?_
  refine vg_cons (vs_istore_n dX1_chooseCalls_4 rfl (by decide) rfl) ?_
  refine vg_cons (vs_iconst dX1_chooseCalls_5 rfl rfl) ?_
  refine vg_cons (vs_istore_n dX1_chooseCalls_6 rfl (by decide) rfl) ?_
  refine vg_cons (vs_iload_n dX1_chooseCalls_7 rfl rfl) ?_
  refine vg_cons (vs_aload_n dX1_chooseCalls_8 rfl rfl) ?_
  refine vg_cons (vs_getfield (T := TX1) dX1_chooseCalls_9 rfl (by decide) ww_inX1 q_16 rfl) ?_
  refine vg_cons (vs_cmp_ge dX1_chooseCalls_12 (by decide) rfl) ?_
  refine vg_cons (vs_aload_n dX1_chooseCalls_15 rfl rfl) ?_
  refine vg_cons (vs_getfield (T := TX1) dX1_chooseCalls_16 rfl (by decide) ww_inX1 q_75 rfl) ?_
  refine vg_cons (vs_iload_n dX1_chooseCalls_19 rfl rfl) ?_
  refine vg_cons (vs_iload_n dX1_chooseCalls_20 rfl rfl) ?_
  refine vg_cons (vs_if_le dX1_chooseCalls_21 (by decide) rfl) ?_
  refine vg_cons (vs_aload_n dX1_chooseCalls_24 rfl rfl) ?_
  refine vg_cons (vs_getfield (T := TX1) dX1_chooseCalls_25 rfl (by decide) ww_inX1 q_17 rfl) ?_
  refine vg_cons (vs_iload_n dX1_chooseCalls_28 rfl rfl) ?_
  refine vg_cons (vs_aaload dX1_chooseCalls_29 rfl rfl) ?_
  refine vg_cons (vs_getfield (T := TX4) dX1_chooseCalls_30 rfl (by decide) ww_inX4 q_18 rfl) ?_
  refine vg_cons (vs_if_eq dX1_chooseCalls_33 (by decide) rfl) ?_
  refine vg_cons (vs_aload_n dX1_chooseCalls_36 rfl rfl) ?_
  refine vg_cons (vs_iload_n dX1_chooseCalls_37 rfl rfl) ?_
  refine vg_cons (vs_callV (T := TX1) c_X1_firstToCall dX1_chooseCalls_38 rfl ww_good q_100 q_12 q_101 q_102 q_103 (by decide +kernel) (by decide) rfl) ?_
  refine vg_cons (vs_goto dX1_chooseCalls_41 (by decide)) ?_
  refine vg_cons (vs_iconst dX1_chooseCalls_44 rfl rfl) ?_
  refine vg_cons (vs_iastore dX1_chooseCalls_45 rfl rfl) ?_
  refine vg_cons (vs_aload_n dX1_chooseCalls_46 rfl rfl) ?_
  refine vg_cons (vs_getfield (T := TX1) dX1_chooseCalls_47 rfl (by decide) ww_inX1 q_75 rfl) ?_
  refine vg_cons (vs_iload_n dX1_chooseCalls_50 rfl rfl) ?_
  refine vg_cons (vs_iaload dX1_chooseCalls_51 rfl rfl) ?_
  refine vg_cons (vs_iconst dX1_chooseCalls_52 rfl rfl) ?_
  refine vg_cons (vs_cmp_eq dX1_chooseCalls_53 (by decide) rfl) ?_
  refine vg_cons (vs_iinc dX1_chooseCalls_56 rfl rfl) ?_
  refine vg_cons (vs_aload_n dX1_chooseCalls_59 rfl rfl) ?_
  refine vg_cons (vs_dup dX1_chooseCalls_60 rfl) ?_
  refine vg_cons (vs_getfield (T := TX1) dX1_chooseCalls_61 rfl (by decide) ww_inX1 q_104 rfl) ?_
  refine vg_cons (vs_iconst dX1_chooseCalls_64 rfl rfl) ?_
  refine vg_cons (vs_iadd dX1_chooseCalls_65 rfl) ?_
  refine vg_cons (vs_putfield (T := TX1) tyX1 dX1_chooseCalls_66 rfl (by decide) ww_inX1 tyX1_ok nmX1 rfl rfl q_104 rfl) ?_
  refine vg_cons (vs_iinc dX1_chooseCalls_69 rfl rfl) ?_
  refine vg_cons (vs_goto dX1_chooseCalls_72 (by decide)) ?_
  refine vg_cons (vs_return dX1_chooseCalls_75 rfl) ?_
  exact fun _ h => absurd h List.not_mem_nil
theorem m_X1_chooseCalls : vg_Code k_X1_chooseCalls := fun q h => (s_X1_chooseCalls q h).1

theorem w_X1_chooseCalls : vg_Wd sp_X1_chooseCalls 3 := by
  intro av σ h
  unfold sp_X1_chooseCalls at h
  split at h
  · exact Nat.le_of_ble_eq_true rfl
  · exact h.elim
theorem g_X1_chooseCalls : vg_G k_X1_chooseCalls sp_X1_chooseCalls := by
  intro av σ h
  unfold sp_X1_chooseCalls at h ⊢
  split at h
  next b =>
    have h12 := h.2.2.1.2
    refine vg_run (cuts := [(7, [0, 1, 2])]) m_X1_chooseCalls 20 ?_
    refine vg_loop (fun i lv σ' => ∃ x q, q = jIt jChoose i (jV σ b, jV σ b 1 0 1) ∧ σ' = jPut σ b q.1 ∧ x = nI i ∧ lv = [(0, .inr (1, b, 0)), (1, .inl (.int q.2)), (2, .inl (.int x))]) (jWc (jV σ b)) ?_ ?_ 0 _ _ (Nat.zero_le _) ⟨0, _, rfl, jPut_jV.symm, rfl, rfl⟩
    · rintro i lv σ' hi ⟨x, q, hvi, rfl, hx, rfl⟩ ih
      have hK : jKeep (jV σ b) q.1 := by rw [hvi]; exact jIt2_keep jChoose_keep (jV σ b, jV σ b 1 0 1) i
      have hcnt : jPut σ b q.1 (1, b, 0) 6 = nI (jWc (jV σ b)) := jPut_at.trans ((hK.1 0 6 (by omega)).trans h.2.2.1.1)
      have hc0 : x.toNatClampNeg = i := jcl hx (by omega)
      have hv : vp_in x 12 := jin hx (by omega) (by decide)
      have hwf : jWf q.1 := hK.wf h
      have tail : ∀ c : Int32, c = jCh i q → vg_Go k_X1_chooseCalls (fun r σ' => r = none ∧ σ' = jPut σ b (jChooseAll (jV σ b))) 46 [(0, .inr (1, b, 0)), (1, .inl (.int q.2)), (2, .inl (.int x))] [] (jPut σ b (jUp q.1 12 0 i c)) := by
        intro c hcc
        have hb : jPut σ b (jUp q.1 12 0 i c) (12, b, 0) i = c := by rw [jPut_at, jUp_at]
        refine vg_run (cuts := [(7, [0, 1, 2])]) m_X1_chooseCalls 40 ?_
        refine And.intro hv (And.intro (fun hd => ?_) (fun hd => And.intro rfl ?_))
        · rw [hc0, hb] at hd
          refine ih _ _ ⟨x + 1, (jUp q.1 12 0 i c, q.2), ?_, rfl, jinc hx, rfl⟩
          rw [jIt, ← hvi, jChoose, ← hcc]
          exact (if_pos hd).symm
        · rw [hc0, hb] at hd
          refine ih _ _ ⟨x + 1, (jUp (jUp q.1 12 0 i c) 1 0 3 (jUp q.1 12 0 i c 1 0 3 + 1), q.2 + (-1)), ?_, ?_, jinc hx, rfl⟩
          · rw [jIt, ← hvi, jChoose, ← hcc]
            exact (if_neg hd).symm
          · show vg_st (jPut σ b _) (1, b, 0) 3 (jPut σ b _ (1, b, 0) 3 + 1) = _
            rw [jst, jPut_at]
      have tail' : ∀ c : Int32, c = jCh i q → vg_Go k_X1_chooseCalls (fun r σ' => r = none ∧ σ' = jPut σ b (jChooseAll (jV σ b))) 46 [(0, .inr (1, b, 0)), (1, .inl (.int q.2)), (2, .inl (.int x))] [] (vg_st (jPut σ b q.1) (12, b, 0) x.toNatClampNeg c) := by
        intro c hcc
        rw [hc0, jst]
        exact tail c hcc
      refine vg_run (cuts := [(7, [0, 1, 2]), (46, [0, 1, 2])]) m_X1_chooseCalls 60 ?_
      refine And.intro (fun hc => absurd ((jle hcnt hx (by omega) (by omega)).mp hc) (by omega)) (fun _ => And.intro (fun hd => And.intro hv ?_) (fun hd => And.intro hv (And.intro (fun he => And.intro hv ?_) (fun he => And.intro ⟨?_, hv⟩ (And.intro hv ?_)))))
      · exact tail' _ (if_pos hd).symm
      · rw [jPut_at, hc0] at he
        exact tail' _ ((if_neg hd).trans (if_pos he)).symm
      · rw [jV_put]; exact hwf
      · rw [jPut_at, hc0] at he
        refine tail' _ ?_
        rw [jCh, if_neg hd, if_neg he, jV_put, hc0]
    · rintro lv σ' ⟨x, q, hvi, rfl, hx, rfl⟩
      have hK : jKeep (jV σ b) q.1 := by rw [hvi]; exact jIt2_keep jChoose_keep (jV σ b, jV σ b 1 0 1) _
      have hcnt : jPut σ b q.1 (1, b, 0) 6 = nI (jWc (jV σ b)) := jPut_at.trans ((hK.1 0 6 (by omega)).trans h.2.2.1.1)
      refine vg_run (cuts := [(7, [0, 1, 2])]) m_X1_chooseCalls 20 ?_
      exact And.intro (fun _ => And.intro rfl (by rw [hvi]; rfl)) (fun hc => absurd ((jle hcnt hx (by omega) (by omega)).mpr (Nat.le_refl _)) hc)
  next => exact h.elim
theorem c_X1_chooseCalls : vg_MetF ww_tb ww_nw ww_shp ww_nm ww_cl ww_tyl yX1_chooseCalls cX1_chooseCalls 3 none 2 sp_X1_chooseCalls := vg_met ww_closed (by decide +kernel) rfl s_X1_chooseCalls w_X1_chooseCalls g_X1_chooseCalls
