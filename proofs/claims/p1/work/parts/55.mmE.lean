-- words of the tables, and what stands at each place of the methods' code (laid by program)
theorem u_250 : Cond.fieldLink RX7 46 (TX6 0).1 (TX6 0).2.1 (TX6 0).2.2.1 ∈ ww_tb := by decide +kernel
theorem u_251 : Cond.methodLink RX7 50 arraycopyName ∈ ww_tb := by decide +kernel
theorem u_252 : Cond.native arraycopyName ∈ ww_tb := by decide +kernel
theorem u_253 : Cond.static arraycopyName ∈ ww_tb := by decide +kernel
theorem u_254 : Cond.initialized "java/lang/System" ∈ ww_tb := by decide +kernel
theorem u_255 : Cond.code yX7_isText cX7_isText 3 (some .boolean) ∈ ww_tb := by decide +kernel
theorem u_256 : Cond.static yX7_isText ∈ ww_tb := by decide +kernel
theorem u_257 : Cond.methodLink RX7 107 yX7_isText ∈ ww_tb := by decide +kernel
theorem u_258 : Cond.code yX7_draft cX7_draft 9 (some .int) ∈ ww_tb := by decide +kernel
theorem u_259 : Cond.methodLink RX7 110 yX7_draft ∈ ww_tb := by decide +kernel
theorem u_260 : Cond.instanceMethod yX7_draft ∈ ww_tb := by decide +kernel
theorem u_261 : Cond.selects RX7 yX7_draft yX7_draft ∈ ww_tb := by decide +kernel
theorem dX7_group_0 : decode cX7_group 0 = .ok (.aload_n 0, 1) := by decide +kernel
theorem dX7_group_1 : decode cX7_group 1 = .ok (.iconst 0, 1) := by decide +kernel
theorem dX7_group_2 : decode cX7_group 2 = .ok (.putfield 20, 3) := by decide +kernel
theorem dX7_group_5 : decode cX7_group 5 = .ok (.iload_n 1, 1) := by decide +kernel
theorem dX7_group_6 : decode cX7_group 6 = .ok (.invokestatic 39, 3) := by decide +kernel
theorem dX7_group_9 : decode cX7_group 9 = .ok (.ifCond .ne 9, 3) := by decide +kernel
theorem dX7_group_12 : decode cX7_group 12 = .ok (.aload_n 0, 1) := by decide +kernel
theorem dX7_group_13 : decode cX7_group 13 = .ok (.iconst 1, 1) := by decide +kernel
theorem dX7_group_14 : decode cX7_group 14 = .ok (.invokevirtual 43, 3) := by decide +kernel
theorem dX7_group_17 : decode cX7_group 17 = .ok (.ireturn, 1) := by decide +kernel
theorem dX7_group_18 : decode cX7_group 18 = .ok (.iload_n 2, 1) := by decide +kernel
theorem dX7_group_19 : decode cX7_group 19 = .ok (.iconst 1, 1) := by decide +kernel
theorem dX7_group_20 : decode cX7_group 20 = .ok (.bipush 99, 2) := by decide +kernel
theorem dX7_group_22 : decode cX7_group 22 = .ok (.invokestatic 29, 3) := by decide +kernel
theorem dX7_group_25 : decode cX7_group 25 = .ok (.ifCond .eq 12, 3) := by decide +kernel
theorem dX7_group_28 : decode cX7_group 28 = .ok (.iload_n 3, 1) := by decide +kernel
theorem dX7_group_29 : decode cX7_group 29 = .ok (.iconst 0, 1) := by decide +kernel
theorem dX7_group_30 : decode cX7_group 30 = .ok (.iconst 2, 1) := by decide +kernel
theorem dX7_group_31 : decode cX7_group 31 = .ok (.invokestatic 29, 3) := by decide +kernel
theorem dX7_group_34 : decode cX7_group 34 = .ok (.ifCond .ne 9, 3) := by decide +kernel
theorem dX7_group_37 : decode cX7_group 37 = .ok (.aload_n 0, 1) := by decide +kernel
theorem dX7_group_38 : decode cX7_group 38 = .ok (.iconst 2, 1) := by decide +kernel
theorem dX7_group_39 : decode cX7_group 39 = .ok (.invokevirtual 43, 3) := by decide +kernel
theorem dX7_group_42 : decode cX7_group 42 = .ok (.ireturn, 1) := by decide +kernel
theorem dX7_group_43 : decode cX7_group 43 = .ok (.aload_n 0, 1) := by decide +kernel
theorem dX7_group_44 : decode cX7_group 44 = .ok (.getfield 10, 3) := by decide +kernel
theorem dX7_group_47 : decode cX7_group 47 = .ok (.getfield 33, 3) := by decide +kernel
theorem dX7_group_50 : decode cX7_group 50 = .ok (.bipush 8, 2) := by decide +kernel
theorem dX7_group_52 : decode cX7_group 52 = .ok (.if_icmp .ne 9, 3) := by decide +kernel
theorem dX7_group_55 : decode cX7_group 55 = .ok (.aload_n 0, 1) := by decide +kernel
theorem dX7_group_56 : decode cX7_group 56 = .ok (.iconst 3, 1) := by decide +kernel
theorem dX7_group_57 : decode cX7_group 57 = .ok (.invokevirtual 43, 3) := by decide +kernel
theorem dX7_group_60 : decode cX7_group 60 = .ok (.ireturn, 1) := by decide +kernel
theorem dX7_group_61 : decode cX7_group 61 = .ok (.aload_n 0, 1) := by decide +kernel
theorem dX7_group_62 : decode cX7_group 62 = .ok (.getfield 10, 3) := by decide +kernel
theorem dX7_group_65 : decode cX7_group 65 = .ok (.dup, 1) := by decide +kernel
theorem dX7_group_66 : decode cX7_group 66 = .ok (.getfield 33, 3) := by decide +kernel
theorem dX7_group_69 : decode cX7_group 69 = .ok (.dup_x1, 1) := by decide +kernel
theorem dX7_group_70 : decode cX7_group 70 = .ok (.iconst 1, 1) := by decide +kernel
theorem dX7_group_71 : decode cX7_group 71 = .ok (.iadd, 1) := by decide +kernel
theorem dX7_group_72 : decode cX7_group 72 = .ok (.putfield 33, 3) := by decide +kernel
theorem dX7_group_75 : decode cX7_group 75 = .ok (.istore 6, 2) := by decide +kernel
theorem dX7_group_77 : decode cX7_group 77 = .ok (.bipush 8, 2) := by decide +kernel
theorem dX7_group_79 : decode cX7_group 79 = .ok (.newarray .int, 2) := by decide +kernel
theorem dX7_group_81 : decode cX7_group 81 = .ok (.dup, 1) := by decide +kernel
theorem dX7_group_82 : decode cX7_group 82 = .ok (.iconst 0, 1) := by decide +kernel
theorem dX7_group_83 : decode cX7_group 83 = .ok (.iload_n 1, 1) := by decide +kernel
theorem dX7_group_84 : decode cX7_group 84 = .ok (.iastore, 1) := by decide +kernel
theorem dX7_group_85 : decode cX7_group 85 = .ok (.dup, 1) := by decide +kernel
theorem dX7_group_86 : decode cX7_group 86 = .ok (.iconst 1, 1) := by decide +kernel
theorem dX7_group_87 : decode cX7_group 87 = .ok (.iload_n 2, 1) := by decide +kernel
theorem dX7_group_88 : decode cX7_group 88 = .ok (.iastore, 1) := by decide +kernel
theorem dX7_group_89 : decode cX7_group 89 = .ok (.dup, 1) := by decide +kernel
theorem dX7_group_90 : decode cX7_group 90 = .ok (.iconst 2, 1) := by decide +kernel
theorem dX7_group_91 : decode cX7_group 91 = .ok (.iload_n 3, 1) := by decide +kernel
theorem dX7_group_92 : decode cX7_group 92 = .ok (.iastore, 1) := by decide +kernel
theorem dX7_group_93 : decode cX7_group 93 = .ok (.dup, 1) := by decide +kernel
theorem dX7_group_94 : decode cX7_group 94 = .ok (.iconst 3, 1) := by decide +kernel
theorem dX7_group_95 : decode cX7_group 95 = .ok (.iconst 5, 1) := by decide +kernel
theorem dX7_group_96 : decode cX7_group 96 = .ok (.iastore, 1) := by decide +kernel
theorem dX7_group_97 : decode cX7_group 97 = .ok (.dup, 1) := by decide +kernel
theorem dX7_group_98 : decode cX7_group 98 = .ok (.iconst 4, 1) := by decide +kernel
theorem dX7_group_99 : decode cX7_group 99 = .ok (.iload 4, 2) := by decide +kernel
theorem dX7_group_101 : decode cX7_group 101 = .ok (.ifCond .eq 7, 3) := by decide +kernel
theorem dX7_group_104 : decode cX7_group 104 = .ok (.iconst 1, 1) := by decide +kernel
theorem dX7_group_105 : decode cX7_group 105 = .ok (.goto 4, 3) := by decide +kernel
theorem dX7_group_108 : decode cX7_group 108 = .ok (.iconst 0, 1) := by decide +kernel
theorem dX7_group_109 : decode cX7_group 109 = .ok (.iastore, 1) := by decide +kernel
theorem dX7_group_110 : decode cX7_group 110 = .ok (.dup, 1) := by decide +kernel
theorem dX7_group_111 : decode cX7_group 111 = .ok (.iconst 5, 1) := by decide +kernel
theorem dX7_group_112 : decode cX7_group 112 = .ok (.iload 5, 2) := by decide +kernel
theorem dX7_group_114 : decode cX7_group 114 = .ok (.ifCond .eq 7, 3) := by decide +kernel
theorem dX7_group_117 : decode cX7_group 117 = .ok (.iconst 1, 1) := by decide +kernel
theorem dX7_group_118 : decode cX7_group 118 = .ok (.goto 4, 3) := by decide +kernel
theorem dX7_group_121 : decode cX7_group 121 = .ok (.iconst 0, 1) := by decide +kernel
theorem dX7_group_122 : decode cX7_group 122 = .ok (.iastore, 1) := by decide +kernel
theorem dX7_group_123 : decode cX7_group 123 = .ok (.dup, 1) := by decide +kernel
theorem dX7_group_124 : decode cX7_group 124 = .ok (.bipush 6, 2) := by decide +kernel
theorem dX7_group_126 : decode cX7_group 126 = .ok (.iconst (-1), 1) := by decide +kernel
theorem dX7_group_127 : decode cX7_group 127 = .ok (.iastore, 1) := by decide +kernel
theorem dX7_group_128 : decode cX7_group 128 = .ok (.dup, 1) := by decide +kernel
theorem dX7_group_129 : decode cX7_group 129 = .ok (.bipush 7, 2) := by decide +kernel
theorem dX7_group_131 : decode cX7_group 131 = .ok (.iconst 0, 1) := by decide +kernel
theorem dX7_group_132 : decode cX7_group 132 = .ok (.iastore, 1) := by decide +kernel
theorem dX7_group_133 : decode cX7_group 133 = .ok (.astore 7, 2) := by decide +kernel
theorem dX7_group_135 : decode cX7_group 135 = .ok (.aload 7, 2) := by decide +kernel
theorem dX7_group_137 : decode cX7_group 137 = .ok (.iconst 0, 1) := by decide +kernel
theorem dX7_group_138 : decode cX7_group 138 = .ok (.aload_n 0, 1) := by decide +kernel
theorem dX7_group_139 : decode cX7_group 139 = .ok (.getfield 10, 3) := by decide +kernel
theorem dX7_group_142 : decode cX7_group 142 = .ok (.getfield 46, 3) := by decide +kernel
theorem dX7_group_145 : decode cX7_group 145 = .ok (.iload 6, 2) := by decide +kernel
theorem dX7_group_147 : decode cX7_group 147 = .ok (.aaload, 1) := by decide +kernel
theorem dX7_group_148 : decode cX7_group 148 = .ok (.iconst 0, 1) := by decide +kernel
theorem dX7_group_149 : decode cX7_group 149 = .ok (.bipush 8, 2) := by decide +kernel
theorem dX7_group_151 : decode cX7_group 151 = .ok (.invokestatic 50, 3) := by decide +kernel
theorem dX7_group_154 : decode cX7_group 154 = .ok (.iconst 0, 1) := by decide +kernel
theorem dX7_group_155 : decode cX7_group 155 = .ok (.istore 8, 2) := by decide +kernel
theorem dX7_group_157 : decode cX7_group 157 = .ok (.iload 8, 2) := by decide +kernel
theorem dX7_group_159 : decode cX7_group 159 = .ok (.aload_n 0, 1) := by decide +kernel
theorem dX7_group_160 : decode cX7_group 160 = .ok (.getfield 10, 3) := by decide +kernel
theorem dX7_group_163 : decode cX7_group 163 = .ok (.getfield 36, 3) := by decide +kernel
theorem dX7_group_166 : decode cX7_group 166 = .ok (.if_icmp .ge 17, 3) := by decide +kernel
theorem dX7_group_169 : decode cX7_group 169 = .ok (.aload_n 0, 1) := by decide +kernel
theorem dX7_group_170 : decode cX7_group 170 = .ok (.iload 6, 2) := by decide +kernel
theorem dX7_group_172 : decode cX7_group 172 = .ok (.iload 8, 2) := by decide +kernel
theorem dX7_group_174 : decode cX7_group 174 = .ok (.invokevirtual 56, 3) := by decide +kernel
theorem dX7_group_177 : decode cX7_group 177 = .ok (.iinc 8 1, 3) := by decide +kernel
theorem dX7_group_180 : decode cX7_group 180 = .ok (.goto (-23), 3) := by decide +kernel
theorem dX7_group_183 : decode cX7_group 183 = .ok (.iload 6, 2) := by decide +kernel
theorem dX7_group_185 : decode cX7_group 185 = .ok (.ireturn, 1) := by decide +kernel
theorem dX7_draft_0 : decode cX7_draft 0 = .ok (.aload_n 0, 1) := by decide +kernel
theorem dX7_draft_1 : decode cX7_draft 1 = .ok (.getfield 10, 3) := by decide +kernel
theorem dX7_draft_4 : decode cX7_draft 4 = .ok (.dup, 1) := by decide +kernel
theorem dX7_draft_5 : decode cX7_draft 5 = .ok (.getfield 36, 3) := by decide +kernel
theorem dX7_draft_8 : decode cX7_draft 8 = .ok (.dup_x1, 1) := by decide +kernel
theorem dX7_draft_9 : decode cX7_draft 9 = .ok (.iconst 1, 1) := by decide +kernel
theorem dX7_draft_10 : decode cX7_draft 10 = .ok (.iadd, 1) := by decide +kernel
theorem dX7_draft_11 : decode cX7_draft 11 = .ok (.putfield 36, 3) := by decide +kernel
theorem dX7_draft_14 : decode cX7_draft 14 = .ok (.istore 6, 2) := by decide +kernel
theorem dX7_draft_16 : decode cX7_draft 16 = .ok (.bipush 8, 2) := by decide +kernel
theorem dX7_draft_18 : decode cX7_draft 18 = .ok (.newarray .int, 2) := by decide +kernel
theorem dX7_draft_20 : decode cX7_draft 20 = .ok (.dup, 1) := by decide +kernel
theorem dX7_draft_21 : decode cX7_draft 21 = .ok (.iconst 0, 1) := by decide +kernel
theorem dX7_draft_22 : decode cX7_draft 22 = .ok (.iload_n 1, 1) := by decide +kernel
theorem dX7_draft_23 : decode cX7_draft 23 = .ok (.iastore, 1) := by decide +kernel
theorem dX7_draft_24 : decode cX7_draft 24 = .ok (.dup, 1) := by decide +kernel
theorem dX7_draft_25 : decode cX7_draft 25 = .ok (.iconst 1, 1) := by decide +kernel
theorem dX7_draft_26 : decode cX7_draft 26 = .ok (.iload_n 2, 1) := by decide +kernel
theorem dX7_draft_27 : decode cX7_draft 27 = .ok (.iastore, 1) := by decide +kernel
theorem dX7_draft_28 : decode cX7_draft 28 = .ok (.dup, 1) := by decide +kernel
theorem dX7_draft_29 : decode cX7_draft 29 = .ok (.iconst 2, 1) := by decide +kernel
theorem dX7_draft_30 : decode cX7_draft 30 = .ok (.iload_n 3, 1) := by decide +kernel
theorem dX7_draft_31 : decode cX7_draft 31 = .ok (.iastore, 1) := by decide +kernel
theorem dX7_draft_32 : decode cX7_draft 32 = .ok (.dup, 1) := by decide +kernel
theorem dX7_draft_33 : decode cX7_draft 33 = .ok (.iconst 3, 1) := by decide +kernel
theorem dX7_draft_34 : decode cX7_draft 34 = .ok (.iload 4, 2) := by decide +kernel
theorem dX7_draft_36 : decode cX7_draft 36 = .ok (.iastore, 1) := by decide +kernel
theorem dX7_draft_37 : decode cX7_draft 37 = .ok (.dup, 1) := by decide +kernel
theorem dX7_draft_38 : decode cX7_draft 38 = .ok (.iconst 4, 1) := by decide +kernel
theorem dX7_draft_39 : decode cX7_draft 39 = .ok (.iload 5, 2) := by decide +kernel
theorem dX7_draft_41 : decode cX7_draft 41 = .ok (.iastore, 1) := by decide +kernel
theorem dX7_draft_42 : decode cX7_draft 42 = .ok (.dup, 1) := by decide +kernel
theorem dX7_draft_43 : decode cX7_draft 43 = .ok (.iconst 5, 1) := by decide +kernel
theorem dX7_draft_44 : decode cX7_draft 44 = .ok (.iconst 0, 1) := by decide +kernel
theorem dX7_draft_45 : decode cX7_draft 45 = .ok (.iastore, 1) := by decide +kernel
theorem dX7_draft_46 : decode cX7_draft 46 = .ok (.dup, 1) := by decide +kernel
theorem dX7_draft_47 : decode cX7_draft 47 = .ok (.bipush 6, 2) := by decide +kernel
theorem dX7_draft_49 : decode cX7_draft 49 = .ok (.iconst (-1), 1) := by decide +kernel
theorem dX7_draft_50 : decode cX7_draft 50 = .ok (.iastore, 1) := by decide +kernel
theorem dX7_draft_51 : decode cX7_draft 51 = .ok (.dup, 1) := by decide +kernel
theorem dX7_draft_52 : decode cX7_draft 52 = .ok (.bipush 7, 2) := by decide +kernel
theorem dX7_draft_54 : decode cX7_draft 54 = .ok (.iconst 0, 1) := by decide +kernel
theorem dX7_draft_55 : decode cX7_draft 55 = .ok (.iastore, 1) := by decide +kernel
theorem dX7_draft_56 : decode cX7_draft 56 = .ok (.astore 7, 2) := by decide +kernel
theorem dX7_draft_58 : decode cX7_draft 58 = .ok (.aload 7, 2) := by decide +kernel
theorem dX7_draft_60 : decode cX7_draft 60 = .ok (.iconst 0, 1) := by decide +kernel
theorem dX7_draft_61 : decode cX7_draft 61 = .ok (.aload_n 0, 1) := by decide +kernel
theorem dX7_draft_62 : decode cX7_draft 62 = .ok (.getfield 10, 3) := by decide +kernel
theorem dX7_draft_65 : decode cX7_draft 65 = .ok (.getfield 104, 3) := by decide +kernel
theorem dX7_draft_68 : decode cX7_draft 68 = .ok (.iload 6, 2) := by decide +kernel
theorem dX7_draft_70 : decode cX7_draft 70 = .ok (.aaload, 1) := by decide +kernel
theorem dX7_draft_71 : decode cX7_draft 71 = .ok (.iconst 0, 1) := by decide +kernel
theorem dX7_draft_72 : decode cX7_draft 72 = .ok (.bipush 8, 2) := by decide +kernel
theorem dX7_draft_74 : decode cX7_draft 74 = .ok (.invokestatic 50, 3) := by decide +kernel
theorem dX7_draft_77 : decode cX7_draft 77 = .ok (.iconst 0, 1) := by decide +kernel
theorem dX7_draft_78 : decode cX7_draft 78 = .ok (.istore 8, 2) := by decide +kernel
theorem dX7_draft_80 : decode cX7_draft 80 = .ok (.iload 8, 2) := by decide +kernel
theorem dX7_draft_82 : decode cX7_draft 82 = .ok (.aload_n 0, 1) := by decide +kernel
theorem dX7_draft_83 : decode cX7_draft 83 = .ok (.getfield 10, 3) := by decide +kernel
theorem dX7_draft_86 : decode cX7_draft 86 = .ok (.getfield 33, 3) := by decide +kernel
theorem dX7_draft_89 : decode cX7_draft 89 = .ok (.if_icmp .ge 17, 3) := by decide +kernel
theorem dX7_draft_92 : decode cX7_draft 92 = .ok (.aload_n 0, 1) := by decide +kernel
theorem dX7_draft_93 : decode cX7_draft 93 = .ok (.iload 8, 2) := by decide +kernel
theorem dX7_draft_95 : decode cX7_draft 95 = .ok (.iload 6, 2) := by decide +kernel
theorem dX7_draft_97 : decode cX7_draft 97 = .ok (.invokevirtual 56, 3) := by decide +kernel
theorem dX7_draft_100 : decode cX7_draft 100 = .ok (.iinc 8 1, 3) := by decide +kernel
theorem dX7_draft_103 : decode cX7_draft 103 = .ok (.goto (-23), 3) := by decide +kernel
theorem dX7_draft_106 : decode cX7_draft 106 = .ok (.iload 6, 2) := by decide +kernel
theorem dX7_draft_108 : decode cX7_draft 108 = .ok (.ireturn, 1) := by decide +kernel
theorem dX7_alert_0 : decode cX7_alert 0 = .ok (.aload_n 0, 1) := by decide +kernel
theorem dX7_alert_1 : decode cX7_alert 1 = .ok (.iconst 0, 1) := by decide +kernel
theorem dX7_alert_2 : decode cX7_alert 2 = .ok (.putfield 20, 3) := by decide +kernel
theorem dX7_alert_5 : decode cX7_alert 5 = .ok (.iload_n 1, 1) := by decide +kernel
theorem dX7_alert_6 : decode cX7_alert 6 = .ok (.iload_n 2, 1) := by decide +kernel
theorem dX7_alert_7 : decode cX7_alert 7 = .ok (.iload_n 3, 1) := by decide +kernel
theorem dX7_alert_8 : decode cX7_alert 8 = .ok (.invokestatic 107, 3) := by decide +kernel
theorem dX7_alert_11 : decode cX7_alert 11 = .ok (.ifCond .ne 9, 3) := by decide +kernel
theorem dX7_alert_14 : decode cX7_alert 14 = .ok (.aload_n 0, 1) := by decide +kernel
theorem dX7_alert_15 : decode cX7_alert 15 = .ok (.iconst 1, 1) := by decide +kernel
theorem dX7_alert_16 : decode cX7_alert 16 = .ok (.invokevirtual 43, 3) := by decide +kernel
theorem dX7_alert_19 : decode cX7_alert 19 = .ok (.ireturn, 1) := by decide +kernel
theorem dX7_alert_20 : decode cX7_alert 20 = .ok (.aload_n 0, 1) := by decide +kernel
theorem dX7_alert_21 : decode cX7_alert 21 = .ok (.getfield 10, 3) := by decide +kernel
theorem dX7_alert_24 : decode cX7_alert 24 = .ok (.getfield 36, 3) := by decide +kernel
theorem dX7_alert_27 : decode cX7_alert 27 = .ok (.bipush 12, 2) := by decide +kernel
theorem dX7_alert_29 : decode cX7_alert 29 = .ok (.if_icmp .ne 9, 3) := by decide +kernel
theorem dX7_alert_32 : decode cX7_alert 32 = .ok (.aload_n 0, 1) := by decide +kernel
theorem dX7_alert_33 : decode cX7_alert 33 = .ok (.iconst 2, 1) := by decide +kernel
theorem dX7_alert_34 : decode cX7_alert 34 = .ok (.invokevirtual 43, 3) := by decide +kernel
theorem dX7_alert_37 : decode cX7_alert 37 = .ok (.ireturn, 1) := by decide +kernel
theorem dX7_alert_38 : decode cX7_alert 38 = .ok (.aload_n 0, 1) := by decide +kernel
theorem dX7_alert_39 : decode cX7_alert 39 = .ok (.iconst 0, 1) := by decide +kernel
theorem dX7_alert_40 : decode cX7_alert 40 = .ok (.iconst (-1), 1) := by decide +kernel
theorem dX7_alert_41 : decode cX7_alert 41 = .ok (.iload_n 1, 1) := by decide +kernel
theorem dX7_alert_42 : decode cX7_alert 42 = .ok (.iload_n 2, 1) := by decide +kernel
theorem dX7_alert_43 : decode cX7_alert 43 = .ok (.iload_n 3, 1) := by decide +kernel
theorem dX7_alert_44 : decode cX7_alert 44 = .ok (.invokevirtual 110, 3) := by decide +kernel
theorem dX7_alert_47 : decode cX7_alert 47 = .ok (.ireturn, 1) := by decide +kernel
/-! the reference's methods that make rows -/
theorem mm_aI : Cond.arrayClass (newarray.typeOf .int) ∈ ww_tb := by decide +kernel
theorem mm_aZ : Cond.arrayClass (newarray.typeOf .boolean) ∈ ww_tb := by decide +kernel
theorem vm_code1 {E : vgL → vgT → vgS → Prop} {pc : Nat} {k : List (Nat × vgF)} (hm : vg_Code k) : vg_Code ([(pc, vi_exit E)] ++ k) := by
  intro q hq
  rcases List.mem_append.mp hq with h | h
  · rw [List.mem_singleton.mp h]
    exact vm_exitM
  · exact hm q h
theorem vg_st_ne {σ : vgS} {n n' : vgN} {k j : Nat} {x : Int32} (h : ¬ (n' = n ∧ j = k)) : vg_st σ n k x n' j = σ n' j := if_neg h
/-- one row is made at pc1; from there on 'goes' -/
abbrev vm_ex1 (t1 : vgN) (x : Int32) (goes : Nat → vgL → vgT → vgS → Prop) (pc2 : Nat) : vgF := vi_exit (fun lv st σ1 => ∃ t, st = .inl (.int x) :: t ∧ goes pc2 lv (.inr t1 :: t) (vm_z σ1 t1))
theorem mm_i (k n : Nat) (x : Int32) (hx : x = nI k) (h : k < n) (hn : n < 1000) : vp_in x n := jin hx h hn
def k_X7_group : List (Nat × vgF) := [(0, vi_aload 0 1), (1, vi_icst (0) 2), (2, vi_put mm_shp 0 0 5), (5, vi_iload 1 6), (6, vi_callS sp_X7_isCell 1 9), (9, vi_if (fun x => x = 0) 12 18), (12, vi_aload 0 13), (13, vi_icst (1) 14), (14, vi_callV mm_shp 0 sp_X7_no 1 17), (17, vi_ret), (18, vi_iload 2 19), (19, vi_icst (1) 20), (20, vi_icst (99) 22), (22, vi_callS sp_X7_in 3 25), (25, vi_if (fun x => x = 0) 37 28), (28, vi_iload 3 29), (29, vi_icst (0) 30), (30, vi_icst (2) 31), (31, vi_callS sp_X7_in 3 34), (34, vi_if (fun x => x = 0) 37 43), (37, vi_aload 0 38), (38, vi_icst (2) 39), (39, vi_callV mm_shp 0 sp_X7_no 1 42), (42, vi_ret), (43, vi_aload 0 44), (44, vi_get mm_shp 0 1 47), (47, vi_get mm_shp 1 9 50), (50, vi_icst (8) 52), (52, vi_cmp (fun x y => x = y) 55 61), (55, vi_aload 0 56), (56, vi_icst (3) 57), (57, vi_callV mm_shp 0 sp_X7_no 1 60), (60, vi_ret), (61, vi_aload 0 62), (62, vi_get mm_shp 0 1 65), (65, vi_dup 66), (66, vi_get mm_shp 1 9 69), (69, vi_dupx1 70), (70, vi_icst (1) 71), (71, vi_bin (fun x y => x + y) 72), (72, vi_put mm_shp 1 9 75), (75, vi_istore 6 77), (77, vi_icst (8) 79), (81, vi_dup 82), (82, vi_icst (0) 83), (83, vi_iload 1 84), (84, vi_ast mm_shp 0 85), (85, vi_dup 86), (86, vi_icst (1) 87), (87, vi_iload 2 88), (88, vi_ast mm_shp 0 89), (89, vi_dup 90), (90, vi_icst (2) 91), (91, vi_iload 3 92), (92, vi_ast mm_shp 0 93), (93, vi_dup 94), (94, vi_icst (3) 95), (95, vi_icst (5) 96), (96, vi_ast mm_shp 0 97), (97, vi_dup 98), (98, vi_icst (4) 99), (99, vi_iload 4 101), (101, vi_if (fun x => x = 0) 108 104), (104, vi_icst (1) 105), (105, vi_goto 109), (108, vi_icst (0) 109), (109, vi_ast mm_shp 0 110), (110, vi_dup 111), (111, vi_icst (5) 112), (112, vi_iload 5 114), (114, vi_if (fun x => x = 0) 121 117), (117, vi_icst (1) 118), (118, vi_goto 122), (121, vi_icst (0) 122), (122, vi_ast mm_shp 0 123), (123, vi_dup 124), (124, vi_icst (6) 126), (126, vi_icst (-1) 127), (127, vi_ast mm_shp 0 128), (128, vi_dup 129), (129, vi_icst (7) 131), (131, vi_icst (0) 132), (132, vi_ast mm_shp 0 133), (133, vi_astore 7 135), (135, vi_aload 7 137), (137, vi_icst (0) 138), (138, vi_aload 0 139), (139, vi_get mm_shp 0 1 142), (142, vi_get mm_shp 1 0 145), (145, vi_iload 6 147), (147, vi_aald mm_shp 2 148), (148, vi_icst (0) 149), (149, vi_icst (8) 151), (151, vi_cpy mm_shp 0 154), (154, vi_icst (0) 155), (155, vi_istore 8 157), (157, vi_iload 8 159), (159, vi_aload 0 160), (160, vi_get mm_shp 0 1 163), (163, vi_get mm_shp 1 10 166), (166, vi_cmp (fun x y => y ≤ x) 183 169), (169, vi_aload 0 170), (170, vi_iload 6 172), (172, vi_iload 8 174), (174, vi_no), (177, vi_iinc 8 (1) 180), (180, vi_goto 157), (183, vi_iload 6 185), (185, vi_ret)]
set_option maxRecDepth 20000 in
theorem s_X7_group {nm : List vgN} (hcl : vg_closed mm_shp nm) : ∀ q ∈ k_X7_group, vm_Snd false ww_tb [] [] [] mm_shp nm mm_cl mm_tyl cX7_group 9 RX7 (some .int) 2 q.1 q.2 := by
  refine vg_cons (vt_aload_n dX7_group_0 rfl rfl) ?_
  refine vg_cons (vt_iconst dX7_group_1 rfl rfl) ?_
  refine vg_cons (vt_putfield (T := TX7) tyX7 dX7_group_2 rfl (by decide) mm_inX7 tyX7_ok nmX7 rfl rfl u_201 rfl) ?_
  refine vg_cons (vt_iload_n dX7_group_5 rfl rfl) ?_
  refine vg_cons (vt_callS (c_X7_isCell hcl) dX7_group_6 ww_good u_219 u_198 u_221 u_220 (by decide +kernel) (by decide) rfl) ?_
  refine vg_cons (vt_if_ne dX7_group_9 (by decide) rfl) ?_
  refine vg_cons (vt_aload_n dX7_group_12 rfl rfl) ?_
  refine vg_cons (vt_iconst dX7_group_13 rfl rfl) ?_
  refine vg_cons (vt_callV (T := TX7) (c_X7_no hcl) dX7_group_14 rfl ww_good u_210 u_198 u_211 u_212 u_213 (by decide +kernel) (by decide) rfl) ?_
  refine vg_cons (vt_ireturn dX7_group_17 rfl) ?_
  refine vg_cons (vt_iload_n dX7_group_18 rfl rfl) ?_
  refine vg_cons (vt_iconst dX7_group_19 rfl rfl) ?_
  refine vg_cons (vt_bipush dX7_group_20 (by decide) rfl) ?_
  refine vg_cons (vt_callS (c_X7_in hcl) dX7_group_22 ww_good u_197 u_198 u_200 u_199 (by decide +kernel) (by decide) rfl) ?_
  refine vg_cons (vt_if_eq dX7_group_25 (by decide) rfl) ?_
  refine vg_cons (vt_iload_n dX7_group_28 rfl rfl) ?_
  refine vg_cons (vt_iconst dX7_group_29 rfl rfl) ?_
  refine vg_cons (vt_iconst dX7_group_30 rfl rfl) ?_
  refine vg_cons (vt_callS (c_X7_in hcl) dX7_group_31 ww_good u_197 u_198 u_200 u_199 (by decide +kernel) (by decide) rfl) ?_
  refine vg_cons (vt_if_ne dX7_group_34 (by decide) rfl) ?_
  refine vg_cons (vt_aload_n dX7_group_37 rfl rfl) ?_
  refine vg_cons (vt_iconst dX7_group_38 rfl rfl) ?_
  refine vg_cons (vt_callV (T := TX7) (c_X7_no hcl) dX7_group_39 rfl ww_good u_210 u_198 u_211 u_212 u_213 (by decide +kernel) (by decide) rfl) ?_
  refine vg_cons (vt_ireturn dX7_group_42 rfl) ?_
  refine vg_cons (vt_aload_n dX7_group_43 rfl rfl) ?_
  refine vg_cons (vt_getfield (T := TX7) dX7_group_44 rfl (by decide) mm_inX7 u_202 rfl) ?_
  refine vg_cons (vt_getfield (T := TX6) dX7_group_47 rfl (by decide) mm_inX6 u_203 rfl) ?_
  refine vg_cons (vt_bipush dX7_group_50 (by decide) rfl) ?_
  refine vg_cons (vt_cmp_ne dX7_group_52 (by decide) rfl) ?_
  refine vg_cons (vt_aload_n dX7_group_55 rfl rfl) ?_
  refine vg_cons (vt_iconst dX7_group_56 rfl rfl) ?_
  refine vg_cons (vt_callV (T := TX7) (c_X7_no hcl) dX7_group_57 rfl ww_good u_210 u_198 u_211 u_212 u_213 (by decide +kernel) (by decide) rfl) ?_
  refine vg_cons (vt_ireturn dX7_group_60 rfl) ?_
  refine vg_cons (vt_aload_n dX7_group_61 rfl rfl) ?_
  refine vg_cons (vt_getfield (T := TX7) dX7_group_62 rfl (by decide) mm_inX7 u_202 rfl) ?_
  refine vg_cons (vt_dup dX7_group_65 rfl) ?_
  refine vg_cons (vt_getfield (T := TX6) dX7_group_66 rfl (by decide) mm_inX6 u_203 rfl) ?_
  refine vg_cons (vt_dup_x1 dX7_group_69 rfl) ?_
  refine vg_cons (vt_iconst dX7_group_70 rfl rfl) ?_
  refine vg_cons (vt_iadd dX7_group_71 rfl) ?_
  refine vg_cons (vt_putfield (T := TX6) tyX6 dX7_group_72 rfl (by decide) mm_inX6 tyX6_ok nmX6 rfl rfl u_203 rfl) ?_
  refine vg_cons (vt_istore dX7_group_75 (by decide) rfl) ?_
  refine vg_cons (vt_bipush dX7_group_77 (by decide) rfl) ?_
  refine vg_cons (vt_dup dX7_group_81 rfl) ?_
  refine vg_cons (vt_iconst dX7_group_82 rfl rfl) ?_
  refine vg_cons (vt_iload_n dX7_group_83 rfl rfl) ?_
  refine vg_cons (vt_iastore dX7_group_84 rfl rfl) ?_
  refine vg_cons (vt_dup dX7_group_85 rfl) ?_
  refine vg_cons (vt_iconst dX7_group_86 rfl rfl) ?_
  refine vg_cons (vt_iload_n dX7_group_87 rfl rfl) ?_
  refine vg_cons (vt_iastore dX7_group_88 rfl rfl) ?_
  refine vg_cons (vt_dup dX7_group_89 rfl) ?_
  refine vg_cons (vt_iconst dX7_group_90 rfl rfl) ?_
  refine vg_cons (vt_iload_n dX7_group_91 rfl rfl) ?_
  refine vg_cons (vt_iastore dX7_group_92 rfl rfl) ?_
  refine vg_cons (vt_dup dX7_group_93 rfl) ?_
  refine vg_cons (vt_iconst dX7_group_94 rfl rfl) ?_
  refine vg_cons (vt_iconst dX7_group_95 rfl rfl) ?_
  refine vg_cons (vt_iastore dX7_group_96 rfl rfl) ?_
  refine vg_cons (vt_dup dX7_group_97 rfl) ?_
  refine vg_cons (vt_iconst dX7_group_98 rfl rfl) ?_
  refine vg_cons (vt_iload dX7_group_99 rfl) ?_
  refine vg_cons (vt_if_eq dX7_group_101 (by decide) rfl) ?_
  refine vg_cons (vt_iconst dX7_group_104 rfl rfl) ?_
  refine vg_cons (vt_goto dX7_group_105 (by decide)) ?_
  refine vg_cons (vt_iconst dX7_group_108 rfl rfl) ?_
  refine vg_cons (vt_iastore dX7_group_109 rfl rfl) ?_
  refine vg_cons (vt_dup dX7_group_110 rfl) ?_
  refine vg_cons (vt_iconst dX7_group_111 rfl rfl) ?_
  refine vg_cons (vt_iload dX7_group_112 rfl) ?_
  refine vg_cons (vt_if_eq dX7_group_114 (by decide) rfl) ?_
  refine vg_cons (vt_iconst dX7_group_117 rfl rfl) ?_
  refine vg_cons (vt_goto dX7_group_118 (by decide)) ?_
  refine vg_cons (vt_iconst dX7_group_121 rfl rfl) ?_
  refine vg_cons (vt_iastore dX7_group_122 rfl rfl) ?_
  refine vg_cons (vt_dup dX7_group_123 rfl) ?_
  refine vg_cons (vt_bipush dX7_group_124 (by decide) rfl) ?_
  refine vg_cons (vt_iconst dX7_group_126 rfl rfl) ?_
  refine vg_cons (vt_iastore dX7_group_127 rfl rfl) ?_
  refine vg_cons (vt_dup dX7_group_128 rfl) ?_
  refine vg_cons (vt_bipush dX7_group_129 (by decide) rfl) ?_
  refine vg_cons (vt_iconst dX7_group_131 rfl rfl) ?_
  refine vg_cons (vt_iastore dX7_group_132 rfl rfl) ?_
  refine vg_cons (vt_astore dX7_group_133 (by decide) rfl) ?_
  refine vg_cons (vt_aload dX7_group_135 rfl) ?_
  refine vg_cons (vt_iconst dX7_group_137 rfl rfl) ?_
  refine vg_cons (vt_aload_n dX7_group_138 rfl rfl) ?_
  refine vg_cons (vt_getfield (T := TX7) dX7_group_139 rfl (by decide) mm_inX7 u_202 rfl) ?_
  refine vg_cons (vt_getfield (T := TX6) dX7_group_142 rfl (by decide) mm_inX6 u_250 rfl) ?_
  refine vg_cons (vt_iload dX7_group_145 rfl) ?_
  refine vg_cons (vt_aaloadA dX7_group_147 rfl rfl rfl) ?_
  refine vg_cons (vt_iconst dX7_group_148 rfl rfl) ?_
  refine vg_cons (vt_bipush dX7_group_149 (by decide) rfl) ?_
  refine vg_cons (vt_acopy dX7_group_151 rfl u_251 u_252 u_253 u_254 (by decide) rfl) ?_
  refine vg_cons (vt_iconst dX7_group_154 rfl rfl) ?_
  refine vg_cons (vt_istore dX7_group_155 (by decide) rfl) ?_
  refine vg_cons (vt_iload dX7_group_157 rfl) ?_
  refine vg_cons (vt_aload_n dX7_group_159 rfl rfl) ?_
  refine vg_cons (vt_getfield (T := TX7) dX7_group_160 rfl (by decide) mm_inX7 u_202 rfl) ?_
  refine vg_cons (vt_getfield (T := TX6) dX7_group_163 rfl (by decide) mm_inX6 u_204 rfl) ?_
  refine vg_cons (vt_cmp_ge dX7_group_166 (by decide) rfl) ?_
  refine vg_cons (vt_aload_n dX7_group_169 rfl rfl) ?_
  refine vg_cons (vt_iload dX7_group_170 rfl) ?_
  refine vg_cons (vt_iload dX7_group_172 rfl) ?_
  refine vg_cons (vt_no) ?_
  refine vg_cons (vt_iinc dX7_group_177 rfl rfl) ?_
  refine vg_cons (vt_goto dX7_group_180 (by decide)) ?_
  refine vg_cons (vt_iload dX7_group_183 rfl) ?_
  refine vg_cons (vt_ireturn dX7_group_185 rfl) ?_
  exact fun _ h => absurd h List.not_mem_nil
theorem m_X7_group : vg_Code k_X7_group := fun q h => (s_X7_group (nm := []) (fun n hn => nomatch hn) q h).1

def pm_X7_group : vgT → vgS → Prop := fun av σ => match av with
  | [.inr (40, 0, 0), .inl (.int c), .inl (.int p), .inl (.int t), .inl (.int d), .inl (.int r)] => mm_fr σ
  | _ => False
def mf_X7_group : vgT → Int32 × Int32 := fun av => match av with
  | [.inr (40, 0, 0), .inl (.int c), .inl (.int p), .inl (.int t), .inl (.int d), .inl (.int r)] => (if wp_c c then (if wp_r p 1 99 then (if wp_r t 0 2 then (0, 0) else (2, 0)) else (2, 0)) else (1, 0))
  | _ => (0, 0)
theorem wm_X7_group : ∀ av σ, pm_X7_group av σ → vg_wd av ≤ 9 := by
  intro av σ h
  unfold pm_X7_group at h
  split at h
  · exact Nat.le_of_ble_eq_true rfl
  · exact h.elim
set_option maxRecDepth 20000 in
theorem gb_X7_group {σ : vgS} {c p t d r : Int32} {P : vgO} (h9 : σ (41, 0, 0) 9 = 1) (h10 : σ (41, 0, 0) 10 = 0) (hP : ∀ σ', σ' (40, 0, 0) 0 = σ (40, 0, 0) 0 → P (some (.inl (.int 0))) σ') : vg_Go k_X7_group P 81 [(6, .inl (.int 0)), (0, .inr (40, 0, 0)), (1, .inl (.int c)), (2, .inl (.int p)), (3, .inl (.int t)), (4, .inl (.int d)), (5, .inl (.int r))] [.inr (60, 0, 8)] (vm_z σ (60, 0, 8)) := by
  have i0 : vp_in (0 : Int32) 8 := mm_i 0 8 0 rfl (by decide) (by decide)
  have i1 : vp_in (1 : Int32) 8 := mm_i 1 8 1 rfl (by decide) (by decide)
  have i2 : vp_in (2 : Int32) 8 := mm_i 2 8 2 rfl (by decide) (by decide)
  have i3 : vp_in (3 : Int32) 8 := mm_i 3 8 3 rfl (by decide) (by decide)
  have i4 : vp_in (4 : Int32) 8 := mm_i 4 8 4 rfl (by decide) (by decide)
  have i5 : vp_in (5 : Int32) 8 := mm_i 5 8 5 rfl (by decide) (by decide)
  have i6 : vp_in (6 : Int32) 8 := mm_i 6 8 6 rfl (by decide) (by decide)
  have i7 : vp_in (7 : Int32) 8 := mm_i 7 8 7 rfl (by decide) (by decide)
  have hc : (0 : Int32) = 0 ∧ (0 : Int32) = 0 ∧ ¬ (8 : Int32) < 0 ∧ (8 : Int32).toNatClampNeg ≤ 8 ∧ (8 : Int32).toNatClampNeg ≤ 8 := by decide
  refine vg_run (cuts := []) m_X7_group 80 ?_
  refine And.intro rfl (And.intro i0 (And.intro rfl (And.intro i1 (And.intro rfl (And.intro i2 (And.intro rfl (And.intro i3 (And.intro rfl ?_))))))))
  have fin : ∀ (σ' : vgS), σ' (40, 0, 0) 0 = σ (40, 0, 0) 0 → P (some (.inl (.int 0))) σ' := hP
  refine And.intro (fun _ => ?_) (fun _ => ?_)
  all_goals
    refine And.intro i4 (And.intro rfl (And.intro (fun _ => ?_) (fun _ => ?_)))
  all_goals
    refine And.intro i5 (And.intro rfl (And.intro i6 (And.intro rfl (And.intro i7 (And.intro i0 (And.intro hc ?_))))))
    refine And.intro (fun _ => ?_) (fun z => absurd (show σ (41, 0, 0) 10 ≤ 0 by rw [h10]; decide) z)
    exact fin _ rfl
set_option maxRecDepth 20000 in
theorem gx_X7_group : ∀ av σ, pm_X7_group av σ → vg_Go ([(79, vm_ex1 (60, 0, 8) 8 (vg_Go k_X7_group (mm_Po (mf_X7_group av))) 81)] ++ k_X7_group) (mm_Po (mf_X7_group av)) 0 (vg_args 0 av) [] σ := by
  intro av σ h
  unfold pm_X7_group at h
  split at h
  next c p t d r =>
    refine vg_run (cuts := []) (vm_code1 m_X7_group) 80 ?_
    refine And.intro trivial (And.intro (fun z => ?_) (fun z => ?_))
    · have e : mf_X7_group [.inr (40, 0, 0), .inl (.int c), .inl (.int p), .inl (.int t), .inl (.int d), .inl (.int r)] = (1, 0) := by
        show (if _ then _ else _) = _
        rw [if_neg (jb_0.mp z)]
      rw [e]
      exact And.intro trivial ⟨rfl, rfl⟩
    have c1 : wp_c c := Classical.not_not.mp (fun y => z (jb_0.mpr y))
    refine And.intro trivial (And.intro (fun z => ?_) (fun z => ?_))
    · have e : mf_X7_group [.inr (40, 0, 0), .inl (.int c), .inl (.int p), .inl (.int t), .inl (.int d), .inl (.int r)] = (2, 0) := by
        show (if _ then _ else _) = _
        rw [if_pos c1, if_neg (jb_0.mp z)]
      rw [e]
      exact And.intro trivial ⟨rfl, rfl⟩
    have c2 : wp_r p (1) (99) := Classical.not_not.mp (fun y => z (jb_0.mpr y))
    refine And.intro trivial (And.intro (fun z => ?_) (fun z => ?_))
    · have e : mf_X7_group [.inr (40, 0, 0), .inl (.int c), .inl (.int p), .inl (.int t), .inl (.int d), .inl (.int r)] = (2, 0) := by
        show (if _ then _ else _) = _
        rw [if_pos c1, if_pos c2, if_neg (jb_0.mp z)]
      rw [e]
      exact And.intro trivial ⟨rfl, rfl⟩
    have c3 : wp_r t (0) (2) := Classical.not_not.mp (fun y => z (jb_0.mpr y))
    have e : mf_X7_group [.inr (40, 0, 0), .inl (.int c), .inl (.int p), .inl (.int t), .inl (.int d), .inl (.int r)] = (0, 0) := by
      show (if _ then _ else _) = _
      rw [if_pos c1, if_pos c2, if_pos c3]
    rw [e]
    have hs : σ (41, 0, 0) 9 = 0 := h.1.2.1
    refine And.intro (fun z => absurd (hs.symm.trans z) (by decide)) (fun _ => ?_)
    refine And.intro rfl (And.intro ⟨rfl, rfl⟩ ?_)
    refine ⟨[], rfl, ?_⟩
    have e0 : vg_st σ (40, 0, 0) 0 0 (41, 0, 0) 9 = 0 := hs
    have g := gb_X7_group (c := c) (p := p) (t := t) (d := d) (r := r) (σ := vg_st (vg_st σ (40, 0, 0) 0 0) (41, 0, 0) 9 (σ (41, 0, 0) 9 + 1)) (P := mm_Po (0, 0)) (by show σ (41, 0, 0) 9 + 1 = 1; rw [hs]; rfl) h.1.2.2.1 (fun σ' hσ => ⟨rfl, hσ⟩)
    refine vg_weak (lv' := [(6, .inl (.int 0)), (0, .inr (40, 0, 0)), (1, .inl (.int c)), (2, .inl (.int p)), (3, .inl (.int t)), (4, .inl (.int d)), (5, .inl (.int r))]) (fun q hq => ?_) g
    have e9 : (σ (41, 0, 0) 9) = 0 := hs
    show q ∈ [(6, Sum.inl (Value.int (σ (41, 0, 0) 9))), (0, .inr (40, 0, 0)), (1, .inl (.int c)), (2, .inl (.int p)), (3, .inl (.int t)), (4, .inl (.int d)), (5, .inl (.int r))]
    rw [e9]
    exact hq
  next => exact h.elim
theorem a_X7_group {nm : List vgN} (hcl : vg_closed mm_shp nm) (hf : (60, 0, 8) ∉ nm) : vm_Met ww_tb [] mm_shp nm mm_cl mm_tyl yX7_group cX7_group 9 (some .int) 2 1 8 pm_X7_group (fun av _ => mm_Po (mf_X7_group av)) :=
  vm_met hcl (by decide +kernel) rfl wm_X7_group (fun p l e R s m args below meth c D tys ad A Z av σ hpre hRc hRs C0 E0 => by
    refine vm_sound (ex := [(79, vm_ex1 (60, 0, 8) 8 (vg_Go k_X7_group (mm_Po (mf_X7_group av))) 81)]) (s_X7_group hcl) C0 (E0 0 0 (Nat.zero_le _) (Nat.zero_le _)) (fun q hq lv st σ1 hE => ?_) (gx_X7_group av σ hpre)
    rw [List.mem_singleton.mp hq] at hE ⊢
    obtain ⟨t, rfl, hgo⟩ := hE
    exact vm_alloc C0 hf rfl rfl (atype := .int) rfl (fun _ _ => rfl) (by decide) mm_aI dX7_group_79 (by decide) (by decide) (by decide) (by rw [hRc]; decide) (by rw [hRs]; decide) (fun ad' C1 hag => vm_sound (ex := []) (s_X7_group C1.2.2.2.2.2.2.2.2.2.2.2.2.1) C1 (vm_E_up hcl hag (E0 1 8 (Nat.le_refl _) (Nat.le_refl _))) (fun _ h => absurd h List.not_mem_nil) hgo))
def k_X7_draft : List (Nat × vgF) := [(0, vi_aload 0 1), (1, vi_get mm_shp 0 1 4), (4, vi_dup 5), (5, vi_get mm_shp 1 10 8), (8, vi_dupx1 9), (9, vi_icst (1) 10), (10, vi_bin (fun x y => x + y) 11), (11, vi_put mm_shp 1 10 14), (14, vi_istore 6 16), (16, vi_icst (8) 18), (20, vi_dup 21), (21, vi_icst (0) 22), (22, vi_iload 1 23), (23, vi_ast mm_shp 0 24), (24, vi_dup 25), (25, vi_icst (1) 26), (26, vi_iload 2 27), (27, vi_ast mm_shp 0 28), (28, vi_dup 29), (29, vi_icst (2) 30), (30, vi_iload 3 31), (31, vi_ast mm_shp 0 32), (32, vi_dup 33), (33, vi_icst (3) 34), (34, vi_iload 4 36), (36, vi_ast mm_shp 0 37), (37, vi_dup 38), (38, vi_icst (4) 39), (39, vi_iload 5 41), (41, vi_ast mm_shp 0 42), (42, vi_dup 43), (43, vi_icst (5) 44), (44, vi_icst (0) 45), (45, vi_ast mm_shp 0 46), (46, vi_dup 47), (47, vi_icst (6) 49), (49, vi_icst (-1) 50), (50, vi_ast mm_shp 0 51), (51, vi_dup 52), (52, vi_icst (7) 54), (54, vi_icst (0) 55), (55, vi_ast mm_shp 0 56), (56, vi_astore 7 58), (58, vi_aload 7 60), (60, vi_icst (0) 61), (61, vi_aload 0 62), (62, vi_get mm_shp 0 1 65), (65, vi_get mm_shp 1 1 68), (68, vi_iload 6 70), (70, vi_aald mm_shp 2 71), (71, vi_icst (0) 72), (72, vi_icst (8) 74), (74, vi_cpy mm_shp 0 77), (77, vi_icst (0) 78), (78, vi_istore 8 80), (80, vi_iload 8 82), (82, vi_aload 0 83), (83, vi_get mm_shp 0 1 86), (86, vi_get mm_shp 1 9 89), (89, vi_cmp (fun x y => y ≤ x) 106 92), (92, vi_aload 0 93), (93, vi_iload 8 95), (95, vi_iload 6 97), (97, vi_no), (100, vi_iinc 8 (1) 103), (103, vi_goto 80), (106, vi_iload 6 108), (108, vi_ret)]
set_option maxRecDepth 20000 in
theorem s_X7_draft {nm : List vgN} (hcl : vg_closed mm_shp nm) : ∀ q ∈ k_X7_draft, vm_Snd false ww_tb [] [] [] mm_shp nm mm_cl mm_tyl cX7_draft 9 RX7 (some .int) 1 q.1 q.2 := by
  refine vg_cons (vt_aload_n dX7_draft_0 rfl rfl) ?_
  refine vg_cons (vt_getfield (T := TX7) dX7_draft_1 rfl (by decide) mm_inX7 u_202 rfl) ?_
  refine vg_cons (vt_dup dX7_draft_4 rfl) ?_
  refine vg_cons (vt_getfield (T := TX6) dX7_draft_5 rfl (by decide) mm_inX6 u_204 rfl) ?_
  refine vg_cons (vt_dup_x1 dX7_draft_8 rfl) ?_
  refine vg_cons (vt_iconst dX7_draft_9 rfl rfl) ?_
  refine vg_cons (vt_iadd dX7_draft_10 rfl) ?_
  refine vg_cons (vt_putfield (T := TX6) tyX6 dX7_draft_11 rfl (by decide) mm_inX6 tyX6_ok nmX6 rfl rfl u_204 rfl) ?_
  refine vg_cons (vt_istore dX7_draft_14 (by decide) rfl) ?_
  refine vg_cons (vt_bipush dX7_draft_16 (by decide) rfl) ?_
  refine vg_cons (vt_dup dX7_draft_20 rfl) ?_
  refine vg_cons (vt_iconst dX7_draft_21 rfl rfl) ?_
  refine vg_cons (vt_iload_n dX7_draft_22 rfl rfl) ?_
  refine vg_cons (vt_iastore dX7_draft_23 rfl rfl) ?_
  refine vg_cons (vt_dup dX7_draft_24 rfl) ?_
  refine vg_cons (vt_iconst dX7_draft_25 rfl rfl) ?_
  refine vg_cons (vt_iload_n dX7_draft_26 rfl rfl) ?_
  refine vg_cons (vt_iastore dX7_draft_27 rfl rfl) ?_
  refine vg_cons (vt_dup dX7_draft_28 rfl) ?_
  refine vg_cons (vt_iconst dX7_draft_29 rfl rfl) ?_
  refine vg_cons (vt_iload_n dX7_draft_30 rfl rfl) ?_
  refine vg_cons (vt_iastore dX7_draft_31 rfl rfl) ?_
  refine vg_cons (vt_dup dX7_draft_32 rfl) ?_
  refine vg_cons (vt_iconst dX7_draft_33 rfl rfl) ?_
  refine vg_cons (vt_iload dX7_draft_34 rfl) ?_
  refine vg_cons (vt_iastore dX7_draft_36 rfl rfl) ?_
  refine vg_cons (vt_dup dX7_draft_37 rfl) ?_
  refine vg_cons (vt_iconst dX7_draft_38 rfl rfl) ?_
  refine vg_cons (vt_iload dX7_draft_39 rfl) ?_
  refine vg_cons (vt_iastore dX7_draft_41 rfl rfl) ?_
  refine vg_cons (vt_dup dX7_draft_42 rfl) ?_
  refine vg_cons (vt_iconst dX7_draft_43 rfl rfl) ?_
  refine vg_cons (vt_iconst dX7_draft_44 rfl rfl) ?_
  refine vg_cons (vt_iastore dX7_draft_45 rfl rfl) ?_
  refine vg_cons (vt_dup dX7_draft_46 rfl) ?_
  refine vg_cons (vt_bipush dX7_draft_47 (by decide) rfl) ?_
  refine vg_cons (vt_iconst dX7_draft_49 rfl rfl) ?_
  refine vg_cons (vt_iastore dX7_draft_50 rfl rfl) ?_
  refine vg_cons (vt_dup dX7_draft_51 rfl) ?_
  refine vg_cons (vt_bipush dX7_draft_52 (by decide) rfl) ?_
  refine vg_cons (vt_iconst dX7_draft_54 rfl rfl) ?_
  refine vg_cons (vt_iastore dX7_draft_55 rfl rfl) ?_
  refine vg_cons (vt_astore dX7_draft_56 (by decide) rfl) ?_
  refine vg_cons (vt_aload dX7_draft_58 rfl) ?_
  refine vg_cons (vt_iconst dX7_draft_60 rfl rfl) ?_
  refine vg_cons (vt_aload_n dX7_draft_61 rfl rfl) ?_
  refine vg_cons (vt_getfield (T := TX7) dX7_draft_62 rfl (by decide) mm_inX7 u_202 rfl) ?_
  refine vg_cons (vt_getfield (T := TX6) dX7_draft_65 rfl (by decide) mm_inX6 u_233 rfl) ?_
  refine vg_cons (vt_iload dX7_draft_68 rfl) ?_
  refine vg_cons (vt_aaloadA dX7_draft_70 rfl rfl rfl) ?_
  refine vg_cons (vt_iconst dX7_draft_71 rfl rfl) ?_
  refine vg_cons (vt_bipush dX7_draft_72 (by decide) rfl) ?_
  refine vg_cons (vt_acopy dX7_draft_74 rfl u_251 u_252 u_253 u_254 (by decide) rfl) ?_
  refine vg_cons (vt_iconst dX7_draft_77 rfl rfl) ?_
  refine vg_cons (vt_istore dX7_draft_78 (by decide) rfl) ?_
  refine vg_cons (vt_iload dX7_draft_80 rfl) ?_
  refine vg_cons (vt_aload_n dX7_draft_82 rfl rfl) ?_
  refine vg_cons (vt_getfield (T := TX7) dX7_draft_83 rfl (by decide) mm_inX7 u_202 rfl) ?_
  refine vg_cons (vt_getfield (T := TX6) dX7_draft_86 rfl (by decide) mm_inX6 u_203 rfl) ?_
  refine vg_cons (vt_cmp_ge dX7_draft_89 (by decide) rfl) ?_
  refine vg_cons (vt_aload_n dX7_draft_92 rfl rfl) ?_
  refine vg_cons (vt_iload dX7_draft_93 rfl) ?_
  refine vg_cons (vt_iload dX7_draft_95 rfl) ?_
  refine vg_cons (vt_no) ?_
  refine vg_cons (vt_iinc dX7_draft_100 rfl rfl) ?_
  refine vg_cons (vt_goto dX7_draft_103 (by decide)) ?_
  refine vg_cons (vt_iload dX7_draft_106 rfl) ?_
  refine vg_cons (vt_ireturn dX7_draft_108 rfl) ?_
  exact fun _ h => absurd h List.not_mem_nil
theorem m_X7_draft : vg_Code k_X7_draft := fun q h => (s_X7_draft (nm := []) (fun n hn => nomatch hn) q h).1

def pm_X7_draft : vgT → vgS → Prop := fun av σ => match av with
  | [.inr (40, 0, 0), .inl (.int k), .inl (.int o), .inl (.int a), .inl (.int d), .inl (.int t)] => σ (41, 0, 0) 9 = 0 ∧ σ (41, 0, 0) 10 = 0
  | _ => False
abbrev po_X7_draft : vgT → vgS → vgO := fun _ σ r σ' => r = some (.inl (.int 0)) ∧ σ' (40, 0, 0) 0 = σ (40, 0, 0) 0
theorem wm_X7_draft : ∀ av σ, pm_X7_draft av σ → vg_wd av ≤ 9 := by
  intro av σ h
  unfold pm_X7_draft at h
  split at h
  · exact Nat.le_of_ble_eq_true rfl
  · exact h.elim
set_option maxRecDepth 20000 in
theorem gx_X7_draft : ∀ av σ, pm_X7_draft av σ → vg_Go ([(18, vm_ex1 (60, 0, 8) 8 (vg_Go k_X7_draft (po_X7_draft av σ)) 20)] ++ k_X7_draft) (po_X7_draft av σ) 0 (vg_args 0 av) [] σ := by
  intro av σ h
  unfold pm_X7_draft at h
  split at h
  next k o a d t =>
    have i0 : vp_in (0 : Int32) 8 := mm_i 0 8 0 rfl (by decide) (by decide)
    have i1 : vp_in (1 : Int32) 8 := mm_i 1 8 1 rfl (by decide) (by decide)
    have i2 : vp_in (2 : Int32) 8 := mm_i 2 8 2 rfl (by decide) (by decide)
    have i3 : vp_in (3 : Int32) 8 := mm_i 3 8 3 rfl (by decide) (by decide)
    have i4 : vp_in (4 : Int32) 8 := mm_i 4 8 4 rfl (by decide) (by decide)
    have i5 : vp_in (5 : Int32) 8 := mm_i 5 8 5 rfl (by decide) (by decide)
    have i6 : vp_in (6 : Int32) 8 := mm_i 6 8 6 rfl (by decide) (by decide)
    have i7 : vp_in (7 : Int32) 8 := mm_i 7 8 7 rfl (by decide) (by decide)
    have hc : (0 : Int32) = 0 ∧ (0 : Int32) = 0 ∧ ¬ (8 : Int32) < 0 ∧ (8 : Int32).toNatClampNeg ≤ 8 ∧ (8 : Int32).toNatClampNeg ≤ 8 := by decide
    have j0 : vp_in (σ (41, 0, 0) 10) 12 := mm_i 0 12 _ h.2 (by decide) (by decide)
    refine vg_run (cuts := []) (vm_code1 m_X7_draft) 20 ?_
    refine And.intro rfl (And.intro ⟨rfl, rfl⟩ ⟨[], rfl, ?_⟩)
    refine vg_run (cuts := []) m_X7_draft 80 ?_
    refine And.intro rfl (And.intro i0 (And.intro rfl (And.intro i1 (And.intro rfl (And.intro i2 (And.intro rfl (And.intro i3 (And.intro rfl (And.intro i4 (And.intro rfl (And.intro i5 (And.intro rfl (And.intro i6 (And.intro rfl (And.intro i7 (And.intro j0 (And.intro hc ?_)))))))))))))))))
    refine And.intro (fun _ => ?_) (fun z => absurd (show σ (41, 0, 0) 9 ≤ 0 by rw [h.1]; decide) z)
    exact ⟨congrArg (fun x => some (Sum.inl (Value.int x))) h.2, rfl⟩
  next => exact h.elim
theorem a_X7_draft {nm : List vgN} (hcl : vg_closed mm_shp nm) (hf : (60, 0, 8) ∉ nm) : vm_Met ww_tb [] mm_shp nm mm_cl mm_tyl yX7_draft cX7_draft 9 (some .int) 1 1 8 pm_X7_draft po_X7_draft :=
  vm_met hcl (by decide +kernel) rfl wm_X7_draft (fun p l e R s m args below meth c D tys ad A Z av σ hpre hRc hRs C0 E0 => by
    refine vm_sound (ex := [(18, vm_ex1 (60, 0, 8) 8 (vg_Go k_X7_draft (po_X7_draft av σ)) 20)]) (s_X7_draft hcl) C0 (E0 0 0 (Nat.zero_le _) (Nat.zero_le _)) (fun q hq lv st σ1 hE => ?_) (gx_X7_draft av σ hpre)
    rw [List.mem_singleton.mp hq] at hE ⊢
    obtain ⟨t, rfl, hgo⟩ := hE
    exact vm_alloc C0 hf rfl rfl (atype := .int) rfl (fun _ _ => rfl) (by decide) mm_aI dX7_draft_18 (by decide) (by decide) (by decide) (by rw [hRc]; decide) (by rw [hRs]; decide) (fun ad' C1 hag => vm_sound (ex := []) (s_X7_draft C1.2.2.2.2.2.2.2.2.2.2.2.2.1) C1 (vm_E_up hcl hag (E0 1 8 (Nat.le_refl _) (Nat.le_refl _))) (fun _ h => absurd h List.not_mem_nil) hgo))
def k_X7_alert : List (Nat × vgF) := [(0, vi_aload 0 1), (1, vi_icst (0) 2), (2, vi_put mm_shp 0 0 5), (5, vi_iload 1 6), (6, vi_iload 2 7), (7, vi_iload 3 8), (8, vi_callS sp_X7_isText 3 11), (11, vi_if (fun x => x = 0) 14 20), (14, vi_aload 0 15), (15, vi_icst (1) 16), (16, vi_callV mm_shp 0 sp_X7_no 1 19), (19, vi_ret), (20, vi_aload 0 21), (21, vi_get mm_shp 0 1 24), (24, vi_get mm_shp 1 10 27), (27, vi_icst (12) 29), (29, vi_cmp (fun x y => x = y) 32 38), (32, vi_aload 0 33), (33, vi_icst (2) 34), (34, vi_callV mm_shp 0 sp_X7_no 1 37), (37, vi_ret), (38, vi_aload 0 39), (39, vi_icst (0) 40), (40, vi_icst (-1) 41), (41, vi_iload 1 42), (42, vi_iload 2 43), (43, vi_iload 3 44), (44, vi_no), (47, vi_ret)]
set_option maxRecDepth 20000 in
theorem s_X7_alert {nm : List vgN} (hcl : vg_closed mm_shp nm) : ∀ q ∈ k_X7_alert, vm_Snd false ww_tb [] [] [] mm_shp nm mm_cl mm_tyl cX7_alert 4 RX7 (some .int) 3 q.1 q.2 := by
  refine vg_cons (vt_aload_n dX7_alert_0 rfl rfl) ?_
  refine vg_cons (vt_iconst dX7_alert_1 rfl rfl) ?_
  refine vg_cons (vt_putfield (T := TX7) tyX7 dX7_alert_2 rfl (by decide) mm_inX7 tyX7_ok nmX7 rfl rfl u_201 rfl) ?_
  refine vg_cons (vt_iload_n dX7_alert_5 rfl rfl) ?_
  refine vg_cons (vt_iload_n dX7_alert_6 rfl rfl) ?_
  refine vg_cons (vt_iload_n dX7_alert_7 rfl rfl) ?_
  refine vg_cons (vt_callS (c_X7_isText hcl) dX7_alert_8 ww_good u_255 u_198 u_257 u_256 (by decide +kernel) (by decide) rfl) ?_
  refine vg_cons (vt_if_ne dX7_alert_11 (by decide) rfl) ?_
  refine vg_cons (vt_aload_n dX7_alert_14 rfl rfl) ?_
  refine vg_cons (vt_iconst dX7_alert_15 rfl rfl) ?_
  refine vg_cons (vt_callV (T := TX7) (c_X7_no hcl) dX7_alert_16 rfl ww_good u_210 u_198 u_211 u_212 u_213 (by decide +kernel) (by decide) rfl) ?_
  refine vg_cons (vt_ireturn dX7_alert_19 rfl) ?_
  refine vg_cons (vt_aload_n dX7_alert_20 rfl rfl) ?_
  refine vg_cons (vt_getfield (T := TX7) dX7_alert_21 rfl (by decide) mm_inX7 u_202 rfl) ?_
  refine vg_cons (vt_getfield (T := TX6) dX7_alert_24 rfl (by decide) mm_inX6 u_204 rfl) ?_
  refine vg_cons (vt_bipush dX7_alert_27 (by decide) rfl) ?_
  refine vg_cons (vt_cmp_ne dX7_alert_29 (by decide) rfl) ?_
  refine vg_cons (vt_aload_n dX7_alert_32 rfl rfl) ?_
  refine vg_cons (vt_iconst dX7_alert_33 rfl rfl) ?_
  refine vg_cons (vt_callV (T := TX7) (c_X7_no hcl) dX7_alert_34 rfl ww_good u_210 u_198 u_211 u_212 u_213 (by decide +kernel) (by decide) rfl) ?_
  refine vg_cons (vt_ireturn dX7_alert_37 rfl) ?_
  refine vg_cons (vt_aload_n dX7_alert_38 rfl rfl) ?_
  refine vg_cons (vt_iconst dX7_alert_39 rfl rfl) ?_
  refine vg_cons (vt_iconst dX7_alert_40 rfl rfl) ?_
  refine vg_cons (vt_iload_n dX7_alert_41 rfl rfl) ?_
  refine vg_cons (vt_iload_n dX7_alert_42 rfl rfl) ?_
  refine vg_cons (vt_iload_n dX7_alert_43 rfl rfl) ?_
  refine vg_cons (vt_no) ?_
  refine vg_cons (vt_ireturn dX7_alert_47 rfl) ?_
  exact fun _ h => absurd h List.not_mem_nil
theorem m_X7_alert : vg_Code k_X7_alert := fun q h => (s_X7_alert (nm := []) (fun n hn => nomatch hn) q h).1

def pm_X7_alert : vgT → vgS → Prop := fun av σ => match av with
  | [.inr (40, 0, 0), .inl (.int a), .inl (.int d), .inl (.int t)] => mm_fr σ
  | _ => False
def mf_X7_alert : vgT → Int32 × Int32 := fun av => match av with
  | [.inr (40, 0, 0), .inl (.int a), .inl (.int d), .inl (.int t)] => (if wp_w a d t then (0, 0) else (1, 0))
  | _ => (0, 0)
theorem wm_X7_alert : ∀ av σ, pm_X7_alert av σ → vg_wd av ≤ 4 := by
  intro av σ h
  unfold pm_X7_alert at h
  split at h
  · exact Nat.le_of_ble_eq_true rfl
  · exact h.elim
/-- a call at pc of an object's method that makes cells: what it asks, and that it goes on -/
abbrev vm_exM (m0 : vgN) (kk : Nat) (pre : vgT → vgS → Prop) (post : vgT → vgS → vgO) (goes : Nat → vgL → vgT → vgS → Prop) (pc2 : Nat) : vgF := vi_exit (fun lv st σ1 => ∃ as : vgT, st = as.reverse ++ [.inr m0] ∧ as.length = kk ∧ pre (.inr m0 :: as) σ1 ∧ ∀ r σ', post (.inr m0 :: as) σ1 r σ' → goes pc2 lv (r.toList ++ []) σ')
set_option maxRecDepth 20000 in
theorem gx_X7_alert : ∀ av σ, pm_X7_alert av σ → vg_Go ([(44, vm_exM (40, 0, 0) 5 pm_X7_draft po_X7_draft (vg_Go k_X7_alert (mm_Po (mf_X7_alert av))) 47)] ++ k_X7_alert) (mm_Po (mf_X7_alert av)) 0 (vg_args 0 av) [] σ := by
  intro av σ h
  unfold pm_X7_alert at h
  split at h
  next a d t =>
    refine vg_run (cuts := []) (vm_code1 m_X7_alert) 80 ?_
    refine And.intro trivial (And.intro (fun z => ?_) (fun z => ?_))
    · have e : mf_X7_alert [.inr (40, 0, 0), .inl (.int a), .inl (.int d), .inl (.int t)] = (1, 0) := by
        show (if _ then _ else _) = _
        rw [if_neg (jb_0.mp z)]
      rw [e]
      exact And.intro trivial ⟨rfl, rfl⟩
    have c1 : wp_w a d t := Classical.not_not.mp (fun y => z (jb_0.mpr y))
    have e : mf_X7_alert [.inr (40, 0, 0), .inl (.int a), .inl (.int d), .inl (.int t)] = (0, 0) := by
      show (if _ then _ else _) = _
      rw [if_pos c1]
    rw [e]
    have h10 : σ (41, 0, 0) 10 = 0 := h.1.2.2.1
    refine And.intro (fun z => absurd (h10.symm.trans z) (by decide)) (fun _ => ?_)
    exact ⟨[.inl (.int 0), .inl (.int (-1)), .inl (.int a), .inl (.int d), .inl (.int t)], rfl, rfl, ⟨h.1.2.1, h10⟩, fun r σ' hr => by
      have hr1 : r = some (.inl (.int 0)) := hr.1
      have hr2 : σ' (40, 0, 0) 0 = 0 := hr.2
      rw [hr1]
      refine vg_run (cuts := []) m_X7_alert 4 ?_
      exact ⟨rfl, hr2⟩⟩
  next => exact h.elim
theorem a_X7_alert {nm : List vgN} (hcl : vg_closed mm_shp nm) (hf : (60, 0, 8) ∉ nm) : vm_Met ww_tb [] mm_shp nm mm_cl mm_tyl yX7_alert cX7_alert 4 (some .int) 3 1 8 pm_X7_alert (fun av _ => mm_Po (mf_X7_alert av)) :=
  vm_met hcl (by decide +kernel) rfl wm_X7_alert (fun p l e R s m args below meth c D tys ad A Z av σ hpre hRc hRs C0 E0 => by
    refine vm_sound (ex := [(44, vm_exM (40, 0, 0) 5 pm_X7_draft po_X7_draft (vg_Go k_X7_alert (mm_Po (mf_X7_alert av))) 47)]) (s_X7_alert hcl) C0 (E0 0 0 (Nat.zero_le _) (Nat.zero_le _)) (fun q hq lv st σ1 hE => ?_) (gx_X7_alert av σ hpre)
    rw [List.mem_singleton.mp hq] at hE ⊢
    obtain ⟨as, hst, hal, hp1, hgo⟩ := hE
    exact vm_callM (ci := 0) (T := TX7) (N := 3) C0 (a_X7_draft hcl hf) dX7_alert_44 rfl ww_good u_258 u_198 u_259 u_260 u_261 (by decide +kernel) (by decide) hst hal rfl rfl (by decide) hp1 (by rw [hRc]; decide) (by rw [hRs]; decide) (fun r σ' hr => vm_sound (ex := []) (s_X7_alert hcl) C0 (E0 1 8 (Nat.le_refl _) (Nat.le_refl _)) (fun _ h => absurd h List.not_mem_nil) (hgo r σ' hr)))
