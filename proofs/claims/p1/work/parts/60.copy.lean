-- words of the tables, and what stands at each place of the methods' code (laid by program)
theorem u_295 : Cond.methodLink RX6 47 arraycopyName ∈ ww_tb := by decide +kernel
theorem u_296 : Cond.fieldLink RX6 56 (TX6 11).1 (TX6 11).2.1 (TX6 11).2.2.1 ∈ ww_tb := by decide +kernel
theorem u_297 : Cond.fieldLink RX6 59 (TX6 12).1 (TX6 12).2.1 (TX6 12).2.2.1 ∈ ww_tb := by decide +kernel
theorem u_298 : Cond.fieldLink RX6 62 (TX6 13).1 (TX6 13).2.1 (TX6 13).2.2.1 ∈ ww_tb := by decide +kernel
theorem u_299 : Cond.classLink RX6 12 RX6 ∈ ww_tb := by decide +kernel
theorem u_300 : Cond.methodLink RX6 43 yX6_init ∈ ww_tb := by decide +kernel
theorem dX6_copy_0 : decode cX6_copy 0 = .ok (.new 12, 3) := by decide +kernel
theorem dX6_copy_3 : decode cX6_copy 3 = .ok (.dup, 1) := by decide +kernel
theorem dX6_copy_4 : decode cX6_copy 4 = .ok (.invokespecial 43, 3) := by decide +kernel
theorem dX6_copy_7 : decode cX6_copy 7 = .ok (.astore_n 1, 1) := by decide +kernel
theorem dX6_copy_8 : decode cX6_copy 8 = .ok (.iconst 0, 1) := by decide +kernel
theorem dX6_copy_9 : decode cX6_copy 9 = .ok (.istore_n 2, 1) := by decide +kernel
theorem dX6_copy_10 : decode cX6_copy 10 = .ok (.iload_n 2, 1) := by decide +kernel
theorem dX6_copy_11 : decode cX6_copy 11 = .ok (.aload_n 0, 1) := by decide +kernel
theorem dX6_copy_12 : decode cX6_copy 12 = .ok (.getfield 44, 3) := by decide +kernel
theorem dX6_copy_15 : decode cX6_copy 15 = .ok (.if_icmp .ge 72, 3) := by decide +kernel
theorem dX6_copy_18 : decode cX6_copy 18 = .ok (.aload_n 0, 1) := by decide +kernel
theorem dX6_copy_19 : decode cX6_copy 19 = .ok (.getfield 11, 3) := by decide +kernel
theorem dX6_copy_22 : decode cX6_copy 22 = .ok (.iload_n 2, 1) := by decide +kernel
theorem dX6_copy_23 : decode cX6_copy 23 = .ok (.aaload, 1) := by decide +kernel
theorem dX6_copy_24 : decode cX6_copy 24 = .ok (.iconst 0, 1) := by decide +kernel
theorem dX6_copy_25 : decode cX6_copy 25 = .ok (.aload_n 1, 1) := by decide +kernel
theorem dX6_copy_26 : decode cX6_copy 26 = .ok (.getfield 11, 3) := by decide +kernel
theorem dX6_copy_29 : decode cX6_copy 29 = .ok (.iload_n 2, 1) := by decide +kernel
theorem dX6_copy_30 : decode cX6_copy 30 = .ok (.aaload, 1) := by decide +kernel
theorem dX6_copy_31 : decode cX6_copy 31 = .ok (.iconst 0, 1) := by decide +kernel
theorem dX6_copy_32 : decode cX6_copy 32 = .ok (.bipush 8, 2) := by decide +kernel
theorem dX6_copy_34 : decode cX6_copy 34 = .ok (.invokestatic 47, 3) := by decide +kernel
theorem dX6_copy_37 : decode cX6_copy 37 = .ok (.iconst 0, 1) := by decide +kernel
theorem dX6_copy_38 : decode cX6_copy 38 = .ok (.istore_n 3, 1) := by decide +kernel
theorem dX6_copy_39 : decode cX6_copy 39 = .ok (.iload_n 3, 1) := by decide +kernel
theorem dX6_copy_40 : decode cX6_copy 40 = .ok (.aload_n 0, 1) := by decide +kernel
theorem dX6_copy_41 : decode cX6_copy 41 = .ok (.getfield 53, 3) := by decide +kernel
theorem dX6_copy_44 : decode cX6_copy 44 = .ok (.if_icmp .ge 37, 3) := by decide +kernel
theorem dX6_copy_47 : decode cX6_copy 47 = .ok (.aload_n 0, 1) := by decide +kernel
theorem dX6_copy_48 : decode cX6_copy 48 = .ok (.getfield 19, 3) := by decide +kernel
theorem dX6_copy_51 : decode cX6_copy 51 = .ok (.iload_n 2, 1) := by decide +kernel
theorem dX6_copy_52 : decode cX6_copy 52 = .ok (.bipush 12, 2) := by decide +kernel
theorem dX6_copy_54 : decode cX6_copy 54 = .ok (.imul, 1) := by decide +kernel
theorem dX6_copy_55 : decode cX6_copy 55 = .ok (.iload_n 3, 1) := by decide +kernel
theorem dX6_copy_56 : decode cX6_copy 56 = .ok (.iadd, 1) := by decide +kernel
theorem dX6_copy_57 : decode cX6_copy 57 = .ok (.aaload, 1) := by decide +kernel
theorem dX6_copy_58 : decode cX6_copy 58 = .ok (.iconst 0, 1) := by decide +kernel
theorem dX6_copy_59 : decode cX6_copy 59 = .ok (.aload_n 1, 1) := by decide +kernel
theorem dX6_copy_60 : decode cX6_copy 60 = .ok (.getfield 19, 3) := by decide +kernel
theorem dX6_copy_63 : decode cX6_copy 63 = .ok (.iload_n 2, 1) := by decide +kernel
theorem dX6_copy_64 : decode cX6_copy 64 = .ok (.bipush 12, 2) := by decide +kernel
theorem dX6_copy_66 : decode cX6_copy 66 = .ok (.imul, 1) := by decide +kernel
theorem dX6_copy_67 : decode cX6_copy 67 = .ok (.iload_n 3, 1) := by decide +kernel
theorem dX6_copy_68 : decode cX6_copy 68 = .ok (.iadd, 1) := by decide +kernel
theorem dX6_copy_69 : decode cX6_copy 69 = .ok (.aaload, 1) := by decide +kernel
theorem dX6_copy_70 : decode cX6_copy 70 = .ok (.iconst 0, 1) := by decide +kernel
theorem dX6_copy_71 : decode cX6_copy 71 = .ok (.iconst 5, 1) := by decide +kernel
theorem dX6_copy_72 : decode cX6_copy 72 = .ok (.invokestatic 47, 3) := by decide +kernel
theorem dX6_copy_75 : decode cX6_copy 75 = .ok (.iinc 3 1, 3) := by decide +kernel
theorem dX6_copy_78 : decode cX6_copy 78 = .ok (.goto (-39), 3) := by decide +kernel
theorem dX6_copy_81 : decode cX6_copy 81 = .ok (.iinc 2 1, 3) := by decide +kernel
theorem dX6_copy_84 : decode cX6_copy 84 = .ok (.goto (-74), 3) := by decide +kernel
theorem dX6_copy_87 : decode cX6_copy 87 = .ok (.iconst 0, 1) := by decide +kernel
theorem dX6_copy_88 : decode cX6_copy 88 = .ok (.istore_n 2, 1) := by decide +kernel
theorem dX6_copy_89 : decode cX6_copy 89 = .ok (.iload_n 2, 1) := by decide +kernel
theorem dX6_copy_90 : decode cX6_copy 90 = .ok (.aload_n 0, 1) := by decide +kernel
theorem dX6_copy_91 : decode cX6_copy 91 = .ok (.getfield 53, 3) := by decide +kernel
theorem dX6_copy_94 : decode cX6_copy 94 = .ok (.if_icmp .ge 28, 3) := by decide +kernel
theorem dX6_copy_97 : decode cX6_copy 97 = .ok (.aload_n 0, 1) := by decide +kernel
theorem dX6_copy_98 : decode cX6_copy 98 = .ok (.getfield 16, 3) := by decide +kernel
theorem dX6_copy_101 : decode cX6_copy 101 = .ok (.iload_n 2, 1) := by decide +kernel
theorem dX6_copy_102 : decode cX6_copy 102 = .ok (.aaload, 1) := by decide +kernel
theorem dX6_copy_103 : decode cX6_copy 103 = .ok (.iconst 0, 1) := by decide +kernel
theorem dX6_copy_104 : decode cX6_copy 104 = .ok (.aload_n 1, 1) := by decide +kernel
theorem dX6_copy_105 : decode cX6_copy 105 = .ok (.getfield 16, 3) := by decide +kernel
theorem dX6_copy_108 : decode cX6_copy 108 = .ok (.iload_n 2, 1) := by decide +kernel
theorem dX6_copy_109 : decode cX6_copy 109 = .ok (.aaload, 1) := by decide +kernel
theorem dX6_copy_110 : decode cX6_copy 110 = .ok (.iconst 0, 1) := by decide +kernel
theorem dX6_copy_111 : decode cX6_copy 111 = .ok (.bipush 8, 2) := by decide +kernel
theorem dX6_copy_113 : decode cX6_copy 113 = .ok (.invokestatic 47, 3) := by decide +kernel
theorem dX6_copy_116 : decode cX6_copy 116 = .ok (.iinc 2 1, 3) := by decide +kernel
theorem dX6_copy_119 : decode cX6_copy 119 = .ok (.goto (-30), 3) := by decide +kernel
theorem dX6_copy_122 : decode cX6_copy 122 = .ok (.iconst 0, 1) := by decide +kernel
theorem dX6_copy_123 : decode cX6_copy 123 = .ok (.istore_n 2, 1) := by decide +kernel
theorem dX6_copy_124 : decode cX6_copy 124 = .ok (.iload_n 2, 1) := by decide +kernel
theorem dX6_copy_125 : decode cX6_copy 125 = .ok (.aload_n 0, 1) := by decide +kernel
theorem dX6_copy_126 : decode cX6_copy 126 = .ok (.getfield 56, 3) := by decide +kernel
theorem dX6_copy_129 : decode cX6_copy 129 = .ok (.if_icmp .ge 27, 3) := by decide +kernel
theorem dX6_copy_132 : decode cX6_copy 132 = .ok (.aload_n 0, 1) := by decide +kernel
theorem dX6_copy_133 : decode cX6_copy 133 = .ok (.getfield 22, 3) := by decide +kernel
theorem dX6_copy_136 : decode cX6_copy 136 = .ok (.iload_n 2, 1) := by decide +kernel
theorem dX6_copy_137 : decode cX6_copy 137 = .ok (.aaload, 1) := by decide +kernel
theorem dX6_copy_138 : decode cX6_copy 138 = .ok (.iconst 0, 1) := by decide +kernel
theorem dX6_copy_139 : decode cX6_copy 139 = .ok (.aload_n 1, 1) := by decide +kernel
theorem dX6_copy_140 : decode cX6_copy 140 = .ok (.getfield 22, 3) := by decide +kernel
theorem dX6_copy_143 : decode cX6_copy 143 = .ok (.iload_n 2, 1) := by decide +kernel
theorem dX6_copy_144 : decode cX6_copy 144 = .ok (.aaload, 1) := by decide +kernel
theorem dX6_copy_145 : decode cX6_copy 145 = .ok (.iconst 0, 1) := by decide +kernel
theorem dX6_copy_146 : decode cX6_copy 146 = .ok (.iconst 2, 1) := by decide +kernel
theorem dX6_copy_147 : decode cX6_copy 147 = .ok (.invokestatic 47, 3) := by decide +kernel
theorem dX6_copy_150 : decode cX6_copy 150 = .ok (.iinc 2 1, 3) := by decide +kernel
theorem dX6_copy_153 : decode cX6_copy 153 = .ok (.goto (-29), 3) := by decide +kernel
theorem dX6_copy_156 : decode cX6_copy 156 = .ok (.iconst 0, 1) := by decide +kernel
theorem dX6_copy_157 : decode cX6_copy 157 = .ok (.istore_n 2, 1) := by decide +kernel
theorem dX6_copy_158 : decode cX6_copy 158 = .ok (.iload_n 2, 1) := by decide +kernel
theorem dX6_copy_159 : decode cX6_copy 159 = .ok (.aload_n 0, 1) := by decide +kernel
theorem dX6_copy_160 : decode cX6_copy 160 = .ok (.getfield 59, 3) := by decide +kernel
theorem dX6_copy_163 : decode cX6_copy 163 = .ok (.if_icmp .ge 27, 3) := by decide +kernel
theorem dX6_copy_166 : decode cX6_copy 166 = .ok (.aload_n 0, 1) := by decide +kernel
theorem dX6_copy_167 : decode cX6_copy 167 = .ok (.getfield 25, 3) := by decide +kernel
theorem dX6_copy_170 : decode cX6_copy 170 = .ok (.iload_n 2, 1) := by decide +kernel
theorem dX6_copy_171 : decode cX6_copy 171 = .ok (.aaload, 1) := by decide +kernel
theorem dX6_copy_172 : decode cX6_copy 172 = .ok (.iconst 0, 1) := by decide +kernel
theorem dX6_copy_173 : decode cX6_copy 173 = .ok (.aload_n 1, 1) := by decide +kernel
theorem dX6_copy_174 : decode cX6_copy 174 = .ok (.getfield 25, 3) := by decide +kernel
theorem dX6_copy_177 : decode cX6_copy 177 = .ok (.iload_n 2, 1) := by decide +kernel
theorem dX6_copy_178 : decode cX6_copy 178 = .ok (.aaload, 1) := by decide +kernel
theorem dX6_copy_179 : decode cX6_copy 179 = .ok (.iconst 0, 1) := by decide +kernel
theorem dX6_copy_180 : decode cX6_copy 180 = .ok (.iconst 3, 1) := by decide +kernel
theorem dX6_copy_181 : decode cX6_copy 181 = .ok (.invokestatic 47, 3) := by decide +kernel
theorem dX6_copy_184 : decode cX6_copy 184 = .ok (.iinc 2 1, 3) := by decide +kernel
theorem dX6_copy_187 : decode cX6_copy 187 = .ok (.goto (-29), 3) := by decide +kernel
theorem dX6_copy_190 : decode cX6_copy 190 = .ok (.iconst 0, 1) := by decide +kernel
theorem dX6_copy_191 : decode cX6_copy 191 = .ok (.istore_n 2, 1) := by decide +kernel
theorem dX6_copy_192 : decode cX6_copy 192 = .ok (.iload_n 2, 1) := by decide +kernel
theorem dX6_copy_193 : decode cX6_copy 193 = .ok (.aload_n 0, 1) := by decide +kernel
theorem dX6_copy_194 : decode cX6_copy 194 = .ok (.getfield 62, 3) := by decide +kernel
theorem dX6_copy_197 : decode cX6_copy 197 = .ok (.if_icmp .ge 27, 3) := by decide +kernel
theorem dX6_copy_200 : decode cX6_copy 200 = .ok (.aload_n 0, 1) := by decide +kernel
theorem dX6_copy_201 : decode cX6_copy 201 = .ok (.getfield 28, 3) := by decide +kernel
theorem dX6_copy_204 : decode cX6_copy 204 = .ok (.iload_n 2, 1) := by decide +kernel
theorem dX6_copy_205 : decode cX6_copy 205 = .ok (.aaload, 1) := by decide +kernel
theorem dX6_copy_206 : decode cX6_copy 206 = .ok (.iconst 0, 1) := by decide +kernel
theorem dX6_copy_207 : decode cX6_copy 207 = .ok (.aload_n 1, 1) := by decide +kernel
theorem dX6_copy_208 : decode cX6_copy 208 = .ok (.getfield 28, 3) := by decide +kernel
theorem dX6_copy_211 : decode cX6_copy 211 = .ok (.iload_n 2, 1) := by decide +kernel
theorem dX6_copy_212 : decode cX6_copy 212 = .ok (.aaload, 1) := by decide +kernel
theorem dX6_copy_213 : decode cX6_copy 213 = .ok (.iconst 0, 1) := by decide +kernel
theorem dX6_copy_214 : decode cX6_copy 214 = .ok (.iconst 3, 1) := by decide +kernel
theorem dX6_copy_215 : decode cX6_copy 215 = .ok (.invokestatic 47, 3) := by decide +kernel
theorem dX6_copy_218 : decode cX6_copy 218 = .ok (.iinc 2 1, 3) := by decide +kernel
theorem dX6_copy_221 : decode cX6_copy 221 = .ok (.goto (-29), 3) := by decide +kernel
theorem dX6_copy_224 : decode cX6_copy 224 = .ok (.aload_n 0, 1) := by decide +kernel
theorem dX6_copy_225 : decode cX6_copy 225 = .ok (.getfield 31, 3) := by decide +kernel
theorem dX6_copy_228 : decode cX6_copy 228 = .ok (.iconst 0, 1) := by decide +kernel
theorem dX6_copy_229 : decode cX6_copy 229 = .ok (.aload_n 1, 1) := by decide +kernel
theorem dX6_copy_230 : decode cX6_copy 230 = .ok (.getfield 31, 3) := by decide +kernel
theorem dX6_copy_233 : decode cX6_copy 233 = .ok (.iconst 0, 1) := by decide +kernel
theorem dX6_copy_234 : decode cX6_copy 234 = .ok (.bipush 16, 2) := by decide +kernel
theorem dX6_copy_236 : decode cX6_copy 236 = .ok (.invokestatic 47, 3) := by decide +kernel
theorem dX6_copy_239 : decode cX6_copy 239 = .ok (.aload_n 1, 1) := by decide +kernel
theorem dX6_copy_240 : decode cX6_copy 240 = .ok (.aload_n 0, 1) := by decide +kernel
theorem dX6_copy_241 : decode cX6_copy 241 = .ok (.getfield 65, 3) := by decide +kernel
theorem dX6_copy_244 : decode cX6_copy 244 = .ok (.putfield 65, 3) := by decide +kernel
theorem dX6_copy_247 : decode cX6_copy 247 = .ok (.aload_n 1, 1) := by decide +kernel
theorem dX6_copy_248 : decode cX6_copy 248 = .ok (.aload_n 0, 1) := by decide +kernel
theorem dX6_copy_249 : decode cX6_copy 249 = .ok (.getfield 44, 3) := by decide +kernel
theorem dX6_copy_252 : decode cX6_copy 252 = .ok (.putfield 44, 3) := by decide +kernel
theorem dX6_copy_255 : decode cX6_copy 255 = .ok (.aload_n 1, 1) := by decide +kernel
theorem dX6_copy_256 : decode cX6_copy 256 = .ok (.aload_n 0, 1) := by decide +kernel
theorem dX6_copy_257 : decode cX6_copy 257 = .ok (.getfield 53, 3) := by decide +kernel
theorem dX6_copy_260 : decode cX6_copy 260 = .ok (.putfield 53, 3) := by decide +kernel
theorem dX6_copy_263 : decode cX6_copy 263 = .ok (.aload_n 1, 1) := by decide +kernel
theorem dX6_copy_264 : decode cX6_copy 264 = .ok (.aload_n 0, 1) := by decide +kernel
theorem dX6_copy_265 : decode cX6_copy 265 = .ok (.getfield 56, 3) := by decide +kernel
theorem dX6_copy_268 : decode cX6_copy 268 = .ok (.putfield 56, 3) := by decide +kernel
theorem dX6_copy_271 : decode cX6_copy 271 = .ok (.aload_n 1, 1) := by decide +kernel
theorem dX6_copy_272 : decode cX6_copy 272 = .ok (.aload_n 0, 1) := by decide +kernel
theorem dX6_copy_273 : decode cX6_copy 273 = .ok (.getfield 59, 3) := by decide +kernel
theorem dX6_copy_276 : decode cX6_copy 276 = .ok (.putfield 59, 3) := by decide +kernel
theorem dX6_copy_279 : decode cX6_copy 279 = .ok (.aload_n 1, 1) := by decide +kernel
theorem dX6_copy_280 : decode cX6_copy 280 = .ok (.aload_n 0, 1) := by decide +kernel
theorem dX6_copy_281 : decode cX6_copy 281 = .ok (.getfield 62, 3) := by decide +kernel
theorem dX6_copy_284 : decode cX6_copy 284 = .ok (.putfield 62, 3) := by decide +kernel
theorem dX6_copy_287 : decode cX6_copy 287 = .ok (.aload_n 1, 1) := by decide +kernel
theorem dX6_copy_288 : decode cX6_copy 288 = .ok (.aload_n 0, 1) := by decide +kernel
theorem dX6_copy_289 : decode cX6_copy 289 = .ok (.getfield 39, 3) := by decide +kernel
theorem dX6_copy_292 : decode cX6_copy 292 = .ok (.putfield 39, 3) := by decide +kernel
theorem dX6_copy_295 : decode cX6_copy 295 = .ok (.aload_n 1, 1) := by decide +kernel
theorem dX6_copy_296 : decode cX6_copy 296 = .ok (.aload_n 0, 1) := by decide +kernel
theorem dX6_copy_297 : decode cX6_copy 297 = .ok (.getfield 68, 3) := by decide +kernel
theorem dX6_copy_300 : decode cX6_copy 300 = .ok (.putfield 68, 3) := by decide +kernel
theorem dX6_copy_303 : decode cX6_copy 303 = .ok (.aload_n 1, 1) := by decide +kernel
theorem dX6_copy_304 : decode cX6_copy 304 = .ok (.areturn, 1) := by decide +kernel
/-! copy of a land of which nothing is made yet -/
theorem vg_st_at {σ : vgS} {n : vgN} {k : Nat} {x : Int32} : vg_st σ n k x n k = x := if_pos ⟨rfl, rfl⟩
def k_X6_copy : List (Nat × vgF) := [(3, vi_dup 4), (7, vi_astore 1 8), (8, vi_icst (0) 9), (9, vi_istore 2 10), (10, vi_iload 2 11), (11, vi_aload 0 12), (12, vi_get mm_shp 1 9 15), (15, vi_cmp (fun x y => y ≤ x) 87 18), (18, vi_aload 0 19), (19, vi_get mm_shp 1 0 22), (22, vi_iload 2 23), (23, vi_aald mm_shp 2 24), (24, vi_icst (0) 25), (25, vi_aload 1 26), (26, vi_get mm_shp 1 0 29), (29, vi_iload 2 30), (30, vi_aald mm_shp 2 31), (31, vi_icst (0) 32), (32, vi_icst (8) 34), (34, vi_cpy mm_shp 0 37), (37, vi_icst (0) 38), (38, vi_istore 3 39), (39, vi_iload 3 40), (40, vi_aload 0 41), (41, vi_get mm_shp 1 10 44), (44, vi_cmp (fun x y => y ≤ x) 81 47), (47, vi_aload 0 48), (48, vi_get mm_shp 1 2 51), (51, vi_iload 2 52), (52, vi_icst (12) 54), (54, vi_bin (fun x y => x * y) 55), (55, vi_iload 3 56), (56, vi_bin (fun x y => x + y) 57), (57, vi_aald mm_shp 2 58), (58, vi_icst (0) 59), (59, vi_aload 1 60), (60, vi_get mm_shp 1 2 63), (63, vi_iload 2 64), (64, vi_icst (12) 66), (66, vi_bin (fun x y => x * y) 67), (67, vi_iload 3 68), (68, vi_bin (fun x y => x + y) 69), (69, vi_aald mm_shp 2 70), (70, vi_icst (0) 71), (71, vi_icst (5) 72), (72, vi_cpy mm_shp 0 75), (75, vi_iinc 3 (1) 78), (78, vi_goto 39), (81, vi_iinc 2 (1) 84), (84, vi_goto 10), (87, vi_icst (0) 88), (88, vi_istore 2 89), (89, vi_iload 2 90), (90, vi_aload 0 91), (91, vi_get mm_shp 1 10 94), (94, vi_cmp (fun x y => y ≤ x) 122 97), (97, vi_aload 0 98), (98, vi_get mm_shp 1 1 101), (101, vi_iload 2 102), (102, vi_aald mm_shp 2 103), (103, vi_icst (0) 104), (104, vi_aload 1 105), (105, vi_get mm_shp 1 1 108), (108, vi_iload 2 109), (109, vi_aald mm_shp 2 110), (110, vi_icst (0) 111), (111, vi_icst (8) 113), (113, vi_cpy mm_shp 0 116), (116, vi_iinc 2 (1) 119), (119, vi_goto 89), (122, vi_icst (0) 123), (123, vi_istore 2 124), (124, vi_iload 2 125), (125, vi_aload 0 126), (126, vi_get mm_shp 1 11 129), (129, vi_cmp (fun x y => y ≤ x) 156 132), (132, vi_aload 0 133), (133, vi_get mm_shp 1 3 136), (136, vi_iload 2 137), (137, vi_aald mm_shp 2 138), (138, vi_icst (0) 139), (139, vi_aload 1 140), (140, vi_get mm_shp 1 3 143), (143, vi_iload 2 144), (144, vi_aald mm_shp 2 145), (145, vi_icst (0) 146), (146, vi_icst (2) 147), (147, vi_cpy mm_shp 0 150), (150, vi_iinc 2 (1) 153), (153, vi_goto 124), (156, vi_icst (0) 157), (157, vi_istore 2 158), (158, vi_iload 2 159), (159, vi_aload 0 160), (160, vi_get mm_shp 1 12 163), (163, vi_cmp (fun x y => y ≤ x) 190 166), (166, vi_aload 0 167), (167, vi_get mm_shp 1 4 170), (170, vi_iload 2 171), (171, vi_aald mm_shp 2 172), (172, vi_icst (0) 173), (173, vi_aload 1 174), (174, vi_get mm_shp 1 4 177), (177, vi_iload 2 178), (178, vi_aald mm_shp 2 179), (179, vi_icst (0) 180), (180, vi_icst (3) 181), (181, vi_cpy mm_shp 0 184), (184, vi_iinc 2 (1) 187), (187, vi_goto 158), (190, vi_icst (0) 191), (191, vi_istore 2 192), (192, vi_iload 2 193), (193, vi_aload 0 194), (194, vi_get mm_shp 1 13 197), (197, vi_cmp (fun x y => y ≤ x) 224 200), (200, vi_aload 0 201), (201, vi_get mm_shp 1 5 204), (204, vi_iload 2 205), (205, vi_aald mm_shp 2 206), (206, vi_icst (0) 207), (207, vi_aload 1 208), (208, vi_get mm_shp 1 5 211), (211, vi_iload 2 212), (212, vi_aald mm_shp 2 213), (213, vi_icst (0) 214), (214, vi_icst (3) 215), (215, vi_cpy mm_shp 0 218), (218, vi_iinc 2 (1) 221), (221, vi_goto 192), (224, vi_aload 0 225), (225, vi_get mm_shp 1 6 228), (228, vi_icst (0) 229), (229, vi_aload 1 230), (230, vi_get mm_shp 1 6 233), (233, vi_icst (0) 234), (234, vi_icst (16) 236), (236, vi_cpy mm_shp 0 239), (239, vi_aload 1 240), (240, vi_aload 0 241), (241, vi_get mm_shp 1 8 244), (244, vi_put mm_shp 1 8 247), (247, vi_aload 1 248), (248, vi_aload 0 249), (249, vi_get mm_shp 1 9 252), (252, vi_put mm_shp 1 9 255), (255, vi_aload 1 256), (256, vi_aload 0 257), (257, vi_get mm_shp 1 10 260), (260, vi_put mm_shp 1 10 263), (263, vi_aload 1 264), (264, vi_aload 0 265), (265, vi_get mm_shp 1 11 268), (268, vi_put mm_shp 1 11 271), (271, vi_aload 1 272), (272, vi_aload 0 273), (273, vi_get mm_shp 1 12 276), (276, vi_put mm_shp 1 12 279), (279, vi_aload 1 280), (280, vi_aload 0 281), (281, vi_get mm_shp 1 13 284), (284, vi_put mm_shp 1 13 287), (287, vi_aload 1 288), (288, vi_aload 0 289), (289, vi_get mm_shp 1 14 292), (292, vi_put mm_shp 1 14 295), (295, vi_aload 1 296), (296, vi_aload 0 297), (297, vi_get mm_shp 1 15 300), (300, vi_put mm_shp 1 15 303), (303, vi_aload 1 304)]
set_option maxRecDepth 20000 in
theorem s_X6_copy {nm : List vgN} (hcl : vg_closed mm_shp nm) : ∀ q ∈ k_X6_copy, vm_Snd false ww_tb [] [] [] mm_shp nm mm_cl mm_tyl cX6_copy 4 RX6 (some (.object "WarnWaveModel$Land")) 2 q.1 q.2 := by
  refine vg_cons (vt_dup dX6_copy_3 rfl) ?_
  refine vg_cons (vt_astore_n dX6_copy_7 rfl (by decide) rfl) ?_
  refine vg_cons (vt_iconst dX6_copy_8 rfl rfl) ?_
  refine vg_cons (vt_istore_n dX6_copy_9 rfl (by decide) rfl) ?_
  refine vg_cons (vt_iload_n dX6_copy_10 rfl rfl) ?_
  refine vg_cons (vt_aload_n dX6_copy_11 rfl rfl) ?_
  refine vg_cons (vt_getfield (T := TX6) dX6_copy_12 rfl (by decide) mm_inX6 u_236 rfl) ?_
  refine vg_cons (vt_cmp_ge dX6_copy_15 (by decide) rfl) ?_
  refine vg_cons (vt_aload_n dX6_copy_18 rfl rfl) ?_
  refine vg_cons (vt_getfield (T := TX6) dX6_copy_19 rfl (by decide) mm_inX6 u_237 rfl) ?_
  refine vg_cons (vt_iload_n dX6_copy_22 rfl rfl) ?_
  refine vg_cons (vt_aaloadA dX6_copy_23 rfl rfl rfl) ?_
  refine vg_cons (vt_iconst dX6_copy_24 rfl rfl) ?_
  refine vg_cons (vt_aload_n dX6_copy_25 rfl rfl) ?_
  refine vg_cons (vt_getfield (T := TX6) dX6_copy_26 rfl (by decide) mm_inX6 u_237 rfl) ?_
  refine vg_cons (vt_iload_n dX6_copy_29 rfl rfl) ?_
  refine vg_cons (vt_aaloadA dX6_copy_30 rfl rfl rfl) ?_
  refine vg_cons (vt_iconst dX6_copy_31 rfl rfl) ?_
  refine vg_cons (vt_bipush dX6_copy_32 (by decide) rfl) ?_
  refine vg_cons (vt_acopy dX6_copy_34 rfl u_295 u_252 u_253 u_254 (by decide) rfl) ?_
  refine vg_cons (vt_iconst dX6_copy_37 rfl rfl) ?_
  refine vg_cons (vt_istore_n dX6_copy_38 rfl (by decide) rfl) ?_
  refine vg_cons (vt_iload_n dX6_copy_39 rfl rfl) ?_
  refine vg_cons (vt_aload_n dX6_copy_40 rfl rfl) ?_
  refine vg_cons (vt_getfield (T := TX6) dX6_copy_41 rfl (by decide) mm_inX6 u_262 rfl) ?_
  refine vg_cons (vt_cmp_ge dX6_copy_44 (by decide) rfl) ?_
  refine vg_cons (vt_aload_n dX6_copy_47 rfl rfl) ?_
  refine vg_cons (vt_getfield (T := TX6) dX6_copy_48 rfl (by decide) mm_inX6 u_285 rfl) ?_
  refine vg_cons (vt_iload_n dX6_copy_51 rfl rfl) ?_
  refine vg_cons (vt_bipush dX6_copy_52 (by decide) rfl) ?_
  refine vg_cons (vt_imul dX6_copy_54 rfl) ?_
  refine vg_cons (vt_iload_n dX6_copy_55 rfl rfl) ?_
  refine vg_cons (vt_iadd dX6_copy_56 rfl) ?_
  refine vg_cons (vt_aaloadA dX6_copy_57 rfl rfl rfl) ?_
  refine vg_cons (vt_iconst dX6_copy_58 rfl rfl) ?_
  refine vg_cons (vt_aload_n dX6_copy_59 rfl rfl) ?_
  refine vg_cons (vt_getfield (T := TX6) dX6_copy_60 rfl (by decide) mm_inX6 u_285 rfl) ?_
  refine vg_cons (vt_iload_n dX6_copy_63 rfl rfl) ?_
  refine vg_cons (vt_bipush dX6_copy_64 (by decide) rfl) ?_
  refine vg_cons (vt_imul dX6_copy_66 rfl) ?_
  refine vg_cons (vt_iload_n dX6_copy_67 rfl rfl) ?_
  refine vg_cons (vt_iadd dX6_copy_68 rfl) ?_
  refine vg_cons (vt_aaloadA dX6_copy_69 rfl rfl rfl) ?_
  refine vg_cons (vt_iconst dX6_copy_70 rfl rfl) ?_
  refine vg_cons (vt_iconst dX6_copy_71 rfl rfl) ?_
  refine vg_cons (vt_acopy dX6_copy_72 rfl u_295 u_252 u_253 u_254 (by decide) rfl) ?_
  refine vg_cons (vt_iinc dX6_copy_75 rfl rfl) ?_
  refine vg_cons (vt_goto dX6_copy_78 (by decide)) ?_
  refine vg_cons (vt_iinc dX6_copy_81 rfl rfl) ?_
  refine vg_cons (vt_goto dX6_copy_84 (by decide)) ?_
  refine vg_cons (vt_iconst dX6_copy_87 rfl rfl) ?_
  refine vg_cons (vt_istore_n dX6_copy_88 rfl (by decide) rfl) ?_
  refine vg_cons (vt_iload_n dX6_copy_89 rfl rfl) ?_
  refine vg_cons (vt_aload_n dX6_copy_90 rfl rfl) ?_
  refine vg_cons (vt_getfield (T := TX6) dX6_copy_91 rfl (by decide) mm_inX6 u_262 rfl) ?_
  refine vg_cons (vt_cmp_ge dX6_copy_94 (by decide) rfl) ?_
  refine vg_cons (vt_aload_n dX6_copy_97 rfl rfl) ?_
  refine vg_cons (vt_getfield (T := TX6) dX6_copy_98 rfl (by decide) mm_inX6 u_284 rfl) ?_
  refine vg_cons (vt_iload_n dX6_copy_101 rfl rfl) ?_
  refine vg_cons (vt_aaloadA dX6_copy_102 rfl rfl rfl) ?_
  refine vg_cons (vt_iconst dX6_copy_103 rfl rfl) ?_
  refine vg_cons (vt_aload_n dX6_copy_104 rfl rfl) ?_
  refine vg_cons (vt_getfield (T := TX6) dX6_copy_105 rfl (by decide) mm_inX6 u_284 rfl) ?_
  refine vg_cons (vt_iload_n dX6_copy_108 rfl rfl) ?_
  refine vg_cons (vt_aaloadA dX6_copy_109 rfl rfl rfl) ?_
  refine vg_cons (vt_iconst dX6_copy_110 rfl rfl) ?_
  refine vg_cons (vt_bipush dX6_copy_111 (by decide) rfl) ?_
  refine vg_cons (vt_acopy dX6_copy_113 rfl u_295 u_252 u_253 u_254 (by decide) rfl) ?_
  refine vg_cons (vt_iinc dX6_copy_116 rfl rfl) ?_
  refine vg_cons (vt_goto dX6_copy_119 (by decide)) ?_
  refine vg_cons (vt_iconst dX6_copy_122 rfl rfl) ?_
  refine vg_cons (vt_istore_n dX6_copy_123 rfl (by decide) rfl) ?_
  refine vg_cons (vt_iload_n dX6_copy_124 rfl rfl) ?_
  refine vg_cons (vt_aload_n dX6_copy_125 rfl rfl) ?_
  refine vg_cons (vt_getfield (T := TX6) dX6_copy_126 rfl (by decide) mm_inX6 u_296 rfl) ?_
  refine vg_cons (vt_cmp_ge dX6_copy_129 (by decide) rfl) ?_
  refine vg_cons (vt_aload_n dX6_copy_132 rfl rfl) ?_
  refine vg_cons (vt_getfield (T := TX6) dX6_copy_133 rfl (by decide) mm_inX6 u_286 rfl) ?_
  refine vg_cons (vt_iload_n dX6_copy_136 rfl rfl) ?_
  refine vg_cons (vt_aaloadA dX6_copy_137 rfl rfl rfl) ?_
  refine vg_cons (vt_iconst dX6_copy_138 rfl rfl) ?_
  refine vg_cons (vt_aload_n dX6_copy_139 rfl rfl) ?_
  refine vg_cons (vt_getfield (T := TX6) dX6_copy_140 rfl (by decide) mm_inX6 u_286 rfl) ?_
  refine vg_cons (vt_iload_n dX6_copy_143 rfl rfl) ?_
  refine vg_cons (vt_aaloadA dX6_copy_144 rfl rfl rfl) ?_
  refine vg_cons (vt_iconst dX6_copy_145 rfl rfl) ?_
  refine vg_cons (vt_iconst dX6_copy_146 rfl rfl) ?_
  refine vg_cons (vt_acopy dX6_copy_147 rfl u_295 u_252 u_253 u_254 (by decide) rfl) ?_
  refine vg_cons (vt_iinc dX6_copy_150 rfl rfl) ?_
  refine vg_cons (vt_goto dX6_copy_153 (by decide)) ?_
  refine vg_cons (vt_iconst dX6_copy_156 rfl rfl) ?_
  refine vg_cons (vt_istore_n dX6_copy_157 rfl (by decide) rfl) ?_
  refine vg_cons (vt_iload_n dX6_copy_158 rfl rfl) ?_
  refine vg_cons (vt_aload_n dX6_copy_159 rfl rfl) ?_
  refine vg_cons (vt_getfield (T := TX6) dX6_copy_160 rfl (by decide) mm_inX6 u_297 rfl) ?_
  refine vg_cons (vt_cmp_ge dX6_copy_163 (by decide) rfl) ?_
  refine vg_cons (vt_aload_n dX6_copy_166 rfl rfl) ?_
  refine vg_cons (vt_getfield (T := TX6) dX6_copy_167 rfl (by decide) mm_inX6 u_287 rfl) ?_
  refine vg_cons (vt_iload_n dX6_copy_170 rfl rfl) ?_
  refine vg_cons (vt_aaloadA dX6_copy_171 rfl rfl rfl) ?_
  refine vg_cons (vt_iconst dX6_copy_172 rfl rfl) ?_
  refine vg_cons (vt_aload_n dX6_copy_173 rfl rfl) ?_
  refine vg_cons (vt_getfield (T := TX6) dX6_copy_174 rfl (by decide) mm_inX6 u_287 rfl) ?_
  refine vg_cons (vt_iload_n dX6_copy_177 rfl rfl) ?_
  refine vg_cons (vt_aaloadA dX6_copy_178 rfl rfl rfl) ?_
  refine vg_cons (vt_iconst dX6_copy_179 rfl rfl) ?_
  refine vg_cons (vt_iconst dX6_copy_180 rfl rfl) ?_
  refine vg_cons (vt_acopy dX6_copy_181 rfl u_295 u_252 u_253 u_254 (by decide) rfl) ?_
  refine vg_cons (vt_iinc dX6_copy_184 rfl rfl) ?_
  refine vg_cons (vt_goto dX6_copy_187 (by decide)) ?_
  refine vg_cons (vt_iconst dX6_copy_190 rfl rfl) ?_
  refine vg_cons (vt_istore_n dX6_copy_191 rfl (by decide) rfl) ?_
  refine vg_cons (vt_iload_n dX6_copy_192 rfl rfl) ?_
  refine vg_cons (vt_aload_n dX6_copy_193 rfl rfl) ?_
  refine vg_cons (vt_getfield (T := TX6) dX6_copy_194 rfl (by decide) mm_inX6 u_298 rfl) ?_
  refine vg_cons (vt_cmp_ge dX6_copy_197 (by decide) rfl) ?_
  refine vg_cons (vt_aload_n dX6_copy_200 rfl rfl) ?_
  refine vg_cons (vt_getfield (T := TX6) dX6_copy_201 rfl (by decide) mm_inX6 u_288 rfl) ?_
  refine vg_cons (vt_iload_n dX6_copy_204 rfl rfl) ?_
  refine vg_cons (vt_aaloadA dX6_copy_205 rfl rfl rfl) ?_
  refine vg_cons (vt_iconst dX6_copy_206 rfl rfl) ?_
  refine vg_cons (vt_aload_n dX6_copy_207 rfl rfl) ?_
  refine vg_cons (vt_getfield (T := TX6) dX6_copy_208 rfl (by decide) mm_inX6 u_288 rfl) ?_
  refine vg_cons (vt_iload_n dX6_copy_211 rfl rfl) ?_
  refine vg_cons (vt_aaloadA dX6_copy_212 rfl rfl rfl) ?_
  refine vg_cons (vt_iconst dX6_copy_213 rfl rfl) ?_
  refine vg_cons (vt_iconst dX6_copy_214 rfl rfl) ?_
  refine vg_cons (vt_acopy dX6_copy_215 rfl u_295 u_252 u_253 u_254 (by decide) rfl) ?_
  refine vg_cons (vt_iinc dX6_copy_218 rfl rfl) ?_
  refine vg_cons (vt_goto dX6_copy_221 (by decide)) ?_
  refine vg_cons (vt_aload_n dX6_copy_224 rfl rfl) ?_
  refine vg_cons (vt_getfield (T := TX6) dX6_copy_225 rfl (by decide) mm_inX6 u_234 rfl) ?_
  refine vg_cons (vt_iconst dX6_copy_228 rfl rfl) ?_
  refine vg_cons (vt_aload_n dX6_copy_229 rfl rfl) ?_
  refine vg_cons (vt_getfield (T := TX6) dX6_copy_230 rfl (by decide) mm_inX6 u_234 rfl) ?_
  refine vg_cons (vt_iconst dX6_copy_233 rfl rfl) ?_
  refine vg_cons (vt_bipush dX6_copy_234 (by decide) rfl) ?_
  refine vg_cons (vt_acopy dX6_copy_236 rfl u_295 u_252 u_253 u_254 (by decide) rfl) ?_
  refine vg_cons (vt_aload_n dX6_copy_239 rfl rfl) ?_
  refine vg_cons (vt_aload_n dX6_copy_240 rfl rfl) ?_
  refine vg_cons (vt_getfield (T := TX6) dX6_copy_241 rfl (by decide) mm_inX6 u_235 rfl) ?_
  refine vg_cons (vt_putfield (T := TX6) tyX6 dX6_copy_244 rfl (by decide) mm_inX6 tyX6_ok nmX6 rfl rfl u_235 rfl) ?_
  refine vg_cons (vt_aload_n dX6_copy_247 rfl rfl) ?_
  refine vg_cons (vt_aload_n dX6_copy_248 rfl rfl) ?_
  refine vg_cons (vt_getfield (T := TX6) dX6_copy_249 rfl (by decide) mm_inX6 u_236 rfl) ?_
  refine vg_cons (vt_putfield (T := TX6) tyX6 dX6_copy_252 rfl (by decide) mm_inX6 tyX6_ok nmX6 rfl rfl u_236 rfl) ?_
  refine vg_cons (vt_aload_n dX6_copy_255 rfl rfl) ?_
  refine vg_cons (vt_aload_n dX6_copy_256 rfl rfl) ?_
  refine vg_cons (vt_getfield (T := TX6) dX6_copy_257 rfl (by decide) mm_inX6 u_262 rfl) ?_
  refine vg_cons (vt_putfield (T := TX6) tyX6 dX6_copy_260 rfl (by decide) mm_inX6 tyX6_ok nmX6 rfl rfl u_262 rfl) ?_
  refine vg_cons (vt_aload_n dX6_copy_263 rfl rfl) ?_
  refine vg_cons (vt_aload_n dX6_copy_264 rfl rfl) ?_
  refine vg_cons (vt_getfield (T := TX6) dX6_copy_265 rfl (by decide) mm_inX6 u_296 rfl) ?_
  refine vg_cons (vt_putfield (T := TX6) tyX6 dX6_copy_268 rfl (by decide) mm_inX6 tyX6_ok nmX6 rfl rfl u_296 rfl) ?_
  refine vg_cons (vt_aload_n dX6_copy_271 rfl rfl) ?_
  refine vg_cons (vt_aload_n dX6_copy_272 rfl rfl) ?_
  refine vg_cons (vt_getfield (T := TX6) dX6_copy_273 rfl (by decide) mm_inX6 u_297 rfl) ?_
  refine vg_cons (vt_putfield (T := TX6) tyX6 dX6_copy_276 rfl (by decide) mm_inX6 tyX6_ok nmX6 rfl rfl u_297 rfl) ?_
  refine vg_cons (vt_aload_n dX6_copy_279 rfl rfl) ?_
  refine vg_cons (vt_aload_n dX6_copy_280 rfl rfl) ?_
  refine vg_cons (vt_getfield (T := TX6) dX6_copy_281 rfl (by decide) mm_inX6 u_298 rfl) ?_
  refine vg_cons (vt_putfield (T := TX6) tyX6 dX6_copy_284 rfl (by decide) mm_inX6 tyX6_ok nmX6 rfl rfl u_298 rfl) ?_
  refine vg_cons (vt_aload_n dX6_copy_287 rfl rfl) ?_
  refine vg_cons (vt_aload_n dX6_copy_288 rfl rfl) ?_
  refine vg_cons (vt_getfield (T := TX6) dX6_copy_289 rfl (by decide) mm_inX6 u_264 rfl) ?_
  refine vg_cons (vt_putfield (T := TX6) tyX6 dX6_copy_292 rfl (by decide) mm_inX6 tyX6_ok nmX6 rfl rfl u_264 rfl) ?_
  refine vg_cons (vt_aload_n dX6_copy_295 rfl rfl) ?_
  refine vg_cons (vt_aload_n dX6_copy_296 rfl rfl) ?_
  refine vg_cons (vt_getfield (T := TX6) dX6_copy_297 rfl (by decide) mm_inX6 u_265 rfl) ?_
  refine vg_cons (vt_putfield (T := TX6) tyX6 dX6_copy_300 rfl (by decide) mm_inX6 tyX6_ok nmX6 rfl rfl u_265 rfl) ?_
  refine vg_cons (vt_aload_n dX6_copy_303 rfl rfl) ?_
  exact fun _ h => absurd h List.not_mem_nil
theorem m_X6_copy : vg_Code k_X6_copy := fun q h => (s_X6_copy (nm := []) (fun n hn => nomatch hn) q h).1

/-- no people, warnings, shelters, sirens, masts in a land -/
def mm_c0 (b : Nat) (σ : vgS) : Prop := σ (41, b, 0) 9 = 0 ∧ σ (41, b, 0) 10 = 0 ∧ σ (41, b, 0) 11 = 0 ∧ σ (41, b, 0) 12 = 0 ∧ σ (41, b, 0) 13 = 0
theorem mm_fr0 {σ : vgS} (h : mm_fr σ) : mm_c0 0 σ := ⟨h.1.2.1, h.1.2.2.1, h.1.2.2.2.1, h.1.2.2.2.2.1, h.1.2.2.2.2.2.1⟩
def mm_cp (b : Nat) (σ σ' : vgS) : Prop := (σ' (41, b, 0) 9 = 0 ∧ σ' (41, b, 0) 10 = 0 ∧ σ' (41, b, 0) 12 = 0) ∧ ∀ n, ¬ n.2.1 = b → σ' n = σ n
abbrev ex_X6_copy (b : Nat) (σ : vgS) : List (Nat × vgF) := [(304, vi_exit (fun lv st σ1 => st = [.inr (41, b, 0)] ∧ mm_cp b σ σ1))]
set_option maxRecDepth 20000 in
theorem gx_X6_copy {b : Nat} (hb : ¬ 0 = b) (τ : vgS) (h : mm_c0 0 τ) (P : vgO) : vg_Go (ex_X6_copy b τ ++ k_X6_copy) P 7 [(0, .inr (41, 0, 0))] [.inr (41, b, 0)] τ := by
  have h9 : τ (41, 0, 0) 9 ≤ 0 := by rw [h.1]; decide
  have h10 : τ (41, 0, 0) 10 ≤ 0 := by rw [h.2.1]; decide
  have h11 : τ (41, 0, 0) 11 ≤ 0 := by rw [h.2.2.1]; decide
  have h12 : τ (41, 0, 0) 12 ≤ 0 := by rw [h.2.2.2.1]; decide
  have h13 : τ (41, 0, 0) 13 ≤ 0 := by rw [h.2.2.2.2]; decide
  have hc : (0 : Int32) = 0 ∧ (0 : Int32) = 0 ∧ ¬ (16 : Int32) < 0 ∧ (16 : Int32).toNatClampNeg ≤ 16 ∧ (16 : Int32).toNatClampNeg ≤ 16 := by decide
  have ks : ∀ (σ : vgS) (k : Nat) (x : Int32) (n : vgN) (j : Nat), ¬ n.2.1 = b → vg_st σ (41, b, 0) k x n j = σ n j := fun σ k x n j hn => if_neg (fun z => hn (by rw [z.1]))
  have kc : ∀ (σ : vgS) (len : Nat) (n : vgN) (j : Nat), ¬ n.2.1 = b → vg_cp σ (48, 0, 0) (48, b, 0) len n j = σ n j := fun σ len n j hn => if_neg (fun z => hn (by rw [z.1]))
  refine vg_run (cuts := []) (vm_code1 m_X6_copy) 120 ?_
  refine And.intro (fun _ => And.intro (fun _ => And.intro (fun _ => And.intro (fun _ => And.intro (fun _ => And.intro hc ?_) (fun z => absurd h13 z)) (fun z => absurd h12 z)) (fun z => absurd h11 z)) (fun z => absurd h10 z)) (fun z => absurd h9 z)
  refine ⟨rfl, ⟨?_, ?_, ?_⟩, fun n hn => ?_⟩
  · iterate 6 refine (vg_st_ne (fun z => absurd z.2 (by decide))).trans ?_
    refine vg_st_at.trans ?_
    refine (ks _ _ _ _ _ hb).trans ?_
    exact (kc _ _ _ _ hb).trans h.1
  · iterate 5 refine (vg_st_ne (fun z => absurd z.2 (by decide))).trans ?_
    refine vg_st_at.trans ?_
    refine (ks _ _ _ _ _ hb).trans ?_
    refine (ks _ _ _ _ _ hb).trans ?_
    exact (kc _ _ _ _ hb).trans h.2.1
  · iterate 3 refine (vg_st_ne (fun z => absurd z.2 (by decide))).trans ?_
    refine vg_st_at.trans ?_
    iterate 4 refine (ks _ _ _ _ _ hb).trans ?_
    exact (kc _ _ _ _ hb).trans h.2.2.2.1
  · funext j
    iterate 8 refine (ks _ _ _ _ _ hn).trans ?_
    exact kc _ _ _ _ hn
/-- copy's contract: the copy is land b -/
def mm_cpQ (nm : List vgN) (b : Nat) (D : va_G) (tys : List (ClassId × FieldType)) (ad : vgN → Nat) (A : Nat → Prop) (σ : vgS) : Array Value → State → Outcome → State → Prop := fun _ st oc t =>
  (∃ (ad' : vgN → Nat) (σ' : vgS), oc = .returned (some (.ref (ad' (41, b, 0)))) ∧ (∀ n ∈ nm, ad' n = ad n) ∧ mm_cp b σ σ' ∧ va_P D mm_cl (vg_ws mm_shp (nm ++ mm_nm1 b) ad' tys σ') t.heap ∧ ∀ σ2, va_D A (vg_ws mm_shp (nm ++ mm_nm1 b) ad' tys σ2)) ∧ va_F A st t
def mm_Cp (nm : List vgN) (b : Nat) : Prop := ∀ (l : Launch) (D : va_G) (tys : List (ClassId × FieldType)) (ad : vgN → Nat) (sz : Nat) (σ : vgS), tys.map (fun q => q.2) = mm_tyl → mm_c0 0 σ →
  Met l yX6_copy (.code yX6_copy cX6_copy 4 (some (.object "WarnWaveModel$Land")) :: ww_tb) { frames := 2, cells := 137, slots := 929, locals := 32 * 2 } (va_Pc [.ref (ad (41, 0, 0))] (fun U => U.heap.size = sz ∧ va_P D mm_cl (vg_ws mm_shp nm ad tys σ) U.heap ∧ va_K D mm_cl tys U ∧ va_D (fun _ => True) (vg_ws mm_shp nm ad tys σ) ∧ vh_nx wh_nx U)) (mm_cpQ nm b D tys ad (vg_A nm ad sz) σ) 137 929 (vg_A nm ad sz)
theorem mm_vgA {nm : List vgN} {ad : vgN → Nat} {tys : List (ClassId × FieldType)} {shp : vgN → vgH} {σ : vgS} {n : Nat} (hD : va_D (fun _ => True) (vg_ws shp nm ad tys σ)) (σ' : vgS) : va_D (vg_A nm ad n) (vg_ws shp nm ad tys σ') := (vg_ws_D hD σ').weaken (fun k q hk _ => by
  unfold vg_ws at hk
  rw [List.getElem?_map] at hk
  cases hn : nm[k]? with
  | none => rw [hn] at hk; cases hk
  | some n => rw [hn] at hk; cases hk; exact Or.inl ⟨n, List.mem_of_getElem? hn, rfl⟩)
set_option maxHeartbeats 1000000 in
theorem cp_X6_copy {nm : List vgN} {b : Nat} (hcl : vg_closed mm_shp nm) (h41 : (41, 0, 0) ∈ nm) (hf : ∀ n ∈ nm, n ∉ mm_nm1 b) (hb : ¬ 0 = b) (hclL : vg_closed mm_shp (mm_nm1 b)) (hB : vh_allB mm_shp (mm_nm1 b) (mm_pos1 0) cs_X6 = true) (hnd : va_nd ((mm_nm1 b).map (mm_pos1 0)) = true) (hloc : ∀ n ∈ mm_nm1 b, n.2.1 = b) : mm_Cp nm b := by
  intro l D tys ad sz σ hty hpre
  refine Met.ofW (cc := cX6_copy) (maxL := 4) (ret := (some (.object "WarnWaveModel$Land"))) (by decide +kernel) rfl ?_
  intro p e s m args below meth c s₁ B hml hv
  obtain ⟨rfl, hsz, hP, hK, hD, hnx⟩ := hv
  have hx := B.exec
  have hb' := B.bytes
  have hr := B.returns
  have hts : ∀ w ∈ ww_tb, w.before ([Value.ref (ad (41, 0, 0))] : List Value).toArray s = true := fun w h => atoms_spec (ws := .code yX6_copy cX6_copy 4 (some (.object "WarnWaveModel$Land")) :: ww_tb) B.pre w (List.mem_cons_of_mem _ h)
  have ho : s.vm.findClass RX6 = some m.cls := findClass_of_methodNamed B.named
  have hlocks := B.notSynchronized
  subst hsz
  have C0 : vm_C ww_tb [] mm_shp nm mm_cl mm_tyl cX6_copy 4 RX6 (some (.object "WarnWaveModel$Land")) 2 p { frames := 2, cells := 137, slots := 929, locals := 32 * 2 } s m ([Value.ref (ad (41, 0, 0))] : List Value).toArray meth c D tys ad (vg_A nm ad s.heap.size) := ⟨hx, hb', hml, ho, hts, hK, hty, hr, hlocks, ⟨Nat.le_refl _, Nat.le_refl _⟩, fun q h => Or.inr h, mm_vgA hD, hcl, fun z hz => nomatch hz⟩
  have hl := lv_entry ([Value.ref (ad (41, 0, 0))] : List Value) (n := 4) (show (1 : Nat) ≤ 4 by decide)
  rw [lg_entry_eq]
  refine vm_newc (lv := [(0, .inr (41, 0, 0))]) (t := []) (σ := σ) (ci := 1) (C := RX6) (T := TX6) (N := 16) (root := (41, b, 0)) tyX6 C0 hnx I_X6_init hB hnd (List.mem_cons_self) rfl hf hclL dX6_copy_0 dX6_copy_3 dX6_copy_4 rfl mm_inX6 tyX6_ok u_299 u_292 u_267 (by decide +kernel) ww_good u_293 rfl u_300 u_294 rfl (by decide +kernel) (by decide) (by decide) (Nat.le_refl _) (Nat.le_refl _) (fun ad' C1 hag => ?_) s.heap [] _ hl (fun q hq => by rw [List.mem_singleton.mp hq]; exact h41) (fun v h => by cases h) hP va_S.rf
  have hj : ∀ n : vgN, ¬ n.2.1 = b → vm_jn (mm_nm1 b) (mm_pos1 0) cs_X6 σ n = σ n := fun n hn => vm_jn_out (fun z => hn (hloc n z))
  have h0 : mm_c0 0 (vm_jn (mm_nm1 b) (mm_pos1 0) cs_X6 σ) := by
    unfold mm_c0
    rw [hj (41, 0, 0) hb]
    exact hpre
  refine vm_sound (ex := ex_X6_copy b (vm_jn (mm_nm1 b) (mm_pos1 0) cs_X6 σ)) (P := fun _ _ => False) (s_X6_copy C1.2.2.2.2.2.2.2.2.2.2.2.2.1) C1 ⟨⟨Nat.le_refl _, Nat.le_refl _⟩, fun r σ pc ls H locs hp => hp.elim, fun h => Bool.noConfusion h⟩ (fun q hq lv st σ1 hE => ?_) (gx_X6_copy hb _ h0 _)
  rw [List.mem_singleton.mp hq] at hE ⊢
  obtain ⟨rfl, hcp⟩ := hE
  intro H1 locs1 ls1 hl1 ho1 hs1 hP1 hS1
  refine W.aret (v := .ref (ad' (41, b, 0))) hx hb' hr (Or.inl ⟨_, rfl⟩) (Or.inr ⟨_, rfl⟩) (fun t ht hW => ⟨⟨ad', σ1, rfl, hag, ⟨hcp.1, fun n hn => (hcp.2 n hn).trans (hj n hn)⟩, by rw [ht]; exact hP1, C1.2.2.2.2.2.2.2.2.2.2.2.1⟩, hS1.F ht⟩) hS1.2.2 dX6_copy_304 hlocks
theorem mm_clB (b : Nat) (h : b = 1 ∨ b = 2) : vg_closed mm_shp (mm_nm1 b) := by
  rcases h with rfl | rfl <;> exact vg_closed_of (by decide +kernel)
theorem mm_aB (b : Nat) (h : b = 1 ∨ b = 2) : vh_allB mm_shp (mm_nm1 b) (mm_pos1 0) cs_X6 = true := by
  rcases h with rfl | rfl <;> decide +kernel
theorem mm_ndB (b : Nat) (h : b = 1 ∨ b = 2) : va_nd ((mm_nm1 b).map (mm_pos1 0)) = true := by
  rcases h with rfl | rfl <;> decide +kernel
theorem mm_locB (b : Nat) (h : b = 1 ∨ b = 2) : ∀ n ∈ mm_nm1 b, n.2.1 = b := by
  rcases h with rfl | rfl <;> decide +kernel
theorem cp1_X6_copy : mm_Cp mm_nm 1 := cp_X6_copy mm_closed (by decide +kernel) (by decide +kernel) (by decide) (mm_clB 1 (Or.inl rfl)) (mm_aB 1 (Or.inl rfl)) (mm_ndB 1 (Or.inl rfl)) (mm_locB 1 (Or.inl rfl))
theorem cp2_X6_copy : mm_Cp (mm_nm ++ mm_nm1 1) 2 := cp_X6_copy (vm_closed2 mm_closed (mm_clB 1 (Or.inl rfl))) (by decide +kernel) (by decide +kernel) (by decide) (mm_clB 2 (Or.inr rfl)) (mm_aB 2 (Or.inr rfl)) (mm_ndB 2 (Or.inr rfl)) (mm_locB 2 (Or.inr rfl))
