-- words of the tables, and what stands at each place of the methods' code (laid by program)
theorem u_262 : Cond.fieldLink RX6 53 (TX6 10).1 (TX6 10).2.1 (TX6 10).2.2.1 ∈ ww_tb := by decide +kernel
theorem u_263 : Cond.fieldLink RX6 35 (TX6 7).1 (TX6 7).2.1 (TX6 7).2.2.1 ∈ ww_tb := by decide +kernel
theorem u_264 : Cond.fieldLink RX6 39 (TX6 14).1 (TX6 14).2.1 (TX6 14).2.2.1 ∈ ww_tb := by decide +kernel
theorem u_265 : Cond.fieldLink RX6 68 (TX6 15).1 (TX6 15).2.1 (TX6 15).2.2.1 ∈ ww_tb := by decide +kernel
theorem u_266 : Cond.code yX6_isDanger cX6_isDanger 2 (some .boolean) ∈ ww_tb := by decide +kernel
theorem u_267 : Cond.initialized RX6 ∈ ww_tb := by decide +kernel
theorem u_268 : Cond.methodLink RX6 114 yX6_isDanger ∈ ww_tb := by decide +kernel
theorem u_269 : Cond.instanceMethod yX6_isDanger ∈ ww_tb := by decide +kernel
theorem u_270 : Cond.selects RX6 yX6_isDanger yX6_isDanger ∈ ww_tb := by decide +kernel
theorem u_271 : Cond.code yX6_minute cX6_minute 7 (some .int) ∈ ww_tb := by decide +kernel
theorem u_272 : Cond.methodLink RX7 147 yX6_minute ∈ ww_tb := by decide +kernel
theorem u_273 : Cond.instanceMethod yX6_minute ∈ ww_tb := by decide +kernel
theorem u_274 : Cond.selects RX6 yX6_minute yX6_minute ∈ ww_tb := by decide +kernel
theorem u_275 : Cond.methodLink RX7 134 yX6_isDanger ∈ ww_tb := by decide +kernel
theorem u_276 : Cond.fieldLink RX7 169 (TX6 15).1 (TX6 15).2.1 (TX6 15).2.2.1 ∈ ww_tb := by decide +kernel
theorem u_277 : Cond.code yX7_manyNow cX7_manyNow 9 (some .int) ∈ ww_tb := by decide +kernel
theorem u_278 : Cond.methodLink RX7 172 yX7_manyNow ∈ ww_tb := by decide +kernel
theorem u_279 : Cond.instanceMethod yX7_manyNow ∈ ww_tb := by decide +kernel
theorem u_280 : Cond.selects RX7 yX7_manyNow yX7_manyNow ∈ ww_tb := by decide +kernel
theorem dX6_minute_0 : decode cX6_minute 0 = .ok (.aload_n 0, 1) := by decide +kernel
theorem dX6_minute_1 : decode cX6_minute 1 = .ok (.dup, 1) := by decide +kernel
theorem dX6_minute_2 : decode cX6_minute 2 = .ok (.getfield 65, 3) := by decide +kernel
theorem dX6_minute_5 : decode cX6_minute 5 = .ok (.iconst 1, 1) := by decide +kernel
theorem dX6_minute_6 : decode cX6_minute 6 = .ok (.iadd, 1) := by decide +kernel
theorem dX6_minute_7 : decode cX6_minute 7 = .ok (.putfield 65, 3) := by decide +kernel
theorem dX6_minute_10 : decode cX6_minute 10 = .ok (.bipush 8, 2) := by decide +kernel
theorem dX6_minute_12 : decode cX6_minute 12 = .ok (.newarray .boolean, 2) := by decide +kernel
theorem dX6_minute_14 : decode cX6_minute 14 = .ok (.astore_n 1, 1) := by decide +kernel
theorem dX6_minute_15 : decode cX6_minute 15 = .ok (.iconst 0, 1) := by decide +kernel
theorem dX6_minute_16 : decode cX6_minute 16 = .ok (.istore_n 2, 1) := by decide +kernel
theorem dX6_minute_17 : decode cX6_minute 17 = .ok (.iload_n 2, 1) := by decide +kernel
theorem dX6_minute_18 : decode cX6_minute 18 = .ok (.aload_n 0, 1) := by decide +kernel
theorem dX6_minute_19 : decode cX6_minute 19 = .ok (.getfield 44, 3) := by decide +kernel
theorem dX6_minute_22 : decode cX6_minute 22 = .ok (.if_icmp .ge 50, 3) := by decide +kernel
theorem dX6_minute_25 : decode cX6_minute 25 = .ok (.aload_n 1, 1) := by decide +kernel
theorem dX6_minute_26 : decode cX6_minute 26 = .ok (.iload_n 2, 1) := by decide +kernel
theorem dX6_minute_27 : decode cX6_minute 27 = .ok (.aload_n 0, 1) := by decide +kernel
theorem dX6_minute_28 : decode cX6_minute 28 = .ok (.iload_n 2, 1) := by decide +kernel
theorem dX6_minute_29 : decode cX6_minute 29 = .ok (.invokevirtual 97, 3) := by decide +kernel
theorem dX6_minute_32 : decode cX6_minute 32 = .ok (.bastore, 1) := by decide +kernel
theorem dX6_minute_33 : decode cX6_minute 33 = .ok (.iconst 0, 1) := by decide +kernel
theorem dX6_minute_34 : decode cX6_minute 34 = .ok (.istore_n 3, 1) := by decide +kernel
theorem dX6_minute_35 : decode cX6_minute 35 = .ok (.iload_n 3, 1) := by decide +kernel
theorem dX6_minute_36 : decode cX6_minute 36 = .ok (.aload_n 0, 1) := by decide +kernel
theorem dX6_minute_37 : decode cX6_minute 37 = .ok (.getfield 53, 3) := by decide +kernel
theorem dX6_minute_40 : decode cX6_minute 40 = .ok (.if_icmp .ge 26, 3) := by decide +kernel
theorem dX6_minute_43 : decode cX6_minute 43 = .ok (.aload_n 0, 1) := by decide +kernel
theorem dX6_minute_44 : decode cX6_minute 44 = .ok (.getfield 35, 3) := by decide +kernel
theorem dX6_minute_47 : decode cX6_minute 47 = .ok (.iload_n 2, 1) := by decide +kernel
theorem dX6_minute_48 : decode cX6_minute 48 = .ok (.bipush 12, 2) := by decide +kernel
theorem dX6_minute_50 : decode cX6_minute 50 = .ok (.imul, 1) := by decide +kernel
theorem dX6_minute_51 : decode cX6_minute 51 = .ok (.iload_n 3, 1) := by decide +kernel
theorem dX6_minute_52 : decode cX6_minute 52 = .ok (.iadd, 1) := by decide +kernel
theorem dX6_minute_53 : decode cX6_minute 53 = .ok (.aload_n 0, 1) := by decide +kernel
theorem dX6_minute_54 : decode cX6_minute 54 = .ok (.iload_n 2, 1) := by decide +kernel
theorem dX6_minute_55 : decode cX6_minute 55 = .ok (.iload_n 3, 1) := by decide +kernel
theorem dX6_minute_56 : decode cX6_minute 56 = .ok (.invokevirtual 79, 3) := by decide +kernel
theorem dX6_minute_59 : decode cX6_minute 59 = .ok (.bastore, 1) := by decide +kernel
theorem dX6_minute_60 : decode cX6_minute 60 = .ok (.iinc 3 1, 3) := by decide +kernel
theorem dX6_minute_63 : decode cX6_minute 63 = .ok (.goto (-28), 3) := by decide +kernel
theorem dX6_minute_66 : decode cX6_minute 66 = .ok (.iinc 2 1, 3) := by decide +kernel
theorem dX6_minute_69 : decode cX6_minute 69 = .ok (.goto (-52), 3) := by decide +kernel
theorem dX6_minute_72 : decode cX6_minute 72 = .ok (.bipush 12, 2) := by decide +kernel
theorem dX6_minute_74 : decode cX6_minute 74 = .ok (.newarray .int, 2) := by decide +kernel
theorem dX6_minute_76 : decode cX6_minute 76 = .ok (.astore_n 2, 1) := by decide +kernel
theorem dX6_minute_77 : decode cX6_minute 77 = .ok (.aload_n 0, 1) := by decide +kernel
theorem dX6_minute_78 : decode cX6_minute 78 = .ok (.getfield 39, 3) := by decide +kernel
theorem dX6_minute_81 : decode cX6_minute 81 = .ok (.istore_n 3, 1) := by decide +kernel
theorem dX6_minute_82 : decode cX6_minute 82 = .ok (.iconst 0, 1) := by decide +kernel
theorem dX6_minute_83 : decode cX6_minute 83 = .ok (.istore 4, 2) := by decide +kernel
theorem dX6_minute_85 : decode cX6_minute 85 = .ok (.iload 4, 2) := by decide +kernel
theorem dX6_minute_87 : decode cX6_minute 87 = .ok (.aload_n 0, 1) := by decide +kernel
theorem dX6_minute_88 : decode cX6_minute 88 = .ok (.getfield 53, 3) := by decide +kernel
theorem dX6_minute_91 : decode cX6_minute 91 = .ok (.if_icmp .ge 52, 3) := by decide +kernel
theorem dX6_minute_94 : decode cX6_minute 94 = .ok (.aload_n 2, 1) := by decide +kernel
theorem dX6_minute_95 : decode cX6_minute 95 = .ok (.iload 4, 2) := by decide +kernel
theorem dX6_minute_97 : decode cX6_minute 97 = .ok (.iload_n 3, 1) := by decide +kernel
theorem dX6_minute_98 : decode cX6_minute 98 = .ok (.ifCond .le 21, 3) := by decide +kernel
theorem dX6_minute_101 : decode cX6_minute 101 = .ok (.aload_n 0, 1) := by decide +kernel
theorem dX6_minute_102 : decode cX6_minute 102 = .ok (.iload 4, 2) := by decide +kernel
theorem dX6_minute_104 : decode cX6_minute 104 = .ok (.invokevirtual 75, 3) := by decide +kernel
theorem dX6_minute_107 : decode cX6_minute 107 = .ok (.ifCond .eq 12, 3) := by decide +kernel
theorem dX6_minute_110 : decode cX6_minute 110 = .ok (.aload_n 0, 1) := by decide +kernel
theorem dX6_minute_111 : decode cX6_minute 111 = .ok (.iload 4, 2) := by decide +kernel
theorem dX6_minute_113 : decode cX6_minute 113 = .ok (.invokevirtual 100, 3) := by decide +kernel
theorem dX6_minute_116 : decode cX6_minute 116 = .ok (.goto 4, 3) := by decide +kernel
theorem dX6_minute_119 : decode cX6_minute 119 = .ok (.iconst (-1), 1) := by decide +kernel
theorem dX6_minute_120 : decode cX6_minute 120 = .ok (.iastore, 1) := by decide +kernel
theorem dX6_minute_121 : decode cX6_minute 121 = .ok (.iload_n 3, 1) := by decide +kernel
theorem dX6_minute_122 : decode cX6_minute 122 = .ok (.aload_n 2, 1) := by decide +kernel
theorem dX6_minute_123 : decode cX6_minute 123 = .ok (.iload 4, 2) := by decide +kernel
theorem dX6_minute_125 : decode cX6_minute 125 = .ok (.iaload, 1) := by decide +kernel
theorem dX6_minute_126 : decode cX6_minute 126 = .ok (.iconst (-1), 1) := by decide +kernel
theorem dX6_minute_127 : decode cX6_minute 127 = .ok (.if_icmp .ne 7, 3) := by decide +kernel
theorem dX6_minute_130 : decode cX6_minute 130 = .ok (.iconst 0, 1) := by decide +kernel
theorem dX6_minute_131 : decode cX6_minute 131 = .ok (.goto 4, 3) := by decide +kernel
theorem dX6_minute_134 : decode cX6_minute 134 = .ok (.iconst 1, 1) := by decide +kernel
theorem dX6_minute_135 : decode cX6_minute 135 = .ok (.isub, 1) := by decide +kernel
theorem dX6_minute_136 : decode cX6_minute 136 = .ok (.istore_n 3, 1) := by decide +kernel
theorem dX6_minute_137 : decode cX6_minute 137 = .ok (.iinc 4 1, 3) := by decide +kernel
theorem dX6_minute_140 : decode cX6_minute 140 = .ok (.goto (-55), 3) := by decide +kernel
theorem dX6_minute_143 : decode cX6_minute 143 = .ok (.aload_n 0, 1) := by decide +kernel
theorem dX6_minute_144 : decode cX6_minute 144 = .ok (.dup, 1) := by decide +kernel
theorem dX6_minute_145 : decode cX6_minute 145 = .ok (.getfield 68, 3) := by decide +kernel
theorem dX6_minute_148 : decode cX6_minute 148 = .ok (.aload_n 0, 1) := by decide +kernel
theorem dX6_minute_149 : decode cX6_minute 149 = .ok (.getfield 39, 3) := by decide +kernel
theorem dX6_minute_152 : decode cX6_minute 152 = .ok (.iload_n 3, 1) := by decide +kernel
theorem dX6_minute_153 : decode cX6_minute 153 = .ok (.isub, 1) := by decide +kernel
theorem dX6_minute_154 : decode cX6_minute 154 = .ok (.iadd, 1) := by decide +kernel
theorem dX6_minute_155 : decode cX6_minute 155 = .ok (.putfield 68, 3) := by decide +kernel
theorem dX6_minute_158 : decode cX6_minute 158 = .ok (.iconst 0, 1) := by decide +kernel
theorem dX6_minute_159 : decode cX6_minute 159 = .ok (.istore 4, 2) := by decide +kernel
theorem dX6_minute_161 : decode cX6_minute 161 = .ok (.iconst 0, 1) := by decide +kernel
theorem dX6_minute_162 : decode cX6_minute 162 = .ok (.istore 5, 2) := by decide +kernel
theorem dX6_minute_164 : decode cX6_minute 164 = .ok (.iload 5, 2) := by decide +kernel
theorem dX6_minute_166 : decode cX6_minute 166 = .ok (.aload_n 0, 1) := by decide +kernel
theorem dX6_minute_167 : decode cX6_minute 167 = .ok (.getfield 44, 3) := by decide +kernel
theorem dX6_minute_170 : decode cX6_minute 170 = .ok (.if_icmp .ge 71, 3) := by decide +kernel
theorem dX6_minute_173 : decode cX6_minute 173 = .ok (.iconst 0, 1) := by decide +kernel
theorem dX6_minute_174 : decode cX6_minute 174 = .ok (.istore 6, 2) := by decide +kernel
theorem dX6_minute_176 : decode cX6_minute 176 = .ok (.iload 6, 2) := by decide +kernel
theorem dX6_minute_178 : decode cX6_minute 178 = .ok (.aload_n 0, 1) := by decide +kernel
theorem dX6_minute_179 : decode cX6_minute 179 = .ok (.getfield 53, 3) := by decide +kernel
theorem dX6_minute_182 : decode cX6_minute 182 = .ok (.if_icmp .ge 53, 3) := by decide +kernel
theorem dX6_minute_185 : decode cX6_minute 185 = .ok (.aload_n 0, 1) := by decide +kernel
theorem dX6_minute_186 : decode cX6_minute 186 = .ok (.iload 5, 2) := by decide +kernel
theorem dX6_minute_188 : decode cX6_minute 188 = .ok (.invokevirtual 86, 3) := by decide +kernel
theorem dX6_minute_191 : decode cX6_minute 191 = .ok (.ifCond .ne 38, 3) := by decide +kernel
theorem dX6_minute_194 : decode cX6_minute 194 = .ok (.aload_n 0, 1) := by decide +kernel
theorem dX6_minute_195 : decode cX6_minute 195 = .ok (.iload 6, 2) := by decide +kernel
theorem dX6_minute_197 : decode cX6_minute 197 = .ok (.invokevirtual 75, 3) := by decide +kernel
theorem dX6_minute_200 : decode cX6_minute 200 = .ok (.ifCond .eq 29, 3) := by decide +kernel
theorem dX6_minute_203 : decode cX6_minute 203 = .ok (.aload_n 0, 1) := by decide +kernel
theorem dX6_minute_204 : decode cX6_minute 204 = .ok (.iload 5, 2) := by decide +kernel
theorem dX6_minute_206 : decode cX6_minute 206 = .ok (.iload 6, 2) := by decide +kernel
theorem dX6_minute_208 : decode cX6_minute 208 = .ok (.aload_n 1, 1) := by decide +kernel
theorem dX6_minute_209 : decode cX6_minute 209 = .ok (.iload 5, 2) := by decide +kernel
theorem dX6_minute_211 : decode cX6_minute 211 = .ok (.baload, 1) := by decide +kernel
theorem dX6_minute_212 : decode cX6_minute 212 = .ok (.aload_n 2, 1) := by decide +kernel
theorem dX6_minute_213 : decode cX6_minute 213 = .ok (.iload 6, 2) := by decide +kernel
theorem dX6_minute_215 : decode cX6_minute 215 = .ok (.iaload, 1) := by decide +kernel
theorem dX6_minute_216 : decode cX6_minute 216 = .ok (.iload 5, 2) := by decide +kernel
theorem dX6_minute_218 : decode cX6_minute 218 = .ok (.if_icmp .ne 7, 3) := by decide +kernel
theorem dX6_minute_221 : decode cX6_minute 221 = .ok (.iconst 1, 1) := by decide +kernel
theorem dX6_minute_222 : decode cX6_minute 222 = .ok (.goto 4, 3) := by decide +kernel
theorem dX6_minute_225 : decode cX6_minute 225 = .ok (.iconst 0, 1) := by decide +kernel
theorem dX6_minute_226 : decode cX6_minute 226 = .ok (.invokevirtual 103, 3) := by decide +kernel
theorem dX6_minute_229 : decode cX6_minute 229 = .ok (.iinc 6 1, 3) := by decide +kernel
theorem dX6_minute_232 : decode cX6_minute 232 = .ok (.goto (-56), 3) := by decide +kernel
theorem dX6_minute_235 : decode cX6_minute 235 = .ok (.iinc 5 1, 3) := by decide +kernel
theorem dX6_minute_238 : decode cX6_minute 238 = .ok (.goto (-74), 3) := by decide +kernel
theorem dX6_minute_241 : decode cX6_minute 241 = .ok (.iconst 0, 1) := by decide +kernel
theorem dX6_minute_242 : decode cX6_minute 242 = .ok (.istore 5, 2) := by decide +kernel
theorem dX6_minute_244 : decode cX6_minute 244 = .ok (.iload 5, 2) := by decide +kernel
theorem dX6_minute_246 : decode cX6_minute 246 = .ok (.aload_n 0, 1) := by decide +kernel
theorem dX6_minute_247 : decode cX6_minute 247 = .ok (.getfield 44, 3) := by decide +kernel
theorem dX6_minute_250 : decode cX6_minute 250 = .ok (.if_icmp .ge 58, 3) := by decide +kernel
theorem dX6_minute_253 : decode cX6_minute 253 = .ok (.iconst 0, 1) := by decide +kernel
theorem dX6_minute_254 : decode cX6_minute 254 = .ok (.istore 6, 2) := by decide +kernel
theorem dX6_minute_256 : decode cX6_minute 256 = .ok (.iload 6, 2) := by decide +kernel
theorem dX6_minute_258 : decode cX6_minute 258 = .ok (.aload_n 0, 1) := by decide +kernel
theorem dX6_minute_259 : decode cX6_minute 259 = .ok (.getfield 53, 3) := by decide +kernel
theorem dX6_minute_262 : decode cX6_minute 262 = .ok (.if_icmp .ge 40, 3) := by decide +kernel
theorem dX6_minute_265 : decode cX6_minute 265 = .ok (.aload_n 0, 1) := by decide +kernel
theorem dX6_minute_266 : decode cX6_minute 266 = .ok (.iload 5, 2) := by decide +kernel
theorem dX6_minute_268 : decode cX6_minute 268 = .ok (.invokevirtual 86, 3) := by decide +kernel
theorem dX6_minute_271 : decode cX6_minute 271 = .ok (.ifCond .ne 25, 3) := by decide +kernel
theorem dX6_minute_274 : decode cX6_minute 274 = .ok (.aload_n 0, 1) := by decide +kernel
theorem dX6_minute_275 : decode cX6_minute 275 = .ok (.iload 6, 2) := by decide +kernel
theorem dX6_minute_277 : decode cX6_minute 277 = .ok (.invokevirtual 75, 3) := by decide +kernel
theorem dX6_minute_280 : decode cX6_minute 280 = .ok (.ifCond .eq 16, 3) := by decide +kernel
theorem dX6_minute_283 : decode cX6_minute 283 = .ok (.iload 4, 2) := by decide +kernel
theorem dX6_minute_285 : decode cX6_minute 285 = .ok (.aload_n 0, 1) := by decide +kernel
theorem dX6_minute_286 : decode cX6_minute 286 = .ok (.iload 5, 2) := by decide +kernel
theorem dX6_minute_288 : decode cX6_minute 288 = .ok (.iload 6, 2) := by decide +kernel
theorem dX6_minute_290 : decode cX6_minute 290 = .ok (.invokevirtual 107, 3) := by decide +kernel
theorem dX6_minute_293 : decode cX6_minute 293 = .ok (.iadd, 1) := by decide +kernel
theorem dX6_minute_294 : decode cX6_minute 294 = .ok (.istore 4, 2) := by decide +kernel
theorem dX6_minute_296 : decode cX6_minute 296 = .ok (.iinc 6 1, 3) := by decide +kernel
theorem dX6_minute_299 : decode cX6_minute 299 = .ok (.goto (-43), 3) := by decide +kernel
theorem dX6_minute_302 : decode cX6_minute 302 = .ok (.iinc 5 1, 3) := by decide +kernel
theorem dX6_minute_305 : decode cX6_minute 305 = .ok (.goto (-61), 3) := by decide +kernel
theorem dX6_minute_308 : decode cX6_minute 308 = .ok (.iconst 0, 1) := by decide +kernel
theorem dX6_minute_309 : decode cX6_minute 309 = .ok (.istore 5, 2) := by decide +kernel
theorem dX6_minute_311 : decode cX6_minute 311 = .ok (.iload 5, 2) := by decide +kernel
theorem dX6_minute_313 : decode cX6_minute 313 = .ok (.aload_n 0, 1) := by decide +kernel
theorem dX6_minute_314 : decode cX6_minute 314 = .ok (.getfield 44, 3) := by decide +kernel
theorem dX6_minute_317 : decode cX6_minute 317 = .ok (.if_icmp .ge 35, 3) := by decide +kernel
theorem dX6_minute_320 : decode cX6_minute 320 = .ok (.aload_n 0, 1) := by decide +kernel
theorem dX6_minute_321 : decode cX6_minute 321 = .ok (.iload 5, 2) := by decide +kernel
theorem dX6_minute_323 : decode cX6_minute 323 = .ok (.invokevirtual 86, 3) := by decide +kernel
theorem dX6_minute_326 : decode cX6_minute 326 = .ok (.ifCond .ne 20, 3) := by decide +kernel
theorem dX6_minute_329 : decode cX6_minute 329 = .ok (.aload_n 0, 1) := by decide +kernel
theorem dX6_minute_330 : decode cX6_minute 330 = .ok (.aload_n 0, 1) := by decide +kernel
theorem dX6_minute_331 : decode cX6_minute 331 = .ok (.getfield 11, 3) := by decide +kernel
theorem dX6_minute_334 : decode cX6_minute 334 = .ok (.iload 5, 2) := by decide +kernel
theorem dX6_minute_336 : decode cX6_minute 336 = .ok (.aaload, 1) := by decide +kernel
theorem dX6_minute_337 : decode cX6_minute 337 = .ok (.aload_n 0, 1) := by decide +kernel
theorem dX6_minute_338 : decode cX6_minute 338 = .ok (.iload 5, 2) := by decide +kernel
theorem dX6_minute_340 : decode cX6_minute 340 = .ok (.invokevirtual 89, 3) := by decide +kernel
theorem dX6_minute_343 : decode cX6_minute 343 = .ok (.invokevirtual 110, 3) := by decide +kernel
theorem dX6_minute_346 : decode cX6_minute 346 = .ok (.iinc 5 1, 3) := by decide +kernel
theorem dX6_minute_349 : decode cX6_minute 349 = .ok (.goto (-38), 3) := by decide +kernel
theorem dX6_minute_352 : decode cX6_minute 352 = .ok (.iconst 0, 1) := by decide +kernel
theorem dX6_minute_353 : decode cX6_minute 353 = .ok (.istore 5, 2) := by decide +kernel
theorem dX6_minute_355 : decode cX6_minute 355 = .ok (.iload 5, 2) := by decide +kernel
theorem dX6_minute_357 : decode cX6_minute 357 = .ok (.aload_n 0, 1) := by decide +kernel
theorem dX6_minute_358 : decode cX6_minute 358 = .ok (.getfield 44, 3) := by decide +kernel
theorem dX6_minute_361 : decode cX6_minute 361 = .ok (.if_icmp .ge 62, 3) := by decide +kernel
theorem dX6_minute_364 : decode cX6_minute 364 = .ok (.aload_n 0, 1) := by decide +kernel
theorem dX6_minute_365 : decode cX6_minute 365 = .ok (.iload 5, 2) := by decide +kernel
theorem dX6_minute_367 : decode cX6_minute 367 = .ok (.invokevirtual 86, 3) := by decide +kernel
theorem dX6_minute_370 : decode cX6_minute 370 = .ok (.ifCond .ne 47, 3) := by decide +kernel
theorem dX6_minute_373 : decode cX6_minute 373 = .ok (.aload_n 0, 1) := by decide +kernel
theorem dX6_minute_374 : decode cX6_minute 374 = .ok (.getfield 11, 3) := by decide +kernel
theorem dX6_minute_377 : decode cX6_minute 377 = .ok (.iload 5, 2) := by decide +kernel
theorem dX6_minute_379 : decode cX6_minute 379 = .ok (.aaload, 1) := by decide +kernel
theorem dX6_minute_380 : decode cX6_minute 380 = .ok (.bipush 6, 2) := by decide +kernel
theorem dX6_minute_382 : decode cX6_minute 382 = .ok (.iaload, 1) := by decide +kernel
theorem dX6_minute_383 : decode cX6_minute 383 = .ok (.iconst (-1), 1) := by decide +kernel
theorem dX6_minute_384 : decode cX6_minute 384 = .ok (.if_icmp .ne 33, 3) := by decide +kernel
theorem dX6_minute_387 : decode cX6_minute 387 = .ok (.aload_n 0, 1) := by decide +kernel
theorem dX6_minute_388 : decode cX6_minute 388 = .ok (.aload_n 0, 1) := by decide +kernel
theorem dX6_minute_389 : decode cX6_minute 389 = .ok (.getfield 11, 3) := by decide +kernel
theorem dX6_minute_392 : decode cX6_minute 392 = .ok (.iload 5, 2) := by decide +kernel
theorem dX6_minute_394 : decode cX6_minute 394 = .ok (.aaload, 1) := by decide +kernel
theorem dX6_minute_395 : decode cX6_minute 395 = .ok (.iconst 0, 1) := by decide +kernel
theorem dX6_minute_396 : decode cX6_minute 396 = .ok (.iaload, 1) := by decide +kernel
theorem dX6_minute_397 : decode cX6_minute 397 = .ok (.invokevirtual 114, 3) := by decide +kernel
theorem dX6_minute_400 : decode cX6_minute 400 = .ok (.ifCond .eq 17, 3) := by decide +kernel
theorem dX6_minute_403 : decode cX6_minute 403 = .ok (.aload_n 0, 1) := by decide +kernel
theorem dX6_minute_404 : decode cX6_minute 404 = .ok (.getfield 11, 3) := by decide +kernel
theorem dX6_minute_407 : decode cX6_minute 407 = .ok (.iload 5, 2) := by decide +kernel
theorem dX6_minute_409 : decode cX6_minute 409 = .ok (.aaload, 1) := by decide +kernel
theorem dX6_minute_410 : decode cX6_minute 410 = .ok (.bipush 7, 2) := by decide +kernel
theorem dX6_minute_412 : decode cX6_minute 412 = .ok (.dup2, 1) := by decide +kernel
theorem dX6_minute_413 : decode cX6_minute 413 = .ok (.iaload, 1) := by decide +kernel
theorem dX6_minute_414 : decode cX6_minute 414 = .ok (.iconst 1, 1) := by decide +kernel
theorem dX6_minute_415 : decode cX6_minute 415 = .ok (.iadd, 1) := by decide +kernel
theorem dX6_minute_416 : decode cX6_minute 416 = .ok (.iastore, 1) := by decide +kernel
theorem dX6_minute_417 : decode cX6_minute 417 = .ok (.iinc 5 1, 3) := by decide +kernel
theorem dX6_minute_420 : decode cX6_minute 420 = .ok (.goto (-65), 3) := by decide +kernel
theorem dX6_minute_423 : decode cX6_minute 423 = .ok (.iload 4, 2) := by decide +kernel
theorem dX6_minute_425 : decode cX6_minute 425 = .ok (.ireturn, 1) := by decide +kernel
theorem dX7_pass_0 : decode cX7_pass 0 = .ok (.aload_n 0, 1) := by decide +kernel
theorem dX7_pass_1 : decode cX7_pass 1 = .ok (.iconst 0, 1) := by decide +kernel
theorem dX7_pass_2 : decode cX7_pass 2 = .ok (.putfield 20, 3) := by decide +kernel
theorem dX7_pass_5 : decode cX7_pass 5 = .ok (.iload_n 1, 1) := by decide +kernel
theorem dX7_pass_6 : decode cX7_pass 6 = .ok (.iconst 1, 1) := by decide +kernel
theorem dX7_pass_7 : decode cX7_pass 7 = .ok (.bipush 60, 2) := by decide +kernel
theorem dX7_pass_9 : decode cX7_pass 9 = .ok (.invokestatic 29, 3) := by decide +kernel
theorem dX7_pass_12 : decode cX7_pass 12 = .ok (.ifCond .ne 9, 3) := by decide +kernel
theorem dX7_pass_15 : decode cX7_pass 15 = .ok (.aload_n 0, 1) := by decide +kernel
theorem dX7_pass_16 : decode cX7_pass 16 = .ok (.iconst 1, 1) := by decide +kernel
theorem dX7_pass_17 : decode cX7_pass 17 = .ok (.invokevirtual 43, 3) := by decide +kernel
theorem dX7_pass_20 : decode cX7_pass 20 = .ok (.ireturn, 1) := by decide +kernel
theorem dX7_pass_21 : decode cX7_pass 21 = .ok (.aload_n 0, 1) := by decide +kernel
theorem dX7_pass_22 : decode cX7_pass 22 = .ok (.getfield 10, 3) := by decide +kernel
theorem dX7_pass_25 : decode cX7_pass 25 = .ok (.getfield 100, 3) := by decide +kernel
theorem dX7_pass_28 : decode cX7_pass 28 = .ok (.iload_n 1, 1) := by decide +kernel
theorem dX7_pass_29 : decode cX7_pass 29 = .ok (.iadd, 1) := by decide +kernel
theorem dX7_pass_30 : decode cX7_pass 30 = .ok (.sipush 9999, 3) := by decide +kernel
theorem dX7_pass_33 : decode cX7_pass 33 = .ok (.if_icmp .le 9, 3) := by decide +kernel
theorem dX7_pass_36 : decode cX7_pass 36 = .ok (.aload_n 0, 1) := by decide +kernel
theorem dX7_pass_37 : decode cX7_pass 37 = .ok (.iconst 2, 1) := by decide +kernel
theorem dX7_pass_38 : decode cX7_pass 38 = .ok (.invokevirtual 43, 3) := by decide +kernel
theorem dX7_pass_41 : decode cX7_pass 41 = .ok (.ireturn, 1) := by decide +kernel
theorem dX7_pass_42 : decode cX7_pass 42 = .ok (.iconst 0, 1) := by decide +kernel
theorem dX7_pass_43 : decode cX7_pass 43 = .ok (.istore_n 2, 1) := by decide +kernel
theorem dX7_pass_44 : decode cX7_pass 44 = .ok (.iconst 0, 1) := by decide +kernel
theorem dX7_pass_45 : decode cX7_pass 45 = .ok (.istore_n 3, 1) := by decide +kernel
theorem dX7_pass_46 : decode cX7_pass 46 = .ok (.iload_n 3, 1) := by decide +kernel
theorem dX7_pass_47 : decode cX7_pass 47 = .ok (.iload_n 1, 1) := by decide +kernel
theorem dX7_pass_48 : decode cX7_pass 48 = .ok (.if_icmp .ge 19, 3) := by decide +kernel
theorem dX7_pass_51 : decode cX7_pass 51 = .ok (.iload_n 2, 1) := by decide +kernel
theorem dX7_pass_52 : decode cX7_pass 52 = .ok (.aload_n 0, 1) := by decide +kernel
theorem dX7_pass_53 : decode cX7_pass 53 = .ok (.getfield 10, 3) := by decide +kernel
theorem dX7_pass_56 : decode cX7_pass 56 = .ok (.invokevirtual 147, 3) := by decide +kernel
theorem dX7_pass_59 : decode cX7_pass 59 = .ok (.iadd, 1) := by decide +kernel
theorem dX7_pass_60 : decode cX7_pass 60 = .ok (.istore_n 2, 1) := by decide +kernel
theorem dX7_pass_61 : decode cX7_pass 61 = .ok (.iinc 3 1, 3) := by decide +kernel
theorem dX7_pass_64 : decode cX7_pass 64 = .ok (.goto (-18), 3) := by decide +kernel
theorem dX7_pass_67 : decode cX7_pass 67 = .ok (.iload_n 2, 1) := by decide +kernel
theorem dX7_pass_68 : decode cX7_pass 68 = .ok (.ireturn, 1) := by decide +kernel
theorem dX7_manyNow_0 : decode cX7_manyNow 0 = .ok (.iconst 0, 1) := by decide +kernel
theorem dX7_manyNow_1 : decode cX7_manyNow 1 = .ok (.istore_n 2, 1) := by decide +kernel
theorem dX7_manyNow_2 : decode cX7_manyNow 2 = .ok (.iconst 0, 1) := by decide +kernel
theorem dX7_manyNow_3 : decode cX7_manyNow 3 = .ok (.istore_n 3, 1) := by decide +kernel
theorem dX7_manyNow_4 : decode cX7_manyNow 4 = .ok (.iconst 0, 1) := by decide +kernel
theorem dX7_manyNow_5 : decode cX7_manyNow 5 = .ok (.istore 4, 2) := by decide +kernel
theorem dX7_manyNow_7 : decode cX7_manyNow 7 = .ok (.iconst 0, 1) := by decide +kernel
theorem dX7_manyNow_8 : decode cX7_manyNow 8 = .ok (.istore 5, 2) := by decide +kernel
theorem dX7_manyNow_10 : decode cX7_manyNow 10 = .ok (.iconst 0, 1) := by decide +kernel
theorem dX7_manyNow_11 : decode cX7_manyNow 11 = .ok (.istore 6, 2) := by decide +kernel
theorem dX7_manyNow_13 : decode cX7_manyNow 13 = .ok (.iconst 0, 1) := by decide +kernel
theorem dX7_manyNow_14 : decode cX7_manyNow 14 = .ok (.istore 7, 2) := by decide +kernel
theorem dX7_manyNow_16 : decode cX7_manyNow 16 = .ok (.iload 7, 2) := by decide +kernel
theorem dX7_manyNow_18 : decode cX7_manyNow 18 = .ok (.aload_n 0, 1) := by decide +kernel
theorem dX7_manyNow_19 : decode cX7_manyNow 19 = .ok (.getfield 10, 3) := by decide +kernel
theorem dX7_manyNow_22 : decode cX7_manyNow 22 = .ok (.getfield 33, 3) := by decide +kernel
theorem dX7_manyNow_25 : decode cX7_manyNow 25 = .ok (.if_icmp .ge 95, 3) := by decide +kernel
theorem dX7_manyNow_28 : decode cX7_manyNow 28 = .ok (.aload_n 0, 1) := by decide +kernel
theorem dX7_manyNow_29 : decode cX7_manyNow 29 = .ok (.getfield 10, 3) := by decide +kernel
theorem dX7_manyNow_32 : decode cX7_manyNow 32 = .ok (.getfield 46, 3) := by decide +kernel
theorem dX7_manyNow_35 : decode cX7_manyNow 35 = .ok (.iload 7, 2) := by decide +kernel
theorem dX7_manyNow_37 : decode cX7_manyNow 37 = .ok (.aaload, 1) := by decide +kernel
theorem dX7_manyNow_38 : decode cX7_manyNow 38 = .ok (.astore 8, 2) := by decide +kernel
theorem dX7_manyNow_40 : decode cX7_manyNow 40 = .ok (.iload_n 2, 1) := by decide +kernel
theorem dX7_manyNow_41 : decode cX7_manyNow 41 = .ok (.aload 8, 2) := by decide +kernel
theorem dX7_manyNow_43 : decode cX7_manyNow 43 = .ok (.iconst 1, 1) := by decide +kernel
theorem dX7_manyNow_44 : decode cX7_manyNow 44 = .ok (.iaload, 1) := by decide +kernel
theorem dX7_manyNow_45 : decode cX7_manyNow 45 = .ok (.iadd, 1) := by decide +kernel
theorem dX7_manyNow_46 : decode cX7_manyNow 46 = .ok (.istore_n 2, 1) := by decide +kernel
theorem dX7_manyNow_47 : decode cX7_manyNow 47 = .ok (.iload_n 3, 1) := by decide +kernel
theorem dX7_manyNow_48 : decode cX7_manyNow 48 = .ok (.aload 8, 2) := by decide +kernel
theorem dX7_manyNow_50 : decode cX7_manyNow 50 = .ok (.bipush 6, 2) := by decide +kernel
theorem dX7_manyNow_52 : decode cX7_manyNow 52 = .ok (.iaload, 1) := by decide +kernel
theorem dX7_manyNow_53 : decode cX7_manyNow 53 = .ok (.iconst (-1), 1) := by decide +kernel
theorem dX7_manyNow_54 : decode cX7_manyNow 54 = .ok (.if_icmp .ne 7, 3) := by decide +kernel
theorem dX7_manyNow_57 : decode cX7_manyNow 57 = .ok (.iconst 0, 1) := by decide +kernel
theorem dX7_manyNow_58 : decode cX7_manyNow 58 = .ok (.goto 7, 3) := by decide +kernel
theorem dX7_manyNow_61 : decode cX7_manyNow 61 = .ok (.aload 8, 2) := by decide +kernel
theorem dX7_manyNow_63 : decode cX7_manyNow 63 = .ok (.iconst 1, 1) := by decide +kernel
theorem dX7_manyNow_64 : decode cX7_manyNow 64 = .ok (.iaload, 1) := by decide +kernel
theorem dX7_manyNow_65 : decode cX7_manyNow 65 = .ok (.iadd, 1) := by decide +kernel
theorem dX7_manyNow_66 : decode cX7_manyNow 66 = .ok (.istore_n 3, 1) := by decide +kernel
theorem dX7_manyNow_67 : decode cX7_manyNow 67 = .ok (.iload 4, 2) := by decide +kernel
theorem dX7_manyNow_69 : decode cX7_manyNow 69 = .ok (.aload_n 0, 1) := by decide +kernel
theorem dX7_manyNow_70 : decode cX7_manyNow 70 = .ok (.getfield 10, 3) := by decide +kernel
theorem dX7_manyNow_73 : decode cX7_manyNow 73 = .ok (.iload 7, 2) := by decide +kernel
theorem dX7_manyNow_75 : decode cX7_manyNow 75 = .ok (.invokevirtual 131, 3) := by decide +kernel
theorem dX7_manyNow_78 : decode cX7_manyNow 78 = .ok (.ifCond .eq 10, 3) := by decide +kernel
theorem dX7_manyNow_81 : decode cX7_manyNow 81 = .ok (.aload 8, 2) := by decide +kernel
theorem dX7_manyNow_83 : decode cX7_manyNow 83 = .ok (.iconst 1, 1) := by decide +kernel
theorem dX7_manyNow_84 : decode cX7_manyNow 84 = .ok (.iaload, 1) := by decide +kernel
theorem dX7_manyNow_85 : decode cX7_manyNow 85 = .ok (.goto 4, 3) := by decide +kernel
theorem dX7_manyNow_88 : decode cX7_manyNow 88 = .ok (.iconst 0, 1) := by decide +kernel
theorem dX7_manyNow_89 : decode cX7_manyNow 89 = .ok (.iadd, 1) := by decide +kernel
theorem dX7_manyNow_90 : decode cX7_manyNow 90 = .ok (.istore 4, 2) := by decide +kernel
theorem dX7_manyNow_92 : decode cX7_manyNow 92 = .ok (.iload 5, 2) := by decide +kernel
theorem dX7_manyNow_94 : decode cX7_manyNow 94 = .ok (.aload_n 0, 1) := by decide +kernel
theorem dX7_manyNow_95 : decode cX7_manyNow 95 = .ok (.getfield 10, 3) := by decide +kernel
theorem dX7_manyNow_98 : decode cX7_manyNow 98 = .ok (.iload 7, 2) := by decide +kernel
theorem dX7_manyNow_100 : decode cX7_manyNow 100 = .ok (.invokevirtual 154, 3) := by decide +kernel
theorem dX7_manyNow_103 : decode cX7_manyNow 103 = .ok (.ifCond .eq 7, 3) := by decide +kernel
theorem dX7_manyNow_106 : decode cX7_manyNow 106 = .ok (.iconst 1, 1) := by decide +kernel
theorem dX7_manyNow_107 : decode cX7_manyNow 107 = .ok (.goto 4, 3) := by decide +kernel
theorem dX7_manyNow_110 : decode cX7_manyNow 110 = .ok (.iconst 0, 1) := by decide +kernel
theorem dX7_manyNow_111 : decode cX7_manyNow 111 = .ok (.iadd, 1) := by decide +kernel
theorem dX7_manyNow_112 : decode cX7_manyNow 112 = .ok (.istore 5, 2) := by decide +kernel
theorem dX7_manyNow_114 : decode cX7_manyNow 114 = .ok (.iinc 7 1, 3) := by decide +kernel
theorem dX7_manyNow_117 : decode cX7_manyNow 117 = .ok (.goto (-101), 3) := by decide +kernel
theorem dX7_manyNow_120 : decode cX7_manyNow 120 = .ok (.iconst 0, 1) := by decide +kernel
theorem dX7_manyNow_121 : decode cX7_manyNow 121 = .ok (.istore 7, 2) := by decide +kernel
theorem dX7_manyNow_123 : decode cX7_manyNow 123 = .ok (.iload 7, 2) := by decide +kernel
theorem dX7_manyNow_125 : decode cX7_manyNow 125 = .ok (.bipush 16, 2) := by decide +kernel
theorem dX7_manyNow_127 : decode cX7_manyNow 127 = .ok (.if_icmp .ge 34, 3) := by decide +kernel
theorem dX7_manyNow_130 : decode cX7_manyNow 130 = .ok (.iload 6, 2) := by decide +kernel
theorem dX7_manyNow_132 : decode cX7_manyNow 132 = .ok (.aload_n 0, 1) := by decide +kernel
theorem dX7_manyNow_133 : decode cX7_manyNow 133 = .ok (.getfield 10, 3) := by decide +kernel
theorem dX7_manyNow_136 : decode cX7_manyNow 136 = .ok (.iload 7, 2) := by decide +kernel
theorem dX7_manyNow_138 : decode cX7_manyNow 138 = .ok (.invokevirtual 134, 3) := by decide +kernel
theorem dX7_manyNow_141 : decode cX7_manyNow 141 = .ok (.ifCond .eq 10, 3) := by decide +kernel
theorem dX7_manyNow_144 : decode cX7_manyNow 144 = .ok (.iconst 1, 1) := by decide +kernel
theorem dX7_manyNow_145 : decode cX7_manyNow 145 = .ok (.iload 7, 2) := by decide +kernel
theorem dX7_manyNow_147 : decode cX7_manyNow 147 = .ok (.ishl, 1) := by decide +kernel
theorem dX7_manyNow_148 : decode cX7_manyNow 148 = .ok (.goto 4, 3) := by decide +kernel
theorem dX7_manyNow_151 : decode cX7_manyNow 151 = .ok (.iconst 0, 1) := by decide +kernel
theorem dX7_manyNow_152 : decode cX7_manyNow 152 = .ok (.iadd, 1) := by decide +kernel
theorem dX7_manyNow_153 : decode cX7_manyNow 153 = .ok (.istore 6, 2) := by decide +kernel
theorem dX7_manyNow_155 : decode cX7_manyNow 155 = .ok (.iinc 7 1, 3) := by decide +kernel
theorem dX7_manyNow_158 : decode cX7_manyNow 158 = .ok (.goto (-35), 3) := by decide +kernel
theorem dX7_manyNow_161 : decode cX7_manyNow 161 = .ok (.bipush 12, 2) := by decide +kernel
theorem dX7_manyNow_163 : decode cX7_manyNow 163 = .ok (.newarray .int, 2) := by decide +kernel
theorem dX7_manyNow_165 : decode cX7_manyNow 165 = .ok (.dup, 1) := by decide +kernel
theorem dX7_manyNow_166 : decode cX7_manyNow 166 = .ok (.iconst 0, 1) := by decide +kernel
theorem dX7_manyNow_167 : decode cX7_manyNow 167 = .ok (.aload_n 0, 1) := by decide +kernel
theorem dX7_manyNow_168 : decode cX7_manyNow 168 = .ok (.getfield 10, 3) := by decide +kernel
theorem dX7_manyNow_171 : decode cX7_manyNow 171 = .ok (.getfield 100, 3) := by decide +kernel
theorem dX7_manyNow_174 : decode cX7_manyNow 174 = .ok (.iastore, 1) := by decide +kernel
theorem dX7_manyNow_175 : decode cX7_manyNow 175 = .ok (.dup, 1) := by decide +kernel
theorem dX7_manyNow_176 : decode cX7_manyNow 176 = .ok (.iconst 1, 1) := by decide +kernel
theorem dX7_manyNow_177 : decode cX7_manyNow 177 = .ok (.aload_n 0, 1) := by decide +kernel
theorem dX7_manyNow_178 : decode cX7_manyNow 178 = .ok (.getfield 10, 3) := by decide +kernel
theorem dX7_manyNow_181 : decode cX7_manyNow 181 = .ok (.getfield 100, 3) := by decide +kernel
theorem dX7_manyNow_184 : decode cX7_manyNow 184 = .ok (.bipush 60, 2) := by decide +kernel
theorem dX7_manyNow_186 : decode cX7_manyNow 186 = .ok (.idiv, 1) := by decide +kernel
theorem dX7_manyNow_187 : decode cX7_manyNow 187 = .ok (.bipush 24, 2) := by decide +kernel
theorem dX7_manyNow_189 : decode cX7_manyNow 189 = .ok (.irem, 1) := by decide +kernel
theorem dX7_manyNow_190 : decode cX7_manyNow 190 = .ok (.iastore, 1) := by decide +kernel
theorem dX7_manyNow_191 : decode cX7_manyNow 191 = .ok (.dup, 1) := by decide +kernel
theorem dX7_manyNow_192 : decode cX7_manyNow 192 = .ok (.iconst 2, 1) := by decide +kernel
theorem dX7_manyNow_193 : decode cX7_manyNow 193 = .ok (.aload_n 0, 1) := by decide +kernel
theorem dX7_manyNow_194 : decode cX7_manyNow 194 = .ok (.getfield 10, 3) := by decide +kernel
theorem dX7_manyNow_197 : decode cX7_manyNow 197 = .ok (.getfield 33, 3) := by decide +kernel
theorem dX7_manyNow_200 : decode cX7_manyNow 200 = .ok (.iastore, 1) := by decide +kernel
theorem dX7_manyNow_201 : decode cX7_manyNow 201 = .ok (.dup, 1) := by decide +kernel
theorem dX7_manyNow_202 : decode cX7_manyNow 202 = .ok (.iconst 3, 1) := by decide +kernel
theorem dX7_manyNow_203 : decode cX7_manyNow 203 = .ok (.iload_n 2, 1) := by decide +kernel
theorem dX7_manyNow_204 : decode cX7_manyNow 204 = .ok (.iastore, 1) := by decide +kernel
theorem dX7_manyNow_205 : decode cX7_manyNow 205 = .ok (.dup, 1) := by decide +kernel
theorem dX7_manyNow_206 : decode cX7_manyNow 206 = .ok (.iconst 4, 1) := by decide +kernel
theorem dX7_manyNow_207 : decode cX7_manyNow 207 = .ok (.iload_n 3, 1) := by decide +kernel
theorem dX7_manyNow_208 : decode cX7_manyNow 208 = .ok (.iastore, 1) := by decide +kernel
theorem dX7_manyNow_209 : decode cX7_manyNow 209 = .ok (.dup, 1) := by decide +kernel
theorem dX7_manyNow_210 : decode cX7_manyNow 210 = .ok (.iconst 5, 1) := by decide +kernel
theorem dX7_manyNow_211 : decode cX7_manyNow 211 = .ok (.iload 4, 2) := by decide +kernel
theorem dX7_manyNow_213 : decode cX7_manyNow 213 = .ok (.iastore, 1) := by decide +kernel
theorem dX7_manyNow_214 : decode cX7_manyNow 214 = .ok (.dup, 1) := by decide +kernel
theorem dX7_manyNow_215 : decode cX7_manyNow 215 = .ok (.bipush 6, 2) := by decide +kernel
theorem dX7_manyNow_217 : decode cX7_manyNow 217 = .ok (.aload_n 0, 1) := by decide +kernel
theorem dX7_manyNow_218 : decode cX7_manyNow 218 = .ok (.getfield 10, 3) := by decide +kernel
theorem dX7_manyNow_221 : decode cX7_manyNow 221 = .ok (.getfield 36, 3) := by decide +kernel
theorem dX7_manyNow_224 : decode cX7_manyNow 224 = .ok (.iastore, 1) := by decide +kernel
theorem dX7_manyNow_225 : decode cX7_manyNow 225 = .ok (.dup, 1) := by decide +kernel
theorem dX7_manyNow_226 : decode cX7_manyNow 226 = .ok (.bipush 7, 2) := by decide +kernel
theorem dX7_manyNow_228 : decode cX7_manyNow 228 = .ok (.aload_n 0, 1) := by decide +kernel
theorem dX7_manyNow_229 : decode cX7_manyNow 229 = .ok (.invokevirtual 151, 3) := by decide +kernel
theorem dX7_manyNow_232 : decode cX7_manyNow 232 = .ok (.iastore, 1) := by decide +kernel
theorem dX7_manyNow_233 : decode cX7_manyNow 233 = .ok (.dup, 1) := by decide +kernel
theorem dX7_manyNow_234 : decode cX7_manyNow 234 = .ok (.bipush 8, 2) := by decide +kernel
theorem dX7_manyNow_236 : decode cX7_manyNow 236 = .ok (.iload 6, 2) := by decide +kernel
theorem dX7_manyNow_238 : decode cX7_manyNow 238 = .ok (.iastore, 1) := by decide +kernel
theorem dX7_manyNow_239 : decode cX7_manyNow 239 = .ok (.dup, 1) := by decide +kernel
theorem dX7_manyNow_240 : decode cX7_manyNow 240 = .ok (.bipush 9, 2) := by decide +kernel
theorem dX7_manyNow_242 : decode cX7_manyNow 242 = .ok (.iload 5, 2) := by decide +kernel
theorem dX7_manyNow_244 : decode cX7_manyNow 244 = .ok (.iastore, 1) := by decide +kernel
theorem dX7_manyNow_245 : decode cX7_manyNow 245 = .ok (.dup, 1) := by decide +kernel
theorem dX7_manyNow_246 : decode cX7_manyNow 246 = .ok (.bipush 10, 2) := by decide +kernel
theorem dX7_manyNow_248 : decode cX7_manyNow 248 = .ok (.aload_n 0, 1) := by decide +kernel
theorem dX7_manyNow_249 : decode cX7_manyNow 249 = .ok (.getfield 10, 3) := by decide +kernel
theorem dX7_manyNow_252 : decode cX7_manyNow 252 = .ok (.getfield 169, 3) := by decide +kernel
theorem dX7_manyNow_255 : decode cX7_manyNow 255 = .ok (.iastore, 1) := by decide +kernel
theorem dX7_manyNow_256 : decode cX7_manyNow 256 = .ok (.dup, 1) := by decide +kernel
theorem dX7_manyNow_257 : decode cX7_manyNow 257 = .ok (.bipush 11, 2) := by decide +kernel
theorem dX7_manyNow_259 : decode cX7_manyNow 259 = .ok (.aload_n 0, 1) := by decide +kernel
theorem dX7_manyNow_260 : decode cX7_manyNow 260 = .ok (.getfield 16, 3) := by decide +kernel
theorem dX7_manyNow_263 : decode cX7_manyNow 263 = .ok (.iastore, 1) := by decide +kernel
theorem dX7_manyNow_264 : decode cX7_manyNow 264 = .ok (.astore 7, 2) := by decide +kernel
theorem dX7_manyNow_266 : decode cX7_manyNow 266 = .ok (.aload 7, 2) := by decide +kernel
theorem dX7_manyNow_268 : decode cX7_manyNow 268 = .ok (.iload_n 1, 1) := by decide +kernel
theorem dX7_manyNow_269 : decode cX7_manyNow 269 = .ok (.iaload, 1) := by decide +kernel
theorem dX7_manyNow_270 : decode cX7_manyNow 270 = .ok (.ireturn, 1) := by decide +kernel
theorem dX7_many_0 : decode cX7_many 0 = .ok (.aload_n 0, 1) := by decide +kernel
theorem dX7_many_1 : decode cX7_many 1 = .ok (.iconst 0, 1) := by decide +kernel
theorem dX7_many_2 : decode cX7_many 2 = .ok (.putfield 20, 3) := by decide +kernel
theorem dX7_many_5 : decode cX7_many 5 = .ok (.iload_n 1, 1) := by decide +kernel
theorem dX7_many_6 : decode cX7_many 6 = .ok (.iconst 0, 1) := by decide +kernel
theorem dX7_many_7 : decode cX7_many 7 = .ok (.bipush 11, 2) := by decide +kernel
theorem dX7_many_9 : decode cX7_many 9 = .ok (.invokestatic 29, 3) := by decide +kernel
theorem dX7_many_12 : decode cX7_many 12 = .ok (.ifCond .ne 9, 3) := by decide +kernel
theorem dX7_many_15 : decode cX7_many 15 = .ok (.aload_n 0, 1) := by decide +kernel
theorem dX7_many_16 : decode cX7_many 16 = .ok (.iconst 1, 1) := by decide +kernel
theorem dX7_many_17 : decode cX7_many 17 = .ok (.invokevirtual 43, 3) := by decide +kernel
theorem dX7_many_20 : decode cX7_many 20 = .ok (.ireturn, 1) := by decide +kernel
theorem dX7_many_21 : decode cX7_many 21 = .ok (.aload_n 0, 1) := by decide +kernel
theorem dX7_many_22 : decode cX7_many 22 = .ok (.iload_n 1, 1) := by decide +kernel
theorem dX7_many_23 : decode cX7_many 23 = .ok (.invokevirtual 172, 3) := by decide +kernel
theorem dX7_many_26 : decode cX7_many 26 = .ok (.ireturn, 1) := by decide +kernel
/-! minutes of a model without people, and many -/
/-- all but a land's minute and its calls stays -/
def mm_mk (b : Nat) (σ σ' : vgS) : Prop := ∀ n k, n.1 < 60 → ¬ (n = (41, b, 0) ∧ (k = 8 ∨ k = 15)) → σ' n k = σ n k
def k_X6_minute : List (Nat × vgF) := [(0, vi_aload 0 1), (1, vi_dup 2), (2, vi_get mm_shp 1 8 5), (5, vi_icst (1) 6), (6, vi_bin (fun x y => x + y) 7), (7, vi_put mm_shp 1 8 10), (10, vi_icst (8) 12), (14, vi_astore 1 15), (15, vi_icst (0) 16), (16, vi_istore 2 17), (17, vi_iload 2 18), (18, vi_aload 0 19), (19, vi_get mm_shp 1 9 22), (22, vi_cmp (fun x y => y ≤ x) 72 25), (25, vi_aload 1 26), (26, vi_iload 2 27), (27, vi_aload 0 28), (28, vi_iload 2 29), (29, vi_no), (32, vi_astZ mm_shp 1 33), (33, vi_icst (0) 34), (34, vi_istore 3 35), (35, vi_iload 3 36), (36, vi_aload 0 37), (37, vi_get mm_shp 1 10 40), (40, vi_cmp (fun x y => y ≤ x) 66 43), (43, vi_aload 0 44), (44, vi_get mm_shp 1 7 47), (47, vi_iload 2 48), (48, vi_icst (12) 50), (50, vi_bin (fun x y => x * y) 51), (51, vi_iload 3 52), (52, vi_bin (fun x y => x + y) 53), (53, vi_aload 0 54), (54, vi_iload 2 55), (55, vi_iload 3 56), (56, vi_no), (59, vi_astZ mm_shp 1 60), (60, vi_iinc 3 (1) 63), (63, vi_goto 35), (66, vi_iinc 2 (1) 69), (69, vi_goto 17), (72, vi_icst (12) 74), (76, vi_astore 2 77), (77, vi_aload 0 78), (78, vi_get mm_shp 1 14 81), (81, vi_istore 3 82), (82, vi_icst (0) 83), (83, vi_istore 4 85), (85, vi_iload 4 87), (87, vi_aload 0 88), (88, vi_get mm_shp 1 10 91), (91, vi_cmp (fun x y => y ≤ x) 143 94), (94, vi_aload 2 95), (95, vi_iload 4 97), (97, vi_iload 3 98), (98, vi_if (fun x => x ≤ 0) 119 101), (101, vi_aload 0 102), (102, vi_iload 4 104), (104, vi_no), (107, vi_if (fun x => x = 0) 119 110), (110, vi_aload 0 111), (111, vi_iload 4 113), (113, vi_no), (116, vi_goto 120), (119, vi_icst (-1) 120), (120, vi_ast mm_shp 0 121), (121, vi_iload 3 122), (122, vi_aload 2 123), (123, vi_iload 4 125), (125, vi_ald mm_shp 0 126), (126, vi_icst (-1) 127), (127, vi_cmp (fun x y => x = y) 130 134), (130, vi_icst (0) 131), (131, vi_goto 135), (134, vi_icst (1) 135), (135, vi_bin (fun x y => x - y) 136), (136, vi_istore 3 137), (137, vi_iinc 4 (1) 140), (140, vi_goto 85), (143, vi_aload 0 144), (144, vi_dup 145), (145, vi_get mm_shp 1 15 148), (148, vi_aload 0 149), (149, vi_get mm_shp 1 14 152), (152, vi_iload 3 153), (153, vi_bin (fun x y => x - y) 154), (154, vi_bin (fun x y => x + y) 155), (155, vi_put mm_shp 1 15 158), (158, vi_icst (0) 159), (159, vi_istore 4 161), (161, vi_icst (0) 162), (162, vi_istore 5 164), (164, vi_iload 5 166), (166, vi_aload 0 167), (167, vi_get mm_shp 1 9 170), (170, vi_cmp (fun x y => y ≤ x) 241 173), (173, vi_icst (0) 174), (174, vi_istore 6 176), (176, vi_iload 6 178), (178, vi_aload 0 179), (179, vi_get mm_shp 1 10 182), (182, vi_cmp (fun x y => y ≤ x) 235 185), (185, vi_aload 0 186), (186, vi_iload 5 188), (188, vi_no), (191, vi_if (fun x => x = 0) 194 229), (194, vi_aload 0 195), (195, vi_iload 6 197), (197, vi_no), (200, vi_if (fun x => x = 0) 229 203), (203, vi_aload 0 204), (204, vi_iload 5 206), (206, vi_iload 6 208), (208, vi_aload 1 209), (209, vi_iload 5 211), (211, vi_ald mm_shp 1 212), (212, vi_aload 2 213), (213, vi_iload 6 215), (215, vi_ald mm_shp 0 216), (216, vi_iload 5 218), (218, vi_cmp (fun x y => x = y) 221 225), (221, vi_icst (1) 222), (222, vi_goto 226), (225, vi_icst (0) 226), (226, vi_no), (229, vi_iinc 6 (1) 232), (232, vi_goto 176), (235, vi_iinc 5 (1) 238), (238, vi_goto 164), (241, vi_icst (0) 242), (242, vi_istore 5 244), (244, vi_iload 5 246), (246, vi_aload 0 247), (247, vi_get mm_shp 1 9 250), (250, vi_cmp (fun x y => y ≤ x) 308 253), (253, vi_icst (0) 254), (254, vi_istore 6 256), (256, vi_iload 6 258), (258, vi_aload 0 259), (259, vi_get mm_shp 1 10 262), (262, vi_cmp (fun x y => y ≤ x) 302 265), (265, vi_aload 0 266), (266, vi_iload 5 268), (268, vi_no), (271, vi_if (fun x => x = 0) 274 296), (274, vi_aload 0 275), (275, vi_iload 6 277), (277, vi_no), (280, vi_if (fun x => x = 0) 296 283), (283, vi_iload 4 285), (285, vi_aload 0 286), (286, vi_iload 5 288), (288, vi_iload 6 290), (290, vi_no), (293, vi_bin (fun x y => x + y) 294), (294, vi_istore 4 296), (296, vi_iinc 6 (1) 299), (299, vi_goto 256), (302, vi_iinc 5 (1) 305), (305, vi_goto 244), (308, vi_icst (0) 309), (309, vi_istore 5 311), (311, vi_iload 5 313), (313, vi_aload 0 314), (314, vi_get mm_shp 1 9 317), (317, vi_cmp (fun x y => y ≤ x) 352 320), (320, vi_aload 0 321), (321, vi_iload 5 323), (323, vi_no), (326, vi_if (fun x => x = 0) 329 346), (329, vi_aload 0 330), (330, vi_aload 0 331), (331, vi_get mm_shp 1 0 334), (334, vi_iload 5 336), (336, vi_aald mm_shp 2 337), (337, vi_aload 0 338), (338, vi_iload 5 340), (340, vi_no), (343, vi_no), (346, vi_iinc 5 (1) 349), (349, vi_goto 311), (352, vi_icst (0) 353), (353, vi_istore 5 355), (355, vi_iload 5 357), (357, vi_aload 0 358), (358, vi_get mm_shp 1 9 361), (361, vi_cmp (fun x y => y ≤ x) 423 364), (364, vi_aload 0 365), (365, vi_iload 5 367), (367, vi_no), (370, vi_if (fun x => x = 0) 373 417), (373, vi_aload 0 374), (374, vi_get mm_shp 1 0 377), (377, vi_iload 5 379), (379, vi_aald mm_shp 2 380), (380, vi_icst (6) 382), (382, vi_ald mm_shp 0 383), (383, vi_icst (-1) 384), (384, vi_cmp (fun x y => x = y) 387 417), (387, vi_aload 0 388), (388, vi_aload 0 389), (389, vi_get mm_shp 1 0 392), (392, vi_iload 5 394), (394, vi_aald mm_shp 2 395), (395, vi_icst (0) 396), (396, vi_ald mm_shp 0 397), (397, vi_callV mm_shp 1 sp_X6_isDanger 1 400), (400, vi_if (fun x => x = 0) 417 403), (403, vi_aload 0 404), (404, vi_get mm_shp 1 0 407), (407, vi_iload 5 409), (409, vi_aald mm_shp 2 410), (410, vi_icst (7) 412), (412, vi_dup2 413), (413, vi_ald mm_shp 0 414), (414, vi_icst (1) 415), (415, vi_bin (fun x y => x + y) 416), (416, vi_ast mm_shp 0 417), (417, vi_iinc 5 (1) 420), (420, vi_goto 355), (423, vi_iload 4 425), (425, vi_ret)]
set_option maxRecDepth 20000 in
theorem s_X6_minute {nm : List vgN} (hcl : vg_closed mm_shp nm) : ∀ q ∈ k_X6_minute, vm_Snd false ww_tb [] [] [] mm_shp nm mm_cl mm_tyl cX6_minute 7 RX6 (some .int) 1 q.1 q.2 := by
  refine vg_cons (vt_aload_n dX6_minute_0 rfl rfl) ?_
  refine vg_cons (vt_dup dX6_minute_1 rfl) ?_
  refine vg_cons (vt_getfield (T := TX6) dX6_minute_2 rfl (by decide) mm_inX6 u_235 rfl) ?_
  refine vg_cons (vt_iconst dX6_minute_5 rfl rfl) ?_
  refine vg_cons (vt_iadd dX6_minute_6 rfl) ?_
  refine vg_cons (vt_putfield (T := TX6) tyX6 dX6_minute_7 rfl (by decide) mm_inX6 tyX6_ok nmX6 rfl rfl u_235 rfl) ?_
  refine vg_cons (vt_bipush dX6_minute_10 (by decide) rfl) ?_
  refine vg_cons (vt_astore_n dX6_minute_14 rfl (by decide) rfl) ?_
  refine vg_cons (vt_iconst dX6_minute_15 rfl rfl) ?_
  refine vg_cons (vt_istore_n dX6_minute_16 rfl (by decide) rfl) ?_
  refine vg_cons (vt_iload_n dX6_minute_17 rfl rfl) ?_
  refine vg_cons (vt_aload_n dX6_minute_18 rfl rfl) ?_
  refine vg_cons (vt_getfield (T := TX6) dX6_minute_19 rfl (by decide) mm_inX6 u_236 rfl) ?_
  refine vg_cons (vt_cmp_ge dX6_minute_22 (by decide) rfl) ?_
  refine vg_cons (vt_aload_n dX6_minute_25 rfl rfl) ?_
  refine vg_cons (vt_iload_n dX6_minute_26 rfl rfl) ?_
  refine vg_cons (vt_aload_n dX6_minute_27 rfl rfl) ?_
  refine vg_cons (vt_iload_n dX6_minute_28 rfl rfl) ?_
  refine vg_cons (vt_no) ?_
  refine vg_cons (vt_zastore dX6_minute_32 rfl rfl) ?_
  refine vg_cons (vt_iconst dX6_minute_33 rfl rfl) ?_
  refine vg_cons (vt_istore_n dX6_minute_34 rfl (by decide) rfl) ?_
  refine vg_cons (vt_iload_n dX6_minute_35 rfl rfl) ?_
  refine vg_cons (vt_aload_n dX6_minute_36 rfl rfl) ?_
  refine vg_cons (vt_getfield (T := TX6) dX6_minute_37 rfl (by decide) mm_inX6 u_262 rfl) ?_
  refine vg_cons (vt_cmp_ge dX6_minute_40 (by decide) rfl) ?_
  refine vg_cons (vt_aload_n dX6_minute_43 rfl rfl) ?_
  refine vg_cons (vt_getfield (T := TX6) dX6_minute_44 rfl (by decide) mm_inX6 u_263 rfl) ?_
  refine vg_cons (vt_iload_n dX6_minute_47 rfl rfl) ?_
  refine vg_cons (vt_bipush dX6_minute_48 (by decide) rfl) ?_
  refine vg_cons (vt_imul dX6_minute_50 rfl) ?_
  refine vg_cons (vt_iload_n dX6_minute_51 rfl rfl) ?_
  refine vg_cons (vt_iadd dX6_minute_52 rfl) ?_
  refine vg_cons (vt_aload_n dX6_minute_53 rfl rfl) ?_
  refine vg_cons (vt_iload_n dX6_minute_54 rfl rfl) ?_
  refine vg_cons (vt_iload_n dX6_minute_55 rfl rfl) ?_
  refine vg_cons (vt_no) ?_
  refine vg_cons (vt_zastore dX6_minute_59 rfl rfl) ?_
  refine vg_cons (vt_iinc dX6_minute_60 rfl rfl) ?_
  refine vg_cons (vt_goto dX6_minute_63 (by decide)) ?_
  refine vg_cons (vt_iinc dX6_minute_66 rfl rfl) ?_
  refine vg_cons (vt_goto dX6_minute_69 (by decide)) ?_
  refine vg_cons (vt_bipush dX6_minute_72 (by decide) rfl) ?_
  refine vg_cons (vt_astore_n dX6_minute_76 rfl (by decide) rfl) ?_
  refine vg_cons (vt_aload_n dX6_minute_77 rfl rfl) ?_
  refine vg_cons (vt_getfield (T := TX6) dX6_minute_78 rfl (by decide) mm_inX6 u_264 rfl) ?_
  refine vg_cons (vt_istore_n dX6_minute_81 rfl (by decide) rfl) ?_
  refine vg_cons (vt_iconst dX6_minute_82 rfl rfl) ?_
  refine vg_cons (vt_istore dX6_minute_83 (by decide) rfl) ?_
  refine vg_cons (vt_iload dX6_minute_85 rfl) ?_
  refine vg_cons (vt_aload_n dX6_minute_87 rfl rfl) ?_
  refine vg_cons (vt_getfield (T := TX6) dX6_minute_88 rfl (by decide) mm_inX6 u_262 rfl) ?_
  refine vg_cons (vt_cmp_ge dX6_minute_91 (by decide) rfl) ?_
  refine vg_cons (vt_aload_n dX6_minute_94 rfl rfl) ?_
  refine vg_cons (vt_iload dX6_minute_95 rfl) ?_
  refine vg_cons (vt_iload_n dX6_minute_97 rfl rfl) ?_
  refine vg_cons (vt_if_le dX6_minute_98 (by decide) rfl) ?_
  refine vg_cons (vt_aload_n dX6_minute_101 rfl rfl) ?_
  refine vg_cons (vt_iload dX6_minute_102 rfl) ?_
  refine vg_cons (vt_no) ?_
  refine vg_cons (vt_if_eq dX6_minute_107 (by decide) rfl) ?_
  refine vg_cons (vt_aload_n dX6_minute_110 rfl rfl) ?_
  refine vg_cons (vt_iload dX6_minute_111 rfl) ?_
  refine vg_cons (vt_no) ?_
  refine vg_cons (vt_goto dX6_minute_116 (by decide)) ?_
  refine vg_cons (vt_iconst dX6_minute_119 rfl rfl) ?_
  refine vg_cons (vt_iastore dX6_minute_120 rfl rfl) ?_
  refine vg_cons (vt_iload_n dX6_minute_121 rfl rfl) ?_
  refine vg_cons (vt_aload_n dX6_minute_122 rfl rfl) ?_
  refine vg_cons (vt_iload dX6_minute_123 rfl) ?_
  refine vg_cons (vt_iaload dX6_minute_125 rfl rfl) ?_
  refine vg_cons (vt_iconst dX6_minute_126 rfl rfl) ?_
  refine vg_cons (vt_cmp_ne dX6_minute_127 (by decide) rfl) ?_
  refine vg_cons (vt_iconst dX6_minute_130 rfl rfl) ?_
  refine vg_cons (vt_goto dX6_minute_131 (by decide)) ?_
  refine vg_cons (vt_iconst dX6_minute_134 rfl rfl) ?_
  refine vg_cons (vt_isub dX6_minute_135 rfl) ?_
  refine vg_cons (vt_istore_n dX6_minute_136 rfl (by decide) rfl) ?_
  refine vg_cons (vt_iinc dX6_minute_137 rfl rfl) ?_
  refine vg_cons (vt_goto dX6_minute_140 (by decide)) ?_
  refine vg_cons (vt_aload_n dX6_minute_143 rfl rfl) ?_
  refine vg_cons (vt_dup dX6_minute_144 rfl) ?_
  refine vg_cons (vt_getfield (T := TX6) dX6_minute_145 rfl (by decide) mm_inX6 u_265 rfl) ?_
  refine vg_cons (vt_aload_n dX6_minute_148 rfl rfl) ?_
  refine vg_cons (vt_getfield (T := TX6) dX6_minute_149 rfl (by decide) mm_inX6 u_264 rfl) ?_
  refine vg_cons (vt_iload_n dX6_minute_152 rfl rfl) ?_
  refine vg_cons (vt_isub dX6_minute_153 rfl) ?_
  refine vg_cons (vt_iadd dX6_minute_154 rfl) ?_
  refine vg_cons (vt_putfield (T := TX6) tyX6 dX6_minute_155 rfl (by decide) mm_inX6 tyX6_ok nmX6 rfl rfl u_265 rfl) ?_
  refine vg_cons (vt_iconst dX6_minute_158 rfl rfl) ?_
  refine vg_cons (vt_istore dX6_minute_159 (by decide) rfl) ?_
  refine vg_cons (vt_iconst dX6_minute_161 rfl rfl) ?_
  refine vg_cons (vt_istore dX6_minute_162 (by decide) rfl) ?_
  refine vg_cons (vt_iload dX6_minute_164 rfl) ?_
  refine vg_cons (vt_aload_n dX6_minute_166 rfl rfl) ?_
  refine vg_cons (vt_getfield (T := TX6) dX6_minute_167 rfl (by decide) mm_inX6 u_236 rfl) ?_
  refine vg_cons (vt_cmp_ge dX6_minute_170 (by decide) rfl) ?_
  refine vg_cons (vt_iconst dX6_minute_173 rfl rfl) ?_
  refine vg_cons (vt_istore dX6_minute_174 (by decide) rfl) ?_
  refine vg_cons (vt_iload dX6_minute_176 rfl) ?_
  refine vg_cons (vt_aload_n dX6_minute_178 rfl rfl) ?_
  refine vg_cons (vt_getfield (T := TX6) dX6_minute_179 rfl (by decide) mm_inX6 u_262 rfl) ?_
  refine vg_cons (vt_cmp_ge dX6_minute_182 (by decide) rfl) ?_
  refine vg_cons (vt_aload_n dX6_minute_185 rfl rfl) ?_
  refine vg_cons (vt_iload dX6_minute_186 rfl) ?_
  refine vg_cons (vt_no) ?_
  refine vg_cons (vt_if_ne dX6_minute_191 (by decide) rfl) ?_
  refine vg_cons (vt_aload_n dX6_minute_194 rfl rfl) ?_
  refine vg_cons (vt_iload dX6_minute_195 rfl) ?_
  refine vg_cons (vt_no) ?_
  refine vg_cons (vt_if_eq dX6_minute_200 (by decide) rfl) ?_
  refine vg_cons (vt_aload_n dX6_minute_203 rfl rfl) ?_
  refine vg_cons (vt_iload dX6_minute_204 rfl) ?_
  refine vg_cons (vt_iload dX6_minute_206 rfl) ?_
  refine vg_cons (vt_aload_n dX6_minute_208 rfl rfl) ?_
  refine vg_cons (vt_iload dX6_minute_209 rfl) ?_
  refine vg_cons (vt_zaload dX6_minute_211 rfl rfl) ?_
  refine vg_cons (vt_aload_n dX6_minute_212 rfl rfl) ?_
  refine vg_cons (vt_iload dX6_minute_213 rfl) ?_
  refine vg_cons (vt_iaload dX6_minute_215 rfl rfl) ?_
  refine vg_cons (vt_iload dX6_minute_216 rfl) ?_
  refine vg_cons (vt_cmp_ne dX6_minute_218 (by decide) rfl) ?_
  refine vg_cons (vt_iconst dX6_minute_221 rfl rfl) ?_
  refine vg_cons (vt_goto dX6_minute_222 (by decide)) ?_
  refine vg_cons (vt_iconst dX6_minute_225 rfl rfl) ?_
  refine vg_cons (vt_no) ?_
  refine vg_cons (vt_iinc dX6_minute_229 rfl rfl) ?_
  refine vg_cons (vt_goto dX6_minute_232 (by decide)) ?_
  refine vg_cons (vt_iinc dX6_minute_235 rfl rfl) ?_
  refine vg_cons (vt_goto dX6_minute_238 (by decide)) ?_
  refine vg_cons (vt_iconst dX6_minute_241 rfl rfl) ?_
  refine vg_cons (vt_istore dX6_minute_242 (by decide) rfl) ?_
  refine vg_cons (vt_iload dX6_minute_244 rfl) ?_
  refine vg_cons (vt_aload_n dX6_minute_246 rfl rfl) ?_
  refine vg_cons (vt_getfield (T := TX6) dX6_minute_247 rfl (by decide) mm_inX6 u_236 rfl) ?_
  refine vg_cons (vt_cmp_ge dX6_minute_250 (by decide) rfl) ?_
  refine vg_cons (vt_iconst dX6_minute_253 rfl rfl) ?_
  refine vg_cons (vt_istore dX6_minute_254 (by decide) rfl) ?_
  refine vg_cons (vt_iload dX6_minute_256 rfl) ?_
  refine vg_cons (vt_aload_n dX6_minute_258 rfl rfl) ?_
  refine vg_cons (vt_getfield (T := TX6) dX6_minute_259 rfl (by decide) mm_inX6 u_262 rfl) ?_
  refine vg_cons (vt_cmp_ge dX6_minute_262 (by decide) rfl) ?_
  refine vg_cons (vt_aload_n dX6_minute_265 rfl rfl) ?_
  refine vg_cons (vt_iload dX6_minute_266 rfl) ?_
  refine vg_cons (vt_no) ?_
  refine vg_cons (vt_if_ne dX6_minute_271 (by decide) rfl) ?_
  refine vg_cons (vt_aload_n dX6_minute_274 rfl rfl) ?_
  refine vg_cons (vt_iload dX6_minute_275 rfl) ?_
  refine vg_cons (vt_no) ?_
  refine vg_cons (vt_if_eq dX6_minute_280 (by decide) rfl) ?_
  refine vg_cons (vt_iload dX6_minute_283 rfl) ?_
  refine vg_cons (vt_aload_n dX6_minute_285 rfl rfl) ?_
  refine vg_cons (vt_iload dX6_minute_286 rfl) ?_
  refine vg_cons (vt_iload dX6_minute_288 rfl) ?_
  refine vg_cons (vt_no) ?_
  refine vg_cons (vt_iadd dX6_minute_293 rfl) ?_
  refine vg_cons (vt_istore dX6_minute_294 (by decide) rfl) ?_
  refine vg_cons (vt_iinc dX6_minute_296 rfl rfl) ?_
  refine vg_cons (vt_goto dX6_minute_299 (by decide)) ?_
  refine vg_cons (vt_iinc dX6_minute_302 rfl rfl) ?_
  refine vg_cons (vt_goto dX6_minute_305 (by decide)) ?_
  refine vg_cons (vt_iconst dX6_minute_308 rfl rfl) ?_
  refine vg_cons (vt_istore dX6_minute_309 (by decide) rfl) ?_
  refine vg_cons (vt_iload dX6_minute_311 rfl) ?_
  refine vg_cons (vt_aload_n dX6_minute_313 rfl rfl) ?_
  refine vg_cons (vt_getfield (T := TX6) dX6_minute_314 rfl (by decide) mm_inX6 u_236 rfl) ?_
  refine vg_cons (vt_cmp_ge dX6_minute_317 (by decide) rfl) ?_
  refine vg_cons (vt_aload_n dX6_minute_320 rfl rfl) ?_
  refine vg_cons (vt_iload dX6_minute_321 rfl) ?_
  refine vg_cons (vt_no) ?_
  refine vg_cons (vt_if_ne dX6_minute_326 (by decide) rfl) ?_
  refine vg_cons (vt_aload_n dX6_minute_329 rfl rfl) ?_
  refine vg_cons (vt_aload_n dX6_minute_330 rfl rfl) ?_
  refine vg_cons (vt_getfield (T := TX6) dX6_minute_331 rfl (by decide) mm_inX6 u_237 rfl) ?_
  refine vg_cons (vt_iload dX6_minute_334 rfl) ?_
  refine vg_cons (vt_aaloadA dX6_minute_336 rfl rfl rfl) ?_
  refine vg_cons (vt_aload_n dX6_minute_337 rfl rfl) ?_
  refine vg_cons (vt_iload dX6_minute_338 rfl) ?_
  refine vg_cons (vt_no) ?_
  refine vg_cons (vt_no) ?_
  refine vg_cons (vt_iinc dX6_minute_346 rfl rfl) ?_
  refine vg_cons (vt_goto dX6_minute_349 (by decide)) ?_
  refine vg_cons (vt_iconst dX6_minute_352 rfl rfl) ?_
  refine vg_cons (vt_istore dX6_minute_353 (by decide) rfl) ?_
  refine vg_cons (vt_iload dX6_minute_355 rfl) ?_
  refine vg_cons (vt_aload_n dX6_minute_357 rfl rfl) ?_
  refine vg_cons (vt_getfield (T := TX6) dX6_minute_358 rfl (by decide) mm_inX6 u_236 rfl) ?_
  refine vg_cons (vt_cmp_ge dX6_minute_361 (by decide) rfl) ?_
  refine vg_cons (vt_aload_n dX6_minute_364 rfl rfl) ?_
  refine vg_cons (vt_iload dX6_minute_365 rfl) ?_
  refine vg_cons (vt_no) ?_
  refine vg_cons (vt_if_ne dX6_minute_370 (by decide) rfl) ?_
  refine vg_cons (vt_aload_n dX6_minute_373 rfl rfl) ?_
  refine vg_cons (vt_getfield (T := TX6) dX6_minute_374 rfl (by decide) mm_inX6 u_237 rfl) ?_
  refine vg_cons (vt_iload dX6_minute_377 rfl) ?_
  refine vg_cons (vt_aaloadA dX6_minute_379 rfl rfl rfl) ?_
  refine vg_cons (vt_bipush dX6_minute_380 (by decide) rfl) ?_
  refine vg_cons (vt_iaload dX6_minute_382 rfl rfl) ?_
  refine vg_cons (vt_iconst dX6_minute_383 rfl rfl) ?_
  refine vg_cons (vt_cmp_ne dX6_minute_384 (by decide) rfl) ?_
  refine vg_cons (vt_aload_n dX6_minute_387 rfl rfl) ?_
  refine vg_cons (vt_aload_n dX6_minute_388 rfl rfl) ?_
  refine vg_cons (vt_getfield (T := TX6) dX6_minute_389 rfl (by decide) mm_inX6 u_237 rfl) ?_
  refine vg_cons (vt_iload dX6_minute_392 rfl) ?_
  refine vg_cons (vt_aaloadA dX6_minute_394 rfl rfl rfl) ?_
  refine vg_cons (vt_iconst dX6_minute_395 rfl rfl) ?_
  refine vg_cons (vt_iaload dX6_minute_396 rfl rfl) ?_
  refine vg_cons (vt_callV (T := TX6) (c_X6_isDanger hcl) dX6_minute_397 rfl ww_good u_266 u_267 u_268 u_269 u_270 (by decide +kernel) (by decide) rfl) ?_
  refine vg_cons (vt_if_eq dX6_minute_400 (by decide) rfl) ?_
  refine vg_cons (vt_aload_n dX6_minute_403 rfl rfl) ?_
  refine vg_cons (vt_getfield (T := TX6) dX6_minute_404 rfl (by decide) mm_inX6 u_237 rfl) ?_
  refine vg_cons (vt_iload dX6_minute_407 rfl) ?_
  refine vg_cons (vt_aaloadA dX6_minute_409 rfl rfl rfl) ?_
  refine vg_cons (vt_bipush dX6_minute_410 (by decide) rfl) ?_
  refine vg_cons (vt_dup2 dX6_minute_412 rfl) ?_
  refine vg_cons (vt_iaload dX6_minute_413 rfl rfl) ?_
  refine vg_cons (vt_iconst dX6_minute_414 rfl rfl) ?_
  refine vg_cons (vt_iadd dX6_minute_415 rfl) ?_
  refine vg_cons (vt_iastore dX6_minute_416 rfl rfl) ?_
  refine vg_cons (vt_iinc dX6_minute_417 rfl rfl) ?_
  refine vg_cons (vt_goto dX6_minute_420 (by decide)) ?_
  refine vg_cons (vt_iload dX6_minute_423 rfl) ?_
  refine vg_cons (vt_ireturn dX6_minute_425 rfl) ?_
  exact fun _ h => absurd h List.not_mem_nil
theorem m_X6_minute : vg_Code k_X6_minute := fun q h => (s_X6_minute (nm := []) (fun n hn => nomatch hn) q h).1

def pm_X6_minute : vgT → vgS → Prop := fun av σ => match av with
  | [.inr (41, b, 0)] => σ (41, b, 0) 9 = 0 ∧ σ (41, b, 0) 10 = 0
  | _ => False
def po_X6_minute : vgT → vgS → vgO := fun av σ r σ' => match av with
  | [.inr (41, b, 0)] => r = some (.inl (.int 0)) ∧ mm_mk b σ σ'
  | _ => False
theorem wm_X6_minute : ∀ av σ, pm_X6_minute av σ → vg_wd av ≤ 7 := by
  intro av σ h
  unfold pm_X6_minute at h
  split at h
  · exact Nat.le_of_ble_eq_true rfl
  · exact h.elim
abbrev ex2_X6_minute (P : vgO) : List (Nat × vgF) := [(74, vm_ex1 (60, 0, 12) 12 (vg_Go k_X6_minute P) 76)]
abbrev ex1_X6_minute (P : vgO) : List (Nat × vgF) := [(12, vm_ex1 (61, 0, 8) 8 (vg_Go (ex2_X6_minute P ++ k_X6_minute) P) 14)]
set_option maxRecDepth 20000 in
theorem gx_X6_minute : ∀ av σ, pm_X6_minute av σ → vg_Go (ex1_X6_minute (po_X6_minute av σ) ++ k_X6_minute) (po_X6_minute av σ) 0 (vg_args 0 av) [] σ := by
  intro av σ h
  unfold pm_X6_minute at h
  split at h
  next b =>
    have h9 : σ (41, b, 0) 9 ≤ 0 := by rw [h.1]; decide
    have h10 : σ (41, b, 0) 10 ≤ 0 := by rw [h.2]; decide
    have n1 : ¬ ((41, b, 0) : vgN) = (61, 0, 8) := fun z => absurd (congrArg Prod.fst z) (show ¬ (41 : Nat) = 61 by decide)
    have n2 : ¬ ((41, b, 0) : vgN) = (60, 0, 12) := fun z => absurd (congrArg Prod.fst z) (show ¬ (41 : Nat) = 60 by decide)
    have e1 : ∀ x, vm_z (vg_st σ (41, b, 0) 8 x) (61, 0, 8) (41, b, 0) 9 ≤ 0 := fun x => by
      rw [vm_z_ne n1, vg_st_ne (fun z => absurd z.2 (by decide))]
      exact h9
    have e2 : ∀ x, vm_z (vm_z (vg_st σ (41, b, 0) 8 x) (61, 0, 8)) (60, 0, 12) (41, b, 0) 10 ≤ 0 := fun x => by
      rw [vm_z_ne n2, vm_z_ne n1, vg_st_ne (fun z => absurd z.2 (by decide))]
      exact h10
    have e3 : ∀ x y, vg_st (vm_z (vm_z (vg_st σ (41, b, 0) 8 x) (61, 0, 8)) (60, 0, 12)) (41, b, 0) 15 y (41, b, 0) 9 ≤ 0 := fun x y => by
      rw [vg_st_ne (fun z => absurd z.2 (by decide)), vm_z_ne n2, vm_z_ne n1, vg_st_ne (fun z => absurd z.2 (by decide))]
      exact h9
    refine vg_run (cuts := []) (vm_code1 m_X6_minute) 20 ?_
    refine And.intro rfl ⟨[], rfl, ?_⟩
    refine vg_run (cuts := []) (vm_code1 m_X6_minute) 20 ?_
    refine And.intro (fun _ => ⟨[], rfl, ?_⟩) (fun z => absurd (e1 _) z)
    refine vg_run (cuts := []) m_X6_minute 60 ?_
    refine And.intro (fun _ => And.intro rfl (And.intro (fun _ => And.intro (fun _ => And.intro (fun _ => And.intro (fun _ => ?_) (fun z => absurd (e3 _ _) z)) (fun z => absurd (e3 _ _) z)) (fun z => absurd (e3 _ _) z)) (fun z => absurd (e3 _ _) z))) (fun z => absurd (e2 _) z)
    refine And.intro rfl (fun n k hn hk => ?_)
    have a1 : ¬ n = (61, 0, 8) := fun z => by rw [z] at hn; exact absurd hn (by decide)
    have a2 : ¬ n = (60, 0, 12) := fun z => by rw [z] at hn; exact absurd hn (by decide)
    show vg_st (vm_z (vm_z (vg_st σ (41, b, 0) 8 _) (61, 0, 8)) (60, 0, 12)) (41, b, 0) 15 _ n k = σ n k
    rw [vg_st_ne (fun z => hk ⟨z.1, Or.inr z.2⟩), vm_z_ne a2, vm_z_ne a1, vg_st_ne (fun z => hk ⟨z.1, Or.inl z.2⟩)]
  next => exact h.elim
theorem a_X6_minute {nm : List vgN} (hcl : vg_closed mm_shp nm) (hf1 : (61, 0, 8) ∉ nm) (hf2 : (60, 0, 12) ∉ nm) : vm_Met ww_tb [] mm_shp nm mm_cl mm_tyl yX6_minute cX6_minute 7 (some .int) 1 2 20 pm_X6_minute po_X6_minute :=
  vm_met hcl (by decide +kernel) rfl wm_X6_minute (fun p l e R s m args below meth c D tys ad A Z av σ hpre hRc hRs C0 E0 => by
    refine vm_sound (ex := ex1_X6_minute (po_X6_minute av σ)) (s_X6_minute hcl) C0 (E0 0 0 (Nat.zero_le _) (Nat.zero_le _)) (fun q hq lv st σ1 hE => ?_) (gx_X6_minute av σ hpre)
    rw [List.mem_singleton.mp hq] at hE ⊢
    obtain ⟨t, rfl, hgo⟩ := hE
    refine vm_alloc C0 hf1 rfl rfl (atype := .boolean) rfl (fun _ _ => rfl) (by decide) mm_aZ dX6_minute_12 (by decide) (by decide) (by decide) (by rw [hRc]; decide) (by rw [hRs]; decide) (fun ad' C1 hag => ?_)
    have hcl1 := C1.2.2.2.2.2.2.2.2.2.2.2.2.1
    refine vm_sound (ex := ex2_X6_minute (po_X6_minute av σ)) (s_X6_minute hcl1) C1 (vm_E_up hcl hag (E0 1 8 (by decide) (by decide))) (fun q hq lv st σ2 hE => ?_) hgo
    rw [List.mem_singleton.mp hq] at hE ⊢
    obtain ⟨t, rfl, hgo2⟩ := hE
    have hf3 : (60, 0, 12) ∉ (61, 0, 8) :: nm := fun z => by
      rcases List.mem_cons.mp z with z | z
      · exact absurd z (by decide)
      · exact hf2 z
    exact vm_alloc C1 hf3 rfl rfl (atype := .int) rfl (fun _ _ => rfl) (by decide) mm_aI dX6_minute_74 (by decide) (by decide) (by decide) (by rw [hRc]; decide) (by rw [hRs]; decide) (fun ad2 C2 hag2 => vm_sound (ex := []) (s_X6_minute C2.2.2.2.2.2.2.2.2.2.2.2.2.1) C2 (vm_E_up hcl1 hag2 (vm_E_up hcl hag (E0 2 20 (Nat.le_refl _) (Nat.le_refl _)))) (fun _ h => absurd h List.not_mem_nil) hgo2))
/-! pass -/
def k_X7_pass : List (Nat × vgF) := [(0, vi_aload 0 1), (1, vi_icst (0) 2), (2, vi_put mm_shp 0 0 5), (5, vi_iload 1 6), (6, vi_icst (1) 7), (7, vi_icst (60) 9), (9, vi_callS sp_X7_in 3 12), (12, vi_if (fun x => x = 0) 15 21), (15, vi_aload 0 16), (16, vi_icst (1) 17), (17, vi_callV mm_shp 0 sp_X7_no 1 20), (20, vi_ret), (21, vi_aload 0 22), (22, vi_get mm_shp 0 1 25), (25, vi_get mm_shp 1 8 28), (28, vi_iload 1 29), (29, vi_bin (fun x y => x + y) 30), (30, vi_icst (9999) 33), (33, vi_cmp (fun x y => x ≤ y) 42 36), (36, vi_aload 0 37), (37, vi_icst (2) 38), (38, vi_callV mm_shp 0 sp_X7_no 1 41), (41, vi_ret), (42, vi_icst (0) 43), (43, vi_istore 2 44), (44, vi_icst (0) 45), (45, vi_istore 3 46), (46, vi_iload 3 47), (47, vi_iload 1 48), (48, vi_cmp (fun x y => y ≤ x) 67 51), (51, vi_iload 2 52), (52, vi_aload 0 53), (53, vi_get mm_shp 0 1 56), (56, vi_no), (59, vi_bin (fun x y => x + y) 60), (60, vi_istore 2 61), (61, vi_iinc 3 (1) 64), (64, vi_goto 46), (67, vi_iload 2 68), (68, vi_ret)]
set_option maxRecDepth 20000 in
theorem s_X7_pass {nm : List vgN} (hcl : vg_closed mm_shp nm) : ∀ q ∈ k_X7_pass, vm_Snd false ww_tb [] [] [] mm_shp nm mm_cl mm_tyl cX7_pass 4 RX7 (some .int) 3 q.1 q.2 := by
  refine vg_cons (vt_aload_n dX7_pass_0 rfl rfl) ?_
  refine vg_cons (vt_iconst dX7_pass_1 rfl rfl) ?_
  refine vg_cons (vt_putfield (T := TX7) tyX7 dX7_pass_2 rfl (by decide) mm_inX7 tyX7_ok nmX7 rfl rfl u_201 rfl) ?_
  refine vg_cons (vt_iload_n dX7_pass_5 rfl rfl) ?_
  refine vg_cons (vt_iconst dX7_pass_6 rfl rfl) ?_
  refine vg_cons (vt_bipush dX7_pass_7 (by decide) rfl) ?_
  refine vg_cons (vt_callS (c_X7_in hcl) dX7_pass_9 ww_good u_197 u_198 u_200 u_199 (by decide +kernel) (by decide) rfl) ?_
  refine vg_cons (vt_if_ne dX7_pass_12 (by decide) rfl) ?_
  refine vg_cons (vt_aload_n dX7_pass_15 rfl rfl) ?_
  refine vg_cons (vt_iconst dX7_pass_16 rfl rfl) ?_
  refine vg_cons (vt_callV (T := TX7) (c_X7_no hcl) dX7_pass_17 rfl ww_good u_210 u_198 u_211 u_212 u_213 (by decide +kernel) (by decide) rfl) ?_
  refine vg_cons (vt_ireturn dX7_pass_20 rfl) ?_
  refine vg_cons (vt_aload_n dX7_pass_21 rfl rfl) ?_
  refine vg_cons (vt_getfield (T := TX7) dX7_pass_22 rfl (by decide) mm_inX7 u_202 rfl) ?_
  refine vg_cons (vt_getfield (T := TX6) dX7_pass_25 rfl (by decide) mm_inX6 u_232 rfl) ?_
  refine vg_cons (vt_iload_n dX7_pass_28 rfl rfl) ?_
  refine vg_cons (vt_iadd dX7_pass_29 rfl) ?_
  refine vg_cons (vt_sipush dX7_pass_30 (by decide) rfl) ?_
  refine vg_cons (vt_cmp_le dX7_pass_33 (by decide) rfl) ?_
  refine vg_cons (vt_aload_n dX7_pass_36 rfl rfl) ?_
  refine vg_cons (vt_iconst dX7_pass_37 rfl rfl) ?_
  refine vg_cons (vt_callV (T := TX7) (c_X7_no hcl) dX7_pass_38 rfl ww_good u_210 u_198 u_211 u_212 u_213 (by decide +kernel) (by decide) rfl) ?_
  refine vg_cons (vt_ireturn dX7_pass_41 rfl) ?_
  refine vg_cons (vt_iconst dX7_pass_42 rfl rfl) ?_
  refine vg_cons (vt_istore_n dX7_pass_43 rfl (by decide) rfl) ?_
  refine vg_cons (vt_iconst dX7_pass_44 rfl rfl) ?_
  refine vg_cons (vt_istore_n dX7_pass_45 rfl (by decide) rfl) ?_
  refine vg_cons (vt_iload_n dX7_pass_46 rfl rfl) ?_
  refine vg_cons (vt_iload_n dX7_pass_47 rfl rfl) ?_
  refine vg_cons (vt_cmp_ge dX7_pass_48 (by decide) rfl) ?_
  refine vg_cons (vt_iload_n dX7_pass_51 rfl rfl) ?_
  refine vg_cons (vt_aload_n dX7_pass_52 rfl rfl) ?_
  refine vg_cons (vt_getfield (T := TX7) dX7_pass_53 rfl (by decide) mm_inX7 u_202 rfl) ?_
  refine vg_cons (vt_no) ?_
  refine vg_cons (vt_iadd dX7_pass_59 rfl) ?_
  refine vg_cons (vt_istore_n dX7_pass_60 rfl (by decide) rfl) ?_
  refine vg_cons (vt_iinc dX7_pass_61 rfl rfl) ?_
  refine vg_cons (vt_goto dX7_pass_64 (by decide)) ?_
  refine vg_cons (vt_iload_n dX7_pass_67 rfl rfl) ?_
  refine vg_cons (vt_ireturn dX7_pass_68 rfl) ?_
  exact fun _ h => absurd h List.not_mem_nil
theorem m_X7_pass : vg_Code k_X7_pass := fun q h => (s_X7_pass (nm := []) (fun n hn => nomatch hn) q h).1

def pm_X7_pass : vgT → vgS → Prop := fun av σ => match av with
  | [.inr (40, 0, 0), .inl (.int m)] => mm_fr σ
  | _ => False
def mf_X7_pass : vgT → Int32 × Int32 := fun av => match av with
  | [.inr (40, 0, 0), .inl (.int m)] => (if wp_r m (1) (60) then (0, 0) else (1, 0))
  | _ => (0, 0)
theorem wm_X7_pass : ∀ av σ, pm_X7_pass av σ → vg_wd av ≤ 4 := by
  intro av σ h
  unfold pm_X7_pass at h
  split at h
  · exact Nat.le_of_ble_eq_true rfl
  · exact h.elim
/-- the loop's head: no minute yet -/
abbrev pe_X7_pass (q : Int32 × Int32) : vgF := vi_exit (fun lv st σ1 => ∃ m : Int32, (wp_r m 1 60 ∧ q = (0, 0)) ∧ lv = [(0, .inr (40, 0, 0)), (1, .inl (.int m)), (2, .inl (.int 0)), (3, .inl (.int (nI 0)))] ∧ st = [] ∧ σ1 (41, 0, 0) 9 = 0 ∧ σ1 (41, 0, 0) 10 = 0 ∧ σ1 (40, 0, 0) 0 = 0)
set_option maxRecDepth 20000 in
theorem gx_X7_pass : ∀ av σ, pm_X7_pass av σ → vg_Go ([(46, pe_X7_pass (mf_X7_pass av))] ++ k_X7_pass) (mm_Po (mf_X7_pass av)) 0 (vg_args 0 av) [] σ := by
  intro av σ h
  unfold pm_X7_pass at h
  split at h
  next m =>
    refine vg_run (cuts := [(46, [0, 1, 2, 3])]) (vm_code1 m_X7_pass) 80 ?_
    refine And.intro trivial (And.intro (fun z => ?_) (fun z => ?_))
    · have e : mf_X7_pass [.inr (40, 0, 0), .inl (.int m)] = (1, 0) := by
        show (if _ then _ else _) = _
        rw [if_neg (jb_0.mp z)]
      rw [e]
      exact And.intro trivial ⟨rfl, rfl⟩
    have c1 : wp_r m (1) (60) := Classical.not_not.mp (fun y => z (jb_0.mpr y))
    have e : mf_X7_pass [.inr (40, 0, 0), .inl (.int m)] = (0, 0) := by
      show (if _ then _ else _) = _
      rw [if_pos c1]
    rw [e]
    have h8 : σ (41, 0, 0) 8 + m ≤ 9999 := wx_le h.1.1 c1
    refine And.intro (fun _ => ?_) (fun z => absurd h8 z)
    refine vg_run (cuts := []) (vm_code1 m_X7_pass) 1 ?_
    exact ⟨m, ⟨c1, rfl⟩, rfl, rfl, ⟨h.1.2.1, h.1.2.2.1, rfl⟩⟩
  next => exact h.elim
section PL
variable {p : Program} {l : Launch} {e : Env} {R : Room} {s : State} {m : MethodId} {args : Array Value} {below : List Frame} {meth : Method} {c : Code} {D : va_G} {tys : List (ClassId × FieldType)} {ad : vgN → Nat} {A : Nat → Prop} {Z : State → Prop} {nm : List vgN}
theorem pl_X7_pass (hcl : vg_closed mm_shp nm) (hf1 : (61, 0, 8) ∉ nm) (hf2 : (60, 0, 12) ∉ nm) {M : Nat} (hM : M ≤ 60) (hRc : R.cells = 120) (hRs : R.slots = 1200)
    (C0 : vm_C ww_tb [] mm_shp nm mm_cl mm_tyl cX7_pass 4 RX7 (some .int) 3 p R s m args meth c D tys ad A) (E0 : ∀ k n, k ≤ 120 → n ≤ 1200 → vm_E false ww_tb [] [] mm_shp nm mm_cl cX7_pass RX7 (some .int) p l e R s m args below meth c D tys ad A (mm_Po (0, 0)) k n Z) :
    ∀ n k, n + k = M → ∀ σ : vgS, σ (41, 0, 0) 9 = 0 → σ (41, 0, 0) 10 = 0 → σ (40, 0, 0) 0 = 0 → vm_X mm_shp nm mm_cl 4 p l e R s m args below meth c D tys ad A (2 * k) (20 * k) Z 46 [(0, .inr (40, 0, 0)), (1, .inl (.int (nI M))), (2, .inl (.int 0)), (3, .inl (.int (nI k)))] [] σ
  | 0, k, hk, σ, h9, h10, h0 => by
    have e : k = M := by omega
    subst e
    refine vm_sound (ex := []) (s_X7_pass hcl) C0 (E0 (2 * k) (20 * k) (by omega) (by omega)) (fun _ h => absurd h List.not_mem_nil) ?_
    refine vg_run (cuts := []) m_X7_pass 10 ?_
    exact And.intro (fun _ => ⟨rfl, h0⟩) (fun z => absurd (Int32.le_refl _) z)
  | n + 1, k, hk, σ, h9, h10, h0 => by
    have ih := pl_X7_pass hcl hf1 hf2 hM hRc hRs C0 E0 n (k + 1) (by omega)
    refine vm_sound (ex := [(56, vi_exit (fun lv st σ1 => lv = [(0, .inr (40, 0, 0)), (1, .inl (.int (nI M))), (2, .inl (.int 0)), (3, .inl (.int (nI k)))] ∧ st = [.inr (41, 0, 0), .inl (.int 0)] ∧ σ1 = σ))]) (s_X7_pass hcl) C0 (E0 (2 * k) (20 * k) (by omega) (by omega)) (fun q hq lv st σ1 hE => ?_) ?_
    · rw [List.mem_singleton.mp hq] at hE ⊢
      obtain ⟨rfl, rfl, rfl⟩ := hE
      refine vm_callM (as := []) (t := [.inl (.int 0)]) (m0 := (41, 0, 0)) (ci := 1) (T := TX6) (N := 16) C0 (a_X6_minute hcl hf1 hf2) dX7_pass_56 rfl ww_good u_271 u_267 u_272 u_273 u_274 (by decide +kernel) (by decide) rfl rfl rfl rfl (by decide) ⟨h9, h10⟩ (by rw [hRc]; omega) (by rw [hRs]; omega) (fun r σ' hr => ?_)
      have hr' : r = some (.inl (.int 0)) ∧ mm_mk 0 σ1 σ' := hr
      obtain ⟨rfl, hmk⟩ := hr'
      have g9 : σ' (41, 0, 0) 9 = 0 := (hmk (41, 0, 0) 9 (by decide) (fun z => by omega)).trans h9
      have g10 : σ' (41, 0, 0) 10 = 0 := (hmk (41, 0, 0) 10 (by decide) (fun z => by omega)).trans h10
      have g0 : σ' (40, 0, 0) 0 = 0 := (hmk (40, 0, 0) 0 (by decide) (fun z => absurd z.1 (by decide))).trans h0
      refine vm_sound (ex := [(46, vi_exit (fun lv st σ2 => lv = [(0, .inr (40, 0, 0)), (1, .inl (.int (nI M))), (2, .inl (.int 0)), (3, .inl (.int (nI (k + 1))))] ∧ st = [] ∧ σ2 = σ'))]) (s_X7_pass hcl) C0 (E0 (2 * (k + 1)) (20 * (k + 1)) (by omega) (by omega)) (fun q hq lv st σ2 hE => ?_) ?_
      · rw [List.mem_singleton.mp hq] at hE ⊢
        obtain ⟨rfl, rfl, rfl⟩ := hE
        exact ih σ2 g9 g10 g0
      · refine vg_run (cuts := [(46, [0, 1, 2, 3])]) (vm_code1 m_X7_pass) 10 ?_
        rw [← nI_1 k]
        refine vg_run (cuts := []) (vm_code1 m_X7_pass) 1 ?_
        exact ⟨rfl, rfl, rfl⟩
    · refine vg_run (cuts := []) (vm_code1 m_X7_pass) 10 ?_
      refine And.intro (fun z => absurd ((jle (c := nI M) (x := nI k) rfl rfl (by omega) (by omega)).mp z) (by omega)) (fun _ => ?_)
      exact ⟨rfl, rfl, rfl⟩
end PL
theorem wp_60 {m : Int32} (c : wp_r m 1 60) : ∃ M, M ≤ 60 ∧ m = nI M := by
  obtain ⟨M, hM, rfl⟩ := vp_in_of (wx_lt c) (by decide)
  exact ⟨M, (jle (c := nI M) (x := 60) rfl rfl (by omega) (by decide)).mp c.2, rfl⟩
theorem a_X7_pass {nm : List vgN} (hcl : vg_closed mm_shp nm) (hf1 : (61, 0, 8) ∉ nm) (hf2 : (60, 0, 12) ∉ nm) : vm_Met ww_tb [] mm_shp nm mm_cl mm_tyl yX7_pass cX7_pass 4 (some .int) 3 120 1200 pm_X7_pass (fun av _ => mm_Po (mf_X7_pass av)) :=
  vm_met hcl (by decide +kernel) rfl wm_X7_pass (fun p l e R s m args below meth c D tys ad A Z av σ hpre hRc hRs C0 E0 => by
    refine vm_sound (ex := [(46, pe_X7_pass (mf_X7_pass av))]) (s_X7_pass hcl) C0 (E0 0 0 (Nat.zero_le _) (Nat.zero_le _)) (fun q hq lv st σ1 hE => ?_) (gx_X7_pass av σ hpre)
    rw [List.mem_singleton.mp hq] at hE ⊢
    obtain ⟨m9, ⟨c9, hav⟩, rfl, rfl, h9, h10, h0⟩ := hE
    obtain ⟨M, hM, rfl⟩ := wp_60 c9
    rw [hav] at E0
    exact pl_X7_pass hcl hf1 hf2 hM hRc hRs C0 E0 M 0 rfl σ1 h9 h10 h0)
/-! many -/
theorem mm_fr_no {σ : vgS} {x : Int32} (h : mm_fr σ) : mm_fr (vg_st σ (40, 0, 0) 0 x) := h
def k_X7_manyNow : List (Nat × vgF) := [(0, vi_icst (0) 1), (1, vi_istore 2 2), (2, vi_icst (0) 3), (3, vi_istore 3 4), (4, vi_icst (0) 5), (5, vi_istore 4 7), (7, vi_icst (0) 8), (8, vi_istore 5 10), (10, vi_icst (0) 11), (11, vi_istore 6 13), (13, vi_icst (0) 14), (14, vi_istore 7 16), (16, vi_iload 7 18), (18, vi_aload 0 19), (19, vi_get mm_shp 0 1 22), (22, vi_get mm_shp 1 9 25), (25, vi_cmp (fun x y => y ≤ x) 120 28), (28, vi_aload 0 29), (29, vi_get mm_shp 0 1 32), (32, vi_get mm_shp 1 0 35), (35, vi_iload 7 37), (37, vi_aald mm_shp 2 38), (38, vi_astore 8 40), (40, vi_iload 2 41), (41, vi_aload 8 43), (43, vi_icst (1) 44), (44, vi_ald mm_shp 0 45), (45, vi_bin (fun x y => x + y) 46), (46, vi_istore 2 47), (47, vi_iload 3 48), (48, vi_aload 8 50), (50, vi_icst (6) 52), (52, vi_ald mm_shp 0 53), (53, vi_icst (-1) 54), (54, vi_cmp (fun x y => x = y) 57 61), (57, vi_icst (0) 58), (58, vi_goto 65), (61, vi_aload 8 63), (63, vi_icst (1) 64), (64, vi_ald mm_shp 0 65), (65, vi_bin (fun x y => x + y) 66), (66, vi_istore 3 67), (67, vi_iload 4 69), (69, vi_aload 0 70), (70, vi_get mm_shp 0 1 73), (73, vi_iload 7 75), (75, vi_no), (78, vi_if (fun x => x = 0) 88 81), (81, vi_aload 8 83), (83, vi_icst (1) 84), (84, vi_ald mm_shp 0 85), (85, vi_goto 89), (88, vi_icst (0) 89), (89, vi_bin (fun x y => x + y) 90), (90, vi_istore 4 92), (92, vi_iload 5 94), (94, vi_aload 0 95), (95, vi_get mm_shp 0 1 98), (98, vi_iload 7 100), (100, vi_no), (103, vi_if (fun x => x = 0) 110 106), (106, vi_icst (1) 107), (107, vi_goto 111), (110, vi_icst (0) 111), (111, vi_bin (fun x y => x + y) 112), (112, vi_istore 5 114), (114, vi_iinc 7 (1) 117), (117, vi_goto 16), (120, vi_icst (0) 121), (121, vi_istore 7 123), (123, vi_iload 7 125), (125, vi_icst (16) 127), (127, vi_cmp (fun x y => y ≤ x) 161 130), (130, vi_iload 6 132), (132, vi_aload 0 133), (133, vi_get mm_shp 0 1 136), (136, vi_iload 7 138), (138, vi_callV mm_shp 1 sp_X6_isDanger 1 141), (141, vi_if (fun x => x = 0) 151 144), (144, vi_icst (1) 145), (145, vi_iload 7 147), (147, vi_bin (fun x y => x <<< (y &&& 31)) 148), (148, vi_goto 152), (151, vi_icst (0) 152), (152, vi_bin (fun x y => x + y) 153), (153, vi_istore 6 155), (155, vi_iinc 7 (1) 158), (158, vi_goto 123), (161, vi_icst (12) 163), (165, vi_dup 166), (166, vi_icst (0) 167), (167, vi_aload 0 168), (168, vi_get mm_shp 0 1 171), (171, vi_get mm_shp 1 8 174), (174, vi_ast mm_shp 0 175), (175, vi_dup 176), (176, vi_icst (1) 177), (177, vi_aload 0 178), (178, vi_get mm_shp 0 1 181), (181, vi_get mm_shp 1 8 184), (184, vi_icst (60) 186), (186, vi_div (fun x y => x / y) 187), (187, vi_icst (24) 189), (189, vi_div (fun x y => x - x / y * y) 190), (190, vi_ast mm_shp 0 191), (191, vi_dup 192), (192, vi_icst (2) 193), (193, vi_aload 0 194), (194, vi_get mm_shp 0 1 197), (197, vi_get mm_shp 1 9 200), (200, vi_ast mm_shp 0 201), (201, vi_dup 202), (202, vi_icst (3) 203), (203, vi_iload 2 204), (204, vi_ast mm_shp 0 205), (205, vi_dup 206), (206, vi_icst (4) 207), (207, vi_iload 3 208), (208, vi_ast mm_shp 0 209), (209, vi_dup 210), (210, vi_icst (5) 211), (211, vi_iload 4 213), (213, vi_ast mm_shp 0 214), (214, vi_dup 215), (215, vi_icst (6) 217), (217, vi_aload 0 218), (218, vi_get mm_shp 0 1 221), (221, vi_get mm_shp 1 10 224), (224, vi_ast mm_shp 0 225), (225, vi_dup 226), (226, vi_icst (7) 228), (228, vi_aload 0 229), (229, vi_callV mm_shp 0 sp_X7_inForceNow 0 232), (232, vi_ast mm_shp 0 233), (233, vi_dup 234), (234, vi_icst (8) 236), (236, vi_iload 6 238), (238, vi_ast mm_shp 0 239), (239, vi_dup 240), (240, vi_icst (9) 242), (242, vi_iload 5 244), (244, vi_ast mm_shp 0 245), (245, vi_dup 246), (246, vi_icst (10) 248), (248, vi_aload 0 249), (249, vi_get mm_shp 0 1 252), (252, vi_get mm_shp 1 15 255), (255, vi_ast mm_shp 0 256), (256, vi_dup 257), (257, vi_icst (11) 259), (259, vi_aload 0 260), (260, vi_get mm_shp 0 2 263), (263, vi_ast mm_shp 0 264), (264, vi_astore 7 266), (266, vi_aload 7 268), (268, vi_iload 1 269), (269, vi_ald mm_shp 0 270), (270, vi_ret)]
set_option maxRecDepth 20000 in
theorem s_X7_manyNow {nm : List vgN} (hcl : vg_closed mm_shp nm) : ∀ q ∈ k_X7_manyNow, vm_Snd false ww_tb [] [] [] mm_shp nm mm_cl mm_tyl cX7_manyNow 9 RX7 (some .int) 2 q.1 q.2 := by
  refine vg_cons (vt_iconst dX7_manyNow_0 rfl rfl) ?_
  refine vg_cons (vt_istore_n dX7_manyNow_1 rfl (by decide) rfl) ?_
  refine vg_cons (vt_iconst dX7_manyNow_2 rfl rfl) ?_
  refine vg_cons (vt_istore_n dX7_manyNow_3 rfl (by decide) rfl) ?_
  refine vg_cons (vt_iconst dX7_manyNow_4 rfl rfl) ?_
  refine vg_cons (vt_istore dX7_manyNow_5 (by decide) rfl) ?_
  refine vg_cons (vt_iconst dX7_manyNow_7 rfl rfl) ?_
  refine vg_cons (vt_istore dX7_manyNow_8 (by decide) rfl) ?_
  refine vg_cons (vt_iconst dX7_manyNow_10 rfl rfl) ?_
  refine vg_cons (vt_istore dX7_manyNow_11 (by decide) rfl) ?_
  refine vg_cons (vt_iconst dX7_manyNow_13 rfl rfl) ?_
  refine vg_cons (vt_istore dX7_manyNow_14 (by decide) rfl) ?_
  refine vg_cons (vt_iload dX7_manyNow_16 rfl) ?_
  refine vg_cons (vt_aload_n dX7_manyNow_18 rfl rfl) ?_
  refine vg_cons (vt_getfield (T := TX7) dX7_manyNow_19 rfl (by decide) mm_inX7 u_202 rfl) ?_
  refine vg_cons (vt_getfield (T := TX6) dX7_manyNow_22 rfl (by decide) mm_inX6 u_203 rfl) ?_
  refine vg_cons (vt_cmp_ge dX7_manyNow_25 (by decide) rfl) ?_
  refine vg_cons (vt_aload_n dX7_manyNow_28 rfl rfl) ?_
  refine vg_cons (vt_getfield (T := TX7) dX7_manyNow_29 rfl (by decide) mm_inX7 u_202 rfl) ?_
  refine vg_cons (vt_getfield (T := TX6) dX7_manyNow_32 rfl (by decide) mm_inX6 u_250 rfl) ?_
  refine vg_cons (vt_iload dX7_manyNow_35 rfl) ?_
  refine vg_cons (vt_aaloadA dX7_manyNow_37 rfl rfl rfl) ?_
  refine vg_cons (vt_astore dX7_manyNow_38 (by decide) rfl) ?_
  refine vg_cons (vt_iload_n dX7_manyNow_40 rfl rfl) ?_
  refine vg_cons (vt_aload dX7_manyNow_41 rfl) ?_
  refine vg_cons (vt_iconst dX7_manyNow_43 rfl rfl) ?_
  refine vg_cons (vt_iaload dX7_manyNow_44 rfl rfl) ?_
  refine vg_cons (vt_iadd dX7_manyNow_45 rfl) ?_
  refine vg_cons (vt_istore_n dX7_manyNow_46 rfl (by decide) rfl) ?_
  refine vg_cons (vt_iload_n dX7_manyNow_47 rfl rfl) ?_
  refine vg_cons (vt_aload dX7_manyNow_48 rfl) ?_
  refine vg_cons (vt_bipush dX7_manyNow_50 (by decide) rfl) ?_
  refine vg_cons (vt_iaload dX7_manyNow_52 rfl rfl) ?_
  refine vg_cons (vt_iconst dX7_manyNow_53 rfl rfl) ?_
  refine vg_cons (vt_cmp_ne dX7_manyNow_54 (by decide) rfl) ?_
  refine vg_cons (vt_iconst dX7_manyNow_57 rfl rfl) ?_
  refine vg_cons (vt_goto dX7_manyNow_58 (by decide)) ?_
  refine vg_cons (vt_aload dX7_manyNow_61 rfl) ?_
  refine vg_cons (vt_iconst dX7_manyNow_63 rfl rfl) ?_
  refine vg_cons (vt_iaload dX7_manyNow_64 rfl rfl) ?_
  refine vg_cons (vt_iadd dX7_manyNow_65 rfl) ?_
  refine vg_cons (vt_istore_n dX7_manyNow_66 rfl (by decide) rfl) ?_
  refine vg_cons (vt_iload dX7_manyNow_67 rfl) ?_
  refine vg_cons (vt_aload_n dX7_manyNow_69 rfl rfl) ?_
  refine vg_cons (vt_getfield (T := TX7) dX7_manyNow_70 rfl (by decide) mm_inX7 u_202 rfl) ?_
  refine vg_cons (vt_iload dX7_manyNow_73 rfl) ?_
  refine vg_cons (vt_no) ?_
  refine vg_cons (vt_if_eq dX7_manyNow_78 (by decide) rfl) ?_
  refine vg_cons (vt_aload dX7_manyNow_81 rfl) ?_
  refine vg_cons (vt_iconst dX7_manyNow_83 rfl rfl) ?_
  refine vg_cons (vt_iaload dX7_manyNow_84 rfl rfl) ?_
  refine vg_cons (vt_goto dX7_manyNow_85 (by decide)) ?_
  refine vg_cons (vt_iconst dX7_manyNow_88 rfl rfl) ?_
  refine vg_cons (vt_iadd dX7_manyNow_89 rfl) ?_
  refine vg_cons (vt_istore dX7_manyNow_90 (by decide) rfl) ?_
  refine vg_cons (vt_iload dX7_manyNow_92 rfl) ?_
  refine vg_cons (vt_aload_n dX7_manyNow_94 rfl rfl) ?_
  refine vg_cons (vt_getfield (T := TX7) dX7_manyNow_95 rfl (by decide) mm_inX7 u_202 rfl) ?_
  refine vg_cons (vt_iload dX7_manyNow_98 rfl) ?_
  refine vg_cons (vt_no) ?_
  refine vg_cons (vt_if_eq dX7_manyNow_103 (by decide) rfl) ?_
  refine vg_cons (vt_iconst dX7_manyNow_106 rfl rfl) ?_
  refine vg_cons (vt_goto dX7_manyNow_107 (by decide)) ?_
  refine vg_cons (vt_iconst dX7_manyNow_110 rfl rfl) ?_
  refine vg_cons (vt_iadd dX7_manyNow_111 rfl) ?_
  refine vg_cons (vt_istore dX7_manyNow_112 (by decide) rfl) ?_
  refine vg_cons (vt_iinc dX7_manyNow_114 rfl rfl) ?_
  refine vg_cons (vt_goto dX7_manyNow_117 (by decide)) ?_
  refine vg_cons (vt_iconst dX7_manyNow_120 rfl rfl) ?_
  refine vg_cons (vt_istore dX7_manyNow_121 (by decide) rfl) ?_
  refine vg_cons (vt_iload dX7_manyNow_123 rfl) ?_
  refine vg_cons (vt_bipush dX7_manyNow_125 (by decide) rfl) ?_
  refine vg_cons (vt_cmp_ge dX7_manyNow_127 (by decide) rfl) ?_
  refine vg_cons (vt_iload dX7_manyNow_130 rfl) ?_
  refine vg_cons (vt_aload_n dX7_manyNow_132 rfl rfl) ?_
  refine vg_cons (vt_getfield (T := TX7) dX7_manyNow_133 rfl (by decide) mm_inX7 u_202 rfl) ?_
  refine vg_cons (vt_iload dX7_manyNow_136 rfl) ?_
  refine vg_cons (vt_callV (T := TX6) (c_X6_isDanger hcl) dX7_manyNow_138 rfl ww_good u_266 u_267 u_275 u_269 u_270 (by decide +kernel) (by decide) rfl) ?_
  refine vg_cons (vt_if_eq dX7_manyNow_141 (by decide) rfl) ?_
  refine vg_cons (vt_iconst dX7_manyNow_144 rfl rfl) ?_
  refine vg_cons (vt_iload dX7_manyNow_145 rfl) ?_
  refine vg_cons (vt_ishl dX7_manyNow_147 rfl) ?_
  refine vg_cons (vt_goto dX7_manyNow_148 (by decide)) ?_
  refine vg_cons (vt_iconst dX7_manyNow_151 rfl rfl) ?_
  refine vg_cons (vt_iadd dX7_manyNow_152 rfl) ?_
  refine vg_cons (vt_istore dX7_manyNow_153 (by decide) rfl) ?_
  refine vg_cons (vt_iinc dX7_manyNow_155 rfl rfl) ?_
  refine vg_cons (vt_goto dX7_manyNow_158 (by decide)) ?_
  refine vg_cons (vt_bipush dX7_manyNow_161 (by decide) rfl) ?_
  refine vg_cons (vt_dup dX7_manyNow_165 rfl) ?_
  refine vg_cons (vt_iconst dX7_manyNow_166 rfl rfl) ?_
  refine vg_cons (vt_aload_n dX7_manyNow_167 rfl rfl) ?_
  refine vg_cons (vt_getfield (T := TX7) dX7_manyNow_168 rfl (by decide) mm_inX7 u_202 rfl) ?_
  refine vg_cons (vt_getfield (T := TX6) dX7_manyNow_171 rfl (by decide) mm_inX6 u_232 rfl) ?_
  refine vg_cons (vt_iastore dX7_manyNow_174 rfl rfl) ?_
  refine vg_cons (vt_dup dX7_manyNow_175 rfl) ?_
  refine vg_cons (vt_iconst dX7_manyNow_176 rfl rfl) ?_
  refine vg_cons (vt_aload_n dX7_manyNow_177 rfl rfl) ?_
  refine vg_cons (vt_getfield (T := TX7) dX7_manyNow_178 rfl (by decide) mm_inX7 u_202 rfl) ?_
  refine vg_cons (vt_getfield (T := TX6) dX7_manyNow_181 rfl (by decide) mm_inX6 u_232 rfl) ?_
  refine vg_cons (vt_bipush dX7_manyNow_184 (by decide) rfl) ?_
  refine vg_cons (vt_idiv dX7_manyNow_186 rfl) ?_
  refine vg_cons (vt_bipush dX7_manyNow_187 (by decide) rfl) ?_
  refine vg_cons (vt_irem dX7_manyNow_189 rfl) ?_
  refine vg_cons (vt_iastore dX7_manyNow_190 rfl rfl) ?_
  refine vg_cons (vt_dup dX7_manyNow_191 rfl) ?_
  refine vg_cons (vt_iconst dX7_manyNow_192 rfl rfl) ?_
  refine vg_cons (vt_aload_n dX7_manyNow_193 rfl rfl) ?_
  refine vg_cons (vt_getfield (T := TX7) dX7_manyNow_194 rfl (by decide) mm_inX7 u_202 rfl) ?_
  refine vg_cons (vt_getfield (T := TX6) dX7_manyNow_197 rfl (by decide) mm_inX6 u_203 rfl) ?_
  refine vg_cons (vt_iastore dX7_manyNow_200 rfl rfl) ?_
  refine vg_cons (vt_dup dX7_manyNow_201 rfl) ?_
  refine vg_cons (vt_iconst dX7_manyNow_202 rfl rfl) ?_
  refine vg_cons (vt_iload_n dX7_manyNow_203 rfl rfl) ?_
  refine vg_cons (vt_iastore dX7_manyNow_204 rfl rfl) ?_
  refine vg_cons (vt_dup dX7_manyNow_205 rfl) ?_
  refine vg_cons (vt_iconst dX7_manyNow_206 rfl rfl) ?_
  refine vg_cons (vt_iload_n dX7_manyNow_207 rfl rfl) ?_
  refine vg_cons (vt_iastore dX7_manyNow_208 rfl rfl) ?_
  refine vg_cons (vt_dup dX7_manyNow_209 rfl) ?_
  refine vg_cons (vt_iconst dX7_manyNow_210 rfl rfl) ?_
  refine vg_cons (vt_iload dX7_manyNow_211 rfl) ?_
  refine vg_cons (vt_iastore dX7_manyNow_213 rfl rfl) ?_
  refine vg_cons (vt_dup dX7_manyNow_214 rfl) ?_
  refine vg_cons (vt_bipush dX7_manyNow_215 (by decide) rfl) ?_
  refine vg_cons (vt_aload_n dX7_manyNow_217 rfl rfl) ?_
  refine vg_cons (vt_getfield (T := TX7) dX7_manyNow_218 rfl (by decide) mm_inX7 u_202 rfl) ?_
  refine vg_cons (vt_getfield (T := TX6) dX7_manyNow_221 rfl (by decide) mm_inX6 u_204 rfl) ?_
  refine vg_cons (vt_iastore dX7_manyNow_224 rfl rfl) ?_
  refine vg_cons (vt_dup dX7_manyNow_225 rfl) ?_
  refine vg_cons (vt_bipush dX7_manyNow_226 (by decide) rfl) ?_
  refine vg_cons (vt_aload_n dX7_manyNow_228 rfl rfl) ?_
  refine vg_cons (vt_callV (T := TX7) (c_X7_inForceNow hcl) dX7_manyNow_229 rfl ww_good u_246 u_198 u_247 u_248 u_249 (by decide +kernel) (by decide) rfl) ?_
  refine vg_cons (vt_iastore dX7_manyNow_232 rfl rfl) ?_
  refine vg_cons (vt_dup dX7_manyNow_233 rfl) ?_
  refine vg_cons (vt_bipush dX7_manyNow_234 (by decide) rfl) ?_
  refine vg_cons (vt_iload dX7_manyNow_236 rfl) ?_
  refine vg_cons (vt_iastore dX7_manyNow_238 rfl rfl) ?_
  refine vg_cons (vt_dup dX7_manyNow_239 rfl) ?_
  refine vg_cons (vt_bipush dX7_manyNow_240 (by decide) rfl) ?_
  refine vg_cons (vt_iload dX7_manyNow_242 rfl) ?_
  refine vg_cons (vt_iastore dX7_manyNow_244 rfl rfl) ?_
  refine vg_cons (vt_dup dX7_manyNow_245 rfl) ?_
  refine vg_cons (vt_bipush dX7_manyNow_246 (by decide) rfl) ?_
  refine vg_cons (vt_aload_n dX7_manyNow_248 rfl rfl) ?_
  refine vg_cons (vt_getfield (T := TX7) dX7_manyNow_249 rfl (by decide) mm_inX7 u_202 rfl) ?_
  refine vg_cons (vt_getfield (T := TX6) dX7_manyNow_252 rfl (by decide) mm_inX6 u_276 rfl) ?_
  refine vg_cons (vt_iastore dX7_manyNow_255 rfl rfl) ?_
  refine vg_cons (vt_dup dX7_manyNow_256 rfl) ?_
  refine vg_cons (vt_bipush dX7_manyNow_257 (by decide) rfl) ?_
  refine vg_cons (vt_aload_n dX7_manyNow_259 rfl rfl) ?_
  refine vg_cons (vt_getfield (T := TX7) dX7_manyNow_260 rfl (by decide) mm_inX7 u_241 rfl) ?_
  refine vg_cons (vt_iastore dX7_manyNow_263 rfl rfl) ?_
  refine vg_cons (vt_astore dX7_manyNow_264 (by decide) rfl) ?_
  refine vg_cons (vt_aload dX7_manyNow_266 rfl) ?_
  refine vg_cons (vt_iload_n dX7_manyNow_268 rfl rfl) ?_
  refine vg_cons (vt_iaload dX7_manyNow_269 rfl rfl) ?_
  refine vg_cons (vt_ireturn dX7_manyNow_270 rfl) ?_
  exact fun _ h => absurd h List.not_mem_nil
theorem m_X7_manyNow : vg_Code k_X7_manyNow := fun q h => (s_X7_manyNow (nm := []) (fun n hn => nomatch hn) q h).1

def pm_X7_manyNow : vgT → vgS → Prop := fun av σ => match av with
  | [.inr (40, 0, 0), .inl (.int w)] => mm_fr σ ∧ vp_in w 12
  | _ => False
def po_X7_manyNow : vgT → vgS → vgO := fun av σ r σ' => match av with
  | [.inr (40, 0, 0), .inl (.int w)] => r = some (.inl (.int (wmv w))) ∧ σ' (40, 0, 0) 0 = σ (40, 0, 0) 0 ∧ ∀ n k, n.1 < 60 → σ' n k = σ n k
  | _ => False
theorem wm_X7_manyNow : ∀ av σ, pm_X7_manyNow av σ → vg_wd av ≤ 9 := by
  intro av σ h
  unfold pm_X7_manyNow at h
  split at h
  · exact Nat.le_of_ble_eq_true rfl
  · exact h.elim
abbrev ex1_X7_manyNow (P : vgO) : List (Nat × vgF) := [(163, vm_ex1 (60, 0, 12) 12 (vg_Go k_X7_manyNow P) 165)]
abbrev lv_X7_manyNow (w i : Int32) : vgL := [(0, .inr (40, 0, 0)), (1, .inl (.int w)), (2, .inl (.int 0)), (3, .inl (.int 0)), (4, .inl (.int 0)), (5, .inl (.int 0)), (6, .inl (.int 0)), (7, .inl (.int i))]
set_option maxRecDepth 20000 in
theorem gt_X7_manyNow {σ : vgS} {w : Int32} (h : mm_fr σ) (hw : vp_in w 12) : vg_Go k_X7_manyNow (po_X7_manyNow [.inr (40, 0, 0), .inl (.int w)] σ) 165 (lv_X7_manyNow w (wi 16)) [.inr (60, 0, 12)] (vm_z σ (60, 0, 12)) := by
  have h10 : vm_z σ (60, 0, 12) (41, 0, 0) 10 = 0 := h.1.2.2.1
  have i0 : vp_in (0 : Int32) 12 := mm_i 0 12 0 rfl (by decide) (by decide)
  have i1 : vp_in (1 : Int32) 12 := mm_i 1 12 1 rfl (by decide) (by decide)
  have i2 : vp_in (2 : Int32) 12 := mm_i 2 12 2 rfl (by decide) (by decide)
  have i3 : vp_in (3 : Int32) 12 := mm_i 3 12 3 rfl (by decide) (by decide)
  have i4 : vp_in (4 : Int32) 12 := mm_i 4 12 4 rfl (by decide) (by decide)
  have i5 : vp_in (5 : Int32) 12 := mm_i 5 12 5 rfl (by decide) (by decide)
  have i6 : vp_in (6 : Int32) 12 := mm_i 6 12 6 rfl (by decide) (by decide)
  have i7 : vp_in (7 : Int32) 12 := mm_i 7 12 7 rfl (by decide) (by decide)
  have i8 : vp_in (8 : Int32) 12 := mm_i 8 12 8 rfl (by decide) (by decide)
  have i9 : vp_in (9 : Int32) 12 := mm_i 9 12 9 rfl (by decide) (by decide)
  have i10 : vp_in (10 : Int32) 12 := mm_i 10 12 10 rfl (by decide) (by decide)
  have i11 : vp_in (11 : Int32) 12 := mm_i 11 12 11 rfl (by decide) (by decide)
  refine vg_run (cuts := []) m_X7_manyNow 100 ?_
  refine And.intro rfl (And.intro i0 (And.intro rfl (And.intro (by decide) (And.intro (by decide) (And.intro i1 (And.intro rfl (And.intro i2 (And.intro rfl (And.intro i3 (And.intro rfl (And.intro i4 (And.intro rfl (And.intro i5 (And.intro rfl (And.intro i6 (And.intro rfl (And.intro h10 (And.intro i7 (And.intro rfl (And.intro i8 (And.intro rfl (And.intro i9 (And.intro rfl (And.intro i10 (And.intro rfl (And.intro i11 (And.intro hw ?_)))))))))))))))))))))))))))
  refine And.intro ?_ (And.intro rfl ?_)
  · obtain ⟨k, hk, rfl⟩ := vp_in_of hw (by decide)
    rw [nI_clamp (show k < 2147483648 by omega)]
    match k, hk with
    | 0, _ => exact congrArg (fun x => some (Sum.inl (Value.int x))) (show σ (41, 0, 0) 8 = 0 from h.1.1)
    | 1, _ => exact congrArg (fun x => some (Sum.inl (Value.int x))) (show σ (41, 0, 0) 8 / 60 - σ (41, 0, 0) 8 / 60 / 24 * 24 = 0 by rw [show σ (41, 0, 0) 8 = 0 from h.1.1]; decide)
    | 2, _ => exact congrArg (fun x => some (Sum.inl (Value.int x))) (show σ (41, 0, 0) 9 = 0 from h.1.2.1)
    | 3, _ => rfl
    | 4, _ => rfl
    | 5, _ => rfl
    | 6, _ => exact congrArg (fun x => some (Sum.inl (Value.int x))) (show σ (41, 0, 0) 10 = 0 from h.1.2.2.1)
    | 7, _ => rfl
    | 8, _ => rfl
    | 9, _ => rfl
    | 10, _ => exact congrArg (fun x => some (Sum.inl (Value.int x))) (show σ (41, 0, 0) 15 = 0 from h.1.2.2.2.2.2.2.2)
    | 11, _ => exact congrArg (fun x => some (Sum.inl (Value.int x))) (show σ (40, 0, 0) 2 = 3 from h.2.1)
  · intro n k hn
    have a2 : ¬ n = (60, 0, 12) := fun z => by rw [z] at hn; exact absurd hn (by decide)
    show vg_st (vg_st (vg_st (vg_st (vg_st (vg_st (vg_st (vg_st (vg_st (vg_st (vg_st (vg_st (vm_z σ (60, 0, 12)) (60, 0, 12) _ _) (60, 0, 12) _ _) (60, 0, 12) _ _) (60, 0, 12) _ _) (60, 0, 12) _ _) (60, 0, 12) _ _) (60, 0, 12) _ _) (60, 0, 12) _ _) (60, 0, 12) _ _) (60, 0, 12) _ _) (60, 0, 12) _ _) (60, 0, 12) _ _ n k = σ n k
    repeat rw [vg_st_ne (fun z => a2 z.1)]
    rw [vm_z_ne a2]
theorem gl_X7_manyNow {σ : vgS} {w : Int32} (h : mm_fr σ) (hw : vp_in w 12) : ∀ n k, n + k = 16 → vg_Go (ex1_X7_manyNow (po_X7_manyNow [.inr (40, 0, 0), .inl (.int w)] σ) ++ k_X7_manyNow) (po_X7_manyNow [.inr (40, 0, 0), .inl (.int w)] σ) 123 (lv_X7_manyNow w (wi k)) [] σ
  | 0, k, hk => by
    have e : k = 16 := by omega
    subst e
    refine vg_run (cuts := [(123, [0, 1, 2, 3, 4, 5, 6, 7])]) (vm_code1 m_X7_manyNow) 10 ?_
    refine And.intro (fun _ => ⟨[], rfl, gt_X7_manyNow h hw⟩) (fun z => absurd wi_ge.2.2.2 z)
  | n + 1, k, hk => by
    have hi : vp_in (wi k) 16 := wi_in (by omega) (by decide)
    have ih := gl_X7_manyNow h hw n (k + 1) (by omega)
    refine vg_run (cuts := [(123, [0, 1, 2, 3, 4, 5, 6, 7])]) (vm_code1 m_X7_manyNow) 20 ?_
    refine And.intro (fun z => absurd z (wi_lt16 k (by omega))) (fun _ => ?_)
    refine And.intro ⟨hi, h.2.2 _ (by rcases Nat.lt_or_ge (wi k).toNatClampNeg 16 with y | y; exact y; exact absurd (Or.inr y) hi)⟩ ?_
    refine And.intro (fun _ => ih) (fun z => absurd rfl z)
set_option maxRecDepth 20000 in
theorem gx_X7_manyNow : ∀ av σ, pm_X7_manyNow av σ → vg_Go (ex1_X7_manyNow (po_X7_manyNow av σ) ++ k_X7_manyNow) (po_X7_manyNow av σ) 0 (vg_args 0 av) [] σ := by
  intro av σ h
  unfold pm_X7_manyNow at h
  split at h
  next w =>
    refine vg_run (cuts := [(123, [0, 1, 2, 3, 4, 5, 6, 7])]) (vm_code1 m_X7_manyNow) 40 ?_
    refine And.intro (fun _ => ?_) (fun z => absurd (show σ (41, 0, 0) 9 ≤ 0 by rw [h.1.1.2.1]; decide) z)
    exact gl_X7_manyNow h.1 h.2 16 0 rfl
  next => exact h.elim
theorem a_X7_manyNow {nm : List vgN} (hcl : vg_closed mm_shp nm) (hf2 : (60, 0, 12) ∉ nm) : vm_Met ww_tb [] mm_shp nm mm_cl mm_tyl yX7_manyNow cX7_manyNow 9 (some .int) 2 1 12 pm_X7_manyNow po_X7_manyNow :=
  vm_met hcl (by decide +kernel) rfl wm_X7_manyNow (fun p l e R s m args below meth c D tys ad A Z av σ hpre hRc hRs C0 E0 => by
    refine vm_sound (ex := ex1_X7_manyNow (po_X7_manyNow av σ)) (s_X7_manyNow hcl) C0 (E0 0 0 (Nat.zero_le _) (Nat.zero_le _)) (fun q hq lv st σ1 hE => ?_) (gx_X7_manyNow av σ hpre)
    rw [List.mem_singleton.mp hq] at hE ⊢
    obtain ⟨t, rfl, hgo⟩ := hE
    exact vm_alloc C0 hf2 rfl rfl (atype := .int) rfl (fun _ _ => rfl) (by decide) mm_aI dX7_manyNow_163 (by decide) (by decide) (by decide) (by rw [hRc]; decide) (by rw [hRs]; decide) (fun ad' C1 hag => vm_sound (ex := []) (s_X7_manyNow C1.2.2.2.2.2.2.2.2.2.2.2.2.1) C1 (vm_E_up hcl hag (E0 1 12 (Nat.le_refl _) (Nat.le_refl _))) (fun _ h => absurd h List.not_mem_nil) hgo))
def k_X7_many : List (Nat × vgF) := [(0, vi_aload 0 1), (1, vi_icst (0) 2), (2, vi_put mm_shp 0 0 5), (5, vi_iload 1 6), (6, vi_icst (0) 7), (7, vi_icst (11) 9), (9, vi_callS sp_X7_in 3 12), (12, vi_if (fun x => x = 0) 15 21), (15, vi_aload 0 16), (16, vi_icst (1) 17), (17, vi_callV mm_shp 0 sp_X7_no 1 20), (20, vi_ret), (21, vi_aload 0 22), (22, vi_iload 1 23), (23, vi_no), (26, vi_ret)]
set_option maxRecDepth 20000 in
theorem s_X7_many {nm : List vgN} (hcl : vg_closed mm_shp nm) : ∀ q ∈ k_X7_many, vm_Snd false ww_tb [] [] [] mm_shp nm mm_cl mm_tyl cX7_many 2 RX7 (some .int) 4 q.1 q.2 := by
  refine vg_cons (vt_aload_n dX7_many_0 rfl rfl) ?_
  refine vg_cons (vt_iconst dX7_many_1 rfl rfl) ?_
  refine vg_cons (vt_putfield (T := TX7) tyX7 dX7_many_2 rfl (by decide) mm_inX7 tyX7_ok nmX7 rfl rfl u_201 rfl) ?_
  refine vg_cons (vt_iload_n dX7_many_5 rfl rfl) ?_
  refine vg_cons (vt_iconst dX7_many_6 rfl rfl) ?_
  refine vg_cons (vt_bipush dX7_many_7 (by decide) rfl) ?_
  refine vg_cons (vt_callS (c_X7_in hcl) dX7_many_9 ww_good u_197 u_198 u_200 u_199 (by decide +kernel) (by decide) rfl) ?_
  refine vg_cons (vt_if_ne dX7_many_12 (by decide) rfl) ?_
  refine vg_cons (vt_aload_n dX7_many_15 rfl rfl) ?_
  refine vg_cons (vt_iconst dX7_many_16 rfl rfl) ?_
  refine vg_cons (vt_callV (T := TX7) (c_X7_no hcl) dX7_many_17 rfl ww_good u_210 u_198 u_211 u_212 u_213 (by decide +kernel) (by decide) rfl) ?_
  refine vg_cons (vt_ireturn dX7_many_20 rfl) ?_
  refine vg_cons (vt_aload_n dX7_many_21 rfl rfl) ?_
  refine vg_cons (vt_iload_n dX7_many_22 rfl rfl) ?_
  refine vg_cons (vt_no) ?_
  refine vg_cons (vt_ireturn dX7_many_26 rfl) ?_
  exact fun _ h => absurd h List.not_mem_nil
theorem m_X7_many : vg_Code k_X7_many := fun q h => (s_X7_many (nm := []) (fun n hn => nomatch hn) q h).1

def pm_X7_many : vgT → vgS → Prop := fun av σ => match av with
  | [.inr (40, 0, 0), .inl (.int w)] => mm_fr σ
  | _ => False
def mf_X7_many : vgT → Int32 × Int32 := fun av => match av with
  | [.inr (40, 0, 0), .inl (.int w)] => (if wp_m w then (0, (wmv w)) else (1, 0))
  | _ => (0, 0)
theorem wm_X7_many : ∀ av σ, pm_X7_many av σ → vg_wd av ≤ 2 := by
  intro av σ h
  unfold pm_X7_many at h
  split at h
  · exact Nat.le_of_ble_eq_true rfl
  · exact h.elim
set_option maxRecDepth 20000 in
theorem gx_X7_many : ∀ av σ, pm_X7_many av σ → vg_Go ([(23, vm_exM (40, 0, 0) 1 pm_X7_manyNow po_X7_manyNow (vg_Go k_X7_many (mm_Po (mf_X7_many av))) 26)] ++ k_X7_many) (mm_Po (mf_X7_many av)) 0 (vg_args 0 av) [] σ := by
  intro av σ h
  unfold pm_X7_many at h
  split at h
  next w =>
    refine vg_run (cuts := []) (vm_code1 m_X7_many) 80 ?_
    refine And.intro trivial (And.intro (fun z => ?_) (fun z => ?_))
    · have e : mf_X7_many [.inr (40, 0, 0), .inl (.int w)] = (1, 0) := by
        show (if _ then _ else _) = _
        rw [if_neg (jb_0.mp z)]
      rw [e]
      exact And.intro trivial ⟨rfl, rfl⟩
    have c1 : wp_m w := Classical.not_not.mp (fun y => z (jb_0.mpr y))
    have e : mf_X7_many [.inr (40, 0, 0), .inl (.int w)] = (0, (wmv w)) := by
      show (if _ then _ else _) = _
      rw [if_pos c1]
    rw [e]
    exact ⟨[.inl (.int w)], rfl, rfl, ⟨mm_fr_no h, jc12.mpr c1⟩, fun r σ' hr => by
      have hr1 : r = some (.inl (.int (wmv w))) := hr.1
      have hr2 : σ' (40, 0, 0) 0 = 0 := hr.2.1
      rw [hr1]
      refine vg_run (cuts := []) m_X7_many 4 ?_
      exact ⟨rfl, hr2⟩⟩
  next => exact h.elim
theorem a_X7_many {nm : List vgN} (hcl : vg_closed mm_shp nm) (hf2 : (60, 0, 12) ∉ nm) : vm_Met ww_tb [] mm_shp nm mm_cl mm_tyl yX7_many cX7_many 2 (some .int) 4 1 12 pm_X7_many (fun av _ => mm_Po (mf_X7_many av)) :=
  vm_met hcl (by decide +kernel) rfl wm_X7_many (fun p l e R s m args below meth c D tys ad A Z av σ hpre hRc hRs C0 E0 => by
    refine vm_sound (ex := [(23, vm_exM (40, 0, 0) 1 pm_X7_manyNow po_X7_manyNow (vg_Go k_X7_many (mm_Po (mf_X7_many av))) 26)]) (s_X7_many hcl) C0 (E0 0 0 (Nat.zero_le _) (Nat.zero_le _)) (fun q hq lv st σ1 hE => ?_) (gx_X7_many av σ hpre)
    rw [List.mem_singleton.mp hq] at hE ⊢
    obtain ⟨as, hst, hal, hp1, hgo⟩ := hE
    exact vm_callM (ci := 0) (T := TX7) (N := 3) C0 (a_X7_manyNow hcl hf2) dX7_many_23 rfl ww_good u_277 u_198 u_278 u_279 u_280 (by decide +kernel) (by decide) hst hal rfl rfl (by decide) hp1 (by rw [hRc]; decide) (by rw [hRs]; decide) (fun r σ' hr => vm_sound (ex := []) (s_X7_many hcl) C0 (E0 1 12 (Nat.le_refl _) (Nat.le_refl _)) (fun _ h => absurd h List.not_mem_nil) (hgo r σ' hr)))
