-- words of the tables, and what stands at each place of the methods' code (laid by program)
theorem u_309 : Cond.code yX7_sirenNow cX7_sirenNow 7 (some .int) ∈ ww_tb := by decide +kernel
theorem u_310 : Cond.methodLink RX7 185 yX7_sirenNow ∈ ww_tb := by decide +kernel
theorem u_311 : Cond.instanceMethod yX7_sirenNow ∈ ww_tb := by decide +kernel
theorem u_312 : Cond.selects RX7 yX7_sirenNow yX7_sirenNow ∈ ww_tb := by decide +kernel
theorem u_313 : Cond.constantLong RX7 189 (4814) ∈ ww_tb := by decide +kernel
theorem u_314 : Cond.constantLong RX7 191 (31) ∈ ww_tb := by decide +kernel
theorem dX7_sirenWould_0 : decode cX7_sirenWould 0 = .ok (.aload_n 0, 1) := by decide +kernel
theorem dX7_sirenWould_1 : decode cX7_sirenWould 1 = .ok (.iconst 0, 1) := by decide +kernel
theorem dX7_sirenWould_2 : decode cX7_sirenWould 2 = .ok (.putfield 20, 3) := by decide +kernel
theorem dX7_sirenWould_5 : decode cX7_sirenWould 5 = .ok (.iload_n 1, 1) := by decide +kernel
theorem dX7_sirenWould_6 : decode cX7_sirenWould 6 = .ok (.invokestatic 39, 3) := by decide +kernel
theorem dX7_sirenWould_9 : decode cX7_sirenWould 9 = .ok (.ifCond .ne 9, 3) := by decide +kernel
theorem dX7_sirenWould_12 : decode cX7_sirenWould 12 = .ok (.aload_n 0, 1) := by decide +kernel
theorem dX7_sirenWould_13 : decode cX7_sirenWould 13 = .ok (.iconst 1, 1) := by decide +kernel
theorem dX7_sirenWould_14 : decode cX7_sirenWould 14 = .ok (.invokevirtual 43, 3) := by decide +kernel
theorem dX7_sirenWould_17 : decode cX7_sirenWould 17 = .ok (.ireturn, 1) := by decide +kernel
theorem dX7_sirenWould_18 : decode cX7_sirenWould 18 = .ok (.iload_n 2, 1) := by decide +kernel
theorem dX7_sirenWould_19 : decode cX7_sirenWould 19 = .ok (.iconst 0, 1) := by decide +kernel
theorem dX7_sirenWould_20 : decode cX7_sirenWould 20 = .ok (.iconst 3, 1) := by decide +kernel
theorem dX7_sirenWould_21 : decode cX7_sirenWould 21 = .ok (.invokestatic 29, 3) := by decide +kernel
theorem dX7_sirenWould_24 : decode cX7_sirenWould 24 = .ok (.ifCond .eq 13, 3) := by decide +kernel
theorem dX7_sirenWould_27 : decode cX7_sirenWould 27 = .ok (.iload_n 3, 1) := by decide +kernel
theorem dX7_sirenWould_28 : decode cX7_sirenWould 28 = .ok (.iconst 1, 1) := by decide +kernel
theorem dX7_sirenWould_29 : decode cX7_sirenWould 29 = .ok (.bipush 60, 2) := by decide +kernel
theorem dX7_sirenWould_31 : decode cX7_sirenWould 31 = .ok (.invokestatic 29, 3) := by decide +kernel
theorem dX7_sirenWould_34 : decode cX7_sirenWould 34 = .ok (.ifCond .ne 9, 3) := by decide +kernel
theorem dX7_sirenWould_37 : decode cX7_sirenWould 37 = .ok (.aload_n 0, 1) := by decide +kernel
theorem dX7_sirenWould_38 : decode cX7_sirenWould 38 = .ok (.iconst 2, 1) := by decide +kernel
theorem dX7_sirenWould_39 : decode cX7_sirenWould 39 = .ok (.invokevirtual 43, 3) := by decide +kernel
theorem dX7_sirenWould_42 : decode cX7_sirenWould 42 = .ok (.ireturn, 1) := by decide +kernel
theorem dX7_sirenWould_43 : decode cX7_sirenWould 43 = .ok (.aload_n 0, 1) := by decide +kernel
theorem dX7_sirenWould_44 : decode cX7_sirenWould 44 = .ok (.iload_n 1, 1) := by decide +kernel
theorem dX7_sirenWould_45 : decode cX7_sirenWould 45 = .ok (.iload_n 2, 1) := by decide +kernel
theorem dX7_sirenWould_46 : decode cX7_sirenWould 46 = .ok (.iload_n 3, 1) := by decide +kernel
theorem dX7_sirenWould_47 : decode cX7_sirenWould 47 = .ok (.invokevirtual 185, 3) := by decide +kernel
theorem dX7_sirenWould_50 : decode cX7_sirenWould 50 = .ok (.ireturn, 1) := by decide +kernel
theorem dX7_digest_0 : decode cX7_digest 0 = .ok (.aload_n 0, 1) := by decide +kernel
theorem dX7_digest_1 : decode cX7_digest 1 = .ok (.iconst 0, 1) := by decide +kernel
theorem dX7_digest_2 : decode cX7_digest 2 = .ok (.putfield 20, 3) := by decide +kernel
theorem dX7_digest_5 : decode cX7_digest 5 = .ok (.ldc2_w 189, 3) := by decide +kernel
theorem dX7_digest_8 : decode cX7_digest 8 = .ok (.lstore_n 1, 1) := by decide +kernel
theorem dX7_digest_9 : decode cX7_digest 9 = .ok (.iconst 0, 1) := by decide +kernel
theorem dX7_digest_10 : decode cX7_digest 10 = .ok (.istore_n 3, 1) := by decide +kernel
theorem dX7_digest_11 : decode cX7_digest 11 = .ok (.iload_n 3, 1) := by decide +kernel
theorem dX7_digest_12 : decode cX7_digest 12 = .ok (.bipush 11, 2) := by decide +kernel
theorem dX7_digest_14 : decode cX7_digest 14 = .ok (.if_icmp .gt 22, 3) := by decide +kernel
theorem dX7_digest_17 : decode cX7_digest 17 = .ok (.lload_n 1, 1) := by decide +kernel
theorem dX7_digest_18 : decode cX7_digest 18 = .ok (.ldc2_w 191, 3) := by decide +kernel
theorem dX7_digest_21 : decode cX7_digest 21 = .ok (.lmul, 1) := by decide +kernel
theorem dX7_digest_22 : decode cX7_digest 22 = .ok (.aload_n 0, 1) := by decide +kernel
theorem dX7_digest_23 : decode cX7_digest 23 = .ok (.iload_n 3, 1) := by decide +kernel
theorem dX7_digest_24 : decode cX7_digest 24 = .ok (.invokevirtual 172, 3) := by decide +kernel
theorem dX7_digest_27 : decode cX7_digest 27 = .ok (.i2l, 1) := by decide +kernel
theorem dX7_digest_28 : decode cX7_digest 28 = .ok (.ladd, 1) := by decide +kernel
theorem dX7_digest_29 : decode cX7_digest 29 = .ok (.lstore_n 1, 1) := by decide +kernel
theorem dX7_digest_30 : decode cX7_digest 30 = .ok (.iinc 3 1, 3) := by decide +kernel
theorem dX7_digest_33 : decode cX7_digest 33 = .ok (.goto (-22), 3) := by decide +kernel
theorem dX7_digest_36 : decode cX7_digest 36 = .ok (.iconst 0, 1) := by decide +kernel
theorem dX7_digest_37 : decode cX7_digest 37 = .ok (.istore_n 3, 1) := by decide +kernel
theorem dX7_digest_38 : decode cX7_digest 38 = .ok (.iload_n 3, 1) := by decide +kernel
theorem dX7_digest_39 : decode cX7_digest 39 = .ok (.aload_n 0, 1) := by decide +kernel
theorem dX7_digest_40 : decode cX7_digest 40 = .ok (.getfield 10, 3) := by decide +kernel
theorem dX7_digest_43 : decode cX7_digest 43 = .ok (.getfield 33, 3) := by decide +kernel
theorem dX7_digest_46 : decode cX7_digest 46 = .ok (.if_icmp .ge 127, 3) := by decide +kernel
theorem dX7_digest_49 : decode cX7_digest 49 = .ok (.iconst 0, 1) := by decide +kernel
theorem dX7_digest_50 : decode cX7_digest 50 = .ok (.istore 4, 2) := by decide +kernel
theorem dX7_digest_52 : decode cX7_digest 52 = .ok (.iload 4, 2) := by decide +kernel
theorem dX7_digest_54 : decode cX7_digest 54 = .ok (.bipush 8, 2) := by decide +kernel
theorem dX7_digest_56 : decode cX7_digest 56 = .ok (.if_icmp .gt 24, 3) := by decide +kernel
theorem dX7_digest_59 : decode cX7_digest 59 = .ok (.lload_n 1, 1) := by decide +kernel
theorem dX7_digest_60 : decode cX7_digest 60 = .ok (.ldc2_w 191, 3) := by decide +kernel
theorem dX7_digest_63 : decode cX7_digest 63 = .ok (.lmul, 1) := by decide +kernel
theorem dX7_digest_64 : decode cX7_digest 64 = .ok (.aload_n 0, 1) := by decide +kernel
theorem dX7_digest_65 : decode cX7_digest 65 = .ok (.iload_n 3, 1) := by decide +kernel
theorem dX7_digest_66 : decode cX7_digest 66 = .ok (.iload 4, 2) := by decide +kernel
theorem dX7_digest_68 : decode cX7_digest 68 = .ok (.invokevirtual 157, 3) := by decide +kernel
theorem dX7_digest_71 : decode cX7_digest 71 = .ok (.i2l, 1) := by decide +kernel
theorem dX7_digest_72 : decode cX7_digest 72 = .ok (.ladd, 1) := by decide +kernel
theorem dX7_digest_73 : decode cX7_digest 73 = .ok (.lstore_n 1, 1) := by decide +kernel
theorem dX7_digest_74 : decode cX7_digest 74 = .ok (.iinc 4 1, 3) := by decide +kernel
theorem dX7_digest_77 : decode cX7_digest 77 = .ok (.goto (-25), 3) := by decide +kernel
theorem dX7_digest_80 : decode cX7_digest 80 = .ok (.lload_n 1, 1) := by decide +kernel
theorem dX7_digest_81 : decode cX7_digest 81 = .ok (.ldc2_w 191, 3) := by decide +kernel
theorem dX7_digest_84 : decode cX7_digest 84 = .ok (.lmul, 1) := by decide +kernel
theorem dX7_digest_85 : decode cX7_digest 85 = .ok (.aload_n 0, 1) := by decide +kernel
theorem dX7_digest_86 : decode cX7_digest 86 = .ok (.iload_n 3, 1) := by decide +kernel
theorem dX7_digest_87 : decode cX7_digest 87 = .ok (.bipush 9, 2) := by decide +kernel
theorem dX7_digest_89 : decode cX7_digest 89 = .ok (.invokevirtual 179, 3) := by decide +kernel
theorem dX7_digest_92 : decode cX7_digest 92 = .ok (.i2l, 1) := by decide +kernel
theorem dX7_digest_93 : decode cX7_digest 93 = .ok (.ladd, 1) := by decide +kernel
theorem dX7_digest_94 : decode cX7_digest 94 = .ok (.lstore_n 1, 1) := by decide +kernel
theorem dX7_digest_95 : decode cX7_digest 95 = .ok (.iconst 0, 1) := by decide +kernel
theorem dX7_digest_96 : decode cX7_digest 96 = .ok (.istore 4, 2) := by decide +kernel
theorem dX7_digest_98 : decode cX7_digest 98 = .ok (.iload 4, 2) := by decide +kernel
theorem dX7_digest_100 : decode cX7_digest 100 = .ok (.aload_n 0, 1) := by decide +kernel
theorem dX7_digest_101 : decode cX7_digest 101 = .ok (.getfield 10, 3) := by decide +kernel
theorem dX7_digest_104 : decode cX7_digest 104 = .ok (.getfield 36, 3) := by decide +kernel
theorem dX7_digest_107 : decode cX7_digest 107 = .ok (.if_icmp .ge 60, 3) := by decide +kernel
theorem dX7_digest_110 : decode cX7_digest 110 = .ok (.iconst 0, 1) := by decide +kernel
theorem dX7_digest_111 : decode cX7_digest 111 = .ok (.istore 5, 2) := by decide +kernel
theorem dX7_digest_113 : decode cX7_digest 113 = .ok (.iload 5, 2) := by decide +kernel
theorem dX7_digest_115 : decode cX7_digest 115 = .ok (.iconst 4, 1) := by decide +kernel
theorem dX7_digest_116 : decode cX7_digest 116 = .ok (.if_icmp .gt 30, 3) := by decide +kernel
theorem dX7_digest_119 : decode cX7_digest 119 = .ok (.lload_n 1, 1) := by decide +kernel
theorem dX7_digest_120 : decode cX7_digest 120 = .ok (.ldc2_w 191, 3) := by decide +kernel
theorem dX7_digest_123 : decode cX7_digest 123 = .ok (.lmul, 1) := by decide +kernel
theorem dX7_digest_124 : decode cX7_digest 124 = .ok (.aload_n 0, 1) := by decide +kernel
theorem dX7_digest_125 : decode cX7_digest 125 = .ok (.getfield 10, 3) := by decide +kernel
theorem dX7_digest_128 : decode cX7_digest 128 = .ok (.iload_n 3, 1) := by decide +kernel
theorem dX7_digest_129 : decode cX7_digest 129 = .ok (.iload 4, 2) := by decide +kernel
theorem dX7_digest_131 : decode cX7_digest 131 = .ok (.invokevirtual 60, 3) := by decide +kernel
theorem dX7_digest_134 : decode cX7_digest 134 = .ok (.iload 5, 2) := by decide +kernel
theorem dX7_digest_136 : decode cX7_digest 136 = .ok (.iaload, 1) := by decide +kernel
theorem dX7_digest_137 : decode cX7_digest 137 = .ok (.i2l, 1) := by decide +kernel
theorem dX7_digest_138 : decode cX7_digest 138 = .ok (.ladd, 1) := by decide +kernel
theorem dX7_digest_139 : decode cX7_digest 139 = .ok (.lstore_n 1, 1) := by decide +kernel
theorem dX7_digest_140 : decode cX7_digest 140 = .ok (.iinc 5 1, 3) := by decide +kernel
theorem dX7_digest_143 : decode cX7_digest 143 = .ok (.goto (-30), 3) := by decide +kernel
theorem dX7_digest_146 : decode cX7_digest 146 = .ok (.lload_n 1, 1) := by decide +kernel
theorem dX7_digest_147 : decode cX7_digest 147 = .ok (.ldc2_w 191, 3) := by decide +kernel
theorem dX7_digest_150 : decode cX7_digest 150 = .ok (.lmul, 1) := by decide +kernel
theorem dX7_digest_151 : decode cX7_digest 151 = .ok (.aload_n 0, 1) := by decide +kernel
theorem dX7_digest_152 : decode cX7_digest 152 = .ok (.iload_n 3, 1) := by decide +kernel
theorem dX7_digest_153 : decode cX7_digest 153 = .ok (.iload 4, 2) := by decide +kernel
theorem dX7_digest_155 : decode cX7_digest 155 = .ok (.invokevirtual 166, 3) := by decide +kernel
theorem dX7_digest_158 : decode cX7_digest 158 = .ok (.i2l, 1) := by decide +kernel
theorem dX7_digest_159 : decode cX7_digest 159 = .ok (.ladd, 1) := by decide +kernel
theorem dX7_digest_160 : decode cX7_digest 160 = .ok (.lstore_n 1, 1) := by decide +kernel
theorem dX7_digest_161 : decode cX7_digest 161 = .ok (.iinc 4 1, 3) := by decide +kernel
theorem dX7_digest_164 : decode cX7_digest 164 = .ok (.goto (-66), 3) := by decide +kernel
theorem dX7_digest_167 : decode cX7_digest 167 = .ok (.iinc 3 1, 3) := by decide +kernel
theorem dX7_digest_170 : decode cX7_digest 170 = .ok (.goto (-132), 3) := by decide +kernel
theorem dX7_digest_173 : decode cX7_digest 173 = .ok (.iconst 0, 1) := by decide +kernel
theorem dX7_digest_174 : decode cX7_digest 174 = .ok (.istore_n 3, 1) := by decide +kernel
theorem dX7_digest_175 : decode cX7_digest 175 = .ok (.iload_n 3, 1) := by decide +kernel
theorem dX7_digest_176 : decode cX7_digest 176 = .ok (.aload_n 0, 1) := by decide +kernel
theorem dX7_digest_177 : decode cX7_digest 177 = .ok (.getfield 10, 3) := by decide +kernel
theorem dX7_digest_180 : decode cX7_digest 180 = .ok (.getfield 36, 3) := by decide +kernel
theorem dX7_digest_183 : decode cX7_digest 183 = .ok (.if_icmp .ge 40, 3) := by decide +kernel
theorem dX7_digest_186 : decode cX7_digest 186 = .ok (.iconst 0, 1) := by decide +kernel
theorem dX7_digest_187 : decode cX7_digest 187 = .ok (.istore 4, 2) := by decide +kernel
theorem dX7_digest_189 : decode cX7_digest 189 = .ok (.iload 4, 2) := by decide +kernel
theorem dX7_digest_191 : decode cX7_digest 191 = .ok (.bipush 8, 2) := by decide +kernel
theorem dX7_digest_193 : decode cX7_digest 193 = .ok (.if_icmp .gt 24, 3) := by decide +kernel
theorem dX7_digest_196 : decode cX7_digest 196 = .ok (.lload_n 1, 1) := by decide +kernel
theorem dX7_digest_197 : decode cX7_digest 197 = .ok (.ldc2_w 191, 3) := by decide +kernel
theorem dX7_digest_200 : decode cX7_digest 200 = .ok (.lmul, 1) := by decide +kernel
theorem dX7_digest_201 : decode cX7_digest 201 = .ok (.aload_n 0, 1) := by decide +kernel
theorem dX7_digest_202 : decode cX7_digest 202 = .ok (.iload_n 3, 1) := by decide +kernel
theorem dX7_digest_203 : decode cX7_digest 203 = .ok (.iload 4, 2) := by decide +kernel
theorem dX7_digest_205 : decode cX7_digest 205 = .ok (.invokevirtual 160, 3) := by decide +kernel
theorem dX7_digest_208 : decode cX7_digest 208 = .ok (.i2l, 1) := by decide +kernel
theorem dX7_digest_209 : decode cX7_digest 209 = .ok (.ladd, 1) := by decide +kernel
theorem dX7_digest_210 : decode cX7_digest 210 = .ok (.lstore_n 1, 1) := by decide +kernel
theorem dX7_digest_211 : decode cX7_digest 211 = .ok (.iinc 4 1, 3) := by decide +kernel
theorem dX7_digest_214 : decode cX7_digest 214 = .ok (.goto (-25), 3) := by decide +kernel
theorem dX7_digest_217 : decode cX7_digest 217 = .ok (.iinc 3 1, 3) := by decide +kernel
theorem dX7_digest_220 : decode cX7_digest 220 = .ok (.goto (-45), 3) := by decide +kernel
theorem dX7_digest_223 : decode cX7_digest 223 = .ok (.iconst 0, 1) := by decide +kernel
theorem dX7_digest_224 : decode cX7_digest 224 = .ok (.istore_n 3, 1) := by decide +kernel
theorem dX7_digest_225 : decode cX7_digest 225 = .ok (.iload_n 3, 1) := by decide +kernel
theorem dX7_digest_226 : decode cX7_digest 226 = .ok (.bipush 16, 2) := by decide +kernel
theorem dX7_digest_228 : decode cX7_digest 228 = .ok (.if_icmp .ge 22, 3) := by decide +kernel
theorem dX7_digest_231 : decode cX7_digest 231 = .ok (.lload_n 1, 1) := by decide +kernel
theorem dX7_digest_232 : decode cX7_digest 232 = .ok (.ldc2_w 191, 3) := by decide +kernel
theorem dX7_digest_235 : decode cX7_digest 235 = .ok (.lmul, 1) := by decide +kernel
theorem dX7_digest_236 : decode cX7_digest 236 = .ok (.aload_n 0, 1) := by decide +kernel
theorem dX7_digest_237 : decode cX7_digest 237 = .ok (.iload_n 3, 1) := by decide +kernel
theorem dX7_digest_238 : decode cX7_digest 238 = .ok (.invokevirtual 163, 3) := by decide +kernel
theorem dX7_digest_241 : decode cX7_digest 241 = .ok (.i2l, 1) := by decide +kernel
theorem dX7_digest_242 : decode cX7_digest 242 = .ok (.ladd, 1) := by decide +kernel
theorem dX7_digest_243 : decode cX7_digest 243 = .ok (.lstore_n 1, 1) := by decide +kernel
theorem dX7_digest_244 : decode cX7_digest 244 = .ok (.iinc 3 1, 3) := by decide +kernel
theorem dX7_digest_247 : decode cX7_digest 247 = .ok (.goto (-22), 3) := by decide +kernel
theorem dX7_digest_250 : decode cX7_digest 250 = .ok (.iconst 0, 1) := by decide +kernel
theorem dX7_digest_251 : decode cX7_digest 251 = .ok (.istore_n 3, 1) := by decide +kernel
theorem dX7_digest_252 : decode cX7_digest 252 = .ok (.iload_n 3, 1) := by decide +kernel
theorem dX7_digest_253 : decode cX7_digest 253 = .ok (.aload_n 0, 1) := by decide +kernel
theorem dX7_digest_254 : decode cX7_digest 254 = .ok (.getfield 10, 3) := by decide +kernel
theorem dX7_digest_257 : decode cX7_digest 257 = .ok (.getfield 67, 3) := by decide +kernel
theorem dX7_digest_260 : decode cX7_digest 260 = .ok (.if_icmp .ge 28, 3) := by decide +kernel
theorem dX7_digest_263 : decode cX7_digest 263 = .ok (.lload_n 1, 1) := by decide +kernel
theorem dX7_digest_264 : decode cX7_digest 264 = .ok (.ldc2_w 191, 3) := by decide +kernel
theorem dX7_digest_267 : decode cX7_digest 267 = .ok (.lmul, 1) := by decide +kernel
theorem dX7_digest_268 : decode cX7_digest 268 = .ok (.aload_n 0, 1) := by decide +kernel
theorem dX7_digest_269 : decode cX7_digest 269 = .ok (.getfield 10, 3) := by decide +kernel
theorem dX7_digest_272 : decode cX7_digest 272 = .ok (.getfield 70, 3) := by decide +kernel
theorem dX7_digest_275 : decode cX7_digest 275 = .ok (.iload_n 3, 1) := by decide +kernel
theorem dX7_digest_276 : decode cX7_digest 276 = .ok (.aaload, 1) := by decide +kernel
theorem dX7_digest_277 : decode cX7_digest 277 = .ok (.iconst 1, 1) := by decide +kernel
theorem dX7_digest_278 : decode cX7_digest 278 = .ok (.iaload, 1) := by decide +kernel
theorem dX7_digest_279 : decode cX7_digest 279 = .ok (.i2l, 1) := by decide +kernel
theorem dX7_digest_280 : decode cX7_digest 280 = .ok (.ladd, 1) := by decide +kernel
theorem dX7_digest_281 : decode cX7_digest 281 = .ok (.lstore_n 1, 1) := by decide +kernel
theorem dX7_digest_282 : decode cX7_digest 282 = .ok (.iinc 3 1, 3) := by decide +kernel
theorem dX7_digest_285 : decode cX7_digest 285 = .ok (.goto (-33), 3) := by decide +kernel
theorem dX7_digest_288 : decode cX7_digest 288 = .ok (.lload_n 1, 1) := by decide +kernel
theorem dX7_digest_289 : decode cX7_digest 289 = .ok (.ldc2_w 191, 3) := by decide +kernel
theorem dX7_digest_292 : decode cX7_digest 292 = .ok (.lmul, 1) := by decide +kernel
theorem dX7_digest_293 : decode cX7_digest 293 = .ok (.aload_n 0, 1) := by decide +kernel
theorem dX7_digest_294 : decode cX7_digest 294 = .ok (.iconst 5, 1) := by decide +kernel
theorem dX7_digest_295 : decode cX7_digest 295 = .ok (.iconst 1, 1) := by decide +kernel
theorem dX7_digest_296 : decode cX7_digest 296 = .ok (.bipush 6, 2) := by decide +kernel
theorem dX7_digest_298 : decode cX7_digest 298 = .ok (.invokevirtual 185, 3) := by decide +kernel
theorem dX7_digest_301 : decode cX7_digest 301 = .ok (.i2l, 1) := by decide +kernel
theorem dX7_digest_302 : decode cX7_digest 302 = .ok (.ladd, 1) := by decide +kernel
theorem dX7_digest_303 : decode cX7_digest 303 = .ok (.lreturn, 1) := by decide +kernel
/-! sirenWould and digest of the reference on a fresh model -/
theorem mm_fr_mk {σ σ' : vgS} (hk : ∀ n k, n.2.1 = 0 → n.1 < 60 → σ' n k = σ n k) (h : mm_fr σ) : mm_fr σ' := by
  have e41 : σ' (41, 0, 0) = σ (41, 0, 0) := funext fun k => hk _ k rfl (show (41 : Nat) < 60 by decide)
  have e40 : σ' (40, 0, 0) = σ (40, 0, 0) := funext fun k => hk _ k rfl (show (40 : Nat) < 60 by decide)
  have e48 : σ' (48, 0, 0) = σ (48, 0, 0) := funext fun k => hk _ k rfl (show (48 : Nat) < 60 by decide)
  unfold mm_fr
  rw [e41, e40, e48]
  exact h
def k_X7_sirenWould : List (Nat × vgF) := [(0, vi_aload 0 1), (1, vi_icst (0) 2), (2, vi_put mm_shp 0 0 5), (5, vi_iload 1 6), (6, vi_callS sp_X7_isCell 1 9), (9, vi_if (fun x => x = 0) 12 18), (12, vi_aload 0 13), (13, vi_icst (1) 14), (14, vi_callV mm_shp 0 sp_X7_no 1 17), (17, vi_ret), (18, vi_iload 2 19), (19, vi_icst (0) 20), (20, vi_icst (3) 21), (21, vi_callS sp_X7_in 3 24), (24, vi_if (fun x => x = 0) 37 27), (27, vi_iload 3 28), (28, vi_icst (1) 29), (29, vi_icst (60) 31), (31, vi_callS sp_X7_in 3 34), (34, vi_if (fun x => x = 0) 37 43), (37, vi_aload 0 38), (38, vi_icst (2) 39), (39, vi_callV mm_shp 0 sp_X7_no 1 42), (42, vi_ret), (43, vi_aload 0 44), (44, vi_iload 1 45), (45, vi_iload 2 46), (46, vi_iload 3 47), (47, vi_no), (50, vi_ret)]
set_option maxRecDepth 20000 in
theorem s_X7_sirenWould {nm : List vgN} (hcl : vg_closed mm_shp nm) : ∀ q ∈ k_X7_sirenWould, vm_Snd false ww_tb [] [] [] mm_shp nm mm_cl mm_tyl cX7_sirenWould 4 RX7 (some .int) 4 q.1 q.2 := by
  refine vg_cons (vt_aload_n dX7_sirenWould_0 rfl rfl) ?_
  refine vg_cons (vt_iconst dX7_sirenWould_1 rfl rfl) ?_
  refine vg_cons (vt_putfield (T := TX7) tyX7 dX7_sirenWould_2 rfl (by decide) mm_inX7 tyX7_ok nmX7 rfl rfl u_201 rfl) ?_
  refine vg_cons (vt_iload_n dX7_sirenWould_5 rfl rfl) ?_
  refine vg_cons (vt_callS (c_X7_isCell hcl) dX7_sirenWould_6 ww_good u_219 u_198 u_221 u_220 (by decide +kernel) (by decide) rfl) ?_
  refine vg_cons (vt_if_ne dX7_sirenWould_9 (by decide) rfl) ?_
  refine vg_cons (vt_aload_n dX7_sirenWould_12 rfl rfl) ?_
  refine vg_cons (vt_iconst dX7_sirenWould_13 rfl rfl) ?_
  refine vg_cons (vt_callV (T := TX7) (c_X7_no hcl) dX7_sirenWould_14 rfl ww_good u_210 u_198 u_211 u_212 u_213 (by decide +kernel) (by decide) rfl) ?_
  refine vg_cons (vt_ireturn dX7_sirenWould_17 rfl) ?_
  refine vg_cons (vt_iload_n dX7_sirenWould_18 rfl rfl) ?_
  refine vg_cons (vt_iconst dX7_sirenWould_19 rfl rfl) ?_
  refine vg_cons (vt_iconst dX7_sirenWould_20 rfl rfl) ?_
  refine vg_cons (vt_callS (c_X7_in hcl) dX7_sirenWould_21 ww_good u_197 u_198 u_200 u_199 (by decide +kernel) (by decide) rfl) ?_
  refine vg_cons (vt_if_eq dX7_sirenWould_24 (by decide) rfl) ?_
  refine vg_cons (vt_iload_n dX7_sirenWould_27 rfl rfl) ?_
  refine vg_cons (vt_iconst dX7_sirenWould_28 rfl rfl) ?_
  refine vg_cons (vt_bipush dX7_sirenWould_29 (by decide) rfl) ?_
  refine vg_cons (vt_callS (c_X7_in hcl) dX7_sirenWould_31 ww_good u_197 u_198 u_200 u_199 (by decide +kernel) (by decide) rfl) ?_
  refine vg_cons (vt_if_ne dX7_sirenWould_34 (by decide) rfl) ?_
  refine vg_cons (vt_aload_n dX7_sirenWould_37 rfl rfl) ?_
  refine vg_cons (vt_iconst dX7_sirenWould_38 rfl rfl) ?_
  refine vg_cons (vt_callV (T := TX7) (c_X7_no hcl) dX7_sirenWould_39 rfl ww_good u_210 u_198 u_211 u_212 u_213 (by decide +kernel) (by decide) rfl) ?_
  refine vg_cons (vt_ireturn dX7_sirenWould_42 rfl) ?_
  refine vg_cons (vt_aload_n dX7_sirenWould_43 rfl rfl) ?_
  refine vg_cons (vt_iload_n dX7_sirenWould_44 rfl rfl) ?_
  refine vg_cons (vt_iload_n dX7_sirenWould_45 rfl rfl) ?_
  refine vg_cons (vt_iload_n dX7_sirenWould_46 rfl rfl) ?_
  refine vg_cons (vt_no) ?_
  refine vg_cons (vt_ireturn dX7_sirenWould_50 rfl) ?_
  exact fun _ h => absurd h List.not_mem_nil
theorem m_X7_sirenWould : vg_Code k_X7_sirenWould := fun q h => (s_X7_sirenWould (nm := []) (fun n hn => nomatch hn) q h).1

def pm_X7_sirenWould : vgT → vgS → Prop := fun av σ => match av with
  | [.inr (40, 0, 0), .inl (.int c), .inl (.int r), .inl (.int m)] => mm_fr σ
  | _ => False
def mf_X7_sirenWould : vgT → Int32 × Int32 := fun av => match av with
  | [.inr (40, 0, 0), .inl (.int c), .inl (.int r), .inl (.int m)] => (if wp_c c then (if wp_r r 0 3 then (if wp_r m 1 60 then (0, 0) else (2, 0)) else (2, 0)) else (1, 0))
  | _ => (0, 0)
theorem wm_X7_sirenWould : ∀ av σ, pm_X7_sirenWould av σ → vg_wd av ≤ 4 := by
  intro av σ h
  unfold pm_X7_sirenWould at h
  split at h
  · exact Nat.le_of_ble_eq_true rfl
  · exact h.elim
set_option maxRecDepth 20000 in
theorem gx_X7_sirenWould : ∀ av σ, pm_X7_sirenWould av σ → vg_Go ([(47, vm_exM (40, 0, 0) 3 pm_X7_sirenNow po_X7_sirenNow (vg_Go k_X7_sirenWould (mm_Po (mf_X7_sirenWould av))) 50)] ++ k_X7_sirenWould) (mm_Po (mf_X7_sirenWould av)) 0 (vg_args 0 av) [] σ := by
  intro av σ h
  unfold pm_X7_sirenWould at h
  split at h
  next c r m =>
    refine vg_run (cuts := []) (vm_code1 m_X7_sirenWould) 80 ?_
    refine And.intro trivial (And.intro (fun z => ?_) (fun z => ?_))
    · have e : mf_X7_sirenWould [.inr (40, 0, 0), .inl (.int c), .inl (.int r), .inl (.int m)] = (1, 0) := by
        show (if _ then _ else _) = _
        rw [if_neg (jb_0.mp z)]
      rw [e]
      exact And.intro trivial ⟨rfl, rfl⟩
    have c1 : wp_c c := Classical.not_not.mp (fun y => z (jb_0.mpr y))
    refine And.intro trivial (And.intro (fun z => ?_) (fun z => ?_))
    · have e : mf_X7_sirenWould [.inr (40, 0, 0), .inl (.int c), .inl (.int r), .inl (.int m)] = (2, 0) := by
        show (if _ then _ else _) = _
        rw [if_pos c1, if_neg (jb_0.mp z)]
      rw [e]
      exact And.intro trivial ⟨rfl, rfl⟩
    have c2 : wp_r r (0) (3) := Classical.not_not.mp (fun y => z (jb_0.mpr y))
    refine And.intro trivial (And.intro (fun z => ?_) (fun z => ?_))
    · have e : mf_X7_sirenWould [.inr (40, 0, 0), .inl (.int c), .inl (.int r), .inl (.int m)] = (2, 0) := by
        show (if _ then _ else _) = _
        rw [if_pos c1, if_pos c2, if_neg (jb_0.mp z)]
      rw [e]
      exact And.intro trivial ⟨rfl, rfl⟩
    have c3 : wp_r m (1) (60) := Classical.not_not.mp (fun y => z (jb_0.mpr y))
    have e : mf_X7_sirenWould [.inr (40, 0, 0), .inl (.int c), .inl (.int r), .inl (.int m)] = (0, 0) := by
      show (if _ then _ else _) = _
      rw [if_pos c1, if_pos c2, if_pos c3]
    rw [e]
    exact ⟨[.inl (.int c), .inl (.int r), .inl (.int m)], rfl, rfl, ⟨mm_fr0 (mm_fr_no h), c3⟩, fun r σ' hr => by
      have hr1 : r = some (.inl (.int 0)) := hr.1
      have hr2 : σ' (40, 0, 0) 0 = 0 := hr.2 (40, 0, 0) 0 rfl (show (40 : Nat) < 60 by decide)
      rw [hr1]
      refine vg_run (cuts := []) m_X7_sirenWould 4 ?_
      exact ⟨rfl, hr2⟩⟩
  next => exact h.elim
theorem a_X7_sirenWould : vn_Met ww_tb wh_nx mm_shp mm_nm mm_cl mm_tyl yX7_sirenWould cX7_sirenWould 4 (some .int) 4 514 4258 pm_X7_sirenWould (fun av _ => mm_Po (mf_X7_sirenWould av)) :=
  vn_met mm_closed (by decide +kernel) rfl wm_X7_sirenWould (fun p l e R s m args below meth c D tys ad A Z av σ hpre hnx hRc hRs C0 E0 => by
    refine vm_sound (ex := [(47, vm_exM (40, 0, 0) 3 pm_X7_sirenNow po_X7_sirenNow (vg_Go k_X7_sirenWould (mm_Po (mf_X7_sirenWould av))) 50)]) (s_X7_sirenWould mm_closed) C0 (E0 0 0 (Nat.zero_le _) (Nat.zero_le _)) (fun q hq lv st σ1 hE => ?_) (gx_X7_sirenWould av σ hpre)
    rw [List.mem_singleton.mp hq] at hE ⊢
    obtain ⟨as, hst, hal, hp1, hgo⟩ := hE
    exact vn_callM (ci := 0) (T := TX7) (N := 3) C0 hnx a_X7_sirenNow dX7_sirenWould_47 rfl ww_good u_309 u_198 u_310 u_311 u_312 (by decide +kernel) (by decide) hst hal rfl rfl (by decide) hp1 (by rw [hRc]; decide) (by rw [hRs]; decide) (fun r σ' hr => vm_sound (ex := []) (s_X7_sirenWould mm_closed) C0 (E0 514 4258 (Nat.le_refl _) (Nat.le_refl _)) (fun _ h => absurd h List.not_mem_nil) (hgo r σ' hr)))
/-! digest -/
def k_X7_digest : List (Nat × vgF) := [(0, vi_aload 0 1), (1, vi_icst (0) 2), (2, vi_put mm_shp 0 0 5), (5, vi_lcst (4814) 8), (8, vi_lstore 1 9), (9, vi_icst (0) 10), (10, vi_istore 3 11), (11, vi_iload 3 12), (12, vi_icst (11) 14), (14, vi_cmp (fun x y => y < x) 36 17), (17, vi_lload 1 18), (18, vi_lcst (31) 21), (21, vi_lbin (fun x y => x * y) 22), (22, vi_aload 0 23), (23, vi_iload 3 24), (24, vi_no), (27, vi_i2l 28), (28, vi_lbin (fun x y => x + y) 29), (29, vi_lstore 1 30), (30, vi_iinc 3 (1) 33), (33, vi_goto 11), (36, vi_icst (0) 37), (37, vi_istore 3 38), (38, vi_iload 3 39), (39, vi_aload 0 40), (40, vi_get mm_shp 0 1 43), (43, vi_get mm_shp 1 9 46), (46, vi_cmp (fun x y => y ≤ x) 173 49), (49, vi_icst (0) 50), (50, vi_istore 4 52), (52, vi_iload 4 54), (54, vi_icst (8) 56), (56, vi_cmp (fun x y => y < x) 80 59), (59, vi_lload 1 60), (60, vi_lcst (31) 63), (63, vi_lbin (fun x y => x * y) 64), (64, vi_aload 0 65), (65, vi_iload 3 66), (66, vi_iload 4 68), (68, vi_no), (71, vi_i2l 72), (72, vi_lbin (fun x y => x + y) 73), (73, vi_lstore 1 74), (74, vi_iinc 4 (1) 77), (77, vi_goto 52), (80, vi_lload 1 81), (81, vi_lcst (31) 84), (84, vi_lbin (fun x y => x * y) 85), (85, vi_aload 0 86), (86, vi_iload 3 87), (87, vi_icst (9) 89), (89, vi_no), (92, vi_i2l 93), (93, vi_lbin (fun x y => x + y) 94), (94, vi_lstore 1 95), (95, vi_icst (0) 96), (96, vi_istore 4 98), (98, vi_iload 4 100), (100, vi_aload 0 101), (101, vi_get mm_shp 0 1 104), (104, vi_get mm_shp 1 10 107), (107, vi_cmp (fun x y => y ≤ x) 167 110), (110, vi_icst (0) 111), (111, vi_istore 5 113), (113, vi_iload 5 115), (115, vi_icst (4) 116), (116, vi_cmp (fun x y => y < x) 146 119), (119, vi_lload 1 120), (120, vi_lcst (31) 123), (123, vi_lbin (fun x y => x * y) 124), (124, vi_aload 0 125), (125, vi_get mm_shp 0 1 128), (128, vi_iload 3 129), (129, vi_iload 4 131), (131, vi_no), (134, vi_iload 5 136), (136, vi_ald mm_shp 0 137), (137, vi_i2l 138), (138, vi_lbin (fun x y => x + y) 139), (139, vi_lstore 1 140), (140, vi_iinc 5 (1) 143), (143, vi_goto 113), (146, vi_lload 1 147), (147, vi_lcst (31) 150), (150, vi_lbin (fun x y => x * y) 151), (151, vi_aload 0 152), (152, vi_iload 3 153), (153, vi_iload 4 155), (155, vi_no), (158, vi_i2l 159), (159, vi_lbin (fun x y => x + y) 160), (160, vi_lstore 1 161), (161, vi_iinc 4 (1) 164), (164, vi_goto 98), (167, vi_iinc 3 (1) 170), (170, vi_goto 38), (173, vi_icst (0) 174), (174, vi_istore 3 175), (175, vi_iload 3 176), (176, vi_aload 0 177), (177, vi_get mm_shp 0 1 180), (180, vi_get mm_shp 1 10 183), (183, vi_cmp (fun x y => y ≤ x) 223 186), (186, vi_icst (0) 187), (187, vi_istore 4 189), (189, vi_iload 4 191), (191, vi_icst (8) 193), (193, vi_cmp (fun x y => y < x) 217 196), (196, vi_lload 1 197), (197, vi_lcst (31) 200), (200, vi_lbin (fun x y => x * y) 201), (201, vi_aload 0 202), (202, vi_iload 3 203), (203, vi_iload 4 205), (205, vi_no), (208, vi_i2l 209), (209, vi_lbin (fun x y => x + y) 210), (210, vi_lstore 1 211), (211, vi_iinc 4 (1) 214), (214, vi_goto 189), (217, vi_iinc 3 (1) 220), (220, vi_goto 175), (223, vi_icst (0) 224), (224, vi_istore 3 225), (225, vi_iload 3 226), (226, vi_icst (16) 228), (228, vi_cmp (fun x y => y ≤ x) 250 231), (231, vi_lload 1 232), (232, vi_lcst (31) 235), (235, vi_lbin (fun x y => x * y) 236), (236, vi_aload 0 237), (237, vi_iload 3 238), (238, vi_callV mm_shp 0 sp_X7_forceNow 1 241), (241, vi_i2l 242), (242, vi_lbin (fun x y => x + y) 243), (243, vi_lstore 1 244), (244, vi_iinc 3 (1) 247), (247, vi_goto 225), (250, vi_icst (0) 251), (251, vi_istore 3 252), (252, vi_iload 3 253), (253, vi_aload 0 254), (254, vi_get mm_shp 0 1 257), (257, vi_get mm_shp 1 11 260), (260, vi_cmp (fun x y => y ≤ x) 288 263), (263, vi_lload 1 264), (264, vi_lcst (31) 267), (267, vi_lbin (fun x y => x * y) 268), (268, vi_aload 0 269), (269, vi_get mm_shp 0 1 272), (272, vi_get mm_shp 1 3 275), (275, vi_iload 3 276), (276, vi_aald mm_shp 2 277), (277, vi_icst (1) 278), (278, vi_ald mm_shp 0 279), (279, vi_i2l 280), (280, vi_lbin (fun x y => x + y) 281), (281, vi_lstore 1 282), (282, vi_iinc 3 (1) 285), (285, vi_goto 252), (288, vi_lload 1 289), (289, vi_lcst (31) 292), (292, vi_lbin (fun x y => x * y) 293), (293, vi_aload 0 294), (294, vi_icst (5) 295), (295, vi_icst (1) 296), (296, vi_icst (6) 298), (298, vi_no), (301, vi_i2l 302), (302, vi_lbin (fun x y => x + y) 303), (303, vi_retL)]
set_option maxRecDepth 20000 in
theorem s_X7_digest {nm : List vgN} (hcl : vg_closed mm_shp nm) : ∀ q ∈ k_X7_digest, vm_Snd false ww_tb [] [] [] mm_shp nm mm_cl mm_tyl cX7_digest 6 RX7 (some .long) 4 q.1 q.2 := by
  refine vg_cons (vt_aload_n dX7_digest_0 rfl rfl) ?_
  refine vg_cons (vt_iconst dX7_digest_1 rfl rfl) ?_
  refine vg_cons (vt_putfield (T := TX7) tyX7 dX7_digest_2 rfl (by decide) mm_inX7 tyX7_ok nmX7 rfl rfl u_201 rfl) ?_
  refine vg_cons (vt_ldc2 dX7_digest_5 u_313 rfl) ?_
  refine vg_cons (vt_lstore_n dX7_digest_8 rfl (by decide) rfl) ?_
  refine vg_cons (vt_iconst dX7_digest_9 rfl rfl) ?_
  refine vg_cons (vt_istore_n dX7_digest_10 rfl (by decide) rfl) ?_
  refine vg_cons (vt_iload_n dX7_digest_11 rfl rfl) ?_
  refine vg_cons (vt_bipush dX7_digest_12 (by decide) rfl) ?_
  refine vg_cons (vt_cmp_gt dX7_digest_14 (by decide) rfl) ?_
  refine vg_cons (vt_lload_n dX7_digest_17 rfl rfl) ?_
  refine vg_cons (vt_ldc2 dX7_digest_18 u_314 rfl) ?_
  refine vg_cons (vt_lmul dX7_digest_21 rfl) ?_
  refine vg_cons (vt_aload_n dX7_digest_22 rfl rfl) ?_
  refine vg_cons (vt_iload_n dX7_digest_23 rfl rfl) ?_
  refine vg_cons (vt_no) ?_
  refine vg_cons (vt_i2l dX7_digest_27 rfl) ?_
  refine vg_cons (vt_ladd dX7_digest_28 rfl) ?_
  refine vg_cons (vt_lstore_n dX7_digest_29 rfl (by decide) rfl) ?_
  refine vg_cons (vt_iinc dX7_digest_30 rfl rfl) ?_
  refine vg_cons (vt_goto dX7_digest_33 (by decide)) ?_
  refine vg_cons (vt_iconst dX7_digest_36 rfl rfl) ?_
  refine vg_cons (vt_istore_n dX7_digest_37 rfl (by decide) rfl) ?_
  refine vg_cons (vt_iload_n dX7_digest_38 rfl rfl) ?_
  refine vg_cons (vt_aload_n dX7_digest_39 rfl rfl) ?_
  refine vg_cons (vt_getfield (T := TX7) dX7_digest_40 rfl (by decide) mm_inX7 u_202 rfl) ?_
  refine vg_cons (vt_getfield (T := TX6) dX7_digest_43 rfl (by decide) mm_inX6 u_203 rfl) ?_
  refine vg_cons (vt_cmp_ge dX7_digest_46 (by decide) rfl) ?_
  refine vg_cons (vt_iconst dX7_digest_49 rfl rfl) ?_
  refine vg_cons (vt_istore dX7_digest_50 (by decide) rfl) ?_
  refine vg_cons (vt_iload dX7_digest_52 rfl) ?_
  refine vg_cons (vt_bipush dX7_digest_54 (by decide) rfl) ?_
  refine vg_cons (vt_cmp_gt dX7_digest_56 (by decide) rfl) ?_
  refine vg_cons (vt_lload_n dX7_digest_59 rfl rfl) ?_
  refine vg_cons (vt_ldc2 dX7_digest_60 u_314 rfl) ?_
  refine vg_cons (vt_lmul dX7_digest_63 rfl) ?_
  refine vg_cons (vt_aload_n dX7_digest_64 rfl rfl) ?_
  refine vg_cons (vt_iload_n dX7_digest_65 rfl rfl) ?_
  refine vg_cons (vt_iload dX7_digest_66 rfl) ?_
  refine vg_cons (vt_no) ?_
  refine vg_cons (vt_i2l dX7_digest_71 rfl) ?_
  refine vg_cons (vt_ladd dX7_digest_72 rfl) ?_
  refine vg_cons (vt_lstore_n dX7_digest_73 rfl (by decide) rfl) ?_
  refine vg_cons (vt_iinc dX7_digest_74 rfl rfl) ?_
  refine vg_cons (vt_goto dX7_digest_77 (by decide)) ?_
  refine vg_cons (vt_lload_n dX7_digest_80 rfl rfl) ?_
  refine vg_cons (vt_ldc2 dX7_digest_81 u_314 rfl) ?_
  refine vg_cons (vt_lmul dX7_digest_84 rfl) ?_
  refine vg_cons (vt_aload_n dX7_digest_85 rfl rfl) ?_
  refine vg_cons (vt_iload_n dX7_digest_86 rfl rfl) ?_
  refine vg_cons (vt_bipush dX7_digest_87 (by decide) rfl) ?_
  refine vg_cons (vt_no) ?_
  refine vg_cons (vt_i2l dX7_digest_92 rfl) ?_
  refine vg_cons (vt_ladd dX7_digest_93 rfl) ?_
  refine vg_cons (vt_lstore_n dX7_digest_94 rfl (by decide) rfl) ?_
  refine vg_cons (vt_iconst dX7_digest_95 rfl rfl) ?_
  refine vg_cons (vt_istore dX7_digest_96 (by decide) rfl) ?_
  refine vg_cons (vt_iload dX7_digest_98 rfl) ?_
  refine vg_cons (vt_aload_n dX7_digest_100 rfl rfl) ?_
  refine vg_cons (vt_getfield (T := TX7) dX7_digest_101 rfl (by decide) mm_inX7 u_202 rfl) ?_
  refine vg_cons (vt_getfield (T := TX6) dX7_digest_104 rfl (by decide) mm_inX6 u_204 rfl) ?_
  refine vg_cons (vt_cmp_ge dX7_digest_107 (by decide) rfl) ?_
  refine vg_cons (vt_iconst dX7_digest_110 rfl rfl) ?_
  refine vg_cons (vt_istore dX7_digest_111 (by decide) rfl) ?_
  refine vg_cons (vt_iload dX7_digest_113 rfl) ?_
  refine vg_cons (vt_iconst dX7_digest_115 rfl rfl) ?_
  refine vg_cons (vt_cmp_gt dX7_digest_116 (by decide) rfl) ?_
  refine vg_cons (vt_lload_n dX7_digest_119 rfl rfl) ?_
  refine vg_cons (vt_ldc2 dX7_digest_120 u_314 rfl) ?_
  refine vg_cons (vt_lmul dX7_digest_123 rfl) ?_
  refine vg_cons (vt_aload_n dX7_digest_124 rfl rfl) ?_
  refine vg_cons (vt_getfield (T := TX7) dX7_digest_125 rfl (by decide) mm_inX7 u_202 rfl) ?_
  refine vg_cons (vt_iload_n dX7_digest_128 rfl rfl) ?_
  refine vg_cons (vt_iload dX7_digest_129 rfl) ?_
  refine vg_cons (vt_no) ?_
  refine vg_cons (vt_iload dX7_digest_134 rfl) ?_
  refine vg_cons (vt_iaload dX7_digest_136 rfl rfl) ?_
  refine vg_cons (vt_i2l dX7_digest_137 rfl) ?_
  refine vg_cons (vt_ladd dX7_digest_138 rfl) ?_
  refine vg_cons (vt_lstore_n dX7_digest_139 rfl (by decide) rfl) ?_
  refine vg_cons (vt_iinc dX7_digest_140 rfl rfl) ?_
  refine vg_cons (vt_goto dX7_digest_143 (by decide)) ?_
  refine vg_cons (vt_lload_n dX7_digest_146 rfl rfl) ?_
  refine vg_cons (vt_ldc2 dX7_digest_147 u_314 rfl) ?_
  refine vg_cons (vt_lmul dX7_digest_150 rfl) ?_
  refine vg_cons (vt_aload_n dX7_digest_151 rfl rfl) ?_
  refine vg_cons (vt_iload_n dX7_digest_152 rfl rfl) ?_
  refine vg_cons (vt_iload dX7_digest_153 rfl) ?_
  refine vg_cons (vt_no) ?_
  refine vg_cons (vt_i2l dX7_digest_158 rfl) ?_
  refine vg_cons (vt_ladd dX7_digest_159 rfl) ?_
  refine vg_cons (vt_lstore_n dX7_digest_160 rfl (by decide) rfl) ?_
  refine vg_cons (vt_iinc dX7_digest_161 rfl rfl) ?_
  refine vg_cons (vt_goto dX7_digest_164 (by decide)) ?_
  refine vg_cons (vt_iinc dX7_digest_167 rfl rfl) ?_
  refine vg_cons (vt_goto dX7_digest_170 (by decide)) ?_
  refine vg_cons (vt_iconst dX7_digest_173 rfl rfl) ?_
  refine vg_cons (vt_istore_n dX7_digest_174 rfl (by decide) rfl) ?_
  refine vg_cons (vt_iload_n dX7_digest_175 rfl rfl) ?_
  refine vg_cons (vt_aload_n dX7_digest_176 rfl rfl) ?_
  refine vg_cons (vt_getfield (T := TX7) dX7_digest_177 rfl (by decide) mm_inX7 u_202 rfl) ?_
  refine vg_cons (vt_getfield (T := TX6) dX7_digest_180 rfl (by decide) mm_inX6 u_204 rfl) ?_
  refine vg_cons (vt_cmp_ge dX7_digest_183 (by decide) rfl) ?_
  refine vg_cons (vt_iconst dX7_digest_186 rfl rfl) ?_
  refine vg_cons (vt_istore dX7_digest_187 (by decide) rfl) ?_
  refine vg_cons (vt_iload dX7_digest_189 rfl) ?_
  refine vg_cons (vt_bipush dX7_digest_191 (by decide) rfl) ?_
  refine vg_cons (vt_cmp_gt dX7_digest_193 (by decide) rfl) ?_
  refine vg_cons (vt_lload_n dX7_digest_196 rfl rfl) ?_
  refine vg_cons (vt_ldc2 dX7_digest_197 u_314 rfl) ?_
  refine vg_cons (vt_lmul dX7_digest_200 rfl) ?_
  refine vg_cons (vt_aload_n dX7_digest_201 rfl rfl) ?_
  refine vg_cons (vt_iload_n dX7_digest_202 rfl rfl) ?_
  refine vg_cons (vt_iload dX7_digest_203 rfl) ?_
  refine vg_cons (vt_no) ?_
  refine vg_cons (vt_i2l dX7_digest_208 rfl) ?_
  refine vg_cons (vt_ladd dX7_digest_209 rfl) ?_
  refine vg_cons (vt_lstore_n dX7_digest_210 rfl (by decide) rfl) ?_
  refine vg_cons (vt_iinc dX7_digest_211 rfl rfl) ?_
  refine vg_cons (vt_goto dX7_digest_214 (by decide)) ?_
  refine vg_cons (vt_iinc dX7_digest_217 rfl rfl) ?_
  refine vg_cons (vt_goto dX7_digest_220 (by decide)) ?_
  refine vg_cons (vt_iconst dX7_digest_223 rfl rfl) ?_
  refine vg_cons (vt_istore_n dX7_digest_224 rfl (by decide) rfl) ?_
  refine vg_cons (vt_iload_n dX7_digest_225 rfl rfl) ?_
  refine vg_cons (vt_bipush dX7_digest_226 (by decide) rfl) ?_
  refine vg_cons (vt_cmp_ge dX7_digest_228 (by decide) rfl) ?_
  refine vg_cons (vt_lload_n dX7_digest_231 rfl rfl) ?_
  refine vg_cons (vt_ldc2 dX7_digest_232 u_314 rfl) ?_
  refine vg_cons (vt_lmul dX7_digest_235 rfl) ?_
  refine vg_cons (vt_aload_n dX7_digest_236 rfl rfl) ?_
  refine vg_cons (vt_iload_n dX7_digest_237 rfl rfl) ?_
  refine vg_cons (vt_callV (T := TX7) (c_X7_forceNow hcl) dX7_digest_238 rfl ww_good u_242 u_198 u_243 u_244 u_245 (by decide +kernel) (by decide) rfl) ?_
  refine vg_cons (vt_i2l dX7_digest_241 rfl) ?_
  refine vg_cons (vt_ladd dX7_digest_242 rfl) ?_
  refine vg_cons (vt_lstore_n dX7_digest_243 rfl (by decide) rfl) ?_
  refine vg_cons (vt_iinc dX7_digest_244 rfl rfl) ?_
  refine vg_cons (vt_goto dX7_digest_247 (by decide)) ?_
  refine vg_cons (vt_iconst dX7_digest_250 rfl rfl) ?_
  refine vg_cons (vt_istore_n dX7_digest_251 rfl (by decide) rfl) ?_
  refine vg_cons (vt_iload_n dX7_digest_252 rfl rfl) ?_
  refine vg_cons (vt_aload_n dX7_digest_253 rfl rfl) ?_
  refine vg_cons (vt_getfield (T := TX7) dX7_digest_254 rfl (by decide) mm_inX7 u_202 rfl) ?_
  refine vg_cons (vt_getfield (T := TX6) dX7_digest_257 rfl (by decide) mm_inX6 u_218 rfl) ?_
  refine vg_cons (vt_cmp_ge dX7_digest_260 (by decide) rfl) ?_
  refine vg_cons (vt_lload_n dX7_digest_263 rfl rfl) ?_
  refine vg_cons (vt_ldc2 dX7_digest_264 u_314 rfl) ?_
  refine vg_cons (vt_lmul dX7_digest_267 rfl) ?_
  refine vg_cons (vt_aload_n dX7_digest_268 rfl rfl) ?_
  refine vg_cons (vt_getfield (T := TX7) dX7_digest_269 rfl (by decide) mm_inX7 u_202 rfl) ?_
  refine vg_cons (vt_getfield (T := TX6) dX7_digest_272 rfl (by decide) mm_inX6 u_222 rfl) ?_
  refine vg_cons (vt_iload_n dX7_digest_275 rfl rfl) ?_
  refine vg_cons (vt_aaloadA dX7_digest_276 rfl rfl rfl) ?_
  refine vg_cons (vt_iconst dX7_digest_277 rfl rfl) ?_
  refine vg_cons (vt_iaload dX7_digest_278 rfl rfl) ?_
  refine vg_cons (vt_i2l dX7_digest_279 rfl) ?_
  refine vg_cons (vt_ladd dX7_digest_280 rfl) ?_
  refine vg_cons (vt_lstore_n dX7_digest_281 rfl (by decide) rfl) ?_
  refine vg_cons (vt_iinc dX7_digest_282 rfl rfl) ?_
  refine vg_cons (vt_goto dX7_digest_285 (by decide)) ?_
  refine vg_cons (vt_lload_n dX7_digest_288 rfl rfl) ?_
  refine vg_cons (vt_ldc2 dX7_digest_289 u_314 rfl) ?_
  refine vg_cons (vt_lmul dX7_digest_292 rfl) ?_
  refine vg_cons (vt_aload_n dX7_digest_293 rfl rfl) ?_
  refine vg_cons (vt_iconst dX7_digest_294 rfl rfl) ?_
  refine vg_cons (vt_iconst dX7_digest_295 rfl rfl) ?_
  refine vg_cons (vt_bipush dX7_digest_296 (by decide) rfl) ?_
  refine vg_cons (vt_no) ?_
  refine vg_cons (vt_i2l dX7_digest_301 rfl) ?_
  refine vg_cons (vt_ladd dX7_digest_302 rfl) ?_
  refine vg_cons (vt_lreturn dX7_digest_303 rfl) ?_
  exact fun _ h => absurd h List.not_mem_nil
theorem m_X7_digest : vg_Code k_X7_digest := fun q h => (s_X7_digest (nm := []) (fun n hn => nomatch hn) q h).1

def pm_X7_digest : vgT → vgS → Prop := fun av σ => match av with
  | [.inr (40, 0, 0)] => mm_fr σ
  | _ => False
abbrev po_X7_digest : vgO := fun r σ' => r = some (.inl (.long wdg)) ∧ σ' (40, 0, 0) 0 = 0
theorem wm_X7_digest : ∀ av σ, pm_X7_digest av σ → vg_wd av ≤ 6 := by
  intro av σ h
  unfold pm_X7_digest at h
  split at h
  · exact Nat.le_of_ble_eq_true rfl
  · exact h.elim
abbrev ex2_X7_digest : List (Nat × vgF) := [(298, vi_exit (fun lv st σ1 => st = [.inl (.int 6), .inl (.int 1), .inl (.int 5), .inr (40, 0, 0), .inl (.long (wd_B 16 * 31))] ∧ mm_fr σ1 ∧ σ1 (40, 0, 0) 0 = 0))]
theorem m_c1 {E : vgL → vgT → vgS → Prop} {pc : Nat} {k : List (Nat × vgF)} (hm : vg_Code k) : vg_Code ([(pc, vi_exit E)] ++ k) := vm_code1 hm
set_option maxRecDepth 20000 in
theorem md_loop2 {σ : vgS} (h : mm_fr σ) (h0 : σ (40, 0, 0) 0 = 0) : ∀ n k, n + k = 16 → vg_Go (ex2_X7_digest ++ k_X7_digest) po_X7_digest 225 [(0, .inr (40, 0, 0)), (1, .inl (.long (wd_B k))), (3, .inl (.int (wi k)))] [] σ
  | 0, k, hk => by
    have e : k = 16 := by omega
    subst e
    refine vg_run (cuts := [(225, [0, 1, 3])]) (vm_code1 m_X7_digest) 40 ?_
    refine And.intro (fun _ => ?_) (fun z => absurd wi_ge.2.2.2 z)
    refine And.intro (fun _ => ?_) (fun z => absurd (show σ (41, 0, 0) 11 ≤ 0 by rw [h.1.2.2.2.1]; decide) z)
    exact ⟨rfl, h, h0⟩
  | n + 1, k, hk => by
    refine vg_run (cuts := [(225, [0, 1, 3])]) (vm_code1 m_X7_digest) 40 ?_
    refine And.intro (fun z => absurd z (wi_lt16 k (by omega))) (fun _ => ?_)
    refine And.intro h.1.2.2.1 ?_
    exact md_loop2 h h0 n (k + 1) (by omega)
section DG
variable {p : Program} {l : Launch} {e : Env} {R : Room} {s : State} {m : MethodId} {args : Array Value} {below : List Frame} {meth : Method} {c : Code} {D : va_G} {tys : List (ClassId × FieldType)} {ad : vgN → Nat} {A : Nat → Prop} {Z : State → Prop}
set_option maxRecDepth 20000 in
theorem pl_X7_digest (hnx : vh_nx wh_nx s) (hRc : R.cells = 526) (hRs : R.slots = 4402) (hf : (60, 0, 12) ∉ mm_nm)
    (C0 : vm_C ww_tb [] mm_shp mm_nm mm_cl mm_tyl cX7_digest 6 RX7 (some .long) 4 p R s m args meth c D tys ad A) (E0 : ∀ k n, k ≤ 526 → n ≤ 4402 → vm_E false ww_tb [] [] mm_shp mm_nm mm_cl cX7_digest RX7 (some .long) p l e R s m args below meth c D tys ad A po_X7_digest k n Z) :
    ∀ n k, n + k = 12 → ∀ σ : vgS, mm_fr σ → σ (40, 0, 0) 0 = 0 → vm_X mm_shp mm_nm mm_cl 6 p l e R s m args below meth c D tys ad A k (12 * k) Z 11 [(0, .inr (40, 0, 0)), (1, .inl (.long (wd_A k))), (3, .inl (.int (wi k)))] [] σ
  | 0, k, hk, σ, h, h0 => by
    have e : k = 12 := by omega
    subst e
    refine vm_sound (ex := ex2_X7_digest) (s_X7_digest mm_closed) C0 (E0 12 (12 * 12) (by decide) (by decide)) (fun q hq lv st σ1 hE => ?_) ?_
    · rw [List.mem_singleton.mp hq] at hE ⊢
      obtain ⟨rfl, h1, h2⟩ := hE
      refine vn_callM (as := [.inl (.int 5), .inl (.int 1), .inl (.int 6)]) (t := [.inl (.long (wd_B 16 * 31))]) (m0 := (40, 0, 0)) (ci := 0) (T := TX7) (N := 3) C0 hnx a_X7_sirenNow dX7_digest_298 rfl ww_good u_309 u_198 u_310 u_311 u_312 (by decide +kernel) (by decide) rfl rfl rfl rfl (by decide) ⟨mm_fr0 h1, ⟨by decide, by decide⟩⟩ (by rw [hRc]; decide) (by rw [hRs]; decide) (fun r σ' hr => ?_)
      obtain ⟨rfl, hr2⟩ := hr
      have g0 : σ' (40, 0, 0) 0 = 0 := (hr2 (40, 0, 0) 0 rfl (show (40 : Nat) < 60 by decide)).trans h2
      refine vm_sound (ex := []) (s_X7_digest mm_closed) C0 (E0 (12 + 514) (12 * 12 + 4258) (by decide) (by decide)) (fun _ h => absurd h List.not_mem_nil) ?_
      refine vg_run (cuts := []) m_X7_digest 8 ?_
      exact ⟨rfl, g0⟩
    · refine vg_run (cuts := [(225, [0, 1, 3])]) (vm_code1 m_X7_digest) 40 ?_
      refine And.intro (fun _ => ?_) (fun z => absurd wi_gt11 z)
      refine And.intro (fun _ => ?_) (fun z => absurd (show σ (41, 0, 0) 9 ≤ 0 by rw [h.1.2.1]; decide) z)
      refine And.intro (fun _ => ?_) (fun z => absurd (show σ (41, 0, 0) 10 ≤ 0 by rw [h.1.2.2.1]; decide) z)
      exact md_loop2 h h0 16 0 rfl
  | n + 1, k, hk, σ, h, h0 => by
    have ih := pl_X7_digest hnx hRc hRs hf C0 E0 n (k + 1) (by omega)
    have hx : vp_in (wi k) 12 := wi_in (by omega) (by decide)
    refine vm_sound (ex := [(24, vi_exit (fun lv st σ1 => lv = [(0, .inr (40, 0, 0)), (1, .inl (.long (wd_A k))), (3, .inl (.int (wi k)))] ∧ st = [.inl (.int (wi k)), .inr (40, 0, 0), .inl (.long (wd_A k * 31))] ∧ σ1 = σ))]) (s_X7_digest mm_closed) C0 (E0 k (12 * k) (by omega) (by omega)) (fun q hq lv st σ1 hE => ?_) ?_
    · rw [List.mem_singleton.mp hq] at hE ⊢
      obtain ⟨rfl, rfl, rfl⟩ := hE
      refine vm_callM (kk := 1) (as := [.inl (.int (wi k))]) (t := [.inl (.long (wd_A k * 31))]) (m0 := (40, 0, 0)) (ci := 0) (T := TX7) (N := 3) C0 (a_X7_manyNow mm_closed hf) dX7_digest_24 rfl ww_good u_277 u_198 u_278 u_279 u_280 (by decide +kernel) (by decide) rfl rfl rfl rfl (Nat.le_of_ble_eq_true rfl) ⟨h, hx⟩ (by rw [hRc]; omega) (by rw [hRs]; omega) (fun r σ' hr => ?_)
      have hr' : r = some (.inl (.int (wmv (wi k)))) ∧ σ' (40, 0, 0) 0 = σ1 (40, 0, 0) 0 ∧ ∀ n k, n.1 < 60 → σ' n k = σ1 n k := hr
      obtain ⟨rfl, hr2, hr3⟩ := hr'
      have g := mm_fr_mk (fun n k _ hn => hr3 n k hn) h
      refine vm_sound (ex := [(11, vi_exit (fun lv st σ2 => lv = [(0, .inr (40, 0, 0)), (1, .inl (.long (wd_A (k + 1)))), (3, .inl (.int (wi (k + 1))))] ∧ st = [] ∧ σ2 = σ'))]) (s_X7_digest mm_closed) C0 (E0 (k + 1) (12 * k + 12) (by omega) (by omega)) (fun q hq lv st σ2 hE => ?_) ?_
      · rw [List.mem_singleton.mp hq] at hE ⊢
        obtain ⟨rfl, rfl, rfl⟩ := hE
        exact ih σ2 g (hr2.trans h0)
      · refine vg_run (cuts := [(11, [0, 1, 3])]) (vm_code1 m_X7_digest) 20 ?_
        refine vg_run (cuts := []) (vm_code1 m_X7_digest) 1 ?_
        exact ⟨rfl, rfl, rfl⟩
    · refine vg_run (cuts := []) (vm_code1 m_X7_digest) 20 ?_
      refine And.intro (fun z => absurd z (wi_le11 k (by omega))) (fun _ => ?_)
      exact ⟨rfl, rfl, rfl⟩
end DG
theorem a_X7_digest : vn_Met ww_tb wh_nx mm_shp mm_nm mm_cl mm_tyl yX7_digest cX7_digest 6 (some .long) 4 526 4402 pm_X7_digest (fun _ _ => po_X7_digest) :=
  vn_met mm_closed (by decide +kernel) rfl wm_X7_digest (fun p l e R s m args below meth c D tys ad A Z av σ hpre hnx hRc hRs C0 E0 => by
    unfold pm_X7_digest at hpre
    split at hpre
    next =>
      refine vm_sound (ex := [(11, vi_exit (fun lv st σ1 => lv = [(0, .inr (40, 0, 0)), (1, .inl (.long (wd_A 0))), (3, .inl (.int (wi 0)))] ∧ st = [] ∧ mm_fr σ1 ∧ σ1 (40, 0, 0) 0 = 0))]) (s_X7_digest mm_closed) C0 (E0 0 0 (Nat.zero_le _) (Nat.zero_le _)) (fun q hq lv st σ1 hE => ?_) ?_
      · rw [List.mem_singleton.mp hq] at hE ⊢
        obtain ⟨rfl, rfl, h1, h2⟩ := hE
        exact pl_X7_digest hnx hRc hRs (by decide +kernel) C0 E0 12 0 rfl σ1 h1 h2
      · refine vg_run (cuts := [(11, [0, 1, 3])]) (vm_code1 m_X7_digest) 20 ?_
        refine vg_run (cuts := []) (vm_code1 m_X7_digest) 1 ?_
        exact ⟨rfl, rfl, mm_fr_no hpre, rfl⟩
    next => exact hpre.elim)
