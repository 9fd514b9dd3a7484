-- words of the tables, and what stands at each place of the methods' code (laid by program)
theorem u_410 : Cond.code yX7_group cX7_group 9 (some .int) ∈ ww_tb := by decide +kernel
theorem u_411 : Cond.methodLink RL 110 yX7_group ∈ ww_tb := by decide +kernel
theorem u_412 : Cond.instanceMethod yX7_group ∈ ww_tb := by decide +kernel
theorem u_413 : Cond.selects RX7 yX7_group yX7_group ∈ ww_tb := by decide +kernel
theorem u_414 : Cond.code yX7_trust cX7_trust 4 (some .int) ∈ ww_tb := by decide +kernel
theorem u_415 : Cond.methodLink RL 118 yX7_trust ∈ ww_tb := by decide +kernel
theorem u_416 : Cond.instanceMethod yX7_trust ∈ ww_tb := by decide +kernel
theorem u_417 : Cond.selects RX7 yX7_trust yX7_trust ∈ ww_tb := by decide +kernel
theorem u_418 : Cond.code yX7_shelter cX7_shelter 3 (some .int) ∈ ww_tb := by decide +kernel
theorem u_419 : Cond.methodLink RL 121 yX7_shelter ∈ ww_tb := by decide +kernel
theorem u_420 : Cond.instanceMethod yX7_shelter ∈ ww_tb := by decide +kernel
theorem u_421 : Cond.selects RX7 yX7_shelter yX7_shelter ∈ ww_tb := by decide +kernel
theorem u_422 : Cond.code yX7_siren cX7_siren 3 (some .int) ∈ ww_tb := by decide +kernel
theorem u_423 : Cond.methodLink RL 124 yX7_siren ∈ ww_tb := by decide +kernel
theorem u_424 : Cond.instanceMethod yX7_siren ∈ ww_tb := by decide +kernel
theorem u_425 : Cond.selects RX7 yX7_siren yX7_siren ∈ ww_tb := by decide +kernel
theorem u_426 : Cond.code yX7_mast cX7_mast 3 (some .int) ∈ ww_tb := by decide +kernel
theorem u_427 : Cond.methodLink RL 127 yX7_mast ∈ ww_tb := by decide +kernel
theorem u_428 : Cond.instanceMethod yX7_mast ∈ ww_tb := by decide +kernel
theorem u_429 : Cond.selects RX7 yX7_mast yX7_mast ∈ ww_tb := by decide +kernel
theorem u_430 : Cond.code yX7_power_ cX7_power_ 3 (some .int) ∈ ww_tb := by decide +kernel
theorem u_431 : Cond.methodLink RL 131 yX7_power_ ∈ ww_tb := by decide +kernel
theorem u_432 : Cond.instanceMethod yX7_power_ ∈ ww_tb := by decide +kernel
theorem u_433 : Cond.selects RX7 yX7_power_ yX7_power_ ∈ ww_tb := by decide +kernel
theorem u_434 : Cond.code yX7_lines cX7_lines 3 (some .int) ∈ ww_tb := by decide +kernel
theorem u_435 : Cond.methodLink RL 135 yX7_lines ∈ ww_tb := by decide +kernel
theorem u_436 : Cond.instanceMethod yX7_lines ∈ ww_tb := by decide +kernel
theorem u_437 : Cond.selects RX7 yX7_lines yX7_lines ∈ ww_tb := by decide +kernel
theorem u_438 : Cond.code yX7_danger cX7_danger 4 (some .int) ∈ ww_tb := by decide +kernel
theorem u_439 : Cond.methodLink RL 138 yX7_danger ∈ ww_tb := by decide +kernel
theorem u_440 : Cond.instanceMethod yX7_danger ∈ ww_tb := by decide +kernel
theorem u_441 : Cond.selects RX7 yX7_danger yX7_danger ∈ ww_tb := by decide +kernel
theorem u_442 : Cond.code yX7_key cX7_key 4 (some .boolean) ∈ ww_tb := by decide +kernel
theorem u_443 : Cond.methodLink RL 141 yX7_key ∈ ww_tb := by decide +kernel
theorem u_444 : Cond.instanceMethod yX7_key ∈ ww_tb := by decide +kernel
theorem u_445 : Cond.selects RX7 yX7_key yX7_key ∈ ww_tb := by decide +kernel
theorem u_446 : Cond.code yX7_alert cX7_alert 4 (some .int) ∈ ww_tb := by decide +kernel
theorem u_447 : Cond.methodLink RL 145 yX7_alert ∈ ww_tb := by decide +kernel
theorem u_448 : Cond.instanceMethod yX7_alert ∈ ww_tb := by decide +kernel
theorem u_449 : Cond.selects RX7 yX7_alert yX7_alert ∈ ww_tb := by decide +kernel
theorem u_450 : Cond.code yX7_update cX7_update 5 (some .int) ∈ ww_tb := by decide +kernel
theorem u_451 : Cond.methodLink RL 149 yX7_update ∈ ww_tb := by decide +kernel
theorem u_452 : Cond.instanceMethod yX7_update ∈ ww_tb := by decide +kernel
theorem u_453 : Cond.selects RX7 yX7_update yX7_update ∈ ww_tb := by decide +kernel
theorem u_454 : Cond.code yX7_cancel cX7_cancel 3 (some .int) ∈ ww_tb := by decide +kernel
theorem u_455 : Cond.methodLink RL 152 yX7_cancel ∈ ww_tb := by decide +kernel
theorem u_456 : Cond.instanceMethod yX7_cancel ∈ ww_tb := by decide +kernel
theorem u_457 : Cond.selects RX7 yX7_cancel yX7_cancel ∈ ww_tb := by decide +kernel
theorem u_458 : Cond.code yX7_approve cX7_approve 4 (some .int) ∈ ww_tb := by decide +kernel
theorem u_459 : Cond.methodLink RL 155 yX7_approve ∈ ww_tb := by decide +kernel
theorem u_460 : Cond.instanceMethod yX7_approve ∈ ww_tb := by decide +kernel
theorem u_461 : Cond.selects RX7 yX7_approve yX7_approve ∈ ww_tb := by decide +kernel
/-! the cases of the law (1) -/
theorem kc_group {p : Program} {l : Launch} {e : Env} {s : State} {m : MethodId} {args : Array Value} {below : List Frame} {meth : Method} {c : Code} {H : Heap} {Q : State → Prop} {ck cn : Nat} {ls : Array Slot} {b : Nat} {xs : Nat → Int32} {Dx Dm : va_G} {tx tm : List (ClassId × FieldType)} {ax am : vgN → Nat} {o od : Nat} {cO : ClassId} {f0 : Nat → Int64}
    (C : lq_Cx p l s m args c b xs Dx Dm tx tm ax am o od cO) (hH : lq_Hx s Dx Dm tx tm ax am o cO f0 H) (hl : lv_has ls 9 (lq_lv b (ax (0, 0, 0)) (am (40, 0, 0)) o od)) (h1 : ck ≤ 1000) (h2 : cn ≤ 10000)
    (k : ∀ (H1 : Heap) (ls1 : Array Slot) (lv1 : List (Nat × Value)) (k1 k2 : Nat), va_S (fun q => s.heap.size ≤ q) s.heap H1 [] → lv_has ls1 9 lv1 → (0, Value.ref b) ∈ lv1 → (5, Value.int 0) ∈ lv1 → k1 ≤ 600002 → k2 ≤ 7302232 → W p l e room_1 s m args below meth c H1 [] k1 k2 Q (F0 m 2030 ls1 [])) : W p l e room_1 s m args below meth c H [] ck cn Q (F0 m 168 ls []) := by
  have C9 := C
  obtain ⟨⟨hx, hcb, -, -, -, hX, hbl, -⟩, -⟩ := C9
  have a0 : lq_Pu p l e room_1 s m args below meth c b Q 9 169 175 [.int (xs 1)] := lq_PuI (j := 1) hx hcb hX hbl dw_169 dw_170 dw_172 dw_173 dw_174 rfl (by decide)
  have a1 : lq_Pu p l e room_1 s m args below meth c b Q 9 175 181 [.int (xs 2)] := lq_PuI (j := 2) hx hcb hX hbl dw_175 dw_176 dw_178 dw_179 dw_180 rfl (by decide)
  have a2 : lq_Pu p l e room_1 s m args below meth c b Q 9 181 187 [.int (xs 3)] := lq_PuI (j := 3) hx hcb hX hbl dw_181 dw_182 dw_184 dw_185 dw_186 rfl (by decide)
  have a3 : lq_Pu p l e room_1 s m args below meth c b Q 9 187 201 [.int (lq_b (xs 4))] := lq_PuB (j := 4) hx hcb hX hbl dw_187 dw_188 dw_190 dw_191 dw_192 dw_193 dw_196 dw_197 dw_200 rfl (by decide)
  have a4 : lq_Pu p l e room_1 s m args below meth c b Q 9 201 215 [.int (lq_b (xs 5))] := lq_PuB (j := 5) hx hcb hX hbl dw_201 dw_202 dw_204 dw_205 dw_206 dw_207 dw_210 dw_211 dw_214 rfl (by decide)
  have a : lq_Pu p l e room_1 s m args below meth c b Q 9 169 215 [.int (xs 1), .int (xs 2), .int (xs 3), .int (lq_b (xs 4)), .int (lq_b (xs 5))] := lq_PuC a0 (lq_PuC a1 (lq_PuC a2 (lq_PuC a3 (a4))))
  have b0 : lq_Pu p l e room_1 s m args below meth c b Q 9 222 228 [.int (xs 1)] := lq_PuI (j := 1) hx hcb hX hbl dw_222 dw_223 dw_225 dw_226 dw_227 rfl (by decide)
  have b1 : lq_Pu p l e room_1 s m args below meth c b Q 9 228 234 [.int (xs 2)] := lq_PuI (j := 2) hx hcb hX hbl dw_228 dw_229 dw_231 dw_232 dw_233 rfl (by decide)
  have b2 : lq_Pu p l e room_1 s m args below meth c b Q 9 234 240 [.int (xs 3)] := lq_PuI (j := 3) hx hcb hX hbl dw_234 dw_235 dw_237 dw_238 dw_239 rfl (by decide)
  have b3 : lq_Pu p l e room_1 s m args below meth c b Q 9 240 254 [.int (lq_b (xs 4))] := lq_PuB (j := 4) hx hcb hX hbl dw_240 dw_241 dw_243 dw_244 dw_245 dw_246 dw_249 dw_250 dw_253 rfl (by decide)
  have b4 : lq_Pu p l e room_1 s m args below meth c b Q 9 254 268 [.int (lq_b (xs 5))] := lq_PuB (j := 5) hx hcb hX hbl dw_254 dw_255 dw_257 dw_258 dw_259 dw_260 dw_263 dw_264 dw_267 rfl (by decide)
  have b : lq_Pu p l e room_1 s m args below meth c b Q 9 222 268 [.int (xs 1), .int (xs 2), .int (xs 3), .int (lq_b (xs 4)), .int (lq_b (xs 5))] := lq_PuC b0 (lq_PuC b1 (lq_PuC b2 (lq_PuC b3 (b4))))
  exact lq_case (R := room_1) (vals := [.int (xs 1), .int (xs 2), .int (xs 3), .int (lq_b (xs 4)), .int (lq_b (xs 5))]) (mc := 1) (ms := 8) (kn := 7) (kM := 5) (P := 168) (W1 := 215) (V1 := 268) (T := 273) (iW := 105) (iM := 110) C hH hl (x_L_group (xs 1) (xs 2) (xs 3) (lq_b (xs 4)) (lq_b (xs 5)) (lq_b01 _) (lq_b01 _)) (a_X7_group mm_closed (by decide +kernel)) mm_σfr (hm_group (xs 1) (xs 2) (xs 3) (lq_b (xs 4)) (lq_b (xs 5))) rfl rfl (List.forall_mem_cons.mpr ⟨trivial, List.forall_mem_cons.mpr ⟨trivial, List.forall_mem_cons.mpr ⟨trivial, List.forall_mem_cons.mpr ⟨trivial, List.forall_mem_cons.mpr ⟨trivial, fun _ h => nomatch h⟩⟩⟩⟩⟩) a b dw_168 dw_215 dw_216 dw_219 dw_221 dw_268 dw_271 rfl
    (ww_in _ (by decide +kernel)) (by decide +kernel) rfl u_410 u_411 u_412 u_413 (by decide +kernel) rfl
    (by decide) (by decide) (by decide) (by show ck + 1 + 1 ≤ 600002; omega) (by show cn + 6 + 8 ≤ 7302232; omega)
    dw_273 dw_274 dw_277 dw_279 (by decide) dw_284 dw_286 (by decide) dw_289 dw_290 dw_291 dw_292 dw_294 dw_295 dw_296 (by decide) dw_301 (by decide) k
theorem kc_trust {p : Program} {l : Launch} {e : Env} {s : State} {m : MethodId} {args : Array Value} {below : List Frame} {meth : Method} {c : Code} {H : Heap} {Q : State → Prop} {ck cn : Nat} {ls : Array Slot} {b : Nat} {xs : Nat → Int32} {Dx Dm : va_G} {tx tm : List (ClassId × FieldType)} {ax am : vgN → Nat} {o od : Nat} {cO : ClassId} {f0 : Nat → Int64}
    (C : lq_Cx p l s m args c b xs Dx Dm tx tm ax am o od cO) (hH : lq_Hx s Dx Dm tx tm ax am o cO f0 H) (hl : lv_has ls 9 (lq_lv b (ax (0, 0, 0)) (am (40, 0, 0)) o od)) (h1 : ck ≤ 1000) (h2 : cn ≤ 10000)
    (k : ∀ (H1 : Heap) (ls1 : Array Slot) (lv1 : List (Nat × Value)) (k1 k2 : Nat), va_S (fun q => s.heap.size ≤ q) s.heap H1 [] → lv_has ls1 9 lv1 → (0, Value.ref b) ∈ lv1 → (5, Value.int 0) ∈ lv1 → k1 ≤ 600002 → k2 ≤ 7302232 → W p l e room_1 s m args below meth c H1 [] k1 k2 Q (F0 m 2030 ls1 [])) : W p l e room_1 s m args below meth c H [] ck cn Q (F0 m 304 ls []) := by
  have C9 := C
  obtain ⟨⟨hx, hcb, -, -, -, hX, hbl, -⟩, -⟩ := C9
  have a0 : lq_Pu p l e room_1 s m args below meth c b Q 9 305 311 [.int (xs 1)] := lq_PuI (j := 1) hx hcb hX hbl dw_305 dw_306 dw_308 dw_309 dw_310 rfl (by decide)
  have a1 : lq_Pu p l e room_1 s m args below meth c b Q 9 311 317 [.int (xs 2)] := lq_PuI (j := 2) hx hcb hX hbl dw_311 dw_312 dw_314 dw_315 dw_316 rfl (by decide)
  have a : lq_Pu p l e room_1 s m args below meth c b Q 9 305 317 [.int (xs 1), .int (xs 2)] := lq_PuC a0 (a1)
  have b0 : lq_Pu p l e room_1 s m args below meth c b Q 9 324 330 [.int (xs 1)] := lq_PuI (j := 1) hx hcb hX hbl dw_324 dw_325 dw_327 dw_328 dw_329 rfl (by decide)
  have b1 : lq_Pu p l e room_1 s m args below meth c b Q 9 330 336 [.int (xs 2)] := lq_PuI (j := 2) hx hcb hX hbl dw_330 dw_331 dw_333 dw_334 dw_335 rfl (by decide)
  have b : lq_Pu p l e room_1 s m args below meth c b Q 9 324 336 [.int (xs 1), .int (xs 2)] := lq_PuC b0 (b1)
  exact lq_case (R := room_1) (vals := [.int (xs 1), .int (xs 2)]) (mc := 0) (ms := 0) (kn := 4) (kM := 2) (P := 304) (W1 := 317) (V1 := 336) (T := 341) (iW := 115) (iM := 118) C hH hl (x_L_trust (xs 1) (xs 2)) (lq_up (r_X7_trust mm_closed)) mm_σfr (hm_trust (xs 1) (xs 2)) rfl rfl (List.forall_mem_cons.mpr ⟨trivial, List.forall_mem_cons.mpr ⟨trivial, fun _ h => nomatch h⟩⟩) a b dw_304 dw_317 dw_318 dw_321 dw_323 dw_336 dw_339 rfl
    (ww_in _ (by decide +kernel)) (by decide +kernel) rfl u_414 u_415 u_416 u_417 (by decide +kernel) rfl
    (by decide) (by decide) (by decide) (by show ck + 1 + 0 ≤ 600002; omega) (by show cn + 6 + 0 ≤ 7302232; omega)
    dw_341 dw_342 dw_345 dw_347 (by decide) dw_352 dw_354 (by decide) dw_357 dw_358 dw_359 dw_360 dw_362 dw_363 dw_364 (by decide) dw_369 (by decide) k
theorem kc_shelter {p : Program} {l : Launch} {e : Env} {s : State} {m : MethodId} {args : Array Value} {below : List Frame} {meth : Method} {c : Code} {H : Heap} {Q : State → Prop} {ck cn : Nat} {ls : Array Slot} {b : Nat} {xs : Nat → Int32} {Dx Dm : va_G} {tx tm : List (ClassId × FieldType)} {ax am : vgN → Nat} {o od : Nat} {cO : ClassId} {f0 : Nat → Int64}
    (C : lq_Cx p l s m args c b xs Dx Dm tx tm ax am o od cO) (hH : lq_Hx s Dx Dm tx tm ax am o cO f0 H) (hl : lv_has ls 9 (lq_lv b (ax (0, 0, 0)) (am (40, 0, 0)) o od)) (h1 : ck ≤ 1000) (h2 : cn ≤ 10000)
    (k : ∀ (H1 : Heap) (ls1 : Array Slot) (lv1 : List (Nat × Value)) (k1 k2 : Nat), va_S (fun q => s.heap.size ≤ q) s.heap H1 [] → lv_has ls1 9 lv1 → (0, Value.ref b) ∈ lv1 → (5, Value.int 0) ∈ lv1 → k1 ≤ 600002 → k2 ≤ 7302232 → W p l e room_1 s m args below meth c H1 [] k1 k2 Q (F0 m 2030 ls1 [])) : W p l e room_1 s m args below meth c H [] ck cn Q (F0 m 372 ls []) := by
  have C9 := C
  obtain ⟨⟨hx, hcb, -, -, -, hX, hbl, -⟩, -⟩ := C9
  have a0 : lq_Pu p l e room_1 s m args below meth c b Q 9 373 379 [.int (xs 1)] := lq_PuI (j := 1) hx hcb hX hbl dw_373 dw_374 dw_376 dw_377 dw_378 rfl (by decide)
  have a1 : lq_Pu p l e room_1 s m args below meth c b Q 9 379 385 [.int (xs 2)] := lq_PuI (j := 2) hx hcb hX hbl dw_379 dw_380 dw_382 dw_383 dw_384 rfl (by decide)
  have a : lq_Pu p l e room_1 s m args below meth c b Q 9 373 385 [.int (xs 1), .int (xs 2)] := lq_PuC a0 (a1)
  have b0 : lq_Pu p l e room_1 s m args below meth c b Q 9 392 398 [.int (xs 1)] := lq_PuI (j := 1) hx hcb hX hbl dw_392 dw_393 dw_395 dw_396 dw_397 rfl (by decide)
  have b1 : lq_Pu p l e room_1 s m args below meth c b Q 9 398 404 [.int (xs 2)] := lq_PuI (j := 2) hx hcb hX hbl dw_398 dw_399 dw_401 dw_402 dw_403 rfl (by decide)
  have b : lq_Pu p l e room_1 s m args below meth c b Q 9 392 404 [.int (xs 1), .int (xs 2)] := lq_PuC b0 (b1)
  exact lq_case (R := room_1) (vals := [.int (xs 1), .int (xs 2)]) (mc := 0) (ms := 0) (kn := 4) (kM := 2) (P := 372) (W1 := 385) (V1 := 404) (T := 409) (iW := 119) (iM := 121) C hH hl (x_L_shelter (xs 1) (xs 2)) (lq_up (r_X7_shelter mm_closed)) mm_σfr (hm_shelter (xs 1) (xs 2)) rfl rfl (List.forall_mem_cons.mpr ⟨trivial, List.forall_mem_cons.mpr ⟨trivial, fun _ h => nomatch h⟩⟩) a b dw_372 dw_385 dw_386 dw_389 dw_391 dw_404 dw_407 rfl
    (ww_in _ (by decide +kernel)) (by decide +kernel) rfl u_418 u_419 u_420 u_421 (by decide +kernel) rfl
    (by decide) (by decide) (by decide) (by show ck + 1 + 0 ≤ 600002; omega) (by show cn + 6 + 0 ≤ 7302232; omega)
    dw_409 dw_410 dw_413 dw_415 (by decide) dw_420 dw_422 (by decide) dw_425 dw_426 dw_427 dw_428 dw_430 dw_431 dw_432 (by decide) dw_437 (by decide) k
theorem kc_siren {p : Program} {l : Launch} {e : Env} {s : State} {m : MethodId} {args : Array Value} {below : List Frame} {meth : Method} {c : Code} {H : Heap} {Q : State → Prop} {ck cn : Nat} {ls : Array Slot} {b : Nat} {xs : Nat → Int32} {Dx Dm : va_G} {tx tm : List (ClassId × FieldType)} {ax am : vgN → Nat} {o od : Nat} {cO : ClassId} {f0 : Nat → Int64}
    (C : lq_Cx p l s m args c b xs Dx Dm tx tm ax am o od cO) (hH : lq_Hx s Dx Dm tx tm ax am o cO f0 H) (hl : lv_has ls 9 (lq_lv b (ax (0, 0, 0)) (am (40, 0, 0)) o od)) (h1 : ck ≤ 1000) (h2 : cn ≤ 10000)
    (k : ∀ (H1 : Heap) (ls1 : Array Slot) (lv1 : List (Nat × Value)) (k1 k2 : Nat), va_S (fun q => s.heap.size ≤ q) s.heap H1 [] → lv_has ls1 9 lv1 → (0, Value.ref b) ∈ lv1 → (5, Value.int 0) ∈ lv1 → k1 ≤ 600002 → k2 ≤ 7302232 → W p l e room_1 s m args below meth c H1 [] k1 k2 Q (F0 m 2030 ls1 [])) : W p l e room_1 s m args below meth c H [] ck cn Q (F0 m 440 ls []) := by
  have C9 := C
  obtain ⟨⟨hx, hcb, -, -, -, hX, hbl, -⟩, -⟩ := C9
  have a0 : lq_Pu p l e room_1 s m args below meth c b Q 9 441 447 [.int (xs 1)] := lq_PuI (j := 1) hx hcb hX hbl dw_441 dw_442 dw_444 dw_445 dw_446 rfl (by decide)
  have a1 : lq_Pu p l e room_1 s m args below meth c b Q 9 447 453 [.int (xs 2)] := lq_PuI (j := 2) hx hcb hX hbl dw_447 dw_448 dw_450 dw_451 dw_452 rfl (by decide)
  have a : lq_Pu p l e room_1 s m args below meth c b Q 9 441 453 [.int (xs 1), .int (xs 2)] := lq_PuC a0 (a1)
  have b0 : lq_Pu p l e room_1 s m args below meth c b Q 9 460 466 [.int (xs 1)] := lq_PuI (j := 1) hx hcb hX hbl dw_460 dw_461 dw_463 dw_464 dw_465 rfl (by decide)
  have b1 : lq_Pu p l e room_1 s m args below meth c b Q 9 466 472 [.int (xs 2)] := lq_PuI (j := 2) hx hcb hX hbl dw_466 dw_467 dw_469 dw_470 dw_471 rfl (by decide)
  have b : lq_Pu p l e room_1 s m args below meth c b Q 9 460 472 [.int (xs 1), .int (xs 2)] := lq_PuC b0 (b1)
  exact lq_case (R := room_1) (vals := [.int (xs 1), .int (xs 2)]) (mc := 0) (ms := 0) (kn := 4) (kM := 2) (P := 440) (W1 := 453) (V1 := 472) (T := 477) (iW := 122) (iM := 124) C hH hl (x_L_siren (xs 1) (xs 2)) (lq_up (r_X7_siren mm_closed)) mm_σfr (hm_siren (xs 1) (xs 2)) rfl rfl (List.forall_mem_cons.mpr ⟨trivial, List.forall_mem_cons.mpr ⟨trivial, fun _ h => nomatch h⟩⟩) a b dw_440 dw_453 dw_454 dw_457 dw_459 dw_472 dw_475 rfl
    (ww_in _ (by decide +kernel)) (by decide +kernel) rfl u_422 u_423 u_424 u_425 (by decide +kernel) rfl
    (by decide) (by decide) (by decide) (by show ck + 1 + 0 ≤ 600002; omega) (by show cn + 6 + 0 ≤ 7302232; omega)
    dw_477 dw_478 dw_481 dw_483 (by decide) dw_488 dw_490 (by decide) dw_493 dw_494 dw_495 dw_496 dw_498 dw_499 dw_500 (by decide) dw_505 (by decide) k
theorem kc_mast {p : Program} {l : Launch} {e : Env} {s : State} {m : MethodId} {args : Array Value} {below : List Frame} {meth : Method} {c : Code} {H : Heap} {Q : State → Prop} {ck cn : Nat} {ls : Array Slot} {b : Nat} {xs : Nat → Int32} {Dx Dm : va_G} {tx tm : List (ClassId × FieldType)} {ax am : vgN → Nat} {o od : Nat} {cO : ClassId} {f0 : Nat → Int64}
    (C : lq_Cx p l s m args c b xs Dx Dm tx tm ax am o od cO) (hH : lq_Hx s Dx Dm tx tm ax am o cO f0 H) (hl : lv_has ls 9 (lq_lv b (ax (0, 0, 0)) (am (40, 0, 0)) o od)) (h1 : ck ≤ 1000) (h2 : cn ≤ 10000)
    (k : ∀ (H1 : Heap) (ls1 : Array Slot) (lv1 : List (Nat × Value)) (k1 k2 : Nat), va_S (fun q => s.heap.size ≤ q) s.heap H1 [] → lv_has ls1 9 lv1 → (0, Value.ref b) ∈ lv1 → (5, Value.int 0) ∈ lv1 → k1 ≤ 600002 → k2 ≤ 7302232 → W p l e room_1 s m args below meth c H1 [] k1 k2 Q (F0 m 2030 ls1 [])) : W p l e room_1 s m args below meth c H [] ck cn Q (F0 m 508 ls []) := by
  have C9 := C
  obtain ⟨⟨hx, hcb, -, -, -, hX, hbl, -⟩, -⟩ := C9
  have a0 : lq_Pu p l e room_1 s m args below meth c b Q 9 509 515 [.int (xs 1)] := lq_PuI (j := 1) hx hcb hX hbl dw_509 dw_510 dw_512 dw_513 dw_514 rfl (by decide)
  have a1 : lq_Pu p l e room_1 s m args below meth c b Q 9 515 521 [.int (xs 2)] := lq_PuI (j := 2) hx hcb hX hbl dw_515 dw_516 dw_518 dw_519 dw_520 rfl (by decide)
  have a : lq_Pu p l e room_1 s m args below meth c b Q 9 509 521 [.int (xs 1), .int (xs 2)] := lq_PuC a0 (a1)
  have b0 : lq_Pu p l e room_1 s m args below meth c b Q 9 528 534 [.int (xs 1)] := lq_PuI (j := 1) hx hcb hX hbl dw_528 dw_529 dw_531 dw_532 dw_533 rfl (by decide)
  have b1 : lq_Pu p l e room_1 s m args below meth c b Q 9 534 540 [.int (xs 2)] := lq_PuI (j := 2) hx hcb hX hbl dw_534 dw_535 dw_537 dw_538 dw_539 rfl (by decide)
  have b : lq_Pu p l e room_1 s m args below meth c b Q 9 528 540 [.int (xs 1), .int (xs 2)] := lq_PuC b0 (b1)
  exact lq_case (R := room_1) (vals := [.int (xs 1), .int (xs 2)]) (mc := 0) (ms := 0) (kn := 4) (kM := 2) (P := 508) (W1 := 521) (V1 := 540) (T := 545) (iW := 125) (iM := 127) C hH hl (x_L_mast (xs 1) (xs 2)) (lq_up (r_X7_mast mm_closed)) mm_σfr (hm_mast (xs 1) (xs 2)) rfl rfl (List.forall_mem_cons.mpr ⟨trivial, List.forall_mem_cons.mpr ⟨trivial, fun _ h => nomatch h⟩⟩) a b dw_508 dw_521 dw_522 dw_525 dw_527 dw_540 dw_543 rfl
    (ww_in _ (by decide +kernel)) (by decide +kernel) rfl u_426 u_427 u_428 u_429 (by decide +kernel) rfl
    (by decide) (by decide) (by decide) (by show ck + 1 + 0 ≤ 600002; omega) (by show cn + 6 + 0 ≤ 7302232; omega)
    dw_545 dw_546 dw_549 dw_551 (by decide) dw_556 dw_558 (by decide) dw_561 dw_562 dw_563 dw_564 dw_566 dw_567 dw_568 (by decide) dw_573 (by decide) k
theorem kc_power {p : Program} {l : Launch} {e : Env} {s : State} {m : MethodId} {args : Array Value} {below : List Frame} {meth : Method} {c : Code} {H : Heap} {Q : State → Prop} {ck cn : Nat} {ls : Array Slot} {b : Nat} {xs : Nat → Int32} {Dx Dm : va_G} {tx tm : List (ClassId × FieldType)} {ax am : vgN → Nat} {o od : Nat} {cO : ClassId} {f0 : Nat → Int64}
    (C : lq_Cx p l s m args c b xs Dx Dm tx tm ax am o od cO) (hH : lq_Hx s Dx Dm tx tm ax am o cO f0 H) (hl : lv_has ls 9 (lq_lv b (ax (0, 0, 0)) (am (40, 0, 0)) o od)) (h1 : ck ≤ 1000) (h2 : cn ≤ 10000)
    (k : ∀ (H1 : Heap) (ls1 : Array Slot) (lv1 : List (Nat × Value)) (k1 k2 : Nat), va_S (fun q => s.heap.size ≤ q) s.heap H1 [] → lv_has ls1 9 lv1 → (0, Value.ref b) ∈ lv1 → (5, Value.int 0) ∈ lv1 → k1 ≤ 600002 → k2 ≤ 7302232 → W p l e room_1 s m args below meth c H1 [] k1 k2 Q (F0 m 2030 ls1 [])) : W p l e room_1 s m args below meth c H [] ck cn Q (F0 m 576 ls []) := by
  have C9 := C
  obtain ⟨⟨hx, hcb, -, -, -, hX, hbl, -⟩, -⟩ := C9
  have a0 : lq_Pu p l e room_1 s m args below meth c b Q 9 577 583 [.int (xs 1)] := lq_PuI (j := 1) hx hcb hX hbl dw_577 dw_578 dw_580 dw_581 dw_582 rfl (by decide)
  have a1 : lq_Pu p l e room_1 s m args below meth c b Q 9 583 597 [.int (lq_b (xs 2))] := lq_PuB (j := 2) hx hcb hX hbl dw_583 dw_584 dw_586 dw_587 dw_588 dw_589 dw_592 dw_593 dw_596 rfl (by decide)
  have a : lq_Pu p l e room_1 s m args below meth c b Q 9 577 597 [.int (xs 1), .int (lq_b (xs 2))] := lq_PuC a0 (a1)
  have b0 : lq_Pu p l e room_1 s m args below meth c b Q 9 604 610 [.int (xs 1)] := lq_PuI (j := 1) hx hcb hX hbl dw_604 dw_605 dw_607 dw_608 dw_609 rfl (by decide)
  have b1 : lq_Pu p l e room_1 s m args below meth c b Q 9 610 624 [.int (lq_b (xs 2))] := lq_PuB (j := 2) hx hcb hX hbl dw_610 dw_611 dw_613 dw_614 dw_615 dw_616 dw_619 dw_620 dw_623 rfl (by decide)
  have b : lq_Pu p l e room_1 s m args below meth c b Q 9 604 624 [.int (xs 1), .int (lq_b (xs 2))] := lq_PuC b0 (b1)
  exact lq_case (R := room_1) (vals := [.int (xs 1), .int (lq_b (xs 2))]) (mc := 0) (ms := 0) (kn := 4) (kM := 2) (P := 576) (W1 := 597) (V1 := 624) (T := 629) (iW := 128) (iM := 131) C hH hl (x_L_power (xs 1) (lq_b (xs 2))) (lq_up (r_X7_power_ mm_closed)) mm_σfr (hm_power (xs 1) (lq_b (xs 2))) rfl rfl (List.forall_mem_cons.mpr ⟨trivial, List.forall_mem_cons.mpr ⟨trivial, fun _ h => nomatch h⟩⟩) a b dw_576 dw_597 dw_598 dw_601 dw_603 dw_624 dw_627 rfl
    (ww_in _ (by decide +kernel)) (by decide +kernel) rfl u_430 u_431 u_432 u_433 (by decide +kernel) rfl
    (by decide) (by decide) (by decide) (by show ck + 1 + 0 ≤ 600002; omega) (by show cn + 6 + 0 ≤ 7302232; omega)
    dw_629 dw_630 dw_633 dw_635 (by decide) dw_640 dw_642 (by decide) dw_645 dw_646 dw_647 dw_648 dw_650 dw_651 dw_652 (by decide) dw_657 (by decide) k
theorem kc_lines {p : Program} {l : Launch} {e : Env} {s : State} {m : MethodId} {args : Array Value} {below : List Frame} {meth : Method} {c : Code} {H : Heap} {Q : State → Prop} {ck cn : Nat} {ls : Array Slot} {b : Nat} {xs : Nat → Int32} {Dx Dm : va_G} {tx tm : List (ClassId × FieldType)} {ax am : vgN → Nat} {o od : Nat} {cO : ClassId} {f0 : Nat → Int64}
    (C : lq_Cx p l s m args c b xs Dx Dm tx tm ax am o od cO) (hH : lq_Hx s Dx Dm tx tm ax am o cO f0 H) (hl : lv_has ls 9 (lq_lv b (ax (0, 0, 0)) (am (40, 0, 0)) o od)) (h1 : ck ≤ 1000) (h2 : cn ≤ 10000)
    (k : ∀ (H1 : Heap) (ls1 : Array Slot) (lv1 : List (Nat × Value)) (k1 k2 : Nat), va_S (fun q => s.heap.size ≤ q) s.heap H1 [] → lv_has ls1 9 lv1 → (0, Value.ref b) ∈ lv1 → (5, Value.int 0) ∈ lv1 → k1 ≤ 600002 → k2 ≤ 7302232 → W p l e room_1 s m args below meth c H1 [] k1 k2 Q (F0 m 2030 ls1 [])) : W p l e room_1 s m args below meth c H [] ck cn Q (F0 m 660 ls []) := by
  have C9 := C
  obtain ⟨⟨hx, hcb, -, -, -, hX, hbl, -⟩, -⟩ := C9
  have a0 : lq_Pu p l e room_1 s m args below meth c b Q 9 661 667 [.int (xs 1)] := lq_PuI (j := 1) hx hcb hX hbl dw_661 dw_662 dw_664 dw_665 dw_666 rfl (by decide)
  have a : lq_Pu p l e room_1 s m args below meth c b Q 9 661 667 [.int (xs 1)] := a0
  have b0 : lq_Pu p l e room_1 s m args below meth c b Q 9 674 680 [.int (xs 1)] := lq_PuI (j := 1) hx hcb hX hbl dw_674 dw_675 dw_677 dw_678 dw_679 rfl (by decide)
  have b : lq_Pu p l e room_1 s m args below meth c b Q 9 674 680 [.int (xs 1)] := b0
  exact lq_case (R := room_1) (vals := [.int (xs 1)]) (mc := 0) (ms := 0) (kn := 3) (kM := 1) (P := 660) (W1 := 667) (V1 := 680) (T := 685) (iW := 132) (iM := 135) C hH hl (x_L_lines (xs 1)) (lq_up (r_X7_lines mm_closed)) mm_σfr (hm_lines (xs 1)) rfl rfl (List.forall_mem_cons.mpr ⟨trivial, fun _ h => nomatch h⟩) a b dw_660 dw_667 dw_668 dw_671 dw_673 dw_680 dw_683 rfl
    (ww_in _ (by decide +kernel)) (by decide +kernel) rfl u_434 u_435 u_436 u_437 (by decide +kernel) rfl
    (by decide) (by decide) (by decide) (by show ck + 1 + 0 ≤ 600002; omega) (by show cn + 6 + 0 ≤ 7302232; omega)
    dw_685 dw_686 dw_689 dw_691 (by decide) dw_696 dw_698 (by decide) dw_701 dw_702 dw_703 dw_704 dw_706 dw_707 dw_708 (by decide) dw_713 (by decide) k
theorem kc_danger {p : Program} {l : Launch} {e : Env} {s : State} {m : MethodId} {args : Array Value} {below : List Frame} {meth : Method} {c : Code} {H : Heap} {Q : State → Prop} {ck cn : Nat} {ls : Array Slot} {b : Nat} {xs : Nat → Int32} {Dx Dm : va_G} {tx tm : List (ClassId × FieldType)} {ax am : vgN → Nat} {o od : Nat} {cO : ClassId} {f0 : Nat → Int64}
    (C : lq_Cx p l s m args c b xs Dx Dm tx tm ax am o od cO) (hH : lq_Hx s Dx Dm tx tm ax am o cO f0 H) (hl : lv_has ls 9 (lq_lv b (ax (0, 0, 0)) (am (40, 0, 0)) o od)) (h1 : ck ≤ 1000) (h2 : cn ≤ 10000)
    (k : ∀ (H1 : Heap) (ls1 : Array Slot) (lv1 : List (Nat × Value)) (k1 k2 : Nat), va_S (fun q => s.heap.size ≤ q) s.heap H1 [] → lv_has ls1 9 lv1 → (0, Value.ref b) ∈ lv1 → (5, Value.int 0) ∈ lv1 → k1 ≤ 600002 → k2 ≤ 7302232 → W p l e room_1 s m args below meth c H1 [] k1 k2 Q (F0 m 2030 ls1 [])) : W p l e room_1 s m args below meth c H [] ck cn Q (F0 m 716 ls []) := by
  have C9 := C
  obtain ⟨⟨hx, hcb, -, -, -, hX, hbl, -⟩, -⟩ := C9
  have a0 : lq_Pu p l e room_1 s m args below meth c b Q 9 717 723 [.int (xs 1)] := lq_PuI (j := 1) hx hcb hX hbl dw_717 dw_718 dw_720 dw_721 dw_722 rfl (by decide)
  have a1 : lq_Pu p l e room_1 s m args below meth c b Q 9 723 729 [.int (xs 2)] := lq_PuI (j := 2) hx hcb hX hbl dw_723 dw_724 dw_726 dw_727 dw_728 rfl (by decide)
  have a : lq_Pu p l e room_1 s m args below meth c b Q 9 717 729 [.int (xs 1), .int (xs 2)] := lq_PuC a0 (a1)
  have b0 : lq_Pu p l e room_1 s m args below meth c b Q 9 736 742 [.int (xs 1)] := lq_PuI (j := 1) hx hcb hX hbl dw_736 dw_737 dw_739 dw_740 dw_741 rfl (by decide)
  have b1 : lq_Pu p l e room_1 s m args below meth c b Q 9 742 748 [.int (xs 2)] := lq_PuI (j := 2) hx hcb hX hbl dw_742 dw_743 dw_745 dw_746 dw_747 rfl (by decide)
  have b : lq_Pu p l e room_1 s m args below meth c b Q 9 736 748 [.int (xs 1), .int (xs 2)] := lq_PuC b0 (b1)
  exact lq_case (R := room_1) (vals := [.int (xs 1), .int (xs 2)]) (mc := 0) (ms := 0) (kn := 4) (kM := 2) (P := 716) (W1 := 729) (V1 := 748) (T := 753) (iW := 136) (iM := 138) C hH hl (x_L_danger (xs 1) (xs 2)) (lq_up (r_X7_danger mm_closed)) mm_σfr (hm_danger (xs 1) (xs 2)) rfl rfl (List.forall_mem_cons.mpr ⟨trivial, List.forall_mem_cons.mpr ⟨trivial, fun _ h => nomatch h⟩⟩) a b dw_716 dw_729 dw_730 dw_733 dw_735 dw_748 dw_751 rfl
    (ww_in _ (by decide +kernel)) (by decide +kernel) rfl u_438 u_439 u_440 u_441 (by decide +kernel) rfl
    (by decide) (by decide) (by decide) (by show ck + 1 + 0 ≤ 600002; omega) (by show cn + 6 + 0 ≤ 7302232; omega)
    dw_753 dw_754 dw_757 dw_759 (by decide) dw_764 dw_766 (by decide) dw_769 dw_770 dw_771 dw_772 dw_774 dw_775 dw_776 (by decide) dw_781 (by decide) k
theorem kc_key {p : Program} {l : Launch} {e : Env} {s : State} {m : MethodId} {args : Array Value} {below : List Frame} {meth : Method} {c : Code} {H : Heap} {Q : State → Prop} {ck cn : Nat} {ls : Array Slot} {b : Nat} {xs : Nat → Int32} {Dx Dm : va_G} {tx tm : List (ClassId × FieldType)} {ax am : vgN → Nat} {o od : Nat} {cO : ClassId} {f0 : Nat → Int64}
    (C : lq_Cx p l s m args c b xs Dx Dm tx tm ax am o od cO) (hH : lq_Hx s Dx Dm tx tm ax am o cO f0 H) (hl : lv_has ls 9 (lq_lv b (ax (0, 0, 0)) (am (40, 0, 0)) o od)) (h1 : ck ≤ 1000) (h2 : cn ≤ 10000)
    (k : ∀ (H1 : Heap) (ls1 : Array Slot) (lv1 : List (Nat × Value)) (k1 k2 : Nat), va_S (fun q => s.heap.size ≤ q) s.heap H1 [] → lv_has ls1 9 lv1 → (0, Value.ref b) ∈ lv1 → (5, Value.int 0) ∈ lv1 → k1 ≤ 600002 → k2 ≤ 7302232 → W p l e room_1 s m args below meth c H1 [] k1 k2 Q (F0 m 2030 ls1 [])) : W p l e room_1 s m args below meth c H [] ck cn Q (F0 m 784 ls []) := by
  have C9 := C
  obtain ⟨⟨hx, hcb, -, -, -, hX, hbl, -⟩, -⟩ := C9
  have a0 : lq_Pu p l e room_1 s m args below meth c b Q 9 785 791 [.int (xs 1)] := lq_PuI (j := 1) hx hcb hX hbl dw_785 dw_786 dw_788 dw_789 dw_790 rfl (by decide)
  have a1 : lq_Pu p l e room_1 s m args below meth c b Q 9 791 805 [.int (lq_b (xs 2))] := lq_PuB (j := 2) hx hcb hX hbl dw_791 dw_792 dw_794 dw_795 dw_796 dw_797 dw_800 dw_801 dw_804 rfl (by decide)
  have a : lq_Pu p l e room_1 s m args below meth c b Q 9 785 805 [.int (xs 1), .int (lq_b (xs 2))] := lq_PuC a0 (a1)
  have b0 : lq_Pu p l e room_1 s m args below meth c b Q 9 812 818 [.int (xs 1)] := lq_PuI (j := 1) hx hcb hX hbl dw_812 dw_813 dw_815 dw_816 dw_817 rfl (by decide)
  have b1 : lq_Pu p l e room_1 s m args below meth c b Q 9 818 832 [.int (lq_b (xs 2))] := lq_PuB (j := 2) hx hcb hX hbl dw_818 dw_819 dw_821 dw_822 dw_823 dw_824 dw_827 dw_828 dw_831 rfl (by decide)
  have b : lq_Pu p l e room_1 s m args below meth c b Q 9 812 832 [.int (xs 1), .int (lq_b (xs 2))] := lq_PuC b0 (b1)
  exact lq_caseZ (R := room_1) (vals := [.int (xs 1), .int (lq_b (xs 2))]) (mc := 0) (ms := 0) (kn := 4) (kM := 2) (P := 784) (W1 := 805) (V1 := 832) (T := 837) (iW := 139) (iM := 141) C hH hl (x_L_key (xs 1) (lq_b (xs 2))) (lq_up (r_X7_key mm_closed)) mm_σfr (hm_key (xs 1) (lq_b (xs 2))) rfl rfl (List.forall_mem_cons.mpr ⟨trivial, List.forall_mem_cons.mpr ⟨trivial, fun _ h => nomatch h⟩⟩) a b dw_784 dw_805 dw_806 dw_809 dw_811 dw_832 dw_835 rfl
    (ww_in _ (by decide +kernel)) (by decide +kernel) rfl u_442 u_443 u_444 u_445 (by decide +kernel) rfl
    (by decide) (by decide) (by decide) (by show ck + 1 + 0 ≤ 600002; omega) (by show cn + 6 + 0 ≤ 7302232; omega)
    dw_837 dw_838 dw_841 dw_843 (by decide) dw_848 dw_850 (by decide) dw_853 dw_854 dw_855 dw_856 dw_858 (by decide) dw_861 dw_862 (by decide) dw_865 dw_866 dw_867 (by decide) dw_872 (by decide) (mf_key01 _ _) k
theorem kc_alert {p : Program} {l : Launch} {e : Env} {s : State} {m : MethodId} {args : Array Value} {below : List Frame} {meth : Method} {c : Code} {H : Heap} {Q : State → Prop} {ck cn : Nat} {ls : Array Slot} {b : Nat} {xs : Nat → Int32} {Dx Dm : va_G} {tx tm : List (ClassId × FieldType)} {ax am : vgN → Nat} {o od : Nat} {cO : ClassId} {f0 : Nat → Int64}
    (C : lq_Cx p l s m args c b xs Dx Dm tx tm ax am o od cO) (hH : lq_Hx s Dx Dm tx tm ax am o cO f0 H) (hl : lv_has ls 9 (lq_lv b (ax (0, 0, 0)) (am (40, 0, 0)) o od)) (h1 : ck ≤ 1000) (h2 : cn ≤ 10000)
    (k : ∀ (H1 : Heap) (ls1 : Array Slot) (lv1 : List (Nat × Value)) (k1 k2 : Nat), va_S (fun q => s.heap.size ≤ q) s.heap H1 [] → lv_has ls1 9 lv1 → (0, Value.ref b) ∈ lv1 → (5, Value.int 0) ∈ lv1 → k1 ≤ 600002 → k2 ≤ 7302232 → W p l e room_1 s m args below meth c H1 [] k1 k2 Q (F0 m 2030 ls1 [])) : W p l e room_1 s m args below meth c H [] ck cn Q (F0 m 875 ls []) := by
  have C9 := C
  obtain ⟨⟨hx, hcb, -, -, -, hX, hbl, -⟩, -⟩ := C9
  have a0 : lq_Pu p l e room_1 s m args below meth c b Q 9 876 882 [.int (xs 1)] := lq_PuI (j := 1) hx hcb hX hbl dw_876 dw_877 dw_879 dw_880 dw_881 rfl (by decide)
  have a1 : lq_Pu p l e room_1 s m args below meth c b Q 9 882 888 [.int (xs 2)] := lq_PuI (j := 2) hx hcb hX hbl dw_882 dw_883 dw_885 dw_886 dw_887 rfl (by decide)
  have a2 : lq_Pu p l e room_1 s m args below meth c b Q 9 888 894 [.int (xs 3)] := lq_PuI (j := 3) hx hcb hX hbl dw_888 dw_889 dw_891 dw_892 dw_893 rfl (by decide)
  have a : lq_Pu p l e room_1 s m args below meth c b Q 9 876 894 [.int (xs 1), .int (xs 2), .int (xs 3)] := lq_PuC a0 (lq_PuC a1 (a2))
  have b0 : lq_Pu p l e room_1 s m args below meth c b Q 9 901 907 [.int (xs 1)] := lq_PuI (j := 1) hx hcb hX hbl dw_901 dw_902 dw_904 dw_905 dw_906 rfl (by decide)
  have b1 : lq_Pu p l e room_1 s m args below meth c b Q 9 907 913 [.int (xs 2)] := lq_PuI (j := 2) hx hcb hX hbl dw_907 dw_908 dw_910 dw_911 dw_912 rfl (by decide)
  have b2 : lq_Pu p l e room_1 s m args below meth c b Q 9 913 919 [.int (xs 3)] := lq_PuI (j := 3) hx hcb hX hbl dw_913 dw_914 dw_916 dw_917 dw_918 rfl (by decide)
  have b : lq_Pu p l e room_1 s m args below meth c b Q 9 901 919 [.int (xs 1), .int (xs 2), .int (xs 3)] := lq_PuC b0 (lq_PuC b1 (b2))
  exact lq_case (R := room_1) (vals := [.int (xs 1), .int (xs 2), .int (xs 3)]) (mc := 1) (ms := 8) (kn := 5) (kM := 3) (P := 875) (W1 := 894) (V1 := 919) (T := 924) (iW := 142) (iM := 145) C hH hl (x_L_alert (xs 1) (xs 2) (xs 3)) (a_X7_alert mm_closed (by decide +kernel)) mm_σfr (hm_alert (xs 1) (xs 2) (xs 3)) rfl rfl (List.forall_mem_cons.mpr ⟨trivial, List.forall_mem_cons.mpr ⟨trivial, List.forall_mem_cons.mpr ⟨trivial, fun _ h => nomatch h⟩⟩⟩) a b dw_875 dw_894 dw_895 dw_898 dw_900 dw_919 dw_922 rfl
    (ww_in _ (by decide +kernel)) (by decide +kernel) rfl u_446 u_447 u_448 u_449 (by decide +kernel) rfl
    (by decide) (by decide) (by decide) (by show ck + 1 + 1 ≤ 600002; omega) (by show cn + 6 + 8 ≤ 7302232; omega)
    dw_924 dw_925 dw_928 dw_930 (by decide) dw_935 dw_937 (by decide) dw_940 dw_941 dw_942 dw_943 dw_945 dw_946 dw_947 (by decide) dw_952 (by decide) k
theorem kc_update {p : Program} {l : Launch} {e : Env} {s : State} {m : MethodId} {args : Array Value} {below : List Frame} {meth : Method} {c : Code} {H : Heap} {Q : State → Prop} {ck cn : Nat} {ls : Array Slot} {b : Nat} {xs : Nat → Int32} {Dx Dm : va_G} {tx tm : List (ClassId × FieldType)} {ax am : vgN → Nat} {o od : Nat} {cO : ClassId} {f0 : Nat → Int64}
    (C : lq_Cx p l s m args c b xs Dx Dm tx tm ax am o od cO) (hH : lq_Hx s Dx Dm tx tm ax am o cO f0 H) (hl : lv_has ls 9 (lq_lv b (ax (0, 0, 0)) (am (40, 0, 0)) o od)) (h1 : ck ≤ 1000) (h2 : cn ≤ 10000)
    (k : ∀ (H1 : Heap) (ls1 : Array Slot) (lv1 : List (Nat × Value)) (k1 k2 : Nat), va_S (fun q => s.heap.size ≤ q) s.heap H1 [] → lv_has ls1 9 lv1 → (0, Value.ref b) ∈ lv1 → (5, Value.int 0) ∈ lv1 → k1 ≤ 600002 → k2 ≤ 7302232 → W p l e room_1 s m args below meth c H1 [] k1 k2 Q (F0 m 2030 ls1 [])) : W p l e room_1 s m args below meth c H [] ck cn Q (F0 m 955 ls []) := by
  have C9 := C
  obtain ⟨⟨hx, hcb, -, -, -, hX, hbl, -⟩, -⟩ := C9
  have a0 : lq_Pu p l e room_1 s m args below meth c b Q 9 956 962 [.int (xs 1)] := lq_PuI (j := 1) hx hcb hX hbl dw_956 dw_957 dw_959 dw_960 dw_961 rfl (by decide)
  have a1 : lq_Pu p l e room_1 s m args below meth c b Q 9 962 968 [.int (xs 2)] := lq_PuI (j := 2) hx hcb hX hbl dw_962 dw_963 dw_965 dw_966 dw_967 rfl (by decide)
  have a2 : lq_Pu p l e room_1 s m args below meth c b Q 9 968 974 [.int (xs 3)] := lq_PuI (j := 3) hx hcb hX hbl dw_968 dw_969 dw_971 dw_972 dw_973 rfl (by decide)
  have a3 : lq_Pu p l e room_1 s m args below meth c b Q 9 974 980 [.int (xs 4)] := lq_PuI (j := 4) hx hcb hX hbl dw_974 dw_975 dw_977 dw_978 dw_979 rfl (by decide)
  have a : lq_Pu p l e room_1 s m args below meth c b Q 9 956 980 [.int (xs 1), .int (xs 2), .int (xs 3), .int (xs 4)] := lq_PuC a0 (lq_PuC a1 (lq_PuC a2 (a3)))
  have b0 : lq_Pu p l e room_1 s m args below meth c b Q 9 987 993 [.int (xs 1)] := lq_PuI (j := 1) hx hcb hX hbl dw_987 dw_988 dw_990 dw_991 dw_992 rfl (by decide)
  have b1 : lq_Pu p l e room_1 s m args below meth c b Q 9 993 999 [.int (xs 2)] := lq_PuI (j := 2) hx hcb hX hbl dw_993 dw_994 dw_996 dw_997 dw_998 rfl (by decide)
  have b2 : lq_Pu p l e room_1 s m args below meth c b Q 9 999 1005 [.int (xs 3)] := lq_PuI (j := 3) hx hcb hX hbl dw_999 dw_1000 dw_1002 dw_1003 dw_1004 rfl (by decide)
  have b3 : lq_Pu p l e room_1 s m args below meth c b Q 9 1005 1011 [.int (xs 4)] := lq_PuI (j := 4) hx hcb hX hbl dw_1005 dw_1006 dw_1008 dw_1009 dw_1010 rfl (by decide)
  have b : lq_Pu p l e room_1 s m args below meth c b Q 9 987 1011 [.int (xs 1), .int (xs 2), .int (xs 3), .int (xs 4)] := lq_PuC b0 (lq_PuC b1 (lq_PuC b2 (b3)))
  exact lq_case (R := room_1) (vals := [.int (xs 1), .int (xs 2), .int (xs 3), .int (xs 4)]) (mc := 0) (ms := 0) (kn := 6) (kM := 4) (P := 955) (W1 := 980) (V1 := 1011) (T := 1016) (iW := 146) (iM := 149) C hH hl (x_L_update (xs 1) (xs 2) (xs 3) (xs 4)) (lq_up (r_X7_update mm_closed)) mm_σfr (hm_update (xs 1) (xs 2) (xs 3) (xs 4)) rfl rfl (List.forall_mem_cons.mpr ⟨trivial, List.forall_mem_cons.mpr ⟨trivial, List.forall_mem_cons.mpr ⟨trivial, List.forall_mem_cons.mpr ⟨trivial, fun _ h => nomatch h⟩⟩⟩⟩) a b dw_955 dw_980 dw_981 dw_984 dw_986 dw_1011 dw_1014 rfl
    (ww_in _ (by decide +kernel)) (by decide +kernel) rfl u_450 u_451 u_452 u_453 (by decide +kernel) rfl
    (by decide) (by decide) (by decide) (by show ck + 1 + 0 ≤ 600002; omega) (by show cn + 6 + 0 ≤ 7302232; omega)
    dw_1016 dw_1017 dw_1020 dw_1022 (by decide) dw_1027 dw_1029 (by decide) dw_1032 dw_1033 dw_1034 dw_1035 dw_1037 dw_1038 dw_1039 (by decide) dw_1044 (by decide) k
theorem kc_cancel {p : Program} {l : Launch} {e : Env} {s : State} {m : MethodId} {args : Array Value} {below : List Frame} {meth : Method} {c : Code} {H : Heap} {Q : State → Prop} {ck cn : Nat} {ls : Array Slot} {b : Nat} {xs : Nat → Int32} {Dx Dm : va_G} {tx tm : List (ClassId × FieldType)} {ax am : vgN → Nat} {o od : Nat} {cO : ClassId} {f0 : Nat → Int64}
    (C : lq_Cx p l s m args c b xs Dx Dm tx tm ax am o od cO) (hH : lq_Hx s Dx Dm tx tm ax am o cO f0 H) (hl : lv_has ls 9 (lq_lv b (ax (0, 0, 0)) (am (40, 0, 0)) o od)) (h1 : ck ≤ 1000) (h2 : cn ≤ 10000)
    (k : ∀ (H1 : Heap) (ls1 : Array Slot) (lv1 : List (Nat × Value)) (k1 k2 : Nat), va_S (fun q => s.heap.size ≤ q) s.heap H1 [] → lv_has ls1 9 lv1 → (0, Value.ref b) ∈ lv1 → (5, Value.int 0) ∈ lv1 → k1 ≤ 600002 → k2 ≤ 7302232 → W p l e room_1 s m args below meth c H1 [] k1 k2 Q (F0 m 2030 ls1 [])) : W p l e room_1 s m args below meth c H [] ck cn Q (F0 m 1047 ls []) := by
  have C9 := C
  obtain ⟨⟨hx, hcb, -, -, -, hX, hbl, -⟩, -⟩ := C9
  have a0 : lq_Pu p l e room_1 s m args below meth c b Q 9 1048 1054 [.int (xs 1)] := lq_PuI (j := 1) hx hcb hX hbl dw_1048 dw_1049 dw_1051 dw_1052 dw_1053 rfl (by decide)
  have a : lq_Pu p l e room_1 s m args below meth c b Q 9 1048 1054 [.int (xs 1)] := a0
  have b0 : lq_Pu p l e room_1 s m args below meth c b Q 9 1061 1067 [.int (xs 1)] := lq_PuI (j := 1) hx hcb hX hbl dw_1061 dw_1062 dw_1064 dw_1065 dw_1066 rfl (by decide)
  have b : lq_Pu p l e room_1 s m args below meth c b Q 9 1061 1067 [.int (xs 1)] := b0
  exact lq_case (R := room_1) (vals := [.int (xs 1)]) (mc := 0) (ms := 0) (kn := 3) (kM := 1) (P := 1047) (W1 := 1054) (V1 := 1067) (T := 1072) (iW := 150) (iM := 152) C hH hl (x_L_cancel (xs 1)) (lq_up (r_X7_cancel mm_closed)) mm_σfr (hm_cancel (xs 1)) rfl rfl (List.forall_mem_cons.mpr ⟨trivial, fun _ h => nomatch h⟩) a b dw_1047 dw_1054 dw_1055 dw_1058 dw_1060 dw_1067 dw_1070 rfl
    (ww_in _ (by decide +kernel)) (by decide +kernel) rfl u_454 u_455 u_456 u_457 (by decide +kernel) rfl
    (by decide) (by decide) (by decide) (by show ck + 1 + 0 ≤ 600002; omega) (by show cn + 6 + 0 ≤ 7302232; omega)
    dw_1072 dw_1073 dw_1076 dw_1078 (by decide) dw_1083 dw_1085 (by decide) dw_1088 dw_1089 dw_1090 dw_1091 dw_1093 dw_1094 dw_1095 (by decide) dw_1100 (by decide) k
theorem kc_approve {p : Program} {l : Launch} {e : Env} {s : State} {m : MethodId} {args : Array Value} {below : List Frame} {meth : Method} {c : Code} {H : Heap} {Q : State → Prop} {ck cn : Nat} {ls : Array Slot} {b : Nat} {xs : Nat → Int32} {Dx Dm : va_G} {tx tm : List (ClassId × FieldType)} {ax am : vgN → Nat} {o od : Nat} {cO : ClassId} {f0 : Nat → Int64}
    (C : lq_Cx p l s m args c b xs Dx Dm tx tm ax am o od cO) (hH : lq_Hx s Dx Dm tx tm ax am o cO f0 H) (hl : lv_has ls 9 (lq_lv b (ax (0, 0, 0)) (am (40, 0, 0)) o od)) (h1 : ck ≤ 1000) (h2 : cn ≤ 10000)
    (k : ∀ (H1 : Heap) (ls1 : Array Slot) (lv1 : List (Nat × Value)) (k1 k2 : Nat), va_S (fun q => s.heap.size ≤ q) s.heap H1 [] → lv_has ls1 9 lv1 → (0, Value.ref b) ∈ lv1 → (5, Value.int 0) ∈ lv1 → k1 ≤ 600002 → k2 ≤ 7302232 → W p l e room_1 s m args below meth c H1 [] k1 k2 Q (F0 m 2030 ls1 [])) : W p l e room_1 s m args below meth c H [] ck cn Q (F0 m 1103 ls []) := by
  have C9 := C
  obtain ⟨⟨hx, hcb, -, -, -, hX, hbl, -⟩, -⟩ := C9
  have a0 : lq_Pu p l e room_1 s m args below meth c b Q 9 1104 1110 [.int (xs 1)] := lq_PuI (j := 1) hx hcb hX hbl dw_1104 dw_1105 dw_1107 dw_1108 dw_1109 rfl (by decide)
  have a1 : lq_Pu p l e room_1 s m args below meth c b Q 9 1110 1116 [.int (xs 2)] := lq_PuI (j := 2) hx hcb hX hbl dw_1110 dw_1111 dw_1113 dw_1114 dw_1115 rfl (by decide)
  have a : lq_Pu p l e room_1 s m args below meth c b Q 9 1104 1116 [.int (xs 1), .int (xs 2)] := lq_PuC a0 (a1)
  have b0 : lq_Pu p l e room_1 s m args below meth c b Q 9 1123 1129 [.int (xs 1)] := lq_PuI (j := 1) hx hcb hX hbl dw_1123 dw_1124 dw_1126 dw_1127 dw_1128 rfl (by decide)
  have b1 : lq_Pu p l e room_1 s m args below meth c b Q 9 1129 1135 [.int (xs 2)] := lq_PuI (j := 2) hx hcb hX hbl dw_1129 dw_1130 dw_1132 dw_1133 dw_1134 rfl (by decide)
  have b : lq_Pu p l e room_1 s m args below meth c b Q 9 1123 1135 [.int (xs 1), .int (xs 2)] := lq_PuC b0 (b1)
  exact lq_case (R := room_1) (vals := [.int (xs 1), .int (xs 2)]) (mc := 0) (ms := 0) (kn := 4) (kM := 2) (P := 1103) (W1 := 1116) (V1 := 1135) (T := 1140) (iW := 153) (iM := 155) C hH hl (x_L_approve (xs 1) (xs 2)) (lq_up (r_X7_approve mm_closed)) mm_σfr (hm_approve (xs 1) (xs 2)) rfl rfl (List.forall_mem_cons.mpr ⟨trivial, List.forall_mem_cons.mpr ⟨trivial, fun _ h => nomatch h⟩⟩) a b dw_1103 dw_1116 dw_1117 dw_1120 dw_1122 dw_1135 dw_1138 rfl
    (ww_in _ (by decide +kernel)) (by decide +kernel) rfl u_458 u_459 u_460 u_461 (by decide +kernel) rfl
    (by decide) (by decide) (by decide) (by show ck + 1 + 0 ≤ 600002; omega) (by show cn + 6 + 0 ≤ 7302232; omega)
    dw_1140 dw_1141 dw_1144 dw_1146 (by decide) dw_1151 dw_1153 (by decide) dw_1156 dw_1157 dw_1158 dw_1159 dw_1161 dw_1162 dw_1163 (by decide) dw_1168 (by decide) k
