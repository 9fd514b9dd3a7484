-- words of the tables, and what stands at each place of the methods' code (laid by program)
theorem u_462 : Cond.code yX7_send cX7_send 5 (some .int) ∈ ww_tb := by decide +kernel
theorem u_463 : Cond.methodLink RL 158 yX7_send ∈ ww_tb := by decide +kernel
theorem u_464 : Cond.instanceMethod yX7_send ∈ ww_tb := by decide +kernel
theorem u_465 : Cond.selects RX7 yX7_send yX7_send ∈ ww_tb := by decide +kernel
theorem u_466 : Cond.code yX7_pass cX7_pass 4 (some .int) ∈ ww_tb := by decide +kernel
theorem u_467 : Cond.methodLink RL 161 yX7_pass ∈ ww_tb := by decide +kernel
theorem u_468 : Cond.instanceMethod yX7_pass ∈ ww_tb := by decide +kernel
theorem u_469 : Cond.selects RX7 yX7_pass yX7_pass ∈ ww_tb := by decide +kernel
theorem u_470 : Cond.code yX7_until cX7_until 3 (some .int) ∈ ww_tb := by decide +kernel
theorem u_471 : Cond.methodLink RL 164 yX7_until ∈ ww_tb := by decide +kernel
theorem u_472 : Cond.instanceMethod yX7_until ∈ ww_tb := by decide +kernel
theorem u_473 : Cond.selects RX7 yX7_until yX7_until ∈ ww_tb := by decide +kernel
theorem u_474 : Cond.code yX7_ofGroup cX7_ofGroup 3 (some .int) ∈ ww_tb := by decide +kernel
theorem u_475 : Cond.methodLink RL 167 yX7_ofGroup ∈ ww_tb := by decide +kernel
theorem u_476 : Cond.instanceMethod yX7_ofGroup ∈ ww_tb := by decide +kernel
theorem u_477 : Cond.selects RX7 yX7_ofGroup yX7_ofGroup ∈ ww_tb := by decide +kernel
theorem u_478 : Cond.code yX7_heard cX7_heard 4 (some .int) ∈ ww_tb := by decide +kernel
theorem u_479 : Cond.methodLink RL 170 yX7_heard ∈ ww_tb := by decide +kernel
theorem u_480 : Cond.instanceMethod yX7_heard ∈ ww_tb := by decide +kernel
theorem u_481 : Cond.selects RX7 yX7_heard yX7_heard ∈ ww_tb := by decide +kernel
theorem u_482 : Cond.code yX7_ofWarning cX7_ofWarning 3 (some .int) ∈ ww_tb := by decide +kernel
theorem u_483 : Cond.methodLink RL 173 yX7_ofWarning ∈ ww_tb := by decide +kernel
theorem u_484 : Cond.instanceMethod yX7_ofWarning ∈ ww_tb := by decide +kernel
theorem u_485 : Cond.selects RX7 yX7_ofWarning yX7_ofWarning ∈ ww_tb := by decide +kernel
theorem u_486 : Cond.code yX7_inForce cX7_inForce 2 (some .int) ∈ ww_tb := by decide +kernel
theorem u_487 : Cond.methodLink RL 176 yX7_inForce ∈ ww_tb := by decide +kernel
theorem u_488 : Cond.instanceMethod yX7_inForce ∈ ww_tb := by decide +kernel
theorem u_489 : Cond.selects RX7 yX7_inForce yX7_inForce ∈ ww_tb := by decide +kernel
theorem u_490 : Cond.code yX7_roomIn cX7_roomIn 2 (some .int) ∈ ww_tb := by decide +kernel
theorem u_491 : Cond.methodLink RL 179 yX7_roomIn ∈ ww_tb := by decide +kernel
theorem u_492 : Cond.instanceMethod yX7_roomIn ∈ ww_tb := by decide +kernel
theorem u_493 : Cond.selects RX7 yX7_roomIn yX7_roomIn ∈ ww_tb := by decide +kernel
theorem u_494 : Cond.code yX7_chain cX7_chain 3 (some .int) ∈ ww_tb := by decide +kernel
theorem u_495 : Cond.methodLink RL 182 yX7_chain ∈ ww_tb := by decide +kernel
theorem u_496 : Cond.instanceMethod yX7_chain ∈ ww_tb := by decide +kernel
theorem u_497 : Cond.selects RX7 yX7_chain yX7_chain ∈ ww_tb := by decide +kernel
theorem u_498 : Cond.code yX7_many cX7_many 2 (some .int) ∈ ww_tb := by decide +kernel
theorem u_499 : Cond.methodLink RL 185 yX7_many ∈ ww_tb := by decide +kernel
theorem u_500 : Cond.instanceMethod yX7_many ∈ ww_tb := by decide +kernel
theorem u_501 : Cond.selects RX7 yX7_many yX7_many ∈ ww_tb := by decide +kernel
theorem u_502 : Cond.code yX7_safeIn cX7_safeIn 3 (some .int) ∈ ww_tb := by decide +kernel
theorem u_503 : Cond.methodLink RL 192 yX7_safeIn ∈ ww_tb := by decide +kernel
theorem u_504 : Cond.instanceMethod yX7_safeIn ∈ ww_tb := by decide +kernel
theorem u_505 : Cond.selects RX7 yX7_safeIn yX7_safeIn ∈ ww_tb := by decide +kernel
theorem u_506 : Cond.code yX7_sirenWould cX7_sirenWould 4 (some .int) ∈ ww_tb := by decide +kernel
theorem u_507 : Cond.methodLink RL 195 yX7_sirenWould ∈ ww_tb := by decide +kernel
theorem u_508 : Cond.instanceMethod yX7_sirenWould ∈ ww_tb := by decide +kernel
theorem u_509 : Cond.selects RX7 yX7_sirenWould yX7_sirenWould ∈ ww_tb := by decide +kernel
/-! the cases of the law (2) -/
theorem kc_send {p : Program} {l : Launch} {e : Env} {s : State} {m : MethodId} {args : Array Value} {below : List Frame} {meth : Method} {c : Code} {H : Heap} {Q : State → Prop} {ck cn : Nat} {ls : Array Slot} {b : Nat} {xs : Nat → Int32} {Dx Dm : va_G} {tx tm : List (ClassId × FieldType)} {ax am : vgN → Nat} {o od : Nat} {cO : ClassId} {f0 : Nat → Int64}
    (C : lq_Cx p l s m args c b xs Dx Dm tx tm ax am o od cO) (hH : lq_Hx s Dx Dm tx tm ax am o cO f0 H) (hl : lv_has ls 9 (lq_lv b (ax (0, 0, 0)) (am (40, 0, 0)) o od)) (h1 : ck ≤ 1000) (h2 : cn ≤ 10000)
    (k : ∀ (H1 : Heap) (ls1 : Array Slot) (lv1 : List (Nat × Value)) (k1 k2 : Nat), va_S (fun q => s.heap.size ≤ q) s.heap H1 [] → lv_has ls1 9 lv1 → (0, Value.ref b) ∈ lv1 → (5, Value.int 0) ∈ lv1 → k1 ≤ 600002 → k2 ≤ 7302232 → W p l e room_1 s m args below meth c H1 [] k1 k2 Q (F0 m 2030 ls1 [])) : W p l e room_1 s m args below meth c H [] ck cn Q (F0 m 1171 ls []) := by
  have C9 := C
  obtain ⟨⟨hx, hcb, -, -, -, hX, hbl, -⟩, -⟩ := C9
  have a0 : lq_Pu p l e room_1 s m args below meth c b Q 9 1172 1178 [.int (xs 1)] := lq_PuI (j := 1) hx hcb hX hbl dw_1172 dw_1173 dw_1175 dw_1176 dw_1177 rfl (by decide)
  have a : lq_Pu p l e room_1 s m args below meth c b Q 9 1172 1178 [.int (xs 1)] := a0
  have b0 : lq_Pu p l e room_1 s m args below meth c b Q 9 1185 1191 [.int (xs 1)] := lq_PuI (j := 1) hx hcb hX hbl dw_1185 dw_1186 dw_1188 dw_1189 dw_1190 rfl (by decide)
  have b : lq_Pu p l e room_1 s m args below meth c b Q 9 1185 1191 [.int (xs 1)] := b0
  exact lq_case (R := room_1) (vals := [.int (xs 1)]) (mc := 0) (ms := 0) (kn := 3) (kM := 1) (P := 1171) (W1 := 1178) (V1 := 1191) (T := 1196) (iW := 156) (iM := 158) C hH hl (x_L_send (xs 1)) (lq_up (r_X7_send mm_closed)) mm_σfr (hm_send (xs 1)) rfl rfl (List.forall_mem_cons.mpr ⟨trivial, fun _ h => nomatch h⟩) a b dw_1171 dw_1178 dw_1179 dw_1182 dw_1184 dw_1191 dw_1194 rfl
    (ww_in _ (by decide +kernel)) (by decide +kernel) rfl u_462 u_463 u_464 u_465 (by decide +kernel) rfl
    (by decide) (by decide) (by decide) (by show ck + 1 + 0 ≤ 600002; omega) (by show cn + 6 + 0 ≤ 7302232; omega)
    dw_1196 dw_1197 dw_1200 dw_1202 (by decide) dw_1207 dw_1209 (by decide) dw_1212 dw_1213 dw_1214 dw_1215 dw_1217 dw_1218 dw_1219 (by decide) dw_1224 (by decide) k
theorem kc_pass {p : Program} {l : Launch} {e : Env} {s : State} {m : MethodId} {args : Array Value} {below : List Frame} {meth : Method} {c : Code} {H : Heap} {Q : State → Prop} {ck cn : Nat} {ls : Array Slot} {b : Nat} {xs : Nat → Int32} {Dx Dm : va_G} {tx tm : List (ClassId × FieldType)} {ax am : vgN → Nat} {o od : Nat} {cO : ClassId} {f0 : Nat → Int64}
    (C : lq_Cx p l s m args c b xs Dx Dm tx tm ax am o od cO) (hH : lq_Hx s Dx Dm tx tm ax am o cO f0 H) (hl : lv_has ls 9 (lq_lv b (ax (0, 0, 0)) (am (40, 0, 0)) o od)) (h1 : ck ≤ 1000) (h2 : cn ≤ 10000)
    (k : ∀ (H1 : Heap) (ls1 : Array Slot) (lv1 : List (Nat × Value)) (k1 k2 : Nat), va_S (fun q => s.heap.size ≤ q) s.heap H1 [] → lv_has ls1 9 lv1 → (0, Value.ref b) ∈ lv1 → (5, Value.int 0) ∈ lv1 → k1 ≤ 600002 → k2 ≤ 7302232 → W p l e room_1 s m args below meth c H1 [] k1 k2 Q (F0 m 2030 ls1 [])) : W p l e room_1 s m args below meth c H [] ck cn Q (F0 m 1227 ls []) := by
  have C9 := C
  obtain ⟨⟨hx, hcb, -, -, -, hX, hbl, -⟩, -⟩ := C9
  have a0 : lq_Pu p l e room_1 s m args below meth c b Q 9 1228 1234 [.int (xs 1)] := lq_PuI (j := 1) hx hcb hX hbl dw_1228 dw_1229 dw_1231 dw_1232 dw_1233 rfl (by decide)
  have a : lq_Pu p l e room_1 s m args below meth c b Q 9 1228 1234 [.int (xs 1)] := a0
  have b0 : lq_Pu p l e room_1 s m args below meth c b Q 9 1241 1247 [.int (xs 1)] := lq_PuI (j := 1) hx hcb hX hbl dw_1241 dw_1242 dw_1244 dw_1245 dw_1246 rfl (by decide)
  have b : lq_Pu p l e room_1 s m args below meth c b Q 9 1241 1247 [.int (xs 1)] := b0
  exact lq_case (R := room_1) (vals := [.int (xs 1)]) (mc := 120) (ms := 1200) (kn := 3) (kM := 1) (P := 1227) (W1 := 1234) (V1 := 1247) (T := 1252) (iW := 159) (iM := 161) C hH hl (x_L_pass (xs 1)) (a_X7_pass mm_closed (by decide +kernel) (by decide +kernel)) mm_σfr (hm_pass (xs 1)) rfl rfl (List.forall_mem_cons.mpr ⟨trivial, fun _ h => nomatch h⟩) a b dw_1227 dw_1234 dw_1235 dw_1238 dw_1240 dw_1247 dw_1250 rfl
    (ww_in _ (by decide +kernel)) (by decide +kernel) rfl u_466 u_467 u_468 u_469 (by decide +kernel) rfl
    (by decide) (by decide) (by decide) (by show ck + 1 + 120 ≤ 600002; omega) (by show cn + 6 + 1200 ≤ 7302232; omega)
    dw_1252 dw_1253 dw_1256 dw_1258 (by decide) dw_1263 dw_1265 (by decide) dw_1268 dw_1269 dw_1270 dw_1271 dw_1273 dw_1274 dw_1275 (by decide) dw_1280 (by decide) k
theorem kc_until {p : Program} {l : Launch} {e : Env} {s : State} {m : MethodId} {args : Array Value} {below : List Frame} {meth : Method} {c : Code} {H : Heap} {Q : State → Prop} {ck cn : Nat} {ls : Array Slot} {b : Nat} {xs : Nat → Int32} {Dx Dm : va_G} {tx tm : List (ClassId × FieldType)} {ax am : vgN → Nat} {o od : Nat} {cO : ClassId} {f0 : Nat → Int64}
    (C : lq_Cx p l s m args c b xs Dx Dm tx tm ax am o od cO) (hH : lq_Hx s Dx Dm tx tm ax am o cO f0 H) (hl : lv_has ls 9 (lq_lv b (ax (0, 0, 0)) (am (40, 0, 0)) o od)) (h1 : ck ≤ 1000) (h2 : cn ≤ 10000)
    (k : ∀ (H1 : Heap) (ls1 : Array Slot) (lv1 : List (Nat × Value)) (k1 k2 : Nat), va_S (fun q => s.heap.size ≤ q) s.heap H1 [] → lv_has ls1 9 lv1 → (0, Value.ref b) ∈ lv1 → (5, Value.int 0) ∈ lv1 → k1 ≤ 600002 → k2 ≤ 7302232 → W p l e room_1 s m args below meth c H1 [] k1 k2 Q (F0 m 2030 ls1 [])) : W p l e room_1 s m args below meth c H [] ck cn Q (F0 m 1283 ls []) := by
  have C9 := C
  obtain ⟨⟨hx, hcb, -, -, -, hX, hbl, -⟩, -⟩ := C9
  have a0 : lq_Pu p l e room_1 s m args below meth c b Q 9 1284 1290 [.int (xs 1)] := lq_PuI (j := 1) hx hcb hX hbl dw_1284 dw_1285 dw_1287 dw_1288 dw_1289 rfl (by decide)
  have a : lq_Pu p l e room_1 s m args below meth c b Q 9 1284 1290 [.int (xs 1)] := a0
  have b0 : lq_Pu p l e room_1 s m args below meth c b Q 9 1297 1303 [.int (xs 1)] := lq_PuI (j := 1) hx hcb hX hbl dw_1297 dw_1298 dw_1300 dw_1301 dw_1302 rfl (by decide)
  have b : lq_Pu p l e room_1 s m args below meth c b Q 9 1297 1303 [.int (xs 1)] := b0
  exact lq_case (R := room_1) (vals := [.int (xs 1)]) (mc := 0) (ms := 0) (kn := 3) (kM := 1) (P := 1283) (W1 := 1290) (V1 := 1303) (T := 1308) (iW := 162) (iM := 164) C hH hl (x_L_until (xs 1)) (lq_up (r_X7_until mm_closed)) mm_σfr (hm_until (xs 1)) rfl rfl (List.forall_mem_cons.mpr ⟨trivial, fun _ h => nomatch h⟩) a b dw_1283 dw_1290 dw_1291 dw_1294 dw_1296 dw_1303 dw_1306 rfl
    (ww_in _ (by decide +kernel)) (by decide +kernel) rfl u_470 u_471 u_472 u_473 (by decide +kernel) rfl
    (by decide) (by decide) (by decide) (by show ck + 1 + 0 ≤ 600002; omega) (by show cn + 6 + 0 ≤ 7302232; omega)
    dw_1308 dw_1309 dw_1312 dw_1314 (by decide) dw_1319 dw_1321 (by decide) dw_1324 dw_1325 dw_1326 dw_1327 dw_1329 dw_1330 dw_1331 (by decide) dw_1336 (by decide) k
theorem kc_ofGroup {p : Program} {l : Launch} {e : Env} {s : State} {m : MethodId} {args : Array Value} {below : List Frame} {meth : Method} {c : Code} {H : Heap} {Q : State → Prop} {ck cn : Nat} {ls : Array Slot} {b : Nat} {xs : Nat → Int32} {Dx Dm : va_G} {tx tm : List (ClassId × FieldType)} {ax am : vgN → Nat} {o od : Nat} {cO : ClassId} {f0 : Nat → Int64}
    (C : lq_Cx p l s m args c b xs Dx Dm tx tm ax am o od cO) (hH : lq_Hx s Dx Dm tx tm ax am o cO f0 H) (hl : lv_has ls 9 (lq_lv b (ax (0, 0, 0)) (am (40, 0, 0)) o od)) (h1 : ck ≤ 1000) (h2 : cn ≤ 10000)
    (k : ∀ (H1 : Heap) (ls1 : Array Slot) (lv1 : List (Nat × Value)) (k1 k2 : Nat), va_S (fun q => s.heap.size ≤ q) s.heap H1 [] → lv_has ls1 9 lv1 → (0, Value.ref b) ∈ lv1 → (5, Value.int 0) ∈ lv1 → k1 ≤ 600002 → k2 ≤ 7302232 → W p l e room_1 s m args below meth c H1 [] k1 k2 Q (F0 m 2030 ls1 [])) : W p l e room_1 s m args below meth c H [] ck cn Q (F0 m 1339 ls []) := by
  have C9 := C
  obtain ⟨⟨hx, hcb, -, -, -, hX, hbl, -⟩, -⟩ := C9
  have a0 : lq_Pu p l e room_1 s m args below meth c b Q 9 1340 1346 [.int (xs 1)] := lq_PuI (j := 1) hx hcb hX hbl dw_1340 dw_1341 dw_1343 dw_1344 dw_1345 rfl (by decide)
  have a1 : lq_Pu p l e room_1 s m args below meth c b Q 9 1346 1352 [.int (xs 2)] := lq_PuI (j := 2) hx hcb hX hbl dw_1346 dw_1347 dw_1349 dw_1350 dw_1351 rfl (by decide)
  have a : lq_Pu p l e room_1 s m args below meth c b Q 9 1340 1352 [.int (xs 1), .int (xs 2)] := lq_PuC a0 (a1)
  have b0 : lq_Pu p l e room_1 s m args below meth c b Q 9 1359 1365 [.int (xs 1)] := lq_PuI (j := 1) hx hcb hX hbl dw_1359 dw_1360 dw_1362 dw_1363 dw_1364 rfl (by decide)
  have b1 : lq_Pu p l e room_1 s m args below meth c b Q 9 1365 1371 [.int (xs 2)] := lq_PuI (j := 2) hx hcb hX hbl dw_1365 dw_1366 dw_1368 dw_1369 dw_1370 rfl (by decide)
  have b : lq_Pu p l e room_1 s m args below meth c b Q 9 1359 1371 [.int (xs 1), .int (xs 2)] := lq_PuC b0 (b1)
  exact lq_case (R := room_1) (vals := [.int (xs 1), .int (xs 2)]) (mc := 0) (ms := 0) (kn := 4) (kM := 2) (P := 1339) (W1 := 1352) (V1 := 1371) (T := 1376) (iW := 165) (iM := 167) C hH hl (x_L_ofGroup (xs 1) (xs 2)) (lq_up (r_X7_ofGroup mm_closed)) mm_σfr (hm_ofGroup (xs 1) (xs 2)) rfl rfl (List.forall_mem_cons.mpr ⟨trivial, List.forall_mem_cons.mpr ⟨trivial, fun _ h => nomatch h⟩⟩) a b dw_1339 dw_1352 dw_1353 dw_1356 dw_1358 dw_1371 dw_1374 rfl
    (ww_in _ (by decide +kernel)) (by decide +kernel) rfl u_474 u_475 u_476 u_477 (by decide +kernel) rfl
    (by decide) (by decide) (by decide) (by show ck + 1 + 0 ≤ 600002; omega) (by show cn + 6 + 0 ≤ 7302232; omega)
    dw_1376 dw_1377 dw_1380 dw_1382 (by decide) dw_1387 dw_1389 (by decide) dw_1392 dw_1393 dw_1394 dw_1395 dw_1397 dw_1398 dw_1399 (by decide) dw_1404 (by decide) k
theorem kc_heard {p : Program} {l : Launch} {e : Env} {s : State} {m : MethodId} {args : Array Value} {below : List Frame} {meth : Method} {c : Code} {H : Heap} {Q : State → Prop} {ck cn : Nat} {ls : Array Slot} {b : Nat} {xs : Nat → Int32} {Dx Dm : va_G} {tx tm : List (ClassId × FieldType)} {ax am : vgN → Nat} {o od : Nat} {cO : ClassId} {f0 : Nat → Int64}
    (C : lq_Cx p l s m args c b xs Dx Dm tx tm ax am o od cO) (hH : lq_Hx s Dx Dm tx tm ax am o cO f0 H) (hl : lv_has ls 9 (lq_lv b (ax (0, 0, 0)) (am (40, 0, 0)) o od)) (h1 : ck ≤ 1000) (h2 : cn ≤ 10000)
    (k : ∀ (H1 : Heap) (ls1 : Array Slot) (lv1 : List (Nat × Value)) (k1 k2 : Nat), va_S (fun q => s.heap.size ≤ q) s.heap H1 [] → lv_has ls1 9 lv1 → (0, Value.ref b) ∈ lv1 → (5, Value.int 0) ∈ lv1 → k1 ≤ 600002 → k2 ≤ 7302232 → W p l e room_1 s m args below meth c H1 [] k1 k2 Q (F0 m 2030 ls1 [])) : W p l e room_1 s m args below meth c H [] ck cn Q (F0 m 1407 ls []) := by
  have C9 := C
  obtain ⟨⟨hx, hcb, -, -, -, hX, hbl, -⟩, -⟩ := C9
  have a0 : lq_Pu p l e room_1 s m args below meth c b Q 9 1408 1414 [.int (xs 1)] := lq_PuI (j := 1) hx hcb hX hbl dw_1408 dw_1409 dw_1411 dw_1412 dw_1413 rfl (by decide)
  have a1 : lq_Pu p l e room_1 s m args below meth c b Q 9 1414 1420 [.int (xs 2)] := lq_PuI (j := 2) hx hcb hX hbl dw_1414 dw_1415 dw_1417 dw_1418 dw_1419 rfl (by decide)
  have a2 : lq_Pu p l e room_1 s m args below meth c b Q 9 1420 1426 [.int (xs 3)] := lq_PuI (j := 3) hx hcb hX hbl dw_1420 dw_1421 dw_1423 dw_1424 dw_1425 rfl (by decide)
  have a : lq_Pu p l e room_1 s m args below meth c b Q 9 1408 1426 [.int (xs 1), .int (xs 2), .int (xs 3)] := lq_PuC a0 (lq_PuC a1 (a2))
  have b0 : lq_Pu p l e room_1 s m args below meth c b Q 9 1433 1439 [.int (xs 1)] := lq_PuI (j := 1) hx hcb hX hbl dw_1433 dw_1434 dw_1436 dw_1437 dw_1438 rfl (by decide)
  have b1 : lq_Pu p l e room_1 s m args below meth c b Q 9 1439 1445 [.int (xs 2)] := lq_PuI (j := 2) hx hcb hX hbl dw_1439 dw_1440 dw_1442 dw_1443 dw_1444 rfl (by decide)
  have b2 : lq_Pu p l e room_1 s m args below meth c b Q 9 1445 1451 [.int (xs 3)] := lq_PuI (j := 3) hx hcb hX hbl dw_1445 dw_1446 dw_1448 dw_1449 dw_1450 rfl (by decide)
  have b : lq_Pu p l e room_1 s m args below meth c b Q 9 1433 1451 [.int (xs 1), .int (xs 2), .int (xs 3)] := lq_PuC b0 (lq_PuC b1 (b2))
  exact lq_case (R := room_1) (vals := [.int (xs 1), .int (xs 2), .int (xs 3)]) (mc := 0) (ms := 0) (kn := 5) (kM := 3) (P := 1407) (W1 := 1426) (V1 := 1451) (T := 1456) (iW := 168) (iM := 170) C hH hl (x_L_heard (xs 1) (xs 2) (xs 3)) (lq_up (r_X7_heard mm_closed)) mm_σfr (hm_heard (xs 1) (xs 2) (xs 3)) rfl rfl (List.forall_mem_cons.mpr ⟨trivial, List.forall_mem_cons.mpr ⟨trivial, List.forall_mem_cons.mpr ⟨trivial, fun _ h => nomatch h⟩⟩⟩) a b dw_1407 dw_1426 dw_1427 dw_1430 dw_1432 dw_1451 dw_1454 rfl
    (ww_in _ (by decide +kernel)) (by decide +kernel) rfl u_478 u_479 u_480 u_481 (by decide +kernel) rfl
    (by decide) (by decide) (by decide) (by show ck + 1 + 0 ≤ 600002; omega) (by show cn + 6 + 0 ≤ 7302232; omega)
    dw_1456 dw_1457 dw_1460 dw_1462 (by decide) dw_1467 dw_1469 (by decide) dw_1472 dw_1473 dw_1474 dw_1475 dw_1477 dw_1478 dw_1479 (by decide) dw_1484 (by decide) k
theorem kc_ofWarning {p : Program} {l : Launch} {e : Env} {s : State} {m : MethodId} {args : Array Value} {below : List Frame} {meth : Method} {c : Code} {H : Heap} {Q : State → Prop} {ck cn : Nat} {ls : Array Slot} {b : Nat} {xs : Nat → Int32} {Dx Dm : va_G} {tx tm : List (ClassId × FieldType)} {ax am : vgN → Nat} {o od : Nat} {cO : ClassId} {f0 : Nat → Int64}
    (C : lq_Cx p l s m args c b xs Dx Dm tx tm ax am o od cO) (hH : lq_Hx s Dx Dm tx tm ax am o cO f0 H) (hl : lv_has ls 9 (lq_lv b (ax (0, 0, 0)) (am (40, 0, 0)) o od)) (h1 : ck ≤ 1000) (h2 : cn ≤ 10000)
    (k : ∀ (H1 : Heap) (ls1 : Array Slot) (lv1 : List (Nat × Value)) (k1 k2 : Nat), va_S (fun q => s.heap.size ≤ q) s.heap H1 [] → lv_has ls1 9 lv1 → (0, Value.ref b) ∈ lv1 → (5, Value.int 0) ∈ lv1 → k1 ≤ 600002 → k2 ≤ 7302232 → W p l e room_1 s m args below meth c H1 [] k1 k2 Q (F0 m 2030 ls1 [])) : W p l e room_1 s m args below meth c H [] ck cn Q (F0 m 1487 ls []) := by
  have C9 := C
  obtain ⟨⟨hx, hcb, -, -, -, hX, hbl, -⟩, -⟩ := C9
  have a0 : lq_Pu p l e room_1 s m args below meth c b Q 9 1488 1494 [.int (xs 1)] := lq_PuI (j := 1) hx hcb hX hbl dw_1488 dw_1489 dw_1491 dw_1492 dw_1493 rfl (by decide)
  have a1 : lq_Pu p l e room_1 s m args below meth c b Q 9 1494 1500 [.int (xs 2)] := lq_PuI (j := 2) hx hcb hX hbl dw_1494 dw_1495 dw_1497 dw_1498 dw_1499 rfl (by decide)
  have a : lq_Pu p l e room_1 s m args below meth c b Q 9 1488 1500 [.int (xs 1), .int (xs 2)] := lq_PuC a0 (a1)
  have b0 : lq_Pu p l e room_1 s m args below meth c b Q 9 1507 1513 [.int (xs 1)] := lq_PuI (j := 1) hx hcb hX hbl dw_1507 dw_1508 dw_1510 dw_1511 dw_1512 rfl (by decide)
  have b1 : lq_Pu p l e room_1 s m args below meth c b Q 9 1513 1519 [.int (xs 2)] := lq_PuI (j := 2) hx hcb hX hbl dw_1513 dw_1514 dw_1516 dw_1517 dw_1518 rfl (by decide)
  have b : lq_Pu p l e room_1 s m args below meth c b Q 9 1507 1519 [.int (xs 1), .int (xs 2)] := lq_PuC b0 (b1)
  exact lq_case (R := room_1) (vals := [.int (xs 1), .int (xs 2)]) (mc := 0) (ms := 0) (kn := 4) (kM := 2) (P := 1487) (W1 := 1500) (V1 := 1519) (T := 1524) (iW := 171) (iM := 173) C hH hl (x_L_ofWarning (xs 1) (xs 2)) (lq_up (r_X7_ofWarning mm_closed)) mm_σfr (hm_ofWarning (xs 1) (xs 2)) rfl rfl (List.forall_mem_cons.mpr ⟨trivial, List.forall_mem_cons.mpr ⟨trivial, fun _ h => nomatch h⟩⟩) a b dw_1487 dw_1500 dw_1501 dw_1504 dw_1506 dw_1519 dw_1522 rfl
    (ww_in _ (by decide +kernel)) (by decide +kernel) rfl u_482 u_483 u_484 u_485 (by decide +kernel) rfl
    (by decide) (by decide) (by decide) (by show ck + 1 + 0 ≤ 600002; omega) (by show cn + 6 + 0 ≤ 7302232; omega)
    dw_1524 dw_1525 dw_1528 dw_1530 (by decide) dw_1535 dw_1537 (by decide) dw_1540 dw_1541 dw_1542 dw_1543 dw_1545 dw_1546 dw_1547 (by decide) dw_1552 (by decide) k
theorem kc_inForce {p : Program} {l : Launch} {e : Env} {s : State} {m : MethodId} {args : Array Value} {below : List Frame} {meth : Method} {c : Code} {H : Heap} {Q : State → Prop} {ck cn : Nat} {ls : Array Slot} {b : Nat} {xs : Nat → Int32} {Dx Dm : va_G} {tx tm : List (ClassId × FieldType)} {ax am : vgN → Nat} {o od : Nat} {cO : ClassId} {f0 : Nat → Int64}
    (C : lq_Cx p l s m args c b xs Dx Dm tx tm ax am o od cO) (hH : lq_Hx s Dx Dm tx tm ax am o cO f0 H) (hl : lv_has ls 9 (lq_lv b (ax (0, 0, 0)) (am (40, 0, 0)) o od)) (h1 : ck ≤ 1000) (h2 : cn ≤ 10000)
    (k : ∀ (H1 : Heap) (ls1 : Array Slot) (lv1 : List (Nat × Value)) (k1 k2 : Nat), va_S (fun q => s.heap.size ≤ q) s.heap H1 [] → lv_has ls1 9 lv1 → (0, Value.ref b) ∈ lv1 → (5, Value.int 0) ∈ lv1 → k1 ≤ 600002 → k2 ≤ 7302232 → W p l e room_1 s m args below meth c H1 [] k1 k2 Q (F0 m 2030 ls1 [])) : W p l e room_1 s m args below meth c H [] ck cn Q (F0 m 1555 ls []) := by
  have C9 := C
  obtain ⟨⟨hx, hcb, -, -, -, hX, hbl, -⟩, -⟩ := C9
  have a0 : lq_Pu p l e room_1 s m args below meth c b Q 9 1556 1562 [.int (xs 1)] := lq_PuI (j := 1) hx hcb hX hbl dw_1556 dw_1557 dw_1559 dw_1560 dw_1561 rfl (by decide)
  have a : lq_Pu p l e room_1 s m args below meth c b Q 9 1556 1562 [.int (xs 1)] := a0
  have b0 : lq_Pu p l e room_1 s m args below meth c b Q 9 1569 1575 [.int (xs 1)] := lq_PuI (j := 1) hx hcb hX hbl dw_1569 dw_1570 dw_1572 dw_1573 dw_1574 rfl (by decide)
  have b : lq_Pu p l e room_1 s m args below meth c b Q 9 1569 1575 [.int (xs 1)] := b0
  exact lq_case (R := room_1) (vals := [.int (xs 1)]) (mc := 0) (ms := 0) (kn := 3) (kM := 1) (P := 1555) (W1 := 1562) (V1 := 1575) (T := 1580) (iW := 174) (iM := 176) C hH hl (x_L_inForce (xs 1)) (lq_up (r_X7_inForce mm_closed)) mm_σfr (hm_inForce (xs 1)) rfl rfl (List.forall_mem_cons.mpr ⟨trivial, fun _ h => nomatch h⟩) a b dw_1555 dw_1562 dw_1563 dw_1566 dw_1568 dw_1575 dw_1578 rfl
    (ww_in _ (by decide +kernel)) (by decide +kernel) rfl u_486 u_487 u_488 u_489 (by decide +kernel) rfl
    (by decide) (by decide) (by decide) (by show ck + 1 + 0 ≤ 600002; omega) (by show cn + 6 + 0 ≤ 7302232; omega)
    dw_1580 dw_1581 dw_1584 dw_1586 (by decide) dw_1591 dw_1593 (by decide) dw_1596 dw_1597 dw_1598 dw_1599 dw_1601 dw_1602 dw_1603 (by decide) dw_1608 (by decide) k
theorem kc_roomIn {p : Program} {l : Launch} {e : Env} {s : State} {m : MethodId} {args : Array Value} {below : List Frame} {meth : Method} {c : Code} {H : Heap} {Q : State → Prop} {ck cn : Nat} {ls : Array Slot} {b : Nat} {xs : Nat → Int32} {Dx Dm : va_G} {tx tm : List (ClassId × FieldType)} {ax am : vgN → Nat} {o od : Nat} {cO : ClassId} {f0 : Nat → Int64}
    (C : lq_Cx p l s m args c b xs Dx Dm tx tm ax am o od cO) (hH : lq_Hx s Dx Dm tx tm ax am o cO f0 H) (hl : lv_has ls 9 (lq_lv b (ax (0, 0, 0)) (am (40, 0, 0)) o od)) (h1 : ck ≤ 1000) (h2 : cn ≤ 10000)
    (k : ∀ (H1 : Heap) (ls1 : Array Slot) (lv1 : List (Nat × Value)) (k1 k2 : Nat), va_S (fun q => s.heap.size ≤ q) s.heap H1 [] → lv_has ls1 9 lv1 → (0, Value.ref b) ∈ lv1 → (5, Value.int 0) ∈ lv1 → k1 ≤ 600002 → k2 ≤ 7302232 → W p l e room_1 s m args below meth c H1 [] k1 k2 Q (F0 m 2030 ls1 [])) : W p l e room_1 s m args below meth c H [] ck cn Q (F0 m 1611 ls []) := by
  have C9 := C
  obtain ⟨⟨hx, hcb, -, -, -, hX, hbl, -⟩, -⟩ := C9
  have a0 : lq_Pu p l e room_1 s m args below meth c b Q 9 1612 1618 [.int (xs 1)] := lq_PuI (j := 1) hx hcb hX hbl dw_1612 dw_1613 dw_1615 dw_1616 dw_1617 rfl (by decide)
  have a : lq_Pu p l e room_1 s m args below meth c b Q 9 1612 1618 [.int (xs 1)] := a0
  have b0 : lq_Pu p l e room_1 s m args below meth c b Q 9 1625 1631 [.int (xs 1)] := lq_PuI (j := 1) hx hcb hX hbl dw_1625 dw_1626 dw_1628 dw_1629 dw_1630 rfl (by decide)
  have b : lq_Pu p l e room_1 s m args below meth c b Q 9 1625 1631 [.int (xs 1)] := b0
  exact lq_case (R := room_1) (vals := [.int (xs 1)]) (mc := 0) (ms := 0) (kn := 3) (kM := 1) (P := 1611) (W1 := 1618) (V1 := 1631) (T := 1636) (iW := 177) (iM := 179) C hH hl (x_L_roomIn (xs 1)) (lq_up (r_X7_roomIn mm_closed)) mm_σfr (hm_roomIn (xs 1)) rfl rfl (List.forall_mem_cons.mpr ⟨trivial, fun _ h => nomatch h⟩) a b dw_1611 dw_1618 dw_1619 dw_1622 dw_1624 dw_1631 dw_1634 rfl
    (ww_in _ (by decide +kernel)) (by decide +kernel) rfl u_490 u_491 u_492 u_493 (by decide +kernel) rfl
    (by decide) (by decide) (by decide) (by show ck + 1 + 0 ≤ 600002; omega) (by show cn + 6 + 0 ≤ 7302232; omega)
    dw_1636 dw_1637 dw_1640 dw_1642 (by decide) dw_1647 dw_1649 (by decide) dw_1652 dw_1653 dw_1654 dw_1655 dw_1657 dw_1658 dw_1659 (by decide) dw_1664 (by decide) k
theorem kc_chain {p : Program} {l : Launch} {e : Env} {s : State} {m : MethodId} {args : Array Value} {below : List Frame} {meth : Method} {c : Code} {H : Heap} {Q : State → Prop} {ck cn : Nat} {ls : Array Slot} {b : Nat} {xs : Nat → Int32} {Dx Dm : va_G} {tx tm : List (ClassId × FieldType)} {ax am : vgN → Nat} {o od : Nat} {cO : ClassId} {f0 : Nat → Int64}
    (C : lq_Cx p l s m args c b xs Dx Dm tx tm ax am o od cO) (hH : lq_Hx s Dx Dm tx tm ax am o cO f0 H) (hl : lv_has ls 9 (lq_lv b (ax (0, 0, 0)) (am (40, 0, 0)) o od)) (h1 : ck ≤ 1000) (h2 : cn ≤ 10000)
    (k : ∀ (H1 : Heap) (ls1 : Array Slot) (lv1 : List (Nat × Value)) (k1 k2 : Nat), va_S (fun q => s.heap.size ≤ q) s.heap H1 [] → lv_has ls1 9 lv1 → (0, Value.ref b) ∈ lv1 → (5, Value.int 0) ∈ lv1 → k1 ≤ 600002 → k2 ≤ 7302232 → W p l e room_1 s m args below meth c H1 [] k1 k2 Q (F0 m 2030 ls1 [])) : W p l e room_1 s m args below meth c H [] ck cn Q (F0 m 1667 ls []) := by
  have C9 := C
  obtain ⟨⟨hx, hcb, -, -, -, hX, hbl, -⟩, -⟩ := C9
  have a0 : lq_Pu p l e room_1 s m args below meth c b Q 9 1668 1674 [.int (xs 1)] := lq_PuI (j := 1) hx hcb hX hbl dw_1668 dw_1669 dw_1671 dw_1672 dw_1673 rfl (by decide)
  have a1 : lq_Pu p l e room_1 s m args below meth c b Q 9 1674 1680 [.int (xs 2)] := lq_PuI (j := 2) hx hcb hX hbl dw_1674 dw_1675 dw_1677 dw_1678 dw_1679 rfl (by decide)
  have a : lq_Pu p l e room_1 s m args below meth c b Q 9 1668 1680 [.int (xs 1), .int (xs 2)] := lq_PuC a0 (a1)
  have b0 : lq_Pu p l e room_1 s m args below meth c b Q 9 1687 1693 [.int (xs 1)] := lq_PuI (j := 1) hx hcb hX hbl dw_1687 dw_1688 dw_1690 dw_1691 dw_1692 rfl (by decide)
  have b1 : lq_Pu p l e room_1 s m args below meth c b Q 9 1693 1699 [.int (xs 2)] := lq_PuI (j := 2) hx hcb hX hbl dw_1693 dw_1694 dw_1696 dw_1697 dw_1698 rfl (by decide)
  have b : lq_Pu p l e room_1 s m args below meth c b Q 9 1687 1699 [.int (xs 1), .int (xs 2)] := lq_PuC b0 (b1)
  exact lq_case (R := room_1) (vals := [.int (xs 1), .int (xs 2)]) (mc := 0) (ms := 0) (kn := 4) (kM := 2) (P := 1667) (W1 := 1680) (V1 := 1699) (T := 1704) (iW := 180) (iM := 182) C hH hl (x_L_chain (xs 1) (xs 2)) (lq_up (r_X7_chain mm_closed)) mm_σfr (hm_chain (xs 1) (xs 2)) rfl rfl (List.forall_mem_cons.mpr ⟨trivial, List.forall_mem_cons.mpr ⟨trivial, fun _ h => nomatch h⟩⟩) a b dw_1667 dw_1680 dw_1681 dw_1684 dw_1686 dw_1699 dw_1702 rfl
    (ww_in _ (by decide +kernel)) (by decide +kernel) rfl u_494 u_495 u_496 u_497 (by decide +kernel) rfl
    (by decide) (by decide) (by decide) (by show ck + 1 + 0 ≤ 600002; omega) (by show cn + 6 + 0 ≤ 7302232; omega)
    dw_1704 dw_1705 dw_1708 dw_1710 (by decide) dw_1715 dw_1717 (by decide) dw_1720 dw_1721 dw_1722 dw_1723 dw_1725 dw_1726 dw_1727 (by decide) dw_1732 (by decide) k
theorem kc_many {p : Program} {l : Launch} {e : Env} {s : State} {m : MethodId} {args : Array Value} {below : List Frame} {meth : Method} {c : Code} {H : Heap} {Q : State → Prop} {ck cn : Nat} {ls : Array Slot} {b : Nat} {xs : Nat → Int32} {Dx Dm : va_G} {tx tm : List (ClassId × FieldType)} {ax am : vgN → Nat} {o od : Nat} {cO : ClassId} {f0 : Nat → Int64}
    (C : lq_Cx p l s m args c b xs Dx Dm tx tm ax am o od cO) (hH : lq_Hx s Dx Dm tx tm ax am o cO f0 H) (hl : lv_has ls 9 (lq_lv b (ax (0, 0, 0)) (am (40, 0, 0)) o od)) (h1 : ck ≤ 1000) (h2 : cn ≤ 10000)
    (k : ∀ (H1 : Heap) (ls1 : Array Slot) (lv1 : List (Nat × Value)) (k1 k2 : Nat), va_S (fun q => s.heap.size ≤ q) s.heap H1 [] → lv_has ls1 9 lv1 → (0, Value.ref b) ∈ lv1 → (5, Value.int 0) ∈ lv1 → k1 ≤ 600002 → k2 ≤ 7302232 → W p l e room_1 s m args below meth c H1 [] k1 k2 Q (F0 m 2030 ls1 [])) : W p l e room_1 s m args below meth c H [] ck cn Q (F0 m 1735 ls []) := by
  have C9 := C
  obtain ⟨⟨hx, hcb, -, -, -, hX, hbl, -⟩, -⟩ := C9
  have a0 : lq_Pu p l e room_1 s m args below meth c b Q 9 1736 1742 [.int (xs 1)] := lq_PuI (j := 1) hx hcb hX hbl dw_1736 dw_1737 dw_1739 dw_1740 dw_1741 rfl (by decide)
  have a : lq_Pu p l e room_1 s m args below meth c b Q 9 1736 1742 [.int (xs 1)] := a0
  have b0 : lq_Pu p l e room_1 s m args below meth c b Q 9 1749 1755 [.int (xs 1)] := lq_PuI (j := 1) hx hcb hX hbl dw_1749 dw_1750 dw_1752 dw_1753 dw_1754 rfl (by decide)
  have b : lq_Pu p l e room_1 s m args below meth c b Q 9 1749 1755 [.int (xs 1)] := b0
  exact lq_case (R := room_1) (vals := [.int (xs 1)]) (mc := 1) (ms := 12) (kn := 3) (kM := 1) (P := 1735) (W1 := 1742) (V1 := 1755) (T := 1760) (iW := 183) (iM := 185) C hH hl (x_L_many (xs 1)) (a_X7_many mm_closed (by decide +kernel)) mm_σfr (hm_many (xs 1)) rfl rfl (List.forall_mem_cons.mpr ⟨trivial, fun _ h => nomatch h⟩) a b dw_1735 dw_1742 dw_1743 dw_1746 dw_1748 dw_1755 dw_1758 rfl
    (ww_in _ (by decide +kernel)) (by decide +kernel) rfl u_498 u_499 u_500 u_501 (by decide +kernel) rfl
    (by decide) (by decide) (by decide) (by show ck + 1 + 1 ≤ 600002; omega) (by show cn + 6 + 12 ≤ 7302232; omega)
    dw_1760 dw_1761 dw_1764 dw_1766 (by decide) dw_1771 dw_1773 (by decide) dw_1776 dw_1777 dw_1778 dw_1779 dw_1781 dw_1782 dw_1783 (by decide) dw_1788 (by decide) k
theorem kc_safeIn {p : Program} {l : Launch} {e : Env} {s : State} {m : MethodId} {args : Array Value} {below : List Frame} {meth : Method} {c : Code} {H : Heap} {Q : State → Prop} {ck cn : Nat} {ls : Array Slot} {b : Nat} {xs : Nat → Int32} {Dx Dm : va_G} {tx tm : List (ClassId × FieldType)} {ax am : vgN → Nat} {o od : Nat} {cO : ClassId} {f0 : Nat → Int64}
    (C : lq_Cx p l s m args c b xs Dx Dm tx tm ax am o od cO) (hH : lq_Hx s Dx Dm tx tm ax am o cO f0 H) (hl : lv_has ls 9 (lq_lv b (ax (0, 0, 0)) (am (40, 0, 0)) o od)) (h1 : ck ≤ 1000) (h2 : cn ≤ 10000)
    (k : ∀ (H1 : Heap) (ls1 : Array Slot) (lv1 : List (Nat × Value)) (k1 k2 : Nat), va_S (fun q => s.heap.size ≤ q) s.heap H1 [] → lv_has ls1 9 lv1 → (0, Value.ref b) ∈ lv1 → (5, Value.int 0) ∈ lv1 → k1 ≤ 600002 → k2 ≤ 7302232 → W p l e room_1 s m args below meth c H1 [] k1 k2 Q (F0 m 2030 ls1 [])) : W p l e room_1 s m args below meth c H [] ck cn Q (F0 m 1868 ls []) := by
  have C9 := C
  obtain ⟨⟨hx, hcb, -, -, -, hX, hbl, -⟩, -⟩ := C9
  have a0 : lq_Pu p l e room_1 s m args below meth c b Q 9 1869 1875 [.int (xs 1)] := lq_PuI (j := 1) hx hcb hX hbl dw_1869 dw_1870 dw_1872 dw_1873 dw_1874 rfl (by decide)
  have a1 : lq_Pu p l e room_1 s m args below meth c b Q 9 1875 1881 [.int (xs 2)] := lq_PuI (j := 2) hx hcb hX hbl dw_1875 dw_1876 dw_1878 dw_1879 dw_1880 rfl (by decide)
  have a : lq_Pu p l e room_1 s m args below meth c b Q 9 1869 1881 [.int (xs 1), .int (xs 2)] := lq_PuC a0 (a1)
  have b0 : lq_Pu p l e room_1 s m args below meth c b Q 9 1888 1894 [.int (xs 1)] := lq_PuI (j := 1) hx hcb hX hbl dw_1888 dw_1889 dw_1891 dw_1892 dw_1893 rfl (by decide)
  have b1 : lq_Pu p l e room_1 s m args below meth c b Q 9 1894 1900 [.int (xs 2)] := lq_PuI (j := 2) hx hcb hX hbl dw_1894 dw_1895 dw_1897 dw_1898 dw_1899 rfl (by decide)
  have b : lq_Pu p l e room_1 s m args below meth c b Q 9 1888 1900 [.int (xs 1), .int (xs 2)] := lq_PuC b0 (b1)
  exact lq_case (R := room_1) (vals := [.int (xs 1), .int (xs 2)]) (mc := 0) (ms := 0) (kn := 4) (kM := 2) (P := 1868) (W1 := 1881) (V1 := 1900) (T := 1905) (iW := 190) (iM := 192) C hH hl (x_L_safeIn (xs 1) (xs 2)) (lq_up (r_X7_safeIn mm_closed)) mm_σfr (hm_safeIn (xs 1) (xs 2)) rfl rfl (List.forall_mem_cons.mpr ⟨trivial, List.forall_mem_cons.mpr ⟨trivial, fun _ h => nomatch h⟩⟩) a b dw_1868 dw_1881 dw_1882 dw_1885 dw_1887 dw_1900 dw_1903 rfl
    (ww_in _ (by decide +kernel)) (by decide +kernel) rfl u_502 u_503 u_504 u_505 (by decide +kernel) rfl
    (by decide) (by decide) (by decide) (by show ck + 1 + 0 ≤ 600002; omega) (by show cn + 6 + 0 ≤ 7302232; omega)
    dw_1905 dw_1906 dw_1909 dw_1911 (by decide) dw_1916 dw_1918 (by decide) dw_1921 dw_1922 dw_1923 dw_1924 dw_1926 dw_1927 dw_1928 (by decide) dw_1933 (by decide) k
theorem kc_sirenWould {p : Program} {l : Launch} {e : Env} {s : State} {m : MethodId} {args : Array Value} {below : List Frame} {meth : Method} {c : Code} {H : Heap} {Q : State → Prop} {ck cn : Nat} {ls : Array Slot} {b : Nat} {xs : Nat → Int32} {Dx Dm : va_G} {tx tm : List (ClassId × FieldType)} {ax am : vgN → Nat} {o od : Nat} {cO : ClassId} {f0 : Nat → Int64}
    (C : lq_Cx p l s m args c b xs Dx Dm tx tm ax am o od cO) (hH : lq_Hx s Dx Dm tx tm ax am o cO f0 H) (hl : lv_has ls 9 (lq_lv b (ax (0, 0, 0)) (am (40, 0, 0)) o od)) (h1 : ck ≤ 1000) (h2 : cn ≤ 10000)
    (k : ∀ (H1 : Heap) (ls1 : Array Slot) (lv1 : List (Nat × Value)) (k1 k2 : Nat), va_S (fun q => s.heap.size ≤ q) s.heap H1 [] → lv_has ls1 9 lv1 → (0, Value.ref b) ∈ lv1 → (5, Value.int 0) ∈ lv1 → k1 ≤ 600002 → k2 ≤ 7302232 → W p l e room_1 s m args below meth c H1 [] k1 k2 Q (F0 m 2030 ls1 [])) : W p l e room_1 s m args below meth c H [] ck cn Q (F0 m 1936 ls []) := by
  have C9 := C
  obtain ⟨⟨hx, hcb, -, -, -, hX, hbl, -⟩, -⟩ := C9
  have a0 : lq_Pu p l e room_1 s m args below meth c b Q 9 1937 1943 [.int (xs 1)] := lq_PuI (j := 1) hx hcb hX hbl dw_1937 dw_1938 dw_1940 dw_1941 dw_1942 rfl (by decide)
  have a1 : lq_Pu p l e room_1 s m args below meth c b Q 9 1943 1949 [.int (xs 2)] := lq_PuI (j := 2) hx hcb hX hbl dw_1943 dw_1944 dw_1946 dw_1947 dw_1948 rfl (by decide)
  have a2 : lq_Pu p l e room_1 s m args below meth c b Q 9 1949 1955 [.int (xs 3)] := lq_PuI (j := 3) hx hcb hX hbl dw_1949 dw_1950 dw_1952 dw_1953 dw_1954 rfl (by decide)
  have a : lq_Pu p l e room_1 s m args below meth c b Q 9 1937 1955 [.int (xs 1), .int (xs 2), .int (xs 3)] := lq_PuC a0 (lq_PuC a1 (a2))
  have b0 : lq_Pu p l e room_1 s m args below meth c b Q 9 1962 1968 [.int (xs 1)] := lq_PuI (j := 1) hx hcb hX hbl dw_1962 dw_1963 dw_1965 dw_1966 dw_1967 rfl (by decide)
  have b1 : lq_Pu p l e room_1 s m args below meth c b Q 9 1968 1974 [.int (xs 2)] := lq_PuI (j := 2) hx hcb hX hbl dw_1968 dw_1969 dw_1971 dw_1972 dw_1973 rfl (by decide)
  have b2 : lq_Pu p l e room_1 s m args below meth c b Q 9 1974 1980 [.int (xs 3)] := lq_PuI (j := 3) hx hcb hX hbl dw_1974 dw_1975 dw_1977 dw_1978 dw_1979 rfl (by decide)
  have b : lq_Pu p l e room_1 s m args below meth c b Q 9 1962 1980 [.int (xs 1), .int (xs 2), .int (xs 3)] := lq_PuC b0 (lq_PuC b1 (b2))
  exact lq_caseN (R := room_1) (vals := [.int (xs 1), .int (xs 2), .int (xs 3)]) (mc := 514) (ms := 4258) (kn := 5) (kM := 3) (P := 1936) (W1 := 1955) (V1 := 1980) (T := 1985) (iW := 193) (iM := 195) C hH hl (x_L_sirenWould (xs 1) (xs 2) (xs 3)) (a_X7_sirenWould) mm_σfr (hm_sirenWould (xs 1) (xs 2) (xs 3)) rfl rfl (List.forall_mem_cons.mpr ⟨trivial, List.forall_mem_cons.mpr ⟨trivial, List.forall_mem_cons.mpr ⟨trivial, fun _ h => nomatch h⟩⟩⟩) a b dw_1936 dw_1955 dw_1956 dw_1959 dw_1961 dw_1980 dw_1983 rfl
    (ww_in _ (by decide +kernel)) (by decide +kernel) rfl u_506 u_507 u_508 u_509 (by decide +kernel) rfl
    (by decide) (by decide) (by decide) (by show ck + 1 + 514 ≤ 600002; omega) (by show cn + 6 + 4258 ≤ 7302232; omega)
    dw_1985 dw_1986 dw_1989 dw_1991 (by decide) dw_1996 dw_1998 (by decide) dw_2001 dw_2002 dw_2003 dw_2004 dw_2006 dw_2007 dw_2008 (by decide) dw_2013 (by decide) k
