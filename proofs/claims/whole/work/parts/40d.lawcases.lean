set_option maxHeartbeats 4000000 in
set_option maxRecDepth 100000 in
theorem law_k21 {p : Program} {l : Launch} {e : Env} {s : State} {m : MethodId} {below : List Frame} {meth : Method} {c : Code} {H : Heap} {locs : List Loc} {cells slots : Nat} {Q : State → Prop} {ls : Array Slot} {G : gG} {M : Nat → Nat → Int} {b L : Nat} {xs : Nat → Int32} (C : lw_C p l s m meth c G b L xs) {i o n tn : Nat} (hi : i + 4 ≤ L) (hJ : q_J M o n tn) (hG : gH G M s H locs) (hl : lv_has ls 7 (lw_ls b G i)) (hf : cells + 1 ≤ room_1.cells ∧ slots + 6 ≤ room_1.slots) (K : ∀ (M1 : Nat → Nat → Int) (H1 : Heap) (locs1 : List Loc) (ls1 : Array Slot), (∃ o n tn, q_J M1 o n tn) → gH G M1 s H1 locs1 → lv_has ls1 7 (lw_ls b G i) → W p l e room_1 s m #[Value.ref b] below meth c H1 locs1 (cells + 1) (slots + 6) Q (F0 m 1680 ls1 [])) : W p l e room_1 s m #[Value.ref b] below meth c H locs cells slots Q (F0 m 1287 ls []) := by
  obtain ⟨hx, hb, hr, hml, hown, hts0, hX, hbl, hlocks, hgv⟩ := id C.1
  have hts := lw_hts C.1
  obtain ⟨-, hl0, hdm, hXt, hbA, hL⟩ := id C
  obtain ⟨⟨ho, hn, htn⟩, ⟨hR, hPk⟩, ⟨hm1, hm2, hm8⟩, hdi, hke, ⟨ht1, ht2, htx, hch⟩, hbo⟩ := id hJ
  have hl : lv_has ls 7 [(4, .int (iZ (i : Int))), (3, .ref (gad G 178)), (2, .ref (gad G 169)), (1, .ref (gad G 152)), (0, .ref b)] := hl
  obtain ⟨a0, e0, r0⟩ : ∃ z : Int, xs (i + 1) = iZ z ∧ (-2147483648 ≤ z ∧ z < 2147483648) := ⟨_, (iZ_of _).symm, lw_r32 _⟩
  obtain ⟨a1, e1, r1⟩ : ∃ z : Int, xs (i + 2) = iZ z ∧ (-2147483648 ≤ z ∧ z < 2147483648) := ⟨_, (iZ_of _).symm, lw_r32 _⟩
  refine lv_aload_n hx hb dL_law_1287 rfl (lv_at hl 3 rfl) ?_
  refine law_arg C hG i (j := 1) (jn := 1) (by omega) rfl (lv_at hl 4 rfl) (lv_at hl 0 rfl) dL_law_1288 dL_law_1289 dL_law_1291 dL_law_1292 dL_law_1293 ?_
  rw [e0]
  refine law_arg C hG i (j := 2) (jn := 2) (by omega) rfl (lv_at hl 4 rfl) (lv_at hl 0 rfl) dL_law_1294 dL_law_1295 dL_law_1297 dL_law_1298 dL_law_1299 ?_
  rw [e1]
  refine lv_aload_n hx hb dL_law_1300 rfl (lv_at hl 1 rfl) ?_
  refine g_callW (As := [.ref (gad G 152), .int (iZ a0), .int (iZ a1), .ref (gad G 178)]) (rest := []) ⟨hx, hb, hml, hown, hts⟩ (c_L_mayLose l G M hl0 hdm (M 172) hR hPk.1 a0 r0 a1 r1) (vx_cwSW 4 hts gL_law_L_mayLose rfl rfl rfl (by decide +kernel) ⟨Nat.le_of_ble_eq_true rfl, Nat.le_of_ble_eq_true rfl⟩) hXt hG rfl hl.1 rfl (Nat.le_of_ble_eq_true rfl) dL_law_1301 hf (fun z1 M1 H locs hp1 hG => ?_)
  have hmd : q_mid M M1 := q_mid.of md_cs hp1.2
  have hz : 0 ≤ z1 ∧ z1 ≤ 3 := by rw [hp1.1]; (repeat' split) <;> decide
  refine lv_istore (lv' := [(5, .int (iZ z1)), (4, .int (iZ (i : Int))), (3, .ref (gad G 178)), (2, .ref (gad G 169)), (1, .ref (gad G 152)), (0, .ref b)]) hx hb dL_law_1304 hl (by decide) rfl (fun ls hl => ?_)
  refine lv_aload_n hx hb dL_law_1306 rfl (lv_at hl 3 rfl) ?_
  refine law_arg C hG i (j := 1) (jn := 1) (by omega) rfl (lv_at hl 5 rfl) (lv_at hl 1 rfl) dL_law_1307 dL_law_1308 dL_law_1310 dL_law_1311 dL_law_1312 ?_
  rw [e0]
  refine law_arg C hG i (j := 2) (jn := 2) (by omega) rfl (lv_at hl 5 rfl) (lv_at hl 1 rfl) dL_law_1313 dL_law_1314 dL_law_1316 dL_law_1317 dL_law_1318 ?_
  rw [e1]
  refine g_callV (b := 169) (As := [.int (iZ a0), .int (iZ a1)]) (rest := []) ⟨hx, hb, hml, hown, hts⟩ (c_X6_mayLose l G M1 hdm (M 172) (hmd 172 (by decide) (by decide)) hPk.1 hPk.2 a0 r0 a1 r1) (cwV 2 hts gL_law_X6_mayLose rfl rfl rfl (by decide +kernel) ⟨Nat.le_of_ble_eq_true rfl, Nat.le_of_ble_eq_true rfl⟩) hG (g_recv hG (b := 169) (hdm 169 (by decide)) rfl rfl) rfl hl.1 rfl (Nat.le_of_ble_eq_true rfl) dL_law_1319 hf (fun z2 M2 H locs hp2 hG => ?_)
  exact law_tail C hf ⟨Nat.le_of_ble_eq_true rfl, Nat.le_of_ble_eq_true rfl⟩ hG hl hz (lw_q hJ hp1 hp2) dL_law_1322 dL_law_1324 dL_law_1325 dL_law_1328 dL_law_1330 dL_law_1335 dL_law_1337 dL_law_1340 dL_law_1341 dL_law_1342 dL_law_1343 dL_law_1345 dL_law_1346 dL_law_1347 dL_law_1352 (by decide) K
set_option maxHeartbeats 4000000 in
set_option maxRecDepth 100000 in
theorem law_k22 {p : Program} {l : Launch} {e : Env} {s : State} {m : MethodId} {below : List Frame} {meth : Method} {c : Code} {H : Heap} {locs : List Loc} {cells slots : Nat} {Q : State → Prop} {ls : Array Slot} {G : gG} {M : Nat → Nat → Int} {b L : Nat} {xs : Nat → Int32} (C : lw_C p l s m meth c G b L xs) {i o n tn : Nat} (hi : i + 4 ≤ L) (hJ : q_J M o n tn) (hG : gH G M s H locs) (hl : lv_has ls 7 (lw_ls b G i)) (hf : cells + 1 ≤ room_1.cells ∧ slots + 6 ≤ room_1.slots) (K : ∀ (M1 : Nat → Nat → Int) (H1 : Heap) (locs1 : List Loc) (ls1 : Array Slot), (∃ o n tn, q_J M1 o n tn) → gH G M1 s H1 locs1 → lv_has ls1 7 (lw_ls b G i) → W p l e room_1 s m #[Value.ref b] below meth c H1 locs1 (cells + 1) (slots + 6) Q (F0 m 1680 ls1 [])) : W p l e room_1 s m #[Value.ref b] below meth c H locs cells slots Q (F0 m 1355 ls []) := by
  obtain ⟨hx, hb, hr, hml, hown, hts0, hX, hbl, hlocks, hgv⟩ := id C.1
  have hts := lw_hts C.1
  obtain ⟨-, hl0, hdm, hXt, hbA, hL⟩ := id C
  obtain ⟨⟨ho, hn, htn⟩, ⟨hR, hPk⟩, ⟨hm1, hm2, hm8⟩, hdi, hke, ⟨ht1, ht2, htx, hch⟩, hbo⟩ := id hJ
  have hl : lv_has ls 7 [(4, .int (iZ (i : Int))), (3, .ref (gad G 178)), (2, .ref (gad G 169)), (1, .ref (gad G 152)), (0, .ref b)] := hl
  refine lv_aload_n hx hb dL_law_1355 rfl (lv_at hl 3 rfl) ?_
  refine g_callV (b := 152) (As := []) (rest := []) ⟨hx, hb, hml, hown, hts⟩ (c_X5_contenders l G M hdm (M 172) hR hPk.1) (cwV 0 hts gL_law_X5_contenders rfl rfl rfl (by decide +kernel) ⟨Nat.le_of_ble_eq_true rfl, Nat.le_of_ble_eq_true rfl⟩) hG (g_recv hG (b := 152) (hdm 152 (by decide)) rfl rfl) rfl hl.1 rfl (Nat.le_of_ble_eq_true rfl) dL_law_1356 ⟨by omega, by omega⟩ (fun z1 M1 H locs hp1 hG => ?_)
  have hmd : q_mid M M1 := q_mid.cs hp1.2
  refine lv_aload_n hx hb dL_law_1359 rfl (lv_at hl 2 rfl) ?_
  refine g_callV (b := 169) (As := []) (rest := [.int (iZ z1)]) ⟨hx, hb, hml, hown, hts⟩ (c_X6_contenders l G M1 hdm (M 172) (hmd 172 (by decide) (by decide)) hPk.1) (cwV 0 hts gL_law_X6_contenders rfl rfl rfl (by decide +kernel) ⟨Nat.le_of_ble_eq_true rfl, Nat.le_of_ble_eq_true rfl⟩) hG (g_recv hG (b := 169) (hdm 169 (by decide)) rfl rfl) rfl hl.1 rfl (Nat.le_of_ble_eq_true rfl) dL_law_1360 ⟨by omega, by omega⟩ (fun z2 M2 H locs hp2 hG => ?_)
  obtain ⟨hz, hJ2⟩ := lw_0 hJ hp1 hp2
  refine lv_icmp_eq (tgt := 1680) hx hb dL_law_1363 (by decide) (fun _ => ?_) (fun h9 => absurd (by rw [hz]) h9)
  refine W.widen (k := cells + 1) (n := slots + 6) (by omega) (by omega) ?_
  exact K M2 H locs ls hJ2 hG hl
set_option maxHeartbeats 4000000 in
set_option maxRecDepth 100000 in
theorem law_k23 {p : Program} {l : Launch} {e : Env} {s : State} {m : MethodId} {below : List Frame} {meth : Method} {c : Code} {H : Heap} {locs : List Loc} {cells slots : Nat} {Q : State → Prop} {ls : Array Slot} {G : gG} {M : Nat → Nat → Int} {b L : Nat} {xs : Nat → Int32} (C : lw_C p l s m meth c G b L xs) {i o n tn : Nat} (hi : i + 4 ≤ L) (hJ : q_J M o n tn) (hG : gH G M s H locs) (hl : lv_has ls 7 (lw_ls b G i)) (hf : cells + 1 ≤ room_1.cells ∧ slots + 6 ≤ room_1.slots) (K : ∀ (M1 : Nat → Nat → Int) (H1 : Heap) (locs1 : List Loc) (ls1 : Array Slot), (∃ o n tn, q_J M1 o n tn) → gH G M1 s H1 locs1 → lv_has ls1 7 (lw_ls b G i) → W p l e room_1 s m #[Value.ref b] below meth c H1 locs1 (cells + 1) (slots + 6) Q (F0 m 1680 ls1 [])) : W p l e room_1 s m #[Value.ref b] below meth c H locs cells slots Q (F0 m 1368 ls []) := by
  obtain ⟨hx, hb, hr, hml, hown, hts0, hX, hbl, hlocks, hgv⟩ := id C.1
  have hts := lw_hts C.1
  obtain ⟨-, hl0, hdm, hXt, hbA, hL⟩ := id C
  obtain ⟨⟨ho, hn, htn⟩, ⟨hR, hPk⟩, ⟨hm1, hm2, hm8⟩, hdi, hke, ⟨ht1, ht2, htx, hch⟩, hbo⟩ := id hJ
  have hl : lv_has ls 7 [(4, .int (iZ (i : Int))), (3, .ref (gad G 178)), (2, .ref (gad G 169)), (1, .ref (gad G 152)), (0, .ref b)] := hl
  obtain ⟨a0, e0, r0⟩ : ∃ z : Int, xs (i + 1) = iZ z ∧ (-2147483648 ≤ z ∧ z < 2147483648) := ⟨_, (iZ_of _).symm, lw_r32 _⟩
  obtain ⟨a1, e1, r1⟩ : ∃ z : Int, lw_lv xs (i + 2) = lZ z ∧ (-9223372036854775808 ≤ z ∧ z < 9223372036854775808) := ⟨_, (lZ_of _).symm, lw_r64 _⟩
  refine lv_aload_n hx hb dL_law_1368 rfl (lv_at hl 3 rfl) ?_
  refine law_arg C hG i (j := 1) (jn := 1) (by omega) rfl (lv_at hl 4 rfl) (lv_at hl 0 rfl) dL_law_1369 dL_law_1370 dL_law_1372 dL_law_1373 dL_law_1374 ?_
  rw [e0]
  refine law_long C hG i (j := 2) (jn := 2) (jm := 3) (by omega) rfl rfl (lv_at hl 4 rfl) (lv_at hl 0 rfl) dL_law_1375 dL_law_1376 dL_law_1378 dL_law_1379 dL_law_1380 dL_law_1381 dL_law_1382 dL_law_1384 dL_law_1385 dL_law_1386 dL_law_1388 dL_law_1389 dL_law_1390 dL_law_1391 dL_law_1392 dL_law_1395 dL_law_1396 ?_
  rw [e1]
  refine lv_aload_n hx hb dL_law_1397 rfl (lv_at hl 1 rfl) ?_
  refine g_callW (As := [.ref (gad G 152), .int (iZ a0), .long (lZ a1), .ref (gad G 178)]) (rest := []) ⟨hx, hb, hml, hown, hts⟩ (c_L_runScript l G M hl0 hdm (M 172) hR hPk.1 a0 r0 a1 r1) (vx_cwSW 4 hts gL_law_L_runScript rfl rfl rfl (by decide +kernel) ⟨Nat.le_of_ble_eq_true rfl, Nat.le_of_ble_eq_true rfl⟩) hXt hG rfl hl.1 rfl (Nat.le_of_ble_eq_true rfl) dL_law_1398 hf (fun z1 M1 H locs hp1 hG => ?_)
  have hmd : q_mid M M1 := q_mid.of md_cs hp1.2
  have hz : 0 ≤ z1 ∧ z1 ≤ 3 := by rw [hp1.1]; (repeat' split) <;> decide
  refine lv_istore (lv' := [(5, .int (iZ z1)), (4, .int (iZ (i : Int))), (3, .ref (gad G 178)), (2, .ref (gad G 169)), (1, .ref (gad G 152)), (0, .ref b)]) hx hb dL_law_1401 hl (by decide) rfl (fun ls hl => ?_)
  refine lv_aload_n hx hb dL_law_1403 rfl (lv_at hl 3 rfl) ?_
  refine law_arg C hG i (j := 1) (jn := 1) (by omega) rfl (lv_at hl 5 rfl) (lv_at hl 1 rfl) dL_law_1404 dL_law_1405 dL_law_1407 dL_law_1408 dL_law_1409 ?_
  rw [e0]
  refine law_long C hG i (j := 2) (jn := 2) (jm := 3) (by omega) rfl rfl (lv_at hl 5 rfl) (lv_at hl 1 rfl) dL_law_1410 dL_law_1411 dL_law_1413 dL_law_1414 dL_law_1415 dL_law_1416 dL_law_1417 dL_law_1419 dL_law_1420 dL_law_1421 dL_law_1423 dL_law_1424 dL_law_1425 dL_law_1426 dL_law_1427 dL_law_1430 dL_law_1431 ?_
  rw [e1]
  refine g_callV (b := 169) (As := [.int (iZ a0), .long (lZ a1)]) (rest := []) ⟨hx, hb, hml, hown, hts⟩ (c_X6_runScript l G M1 hdm (M 172) (hmd 172 (by decide) (by decide)) hPk.1 a0 r0 a1 r1) (cwV 2 hts gL_law_X6_runScript rfl rfl rfl (by decide +kernel) ⟨Nat.le_of_ble_eq_true rfl, Nat.le_of_ble_eq_true rfl⟩) hG (g_recv hG (b := 169) (hdm 169 (by decide)) rfl rfl) rfl hl.1 rfl (Nat.le_of_ble_eq_true rfl) dL_law_1432 hf (fun z2 M2 H locs hp2 hG => ?_)
  exact law_tail C hf ⟨Nat.le_of_ble_eq_true rfl, Nat.le_of_ble_eq_true rfl⟩ hG hl hz (lw_q hJ hp1 hp2) dL_law_1435 dL_law_1437 dL_law_1438 dL_law_1441 dL_law_1443 dL_law_1448 dL_law_1450 dL_law_1453 dL_law_1454 dL_law_1455 dL_law_1456 dL_law_1458 dL_law_1459 dL_law_1460 dL_law_1465 (by decide) K
set_option maxHeartbeats 4000000 in
set_option maxRecDepth 100000 in
theorem law_k24 {p : Program} {l : Launch} {e : Env} {s : State} {m : MethodId} {below : List Frame} {meth : Method} {c : Code} {H : Heap} {locs : List Loc} {cells slots : Nat} {Q : State → Prop} {ls : Array Slot} {G : gG} {M : Nat → Nat → Int} {b L : Nat} {xs : Nat → Int32} (C : lw_C p l s m meth c G b L xs) {i o n tn : Nat} (hi : i + 4 ≤ L) (hJ : q_J M o n tn) (hG : gH G M s H locs) (hl : lv_has ls 7 (lw_ls b G i)) (hf : cells + 1 ≤ room_1.cells ∧ slots + 6 ≤ room_1.slots) (K : ∀ (M1 : Nat → Nat → Int) (H1 : Heap) (locs1 : List Loc) (ls1 : Array Slot), (∃ o n tn, q_J M1 o n tn) → gH G M1 s H1 locs1 → lv_has ls1 7 (lw_ls b G i) → W p l e room_1 s m #[Value.ref b] below meth c H1 locs1 (cells + 1) (slots + 6) Q (F0 m 1680 ls1 [])) : W p l e room_1 s m #[Value.ref b] below meth c H locs cells slots Q (F0 m 1468 ls []) := by
  obtain ⟨hx, hb, hr, hml, hown, hts0, hX, hbl, hlocks, hgv⟩ := id C.1
  have hts := lw_hts C.1
  obtain ⟨-, hl0, hdm, hXt, hbA, hL⟩ := id C
  obtain ⟨⟨ho, hn, htn⟩, ⟨hR, hPk⟩, ⟨hm1, hm2, hm8⟩, hdi, hke, ⟨ht1, ht2, htx, hch⟩, hbo⟩ := id hJ
  have hl : lv_has ls 7 [(4, .int (iZ (i : Int))), (3, .ref (gad G 178)), (2, .ref (gad G 169)), (1, .ref (gad G 152)), (0, .ref b)] := hl
  obtain ⟨a0, e0, r0⟩ : ∃ z : Int, lw_lv xs (i + 1) = lZ z ∧ (-9223372036854775808 ≤ z ∧ z < 9223372036854775808) := ⟨_, (lZ_of _).symm, lw_r64 _⟩
  obtain ⟨a1, e1, r1⟩ : ∃ z : Int, xs (i + 3) = iZ z ∧ (-2147483648 ≤ z ∧ z < 2147483648) := ⟨_, (iZ_of _).symm, lw_r32 _⟩
  refine lv_aload_n hx hb dL_law_1468 rfl (lv_at hl 3 rfl) ?_
  refine law_long C hG i (j := 1) (jn := 1) (jm := 2) (by omega) rfl rfl (lv_at hl 4 rfl) (lv_at hl 0 rfl) dL_law_1469 dL_law_1470 dL_law_1472 dL_law_1473 dL_law_1474 dL_law_1475 dL_law_1476 dL_law_1478 dL_law_1479 dL_law_1480 dL_law_1482 dL_law_1483 dL_law_1484 dL_law_1485 dL_law_1486 dL_law_1489 dL_law_1490 ?_
  rw [e0]
  refine law_arg C hG i (j := 3) (jn := 3) (by omega) rfl (lv_at hl 4 rfl) (lv_at hl 0 rfl) dL_law_1491 dL_law_1492 dL_law_1494 dL_law_1495 dL_law_1496 ?_
  rw [e1]
  refine lv_aload_n hx hb dL_law_1497 rfl (lv_at hl 1 rfl) ?_
  refine g_callW (As := [.ref (gad G 152), .long (lZ a0), .int (iZ a1), .ref (gad G 178)]) (rest := []) ⟨hx, hb, hml, hown, hts⟩ (c_L_simulate l G M hl0 hdm (M 172) hR hPk.1 a0 r0 a1 r1) (vx_cwSW 4 hts gL_law_L_simulate rfl rfl rfl (by decide +kernel) ⟨Nat.le_of_ble_eq_true rfl, Nat.le_of_ble_eq_true rfl⟩) hXt hG rfl hl.1 rfl (Nat.le_of_ble_eq_true rfl) dL_law_1498 hf (fun z1 M1 H locs hp1 hG => ?_)
  have hmd : q_mid M M1 := q_mid.of md_cs hp1.2
  have hz : 0 ≤ z1 ∧ z1 ≤ 3 := by rw [hp1.1]; (repeat' split) <;> decide
  refine lv_istore (lv' := [(5, .int (iZ z1)), (4, .int (iZ (i : Int))), (3, .ref (gad G 178)), (2, .ref (gad G 169)), (1, .ref (gad G 152)), (0, .ref b)]) hx hb dL_law_1501 hl (by decide) rfl (fun ls hl => ?_)
  refine lv_aload_n hx hb dL_law_1503 rfl (lv_at hl 3 rfl) ?_
  refine law_long C hG i (j := 1) (jn := 1) (jm := 2) (by omega) rfl rfl (lv_at hl 5 rfl) (lv_at hl 1 rfl) dL_law_1504 dL_law_1505 dL_law_1507 dL_law_1508 dL_law_1509 dL_law_1510 dL_law_1511 dL_law_1513 dL_law_1514 dL_law_1515 dL_law_1517 dL_law_1518 dL_law_1519 dL_law_1520 dL_law_1521 dL_law_1524 dL_law_1525 ?_
  rw [e0]
  refine law_arg C hG i (j := 3) (jn := 3) (by omega) rfl (lv_at hl 5 rfl) (lv_at hl 1 rfl) dL_law_1526 dL_law_1527 dL_law_1529 dL_law_1530 dL_law_1531 ?_
  rw [e1]
  refine g_callV (b := 169) (As := [.long (lZ a0), .int (iZ a1)]) (rest := []) ⟨hx, hb, hml, hown, hts⟩ (c_X6_simulate l G M1 hdm (M 172) (hmd 172 (by decide) (by decide)) hPk.1 a0 r0 a1 r1) (cwV 2 hts gL_law_X6_simulate rfl rfl rfl (by decide +kernel) ⟨Nat.le_of_ble_eq_true rfl, Nat.le_of_ble_eq_true rfl⟩) hG (g_recv hG (b := 169) (hdm 169 (by decide)) rfl rfl) rfl hl.1 rfl (Nat.le_of_ble_eq_true rfl) dL_law_1532 hf (fun z2 M2 H locs hp2 hG => ?_)
  exact law_tail C hf ⟨Nat.le_of_ble_eq_true rfl, Nat.le_of_ble_eq_true rfl⟩ hG hl hz (lw_q hJ hp1 hp2) dL_law_1535 dL_law_1537 dL_law_1538 dL_law_1541 dL_law_1543 dL_law_1548 dL_law_1550 dL_law_1553 dL_law_1554 dL_law_1555 dL_law_1556 dL_law_1558 dL_law_1559 dL_law_1560 dL_law_1565 (by decide) K
set_option maxHeartbeats 4000000 in
set_option maxRecDepth 100000 in
theorem law_k25 {p : Program} {l : Launch} {e : Env} {s : State} {m : MethodId} {below : List Frame} {meth : Method} {c : Code} {H : Heap} {locs : List Loc} {cells slots : Nat} {Q : State → Prop} {ls : Array Slot} {G : gG} {M : Nat → Nat → Int} {b L : Nat} {xs : Nat → Int32} (C : lw_C p l s m meth c G b L xs) {i o n tn : Nat} (hi : i + 4 ≤ L) (hJ : q_J M o n tn) (hG : gH G M s H locs) (hl : lv_has ls 7 (lw_ls b G i)) (hf : cells + 1 ≤ room_1.cells ∧ slots + 6 ≤ room_1.slots) (K : ∀ (M1 : Nat → Nat → Int) (H1 : Heap) (locs1 : List Loc) (ls1 : Array Slot), (∃ o n tn, q_J M1 o n tn) → gH G M1 s H1 locs1 → lv_has ls1 7 (lw_ls b G i) → W p l e room_1 s m #[Value.ref b] below meth c H1 locs1 (cells + 1) (slots + 6) Q (F0 m 1680 ls1 [])) : W p l e room_1 s m #[Value.ref b] below meth c H locs cells slots Q (F0 m 1568 ls []) := by
  obtain ⟨hx, hb, hr, hml, hown, hts0, hX, hbl, hlocks, hgv⟩ := id C.1
  have hts := lw_hts C.1
  obtain ⟨-, hl0, hdm, hXt, hbA, hL⟩ := id C
  obtain ⟨⟨ho, hn, htn⟩, ⟨hR, hPk⟩, ⟨hm1, hm2, hm8⟩, hdi, hke, ⟨ht1, ht2, htx, hch⟩, hbo⟩ := id hJ
  have hl : lv_has ls 7 [(4, .int (iZ (i : Int))), (3, .ref (gad G 178)), (2, .ref (gad G 169)), (1, .ref (gad G 152)), (0, .ref b)] := hl
  obtain ⟨a0, e0, r0⟩ : ∃ z : Int, xs (i + 1) = iZ z ∧ (-2147483648 ≤ z ∧ z < 2147483648) := ⟨_, (iZ_of _).symm, lw_r32 _⟩
  refine lv_aload_n hx hb dL_law_1568 rfl (lv_at hl 3 rfl) ?_
  refine law_arg C hG i (j := 1) (jn := 1) (by omega) rfl (lv_at hl 4 rfl) (lv_at hl 0 rfl) dL_law_1569 dL_law_1570 dL_law_1572 dL_law_1573 dL_law_1574 ?_
  rw [e0]
  refine lv_aload_n hx hb dL_law_1575 rfl (lv_at hl 1 rfl) ?_
  refine g_callW (As := [.ref (gad G 152), .int (iZ a0), .ref (gad G 178)]) (rest := []) ⟨hx, hb, hml, hown, hts⟩ (c_L_save l G M hl0 hdm (M 172) hR hPk.1 a0 r0) (vx_cwSW 3 hts gL_law_L_save rfl rfl rfl (by decide +kernel) ⟨Nat.le_of_ble_eq_true rfl, Nat.le_of_ble_eq_true rfl⟩) hXt hG rfl hl.1 rfl (Nat.le_of_ble_eq_true rfl) dL_law_1576 hf (fun z1 M1 H locs hp1 hG => ?_)
  have hmd : q_mid M M1 := q_mid.of (fun z9 Mx h a h1 h2 => h.2.2.2.2 a (by omega) (by have := cd_sav h.1; omega)) hp1.2
  have hz : 0 ≤ z1 ∧ z1 ≤ 3 := by rw [hp1.1]; (repeat' split) <;> decide
  refine lv_istore (lv' := [(5, .int (iZ z1)), (4, .int (iZ (i : Int))), (3, .ref (gad G 178)), (2, .ref (gad G 169)), (1, .ref (gad G 152)), (0, .ref b)]) hx hb dL_law_1579 hl (by decide) rfl (fun ls hl => ?_)
  refine lv_aload_n hx hb dL_law_1581 rfl (lv_at hl 3 rfl) ?_
  refine law_arg C hG i (j := 1) (jn := 1) (by omega) rfl (lv_at hl 5 rfl) (lv_at hl 1 rfl) dL_law_1582 dL_law_1583 dL_law_1585 dL_law_1586 dL_law_1587 ?_
  rw [e0]
  refine g_callV (b := 169) (As := [.int (iZ a0)]) (rest := []) ⟨hx, hb, hml, hown, hts⟩ (c_X6_save l G M1 hdm (M 172) (hmd 172 (by decide) (by decide)) hPk.1 a0 r0) (cwV 1 hts gL_law_X6_save rfl rfl rfl (by decide +kernel) ⟨Nat.le_of_ble_eq_true rfl, Nat.le_of_ble_eq_true rfl⟩) hG (g_recv hG (b := 169) (hdm 169 (by decide)) rfl rfl) rfl hl.1 rfl (Nat.le_of_ble_eq_true rfl) dL_law_1588 hf (fun z2 M2 H locs hp2 hG => ?_)
  exact law_tail C hf ⟨Nat.le_of_ble_eq_true rfl, Nat.le_of_ble_eq_true rfl⟩ hG hl hz (lw_sav hJ cd_sav hp1 hp2) dL_law_1591 dL_law_1593 dL_law_1594 dL_law_1597 dL_law_1599 dL_law_1604 dL_law_1606 dL_law_1609 dL_law_1610 dL_law_1611 dL_law_1612 dL_law_1614 dL_law_1615 dL_law_1616 dL_law_1621 (by decide) K
set_option maxHeartbeats 4000000 in
set_option maxRecDepth 100000 in
theorem law_k26c {p : Program} {l : Launch} {e : Env} {s : State} {m : MethodId} {below : List Frame} {meth : Method} {c : Code} {H : Heap} {locs : List Loc} {cells slots : Nat} {Q : State → Prop} {ls : Array Slot} {G : gG} {M : Nat → Nat → Int} {b L : Nat} {xs : Nat → Int32} (C : lw_C p l s m meth c G b L xs) {i o n tn : Nat} (hi : i + 4 ≤ L) (hz9 : ∀ j : Nat, (2 ≤ j → M 154 j = 0) ∧ (2 ≤ j → M 176 j = 0)) (hJ : q_J M o n tn) (hG : gH G M s H locs) (hl : lv_has ls 7 (lw_ls b G i)) (hf : cells + 1 ≤ room_1.cells ∧ slots + 6 ≤ room_1.slots) (K : ∀ (M1 : Nat → Nat → Int) (H1 : Heap) (locs1 : List Loc) (ls1 : Array Slot), (∃ o n tn, q_J M1 o n tn) → gH G M1 s H1 locs1 → lv_has ls1 7 (lw_ls b G i) → W p l e room_1 s m #[Value.ref b] below meth c H1 locs1 (cells + 1) (slots + 6) Q (F0 m 1680 ls1 [])) : W p l e room_1 s m #[Value.ref b] below meth c H locs cells slots Q (F0 m 1624 ls []) := by
  obtain ⟨hx, hb, hr, hml, hown, hts0, hX, hbl, hlocks, hgv⟩ := id C.1
  have hts := lw_hts C.1
  obtain ⟨-, hl0, hdm, hXt, hbA, hL⟩ := id C
  obtain ⟨⟨ho, hn, htn⟩, ⟨hR, hPk⟩, ⟨hm1, hm2, hm8⟩, hdi, hke, ⟨ht1, ht2, htx, hch⟩, hbo⟩ := id hJ
  have hl : lv_has ls 7 [(4, .int (iZ (i : Int))), (3, .ref (gad G 178)), (2, .ref (gad G 169)), (1, .ref (gad G 152)), (0, .ref b)] := hl
  obtain ⟨a0, e0, r0⟩ : ∃ z : Int, xs (i + 1) = iZ z ∧ (-2147483648 ≤ z ∧ z < 2147483648) := ⟨_, (iZ_of _).symm, lw_r32 _⟩
  have hlt : ∀ {x : Nat} {v : Int}, (2 ≤ x → v = 0) → v = 1 → x < 2 := fun h8 h9 => Nat.lt_of_not_le (fun h7 => by have := h8 h7; omega)
  refine lv_aload_n hx hb dL_law_1624 rfl (lv_at hl 3 rfl) ?_
  refine law_arg C hG i (j := 1) (jn := 1) (by omega) rfl (lv_at hl 4 rfl) (lv_at hl 0 rfl) dL_law_1625 dL_law_1626 dL_law_1628 dL_law_1629 dL_law_1630 ?_
  rw [e0]
  refine lv_aload_n hx hb dL_law_1631 rfl (lv_at hl 1 rfl) ?_
  refine g_callW (As := [.ref (gad G 152), .int (iZ a0), .ref (gad G 178)]) (rest := []) ⟨hx, hb, hml, hown, hts⟩ (c_L_restore l G M hl0 hdm a0 r0 (fun j hj => (hke j hj).2.1) (q_pgk M a0.toNat) (fun h9 => ⟨((hke a0.toNat (hlt (hz9 a0.toNat).1 h9)).2.2 h9).1, ((hke a0.toNat (hlt (hz9 a0.toNat).1 h9)).2.2 h9).2.1⟩)) (vx_cwSW 3 hts gL_law_L_restore rfl rfl rfl (by decide +kernel) ⟨Nat.le_of_ble_eq_true rfl, Nat.le_of_ble_eq_true rfl⟩) hXt hG rfl hl.1 rfl (Nat.le_of_ble_eq_true rfl) dL_law_1632 hf (fun z1 M1 H locs hp1 hG => ?_)
  have hmd : q_mid M M1 := q_mid.of (fun z9 Mx h a h1 h2 => h.2.2.2.2.2 a (by omega) (by omega)) hp1.2
  have hz : 0 ≤ z1 ∧ z1 ≤ 3 := by rw [hp1.1]; (repeat' split) <;> decide
  refine lv_istore (lv' := [(5, .int (iZ z1)), (4, .int (iZ (i : Int))), (3, .ref (gad G 178)), (2, .ref (gad G 169)), (1, .ref (gad G 152)), (0, .ref b)]) hx hb dL_law_1635 hl (by decide) rfl (fun ls hl => ?_)
  refine lv_aload_n hx hb dL_law_1637 rfl (lv_at hl 3 rfl) ?_
  refine law_arg C hG i (j := 1) (jn := 1) (by omega) rfl (lv_at hl 5 rfl) (lv_at hl 1 rfl) dL_law_1638 dL_law_1639 dL_law_1641 dL_law_1642 dL_law_1643 ?_
  rw [e0]
  refine g_callV (b := 169) (As := [.int (iZ a0)]) (rest := []) ⟨hx, hb, hml, hown, hts⟩ (c_X6_restore l G M1 hdm a0 r0 (fun j hj => by rw [hmd 176 (by decide) (by decide), ← (hke j hj).1]; exact (hke j hj).2.1) (fun h9 => by rw [hmd 175 (by decide) (by decide)]; rw [hmd 176 (by decide) (by decide)] at h9; have h8 := hlt (hz9 a0.toNat).2 h9; exact ((hke a0.toNat h8).2.2 ((hke a0.toNat h8).1.trans h9)).2.1)) (cwV 1 hts gL_law_X6_restore rfl rfl rfl (by decide +kernel) ⟨Nat.le_of_ble_eq_true rfl, Nat.le_of_ble_eq_true rfl⟩) hG (g_recv hG (b := 169) (hdm 169 (by decide)) rfl rfl) rfl hl.1 rfl (Nat.le_of_ble_eq_true rfl) dL_law_1644 hf (fun z2 M2 H locs hp2 hG => ?_)
  exact law_tail C hf ⟨Nat.le_of_ble_eq_true rfl, Nat.le_of_ble_eq_true rfl⟩ hG hl hz (lw_res hJ (cd_res hJ) (cd_res9 hJ hmd) hp1 hp2) dL_law_1647 dL_law_1649 dL_law_1650 dL_law_1653 dL_law_1655 dL_law_1660 dL_law_1662 dL_law_1665 dL_law_1666 dL_law_1667 dL_law_1668 dL_law_1670 dL_law_1671 dL_law_1672 dL_law_1677 (by decide) K
theorem law_k26 {p : Program} {l : Launch} {e : Env} {s : State} {m : MethodId} {below : List Frame} {meth : Method} {c : Code} {H : Heap} {locs : List Loc} {cells slots : Nat} {Q : State → Prop} {ls : Array Slot} {G : gG} {M : Nat → Nat → Int} {b L : Nat} {xs : Nat → Int32} (C : lw_C p l s m meth c G b L xs) {i o n tn : Nat} (hi : i + 4 ≤ L) (hJ : q_J M o n tn) (hG : gH G M s H locs) (hl : lv_has ls 7 (lw_ls b G i)) (hf : cells + 1 ≤ room_1.cells ∧ slots + 6 ≤ room_1.slots) (K : ∀ (M1 : Nat → Nat → Int) (H1 : Heap) (locs1 : List Loc) (ls1 : Array Slot), (∃ o n tn, q_J M1 o n tn) → gH G M1 s H1 locs1 → lv_has ls1 7 (lw_ls b G i) → W p l e room_1 s m #[Value.ref b] below meth c H1 locs1 (cells + 1) (slots + 6) Q (F0 m 1680 ls1 [])) : W p l e room_1 s m #[Value.ref b] below meth c H locs cells slots Q (F0 m 1624 ls []) := by
  obtain ⟨M9, hJ9, hG9, hz9⟩ := law_cut hJ hG
  exact law_k26c C hi hz9 hJ9 hG9 hl hf K
