/-! the law: calls 29 to 35 -/
theorem dL_law_1375 : decode cL_law 1375 = .ok (.aload_n 1, 1) := by decide +kernel
theorem dL_law_1376 : decode cL_law 1376 = .ok (.aload_n 0, 1) := by decide +kernel
theorem dL_law_1377 : decode cL_law 1377 = .ok (.iload_n 3, 1) := by decide +kernel
theorem dL_law_1378 : decode cL_law 1378 = .ok (.iconst 1, 1) := by decide +kernel
theorem dL_law_1379 : decode cL_law 1379 = .ok (.iadd, 1) := by decide +kernel
theorem dL_law_1380 : decode cL_law 1380 = .ok (.iaload, 1) := by decide +kernel
theorem dL_law_1381 : decode cL_law 1381 = .ok (.aload_n 0, 1) := by decide +kernel
theorem dL_law_1382 : decode cL_law 1382 = .ok (.iload_n 3, 1) := by decide +kernel
theorem dL_law_1383 : decode cL_law 1383 = .ok (.iconst 2, 1) := by decide +kernel
theorem dL_law_1384 : decode cL_law 1384 = .ok (.iadd, 1) := by decide +kernel
theorem dL_law_1385 : decode cL_law 1385 = .ok (.iaload, 1) := by decide +kernel
theorem dL_law_1386 : decode cL_law 1386 = .ok (.invokevirtual 141, 3) := by decide +kernel
theorem dL_law_1389 : decode cL_law 1389 = .ok (.aload_n 2, 1) := by decide +kernel
theorem dL_law_1390 : decode cL_law 1390 = .ok (.aload_n 0, 1) := by decide +kernel
theorem dL_law_1391 : decode cL_law 1391 = .ok (.iload_n 3, 1) := by decide +kernel
theorem dL_law_1392 : decode cL_law 1392 = .ok (.iconst 1, 1) := by decide +kernel
theorem dL_law_1393 : decode cL_law 1393 = .ok (.iadd, 1) := by decide +kernel
theorem dL_law_1394 : decode cL_law 1394 = .ok (.iaload, 1) := by decide +kernel
theorem dL_law_1395 : decode cL_law 1395 = .ok (.aload_n 0, 1) := by decide +kernel
theorem dL_law_1396 : decode cL_law 1396 = .ok (.iload_n 3, 1) := by decide +kernel
theorem dL_law_1397 : decode cL_law 1397 = .ok (.iconst 2, 1) := by decide +kernel
theorem dL_law_1398 : decode cL_law 1398 = .ok (.iadd, 1) := by decide +kernel
theorem dL_law_1399 : decode cL_law 1399 = .ok (.iaload, 1) := by decide +kernel
theorem dL_law_1400 : decode cL_law 1400 = .ok (.invokevirtual 144, 3) := by decide +kernel
theorem dL_law_1403 : decode cL_law 1403 = .ok (.if_icmp .eq 676, 3) := by decide +kernel
set_option maxHeartbeats 400000 in
set_option maxRecDepth 20000 in
theorem law_29 {E : EV} (hE : EOK E) {q v0 : Nat} (hXS : EXS E q v0) {X : TX} {b L : Nat} {xs : Nat → Int32} (h : CX E X cL_law RL ret room_1 4) (hX : LX X b L xs) (hL : L ≤ 3072) {z : Int} (h0 : 0 ≤ z) (h1 : z ≤ L - 6) {A : AS} (K : ∀ A2 : AS, JL E (LQP E) X 2079 [(3, .int (iI z)), (2, eA E 76), (1, eA E 74), (0, .ref b)] [] (A2, A2)) : JL E (LQP E) X 1375 [(3, .int (iI z)), (2, eA E 76), (1, eA E 74), (0, .ref b)] [] (A, A) := by
  refine j_aload_n h 2 dL_law_1375 rfl rfl ?_
  refine j_aload_n h 3 dL_law_1376 rfl rfl ?_
  refine j_iload_n h 0 dL_law_1377 rfl rfl ?_
  refine j_iconst h dL_law_1378 ?_
  refine j_iadd h dL_law_1379 ?_
  refine j_sld h hX hL (by omega) (by omega) dL_law_1380 ?_
  refine j_aload_n h 3 dL_law_1381 rfl rfl ?_
  refine j_iload_n h 0 dL_law_1382 rfl rfl ?_
  refine j_iconst h dL_law_1383 ?_
  refine j_iadd h dL_law_1384 ?_
  refine j_sld h hX hL (by omega) (by omega) dL_law_1385 ?_
  refine j_callV h (ct_L (fun g0 => p_same hE (okI_of (xs (z + 1).toNat)) (okI_of (xs (z + 2).toNat)))) m_X3_same a_l_L_141 rfl rfl ⟨Nat.le_of_ble_eq_true rfl, Nat.le_of_ble_eq_true rfl⟩ (ci := 3) rfl (by omega) rcL3 rfl rfl (Nat.le_of_ble_eq_true rfl) dL_law_1386 ?_
  refine j_aload_n h 1 dL_law_1389 rfl rfl ?_
  refine j_aload_n h 3 dL_law_1390 rfl rfl ?_
  refine j_iload_n h 0 dL_law_1391 rfl rfl ?_
  refine j_iconst h dL_law_1392 ?_
  refine j_iadd h dL_law_1393 ?_
  refine j_sld h hX hL (by omega) (by omega) dL_law_1394 ?_
  refine j_aload_n h 3 dL_law_1395 rfl rfl ?_
  refine j_iload_n h 0 dL_law_1396 rfl rfl ?_
  refine j_iconst h dL_law_1397 ?_
  refine j_iadd h dL_law_1398 ?_
  refine j_sld h hX hL (by omega) (by omega) dL_law_1399 ?_
  refine j_callV h (ct_R (fun g0 => q_same hE (okI_of (xs (z + 1).toNat)) (okI_of (xs (z + 2).toNat)))) m_X4_same a_l_L_144 rfl rfl ⟨Nat.le_of_ble_eq_true rfl, Nat.le_of_ble_eq_true rfl⟩ (ci := 4) rfl (by omega) rcL4 rfl rfl (Nat.le_of_ble_eq_true rfl) dL_law_1400 ?_
  exact j_rcmp_eq h 2079 dL_law_1403 (by decide) (fun _ => K _) (fun w => absurd rfl w)
theorem dL_law_1408 : decode cL_law 1408 = .ok (.aload_n 1, 1) := by decide +kernel
theorem dL_law_1409 : decode cL_law 1409 = .ok (.aload_n 0, 1) := by decide +kernel
theorem dL_law_1410 : decode cL_law 1410 = .ok (.iload_n 3, 1) := by decide +kernel
theorem dL_law_1411 : decode cL_law 1411 = .ok (.iconst 1, 1) := by decide +kernel
theorem dL_law_1412 : decode cL_law 1412 = .ok (.iadd, 1) := by decide +kernel
theorem dL_law_1413 : decode cL_law 1413 = .ok (.iaload, 1) := by decide +kernel
theorem dL_law_1414 : decode cL_law 1414 = .ok (.aload_n 0, 1) := by decide +kernel
theorem dL_law_1415 : decode cL_law 1415 = .ok (.iload_n 3, 1) := by decide +kernel
theorem dL_law_1416 : decode cL_law 1416 = .ok (.iconst 2, 1) := by decide +kernel
theorem dL_law_1417 : decode cL_law 1417 = .ok (.iadd, 1) := by decide +kernel
theorem dL_law_1418 : decode cL_law 1418 = .ok (.iaload, 1) := by decide +kernel
theorem dL_law_1419 : decode cL_law 1419 = .ok (.invokevirtual 145, 3) := by decide +kernel
theorem dL_law_1422 : decode cL_law 1422 = .ok (.aload_n 2, 1) := by decide +kernel
theorem dL_law_1423 : decode cL_law 1423 = .ok (.aload_n 0, 1) := by decide +kernel
theorem dL_law_1424 : decode cL_law 1424 = .ok (.iload_n 3, 1) := by decide +kernel
theorem dL_law_1425 : decode cL_law 1425 = .ok (.iconst 1, 1) := by decide +kernel
theorem dL_law_1426 : decode cL_law 1426 = .ok (.iadd, 1) := by decide +kernel
theorem dL_law_1427 : decode cL_law 1427 = .ok (.iaload, 1) := by decide +kernel
theorem dL_law_1428 : decode cL_law 1428 = .ok (.aload_n 0, 1) := by decide +kernel
theorem dL_law_1429 : decode cL_law 1429 = .ok (.iload_n 3, 1) := by decide +kernel
theorem dL_law_1430 : decode cL_law 1430 = .ok (.iconst 2, 1) := by decide +kernel
theorem dL_law_1431 : decode cL_law 1431 = .ok (.iadd, 1) := by decide +kernel
theorem dL_law_1432 : decode cL_law 1432 = .ok (.iaload, 1) := by decide +kernel
theorem dL_law_1433 : decode cL_law 1433 = .ok (.invokevirtual 148, 3) := by decide +kernel
theorem dL_law_1436 : decode cL_law 1436 = .ok (.if_icmp .eq 643, 3) := by decide +kernel
set_option maxHeartbeats 400000 in
set_option maxRecDepth 20000 in
theorem law_30 {E : EV} (hE : EOK E) {q v0 : Nat} (hXS : EXS E q v0) {X : TX} {b L : Nat} {xs : Nat → Int32} (h : CX E X cL_law RL ret room_1 4) (hX : LX X b L xs) (hL : L ≤ 3072) {z : Int} (h0 : 0 ≤ z) (h1 : z ≤ L - 6) {A : AS} (K : ∀ A2 : AS, JL E (LQP E) X 2079 [(3, .int (iI z)), (2, eA E 76), (1, eA E 74), (0, .ref b)] [] (A2, A2)) : JL E (LQP E) X 1408 [(3, .int (iI z)), (2, eA E 76), (1, eA E 74), (0, .ref b)] [] (A, A) := by
  refine j_aload_n h 2 dL_law_1408 rfl rfl ?_
  refine j_aload_n h 3 dL_law_1409 rfl rfl ?_
  refine j_iload_n h 0 dL_law_1410 rfl rfl ?_
  refine j_iconst h dL_law_1411 ?_
  refine j_iadd h dL_law_1412 ?_
  refine j_sld h hX hL (by omega) (by omega) dL_law_1413 ?_
  refine j_aload_n h 3 dL_law_1414 rfl rfl ?_
  refine j_iload_n h 0 dL_law_1415 rfl rfl ?_
  refine j_iconst h dL_law_1416 ?_
  refine j_iadd h dL_law_1417 ?_
  refine j_sld h hX hL (by omega) (by omega) dL_law_1418 ?_
  refine j_callV h (ct_L (fun g0 => p_alike hE (okI_of (xs (z + 1).toNat)) (okI_of (xs (z + 2).toNat)))) m_X3_alike a_l_L_145 rfl rfl ⟨Nat.le_of_ble_eq_true rfl, Nat.le_of_ble_eq_true rfl⟩ (ci := 3) rfl (by omega) rcL3 rfl rfl (Nat.le_of_ble_eq_true rfl) dL_law_1419 ?_
  refine j_aload_n h 1 dL_law_1422 rfl rfl ?_
  refine j_aload_n h 3 dL_law_1423 rfl rfl ?_
  refine j_iload_n h 0 dL_law_1424 rfl rfl ?_
  refine j_iconst h dL_law_1425 ?_
  refine j_iadd h dL_law_1426 ?_
  refine j_sld h hX hL (by omega) (by omega) dL_law_1427 ?_
  refine j_aload_n h 3 dL_law_1428 rfl rfl ?_
  refine j_iload_n h 0 dL_law_1429 rfl rfl ?_
  refine j_iconst h dL_law_1430 ?_
  refine j_iadd h dL_law_1431 ?_
  refine j_sld h hX hL (by omega) (by omega) dL_law_1432 ?_
  refine j_callV h (ct_R (fun g0 => q_alike hE (okI_of (xs (z + 1).toNat)) (okI_of (xs (z + 2).toNat)))) m_X4_alike a_l_L_148 rfl rfl ⟨Nat.le_of_ble_eq_true rfl, Nat.le_of_ble_eq_true rfl⟩ (ci := 4) rfl (by omega) rcL4 rfl rfl (Nat.le_of_ble_eq_true rfl) dL_law_1433 ?_
  exact j_rcmp_eq h 2079 dL_law_1436 (by decide) (fun _ => K _) (fun w => absurd rfl w)
theorem dL_law_1441 : decode cL_law 1441 = .ok (.aload_n 1, 1) := by decide +kernel
theorem dL_law_1442 : decode cL_law 1442 = .ok (.aload_n 0, 1) := by decide +kernel
theorem dL_law_1443 : decode cL_law 1443 = .ok (.iload_n 3, 1) := by decide +kernel
theorem dL_law_1444 : decode cL_law 1444 = .ok (.iconst 1, 1) := by decide +kernel
theorem dL_law_1445 : decode cL_law 1445 = .ok (.iadd, 1) := by decide +kernel
theorem dL_law_1446 : decode cL_law 1446 = .ok (.iaload, 1) := by decide +kernel
theorem dL_law_1447 : decode cL_law 1447 = .ok (.aload_n 0, 1) := by decide +kernel
theorem dL_law_1448 : decode cL_law 1448 = .ok (.iload_n 3, 1) := by decide +kernel
theorem dL_law_1449 : decode cL_law 1449 = .ok (.iconst 2, 1) := by decide +kernel
theorem dL_law_1450 : decode cL_law 1450 = .ok (.iadd, 1) := by decide +kernel
theorem dL_law_1451 : decode cL_law 1451 = .ok (.iaload, 1) := by decide +kernel
theorem dL_law_1452 : decode cL_law 1452 = .ok (.invokevirtual 149, 3) := by decide +kernel
theorem dL_law_1455 : decode cL_law 1455 = .ok (.aload_n 2, 1) := by decide +kernel
theorem dL_law_1456 : decode cL_law 1456 = .ok (.aload_n 0, 1) := by decide +kernel
theorem dL_law_1457 : decode cL_law 1457 = .ok (.iload_n 3, 1) := by decide +kernel
theorem dL_law_1458 : decode cL_law 1458 = .ok (.iconst 1, 1) := by decide +kernel
theorem dL_law_1459 : decode cL_law 1459 = .ok (.iadd, 1) := by decide +kernel
theorem dL_law_1460 : decode cL_law 1460 = .ok (.iaload, 1) := by decide +kernel
theorem dL_law_1461 : decode cL_law 1461 = .ok (.aload_n 0, 1) := by decide +kernel
theorem dL_law_1462 : decode cL_law 1462 = .ok (.iload_n 3, 1) := by decide +kernel
theorem dL_law_1463 : decode cL_law 1463 = .ok (.iconst 2, 1) := by decide +kernel
theorem dL_law_1464 : decode cL_law 1464 = .ok (.iadd, 1) := by decide +kernel
theorem dL_law_1465 : decode cL_law 1465 = .ok (.iaload, 1) := by decide +kernel
theorem dL_law_1466 : decode cL_law 1466 = .ok (.invokevirtual 152, 3) := by decide +kernel
theorem dL_law_1469 : decode cL_law 1469 = .ok (.if_icmp .eq 610, 3) := by decide +kernel
set_option maxHeartbeats 400000 in
set_option maxRecDepth 20000 in
theorem law_31 {E : EV} (hE : EOK E) {q v0 : Nat} (hXS : EXS E q v0) {X : TX} {b L : Nat} {xs : Nat → Int32} (h : CX E X cL_law RL ret room_1 4) (hX : LX X b L xs) (hL : L ≤ 3072) {z : Int} (h0 : 0 ≤ z) (h1 : z ≤ L - 6) {A : AS} (K : ∀ A2 : AS, JL E (LQP E) X 2079 [(3, .int (iI z)), (2, eA E 76), (1, eA E 74), (0, .ref b)] [] (A2, A2)) : JL E (LQP E) X 1441 [(3, .int (iI z)), (2, eA E 76), (1, eA E 74), (0, .ref b)] [] (A, A) := by
  refine j_aload_n h 2 dL_law_1441 rfl rfl ?_
  refine j_aload_n h 3 dL_law_1442 rfl rfl ?_
  refine j_iload_n h 0 dL_law_1443 rfl rfl ?_
  refine j_iconst h dL_law_1444 ?_
  refine j_iadd h dL_law_1445 ?_
  refine j_sld h hX hL (by omega) (by omega) dL_law_1446 ?_
  refine j_aload_n h 3 dL_law_1447 rfl rfl ?_
  refine j_iload_n h 0 dL_law_1448 rfl rfl ?_
  refine j_iconst h dL_law_1449 ?_
  refine j_iadd h dL_law_1450 ?_
  refine j_sld h hX hL (by omega) (by omega) dL_law_1451 ?_
  refine j_callV h (ct_L (fun g0 => p_compare hE (okI_of (xs (z + 1).toNat)) (okI_of (xs (z + 2).toNat)))) m_X3_compare a_l_L_149 rfl rfl ⟨Nat.le_of_ble_eq_true rfl, Nat.le_of_ble_eq_true rfl⟩ (ci := 3) rfl (by omega) rcL3 rfl rfl (Nat.le_of_ble_eq_true rfl) dL_law_1452 ?_
  refine j_aload_n h 1 dL_law_1455 rfl rfl ?_
  refine j_aload_n h 3 dL_law_1456 rfl rfl ?_
  refine j_iload_n h 0 dL_law_1457 rfl rfl ?_
  refine j_iconst h dL_law_1458 ?_
  refine j_iadd h dL_law_1459 ?_
  refine j_sld h hX hL (by omega) (by omega) dL_law_1460 ?_
  refine j_aload_n h 3 dL_law_1461 rfl rfl ?_
  refine j_iload_n h 0 dL_law_1462 rfl rfl ?_
  refine j_iconst h dL_law_1463 ?_
  refine j_iadd h dL_law_1464 ?_
  refine j_sld h hX hL (by omega) (by omega) dL_law_1465 ?_
  refine j_callV h (ct_R (fun g0 => q_compare hE (okI_of (xs (z + 1).toNat)) (okI_of (xs (z + 2).toNat)))) m_X4_compare a_l_L_152 rfl rfl ⟨Nat.le_of_ble_eq_true rfl, Nat.le_of_ble_eq_true rfl⟩ (ci := 4) rfl (by omega) rcL4 rfl rfl (Nat.le_of_ble_eq_true rfl) dL_law_1466 ?_
  exact j_rcmp_eq h 2079 dL_law_1469 (by decide) (fun _ => K _) (fun w => absurd rfl w)
theorem dL_law_1474 : decode cL_law 1474 = .ok (.aload_n 1, 1) := by decide +kernel
theorem dL_law_1475 : decode cL_law 1475 = .ok (.aload_n 0, 1) := by decide +kernel
theorem dL_law_1476 : decode cL_law 1476 = .ok (.iload_n 3, 1) := by decide +kernel
theorem dL_law_1477 : decode cL_law 1477 = .ok (.iconst 1, 1) := by decide +kernel
theorem dL_law_1478 : decode cL_law 1478 = .ok (.iadd, 1) := by decide +kernel
theorem dL_law_1479 : decode cL_law 1479 = .ok (.iaload, 1) := by decide +kernel
theorem dL_law_1480 : decode cL_law 1480 = .ok (.aload_n 0, 1) := by decide +kernel
theorem dL_law_1481 : decode cL_law 1481 = .ok (.iload_n 3, 1) := by decide +kernel
theorem dL_law_1482 : decode cL_law 1482 = .ok (.iconst 2, 1) := by decide +kernel
theorem dL_law_1483 : decode cL_law 1483 = .ok (.iadd, 1) := by decide +kernel
theorem dL_law_1484 : decode cL_law 1484 = .ok (.iaload, 1) := by decide +kernel
theorem dL_law_1485 : decode cL_law 1485 = .ok (.invokevirtual 153, 3) := by decide +kernel
theorem dL_law_1488 : decode cL_law 1488 = .ok (.aload_n 2, 1) := by decide +kernel
theorem dL_law_1489 : decode cL_law 1489 = .ok (.aload_n 0, 1) := by decide +kernel
theorem dL_law_1490 : decode cL_law 1490 = .ok (.iload_n 3, 1) := by decide +kernel
theorem dL_law_1491 : decode cL_law 1491 = .ok (.iconst 1, 1) := by decide +kernel
theorem dL_law_1492 : decode cL_law 1492 = .ok (.iadd, 1) := by decide +kernel
theorem dL_law_1493 : decode cL_law 1493 = .ok (.iaload, 1) := by decide +kernel
theorem dL_law_1494 : decode cL_law 1494 = .ok (.aload_n 0, 1) := by decide +kernel
theorem dL_law_1495 : decode cL_law 1495 = .ok (.iload_n 3, 1) := by decide +kernel
theorem dL_law_1496 : decode cL_law 1496 = .ok (.iconst 2, 1) := by decide +kernel
theorem dL_law_1497 : decode cL_law 1497 = .ok (.iadd, 1) := by decide +kernel
theorem dL_law_1498 : decode cL_law 1498 = .ok (.iaload, 1) := by decide +kernel
theorem dL_law_1499 : decode cL_law 1499 = .ok (.invokevirtual 156, 3) := by decide +kernel
theorem dL_law_1502 : decode cL_law 1502 = .ok (.if_icmp .eq 577, 3) := by decide +kernel
set_option maxHeartbeats 400000 in
set_option maxRecDepth 20000 in
theorem law_32 {E : EV} (hE : EOK E) {q v0 : Nat} (hXS : EXS E q v0) {X : TX} {b L : Nat} {xs : Nat → Int32} (h : CX E X cL_law RL ret room_1 4) (hX : LX X b L xs) (hL : L ≤ 3072) {z : Int} (h0 : 0 ≤ z) (h1 : z ≤ L - 6) {A : AS} (K : ∀ A2 : AS, JL E (LQP E) X 2079 [(3, .int (iI z)), (2, eA E 76), (1, eA E 74), (0, .ref b)] [] (A2, A2)) : JL E (LQP E) X 1474 [(3, .int (iI z)), (2, eA E 76), (1, eA E 74), (0, .ref b)] [] (A, A) := by
  refine j_aload_n h 2 dL_law_1474 rfl rfl ?_
  refine j_aload_n h 3 dL_law_1475 rfl rfl ?_
  refine j_iload_n h 0 dL_law_1476 rfl rfl ?_
  refine j_iconst h dL_law_1477 ?_
  refine j_iadd h dL_law_1478 ?_
  refine j_sld h hX hL (by omega) (by omega) dL_law_1479 ?_
  refine j_aload_n h 3 dL_law_1480 rfl rfl ?_
  refine j_iload_n h 0 dL_law_1481 rfl rfl ?_
  refine j_iconst h dL_law_1482 ?_
  refine j_iadd h dL_law_1483 ?_
  refine j_sld h hX hL (by omega) (by omega) dL_law_1484 ?_
  refine j_callV h (ct_L (fun g0 => p_compareAlike hE (okI_of (xs (z + 1).toNat)) (okI_of (xs (z + 2).toNat)))) m_X3_compareAlike a_l_L_153 rfl rfl ⟨Nat.le_of_ble_eq_true rfl, Nat.le_of_ble_eq_true rfl⟩ (ci := 3) rfl (by omega) rcL3 rfl rfl (Nat.le_of_ble_eq_true rfl) dL_law_1485 ?_
  refine j_aload_n h 1 dL_law_1488 rfl rfl ?_
  refine j_aload_n h 3 dL_law_1489 rfl rfl ?_
  refine j_iload_n h 0 dL_law_1490 rfl rfl ?_
  refine j_iconst h dL_law_1491 ?_
  refine j_iadd h dL_law_1492 ?_
  refine j_sld h hX hL (by omega) (by omega) dL_law_1493 ?_
  refine j_aload_n h 3 dL_law_1494 rfl rfl ?_
  refine j_iload_n h 0 dL_law_1495 rfl rfl ?_
  refine j_iconst h dL_law_1496 ?_
  refine j_iadd h dL_law_1497 ?_
  refine j_sld h hX hL (by omega) (by omega) dL_law_1498 ?_
  refine j_callV h (ct_R (fun g0 => q_compareAlike hE (okI_of (xs (z + 1).toNat)) (okI_of (xs (z + 2).toNat)))) m_X4_compareAlike a_l_L_156 rfl rfl ⟨Nat.le_of_ble_eq_true rfl, Nat.le_of_ble_eq_true rfl⟩ (ci := 4) rfl (by omega) rcL4 rfl rfl (Nat.le_of_ble_eq_true rfl) dL_law_1499 ?_
  exact j_rcmp_eq h 2079 dL_law_1502 (by decide) (fun _ => K _) (fun w => absurd rfl w)
theorem dL_law_1507 : decode cL_law 1507 = .ok (.aload_n 1, 1) := by decide +kernel
theorem dL_law_1508 : decode cL_law 1508 = .ok (.aload_n 0, 1) := by decide +kernel
theorem dL_law_1509 : decode cL_law 1509 = .ok (.iload_n 3, 1) := by decide +kernel
theorem dL_law_1510 : decode cL_law 1510 = .ok (.iconst 1, 1) := by decide +kernel
theorem dL_law_1511 : decode cL_law 1511 = .ok (.iadd, 1) := by decide +kernel
theorem dL_law_1512 : decode cL_law 1512 = .ok (.iaload, 1) := by decide +kernel
theorem dL_law_1513 : decode cL_law 1513 = .ok (.aload_n 0, 1) := by decide +kernel
theorem dL_law_1514 : decode cL_law 1514 = .ok (.iload_n 3, 1) := by decide +kernel
theorem dL_law_1515 : decode cL_law 1515 = .ok (.iconst 2, 1) := by decide +kernel
theorem dL_law_1516 : decode cL_law 1516 = .ok (.iadd, 1) := by decide +kernel
theorem dL_law_1517 : decode cL_law 1517 = .ok (.iaload, 1) := by decide +kernel
theorem dL_law_1518 : decode cL_law 1518 = .ok (.aload_n 0, 1) := by decide +kernel
theorem dL_law_1519 : decode cL_law 1519 = .ok (.iload_n 3, 1) := by decide +kernel
theorem dL_law_1520 : decode cL_law 1520 = .ok (.iconst 3, 1) := by decide +kernel
theorem dL_law_1521 : decode cL_law 1521 = .ok (.iadd, 1) := by decide +kernel
theorem dL_law_1522 : decode cL_law 1522 = .ok (.iaload, 1) := by decide +kernel
theorem dL_law_1523 : decode cL_law 1523 = .ok (.aload_n 0, 1) := by decide +kernel
theorem dL_law_1524 : decode cL_law 1524 = .ok (.iload_n 3, 1) := by decide +kernel
theorem dL_law_1525 : decode cL_law 1525 = .ok (.iconst 4, 1) := by decide +kernel
theorem dL_law_1526 : decode cL_law 1526 = .ok (.iadd, 1) := by decide +kernel
theorem dL_law_1527 : decode cL_law 1527 = .ok (.iaload, 1) := by decide +kernel
theorem dL_law_1528 : decode cL_law 1528 = .ok (.invokevirtual 157, 3) := by decide +kernel
theorem dL_law_1531 : decode cL_law 1531 = .ok (.aload_n 2, 1) := by decide +kernel
theorem dL_law_1532 : decode cL_law 1532 = .ok (.aload_n 0, 1) := by decide +kernel
theorem dL_law_1533 : decode cL_law 1533 = .ok (.iload_n 3, 1) := by decide +kernel
theorem dL_law_1534 : decode cL_law 1534 = .ok (.iconst 1, 1) := by decide +kernel
theorem dL_law_1535 : decode cL_law 1535 = .ok (.iadd, 1) := by decide +kernel
theorem dL_law_1536 : decode cL_law 1536 = .ok (.iaload, 1) := by decide +kernel
theorem dL_law_1537 : decode cL_law 1537 = .ok (.aload_n 0, 1) := by decide +kernel
theorem dL_law_1538 : decode cL_law 1538 = .ok (.iload_n 3, 1) := by decide +kernel
theorem dL_law_1539 : decode cL_law 1539 = .ok (.iconst 2, 1) := by decide +kernel
theorem dL_law_1540 : decode cL_law 1540 = .ok (.iadd, 1) := by decide +kernel
theorem dL_law_1541 : decode cL_law 1541 = .ok (.iaload, 1) := by decide +kernel
theorem dL_law_1542 : decode cL_law 1542 = .ok (.aload_n 0, 1) := by decide +kernel
theorem dL_law_1543 : decode cL_law 1543 = .ok (.iload_n 3, 1) := by decide +kernel
theorem dL_law_1544 : decode cL_law 1544 = .ok (.iconst 3, 1) := by decide +kernel
theorem dL_law_1545 : decode cL_law 1545 = .ok (.iadd, 1) := by decide +kernel
theorem dL_law_1546 : decode cL_law 1546 = .ok (.iaload, 1) := by decide +kernel
theorem dL_law_1547 : decode cL_law 1547 = .ok (.aload_n 0, 1) := by decide +kernel
theorem dL_law_1548 : decode cL_law 1548 = .ok (.iload_n 3, 1) := by decide +kernel
theorem dL_law_1549 : decode cL_law 1549 = .ok (.iconst 4, 1) := by decide +kernel
theorem dL_law_1550 : decode cL_law 1550 = .ok (.iadd, 1) := by decide +kernel
theorem dL_law_1551 : decode cL_law 1551 = .ok (.iaload, 1) := by decide +kernel
theorem dL_law_1552 : decode cL_law 1552 = .ok (.invokevirtual 160, 3) := by decide +kernel
theorem dL_law_1555 : decode cL_law 1555 = .ok (.if_icmp .eq 524, 3) := by decide +kernel
set_option maxHeartbeats 400000 in
set_option maxRecDepth 20000 in
theorem law_33 {E : EV} (hE : EOK E) {q v0 : Nat} (hXS : EXS E q v0) {X : TX} {b L : Nat} {xs : Nat → Int32} (h : CX E X cL_law RL ret room_1 4) (hX : LX X b L xs) (hL : L ≤ 3072) {z : Int} (h0 : 0 ≤ z) (h1 : z ≤ L - 6) {A : AS} (K : ∀ A2 : AS, JL E (LQP E) X 2079 [(3, .int (iI z)), (2, eA E 76), (1, eA E 74), (0, .ref b)] [] (A2, A2)) : JL E (LQP E) X 1507 [(3, .int (iI z)), (2, eA E 76), (1, eA E 74), (0, .ref b)] [] (A, A) := by
  refine j_aload_n h 2 dL_law_1507 rfl rfl ?_
  refine j_aload_n h 3 dL_law_1508 rfl rfl ?_
  refine j_iload_n h 0 dL_law_1509 rfl rfl ?_
  refine j_iconst h dL_law_1510 ?_
  refine j_iadd h dL_law_1511 ?_
  refine j_sld h hX hL (by omega) (by omega) dL_law_1512 ?_
  refine j_aload_n h 3 dL_law_1513 rfl rfl ?_
  refine j_iload_n h 0 dL_law_1514 rfl rfl ?_
  refine j_iconst h dL_law_1515 ?_
  refine j_iadd h dL_law_1516 ?_
  refine j_sld h hX hL (by omega) (by omega) dL_law_1517 ?_
  refine j_aload_n h 3 dL_law_1518 rfl rfl ?_
  refine j_iload_n h 0 dL_law_1519 rfl rfl ?_
  refine j_iconst h dL_law_1520 ?_
  refine j_iadd h dL_law_1521 ?_
  refine j_sld h hX hL (by omega) (by omega) dL_law_1522 ?_
  refine j_aload_n h 3 dL_law_1523 rfl rfl ?_
  refine j_iload_n h 0 dL_law_1524 rfl rfl ?_
  refine j_iconst h dL_law_1525 ?_
  refine j_iadd h dL_law_1526 ?_
  refine j_sld h hX hL (by omega) (by omega) dL_law_1527 ?_
  refine j_callV h (ct_L (fun g0 => p_replaceSign hE (okI_of (xs (z + 1).toNat)) (okI_of (xs (z + 2).toNat)) (okI_of (xs (z + 3).toNat)) (okI_of (xs (z + 4).toNat)))) m_X3_replaceSign a_l_L_157 rfl rfl ⟨Nat.le_of_ble_eq_true rfl, Nat.le_of_ble_eq_true rfl⟩ (ci := 3) rfl (by omega) rcL3 rfl rfl (Nat.le_of_ble_eq_true rfl) dL_law_1528 ?_
  refine j_aload_n h 1 dL_law_1531 rfl rfl ?_
  refine j_aload_n h 3 dL_law_1532 rfl rfl ?_
  refine j_iload_n h 0 dL_law_1533 rfl rfl ?_
  refine j_iconst h dL_law_1534 ?_
  refine j_iadd h dL_law_1535 ?_
  refine j_sld h hX hL (by omega) (by omega) dL_law_1536 ?_
  refine j_aload_n h 3 dL_law_1537 rfl rfl ?_
  refine j_iload_n h 0 dL_law_1538 rfl rfl ?_
  refine j_iconst h dL_law_1539 ?_
  refine j_iadd h dL_law_1540 ?_
  refine j_sld h hX hL (by omega) (by omega) dL_law_1541 ?_
  refine j_aload_n h 3 dL_law_1542 rfl rfl ?_
  refine j_iload_n h 0 dL_law_1543 rfl rfl ?_
  refine j_iconst h dL_law_1544 ?_
  refine j_iadd h dL_law_1545 ?_
  refine j_sld h hX hL (by omega) (by omega) dL_law_1546 ?_
  refine j_aload_n h 3 dL_law_1547 rfl rfl ?_
  refine j_iload_n h 0 dL_law_1548 rfl rfl ?_
  refine j_iconst h dL_law_1549 ?_
  refine j_iadd h dL_law_1550 ?_
  refine j_sld h hX hL (by omega) (by omega) dL_law_1551 ?_
  refine j_callV h (ct_R (fun g0 => q_replaceSign hE (okI_of (xs (z + 1).toNat)) (okI_of (xs (z + 2).toNat)) (okI_of (xs (z + 3).toNat)) (okI_of (xs (z + 4).toNat)))) m_X4_replaceSign a_l_L_160 rfl rfl ⟨Nat.le_of_ble_eq_true rfl, Nat.le_of_ble_eq_true rfl⟩ (ci := 4) rfl (by omega) rcL4 rfl rfl (Nat.le_of_ble_eq_true rfl) dL_law_1552 ?_
  exact j_rcmp_eq h 2079 dL_law_1555 (by decide) (fun _ => K _) (fun w => absurd rfl w)
theorem dL_law_1560 : decode cL_law 1560 = .ok (.aload_n 1, 1) := by decide +kernel
theorem dL_law_1561 : decode cL_law 1561 = .ok (.aload_n 0, 1) := by decide +kernel
theorem dL_law_1562 : decode cL_law 1562 = .ok (.iload_n 3, 1) := by decide +kernel
theorem dL_law_1563 : decode cL_law 1563 = .ok (.iconst 1, 1) := by decide +kernel
theorem dL_law_1564 : decode cL_law 1564 = .ok (.iadd, 1) := by decide +kernel
theorem dL_law_1565 : decode cL_law 1565 = .ok (.iaload, 1) := by decide +kernel
theorem dL_law_1566 : decode cL_law 1566 = .ok (.aload_n 0, 1) := by decide +kernel
theorem dL_law_1567 : decode cL_law 1567 = .ok (.iload_n 3, 1) := by decide +kernel
theorem dL_law_1568 : decode cL_law 1568 = .ok (.iconst 2, 1) := by decide +kernel
theorem dL_law_1569 : decode cL_law 1569 = .ok (.iadd, 1) := by decide +kernel
theorem dL_law_1570 : decode cL_law 1570 = .ok (.iaload, 1) := by decide +kernel
theorem dL_law_1571 : decode cL_law 1571 = .ok (.aload_n 0, 1) := by decide +kernel
theorem dL_law_1572 : decode cL_law 1572 = .ok (.iload_n 3, 1) := by decide +kernel
theorem dL_law_1573 : decode cL_law 1573 = .ok (.iconst 3, 1) := by decide +kernel
theorem dL_law_1574 : decode cL_law 1574 = .ok (.iadd, 1) := by decide +kernel
theorem dL_law_1575 : decode cL_law 1575 = .ok (.iaload, 1) := by decide +kernel
theorem dL_law_1576 : decode cL_law 1576 = .ok (.aload_n 0, 1) := by decide +kernel
theorem dL_law_1577 : decode cL_law 1577 = .ok (.iload_n 3, 1) := by decide +kernel
theorem dL_law_1578 : decode cL_law 1578 = .ok (.iconst 4, 1) := by decide +kernel
theorem dL_law_1579 : decode cL_law 1579 = .ok (.iadd, 1) := by decide +kernel
theorem dL_law_1580 : decode cL_law 1580 = .ok (.iaload, 1) := by decide +kernel
theorem dL_law_1581 : decode cL_law 1581 = .ok (.invokevirtual 161, 3) := by decide +kernel
theorem dL_law_1584 : decode cL_law 1584 = .ok (.aload_n 2, 1) := by decide +kernel
theorem dL_law_1585 : decode cL_law 1585 = .ok (.aload_n 0, 1) := by decide +kernel
theorem dL_law_1586 : decode cL_law 1586 = .ok (.iload_n 3, 1) := by decide +kernel
theorem dL_law_1587 : decode cL_law 1587 = .ok (.iconst 1, 1) := by decide +kernel
theorem dL_law_1588 : decode cL_law 1588 = .ok (.iadd, 1) := by decide +kernel
theorem dL_law_1589 : decode cL_law 1589 = .ok (.iaload, 1) := by decide +kernel
theorem dL_law_1590 : decode cL_law 1590 = .ok (.aload_n 0, 1) := by decide +kernel
theorem dL_law_1591 : decode cL_law 1591 = .ok (.iload_n 3, 1) := by decide +kernel
theorem dL_law_1592 : decode cL_law 1592 = .ok (.iconst 2, 1) := by decide +kernel
theorem dL_law_1593 : decode cL_law 1593 = .ok (.iadd, 1) := by decide +kernel
theorem dL_law_1594 : decode cL_law 1594 = .ok (.iaload, 1) := by decide +kernel
theorem dL_law_1595 : decode cL_law 1595 = .ok (.aload_n 0, 1) := by decide +kernel
theorem dL_law_1596 : decode cL_law 1596 = .ok (.iload_n 3, 1) := by decide +kernel
theorem dL_law_1597 : decode cL_law 1597 = .ok (.iconst 3, 1) := by decide +kernel
theorem dL_law_1598 : decode cL_law 1598 = .ok (.iadd, 1) := by decide +kernel
theorem dL_law_1599 : decode cL_law 1599 = .ok (.iaload, 1) := by decide +kernel
theorem dL_law_1600 : decode cL_law 1600 = .ok (.aload_n 0, 1) := by decide +kernel
theorem dL_law_1601 : decode cL_law 1601 = .ok (.iload_n 3, 1) := by decide +kernel
theorem dL_law_1602 : decode cL_law 1602 = .ok (.iconst 4, 1) := by decide +kernel
theorem dL_law_1603 : decode cL_law 1603 = .ok (.iadd, 1) := by decide +kernel
theorem dL_law_1604 : decode cL_law 1604 = .ok (.iaload, 1) := by decide +kernel
theorem dL_law_1605 : decode cL_law 1605 = .ok (.invokevirtual 164, 3) := by decide +kernel
theorem dL_law_1608 : decode cL_law 1608 = .ok (.if_icmp .eq 471, 3) := by decide +kernel
set_option maxHeartbeats 400000 in
set_option maxRecDepth 20000 in
theorem law_34 {E : EV} (hE : EOK E) {q v0 : Nat} (hXS : EXS E q v0) {X : TX} {b L : Nat} {xs : Nat → Int32} (h : CX E X cL_law RL ret room_1 4) (hX : LX X b L xs) (hL : L ≤ 3072) {z : Int} (h0 : 0 ≤ z) (h1 : z ≤ L - 6) {A : AS} (K : ∀ A2 : AS, JL E (LQP E) X 2079 [(3, .int (iI z)), (2, eA E 76), (1, eA E 74), (0, .ref b)] [] (A2, A2)) : JL E (LQP E) X 1560 [(3, .int (iI z)), (2, eA E 76), (1, eA E 74), (0, .ref b)] [] (A, A) := by
  refine j_aload_n h 2 dL_law_1560 rfl rfl ?_
  refine j_aload_n h 3 dL_law_1561 rfl rfl ?_
  refine j_iload_n h 0 dL_law_1562 rfl rfl ?_
  refine j_iconst h dL_law_1563 ?_
  refine j_iadd h dL_law_1564 ?_
  refine j_sld h hX hL (by omega) (by omega) dL_law_1565 ?_
  refine j_aload_n h 3 dL_law_1566 rfl rfl ?_
  refine j_iload_n h 0 dL_law_1567 rfl rfl ?_
  refine j_iconst h dL_law_1568 ?_
  refine j_iadd h dL_law_1569 ?_
  refine j_sld h hX hL (by omega) (by omega) dL_law_1570 ?_
  refine j_aload_n h 3 dL_law_1571 rfl rfl ?_
  refine j_iload_n h 0 dL_law_1572 rfl rfl ?_
  refine j_iconst h dL_law_1573 ?_
  refine j_iadd h dL_law_1574 ?_
  refine j_sld h hX hL (by omega) (by omega) dL_law_1575 ?_
  refine j_aload_n h 3 dL_law_1576 rfl rfl ?_
  refine j_iload_n h 0 dL_law_1577 rfl rfl ?_
  refine j_iconst h dL_law_1578 ?_
  refine j_iadd h dL_law_1579 ?_
  refine j_sld h hX hL (by omega) (by omega) dL_law_1580 ?_
  refine j_callV h (ct_L (fun g0 => p_replaceText hE (okI_of (xs (z + 1).toNat)) (okI_of (xs (z + 2).toNat)) (okI_of (xs (z + 3).toNat)) (okI_of (xs (z + 4).toNat)))) m_X3_replaceText a_l_L_161 rfl rfl ⟨Nat.le_of_ble_eq_true rfl, Nat.le_of_ble_eq_true rfl⟩ (ci := 3) rfl (by omega) rcL3 rfl rfl (Nat.le_of_ble_eq_true rfl) dL_law_1581 ?_
  refine j_aload_n h 1 dL_law_1584 rfl rfl ?_
  refine j_aload_n h 3 dL_law_1585 rfl rfl ?_
  refine j_iload_n h 0 dL_law_1586 rfl rfl ?_
  refine j_iconst h dL_law_1587 ?_
  refine j_iadd h dL_law_1588 ?_
  refine j_sld h hX hL (by omega) (by omega) dL_law_1589 ?_
  refine j_aload_n h 3 dL_law_1590 rfl rfl ?_
  refine j_iload_n h 0 dL_law_1591 rfl rfl ?_
  refine j_iconst h dL_law_1592 ?_
  refine j_iadd h dL_law_1593 ?_
  refine j_sld h hX hL (by omega) (by omega) dL_law_1594 ?_
  refine j_aload_n h 3 dL_law_1595 rfl rfl ?_
  refine j_iload_n h 0 dL_law_1596 rfl rfl ?_
  refine j_iconst h dL_law_1597 ?_
  refine j_iadd h dL_law_1598 ?_
  refine j_sld h hX hL (by omega) (by omega) dL_law_1599 ?_
  refine j_aload_n h 3 dL_law_1600 rfl rfl ?_
  refine j_iload_n h 0 dL_law_1601 rfl rfl ?_
  refine j_iconst h dL_law_1602 ?_
  refine j_iadd h dL_law_1603 ?_
  refine j_sld h hX hL (by omega) (by omega) dL_law_1604 ?_
  refine j_callV h (ct_R (fun g0 => q_replaceText hE (okI_of (xs (z + 1).toNat)) (okI_of (xs (z + 2).toNat)) (okI_of (xs (z + 3).toNat)) (okI_of (xs (z + 4).toNat)))) m_X4_replaceText a_l_L_164 rfl rfl ⟨Nat.le_of_ble_eq_true rfl, Nat.le_of_ble_eq_true rfl⟩ (ci := 4) rfl (by omega) rcL4 rfl rfl (Nat.le_of_ble_eq_true rfl) dL_law_1605 ?_
  exact j_rcmp_eq h 2079 dL_law_1608 (by decide) (fun _ => K _) (fun w => absurd rfl w)
theorem dL_law_1613 : decode cL_law 1613 = .ok (.aload_n 1, 1) := by decide +kernel
theorem dL_law_1614 : decode cL_law 1614 = .ok (.aload_n 0, 1) := by decide +kernel
theorem dL_law_1615 : decode cL_law 1615 = .ok (.iload_n 3, 1) := by decide +kernel
theorem dL_law_1616 : decode cL_law 1616 = .ok (.iconst 1, 1) := by decide +kernel
theorem dL_law_1617 : decode cL_law 1617 = .ok (.iadd, 1) := by decide +kernel
theorem dL_law_1618 : decode cL_law 1618 = .ok (.iaload, 1) := by decide +kernel
theorem dL_law_1619 : decode cL_law 1619 = .ok (.aload_n 0, 1) := by decide +kernel
theorem dL_law_1620 : decode cL_law 1620 = .ok (.iload_n 3, 1) := by decide +kernel
theorem dL_law_1621 : decode cL_law 1621 = .ok (.iconst 2, 1) := by decide +kernel
theorem dL_law_1622 : decode cL_law 1622 = .ok (.iadd, 1) := by decide +kernel
theorem dL_law_1623 : decode cL_law 1623 = .ok (.iaload, 1) := by decide +kernel
theorem dL_law_1624 : decode cL_law 1624 = .ok (.invokevirtual 165, 3) := by decide +kernel
theorem dL_law_1627 : decode cL_law 1627 = .ok (.aload_n 2, 1) := by decide +kernel
theorem dL_law_1628 : decode cL_law 1628 = .ok (.aload_n 0, 1) := by decide +kernel
theorem dL_law_1629 : decode cL_law 1629 = .ok (.iload_n 3, 1) := by decide +kernel
theorem dL_law_1630 : decode cL_law 1630 = .ok (.iconst 1, 1) := by decide +kernel
theorem dL_law_1631 : decode cL_law 1631 = .ok (.iadd, 1) := by decide +kernel
theorem dL_law_1632 : decode cL_law 1632 = .ok (.iaload, 1) := by decide +kernel
theorem dL_law_1633 : decode cL_law 1633 = .ok (.aload_n 0, 1) := by decide +kernel
theorem dL_law_1634 : decode cL_law 1634 = .ok (.iload_n 3, 1) := by decide +kernel
theorem dL_law_1635 : decode cL_law 1635 = .ok (.iconst 2, 1) := by decide +kernel
theorem dL_law_1636 : decode cL_law 1636 = .ok (.iadd, 1) := by decide +kernel
theorem dL_law_1637 : decode cL_law 1637 = .ok (.iaload, 1) := by decide +kernel
theorem dL_law_1638 : decode cL_law 1638 = .ok (.invokevirtual 168, 3) := by decide +kernel
theorem dL_law_1641 : decode cL_law 1641 = .ok (.if_icmp .eq 438, 3) := by decide +kernel
set_option maxHeartbeats 400000 in
set_option maxRecDepth 20000 in
theorem law_35 {E : EV} (hE : EOK E) {q v0 : Nat} (hXS : EXS E q v0) {X : TX} {b L : Nat} {xs : Nat → Int32} (h : CX E X cL_law RL ret room_1 4) (hX : LX X b L xs) (hL : L ≤ 3072) {z : Int} (h0 : 0 ≤ z) (h1 : z ≤ L - 6) {A : AS} (K : ∀ A2 : AS, JL E (LQP E) X 2079 [(3, .int (iI z)), (2, eA E 76), (1, eA E 74), (0, .ref b)] [] (A2, A2)) : JL E (LQP E) X 1613 [(3, .int (iI z)), (2, eA E 76), (1, eA E 74), (0, .ref b)] [] (A, A) := by
  refine j_aload_n h 2 dL_law_1613 rfl rfl ?_
  refine j_aload_n h 3 dL_law_1614 rfl rfl ?_
  refine j_iload_n h 0 dL_law_1615 rfl rfl ?_
  refine j_iconst h dL_law_1616 ?_
  refine j_iadd h dL_law_1617 ?_
  refine j_sld h hX hL (by omega) (by omega) dL_law_1618 ?_
  refine j_aload_n h 3 dL_law_1619 rfl rfl ?_
  refine j_iload_n h 0 dL_law_1620 rfl rfl ?_
  refine j_iconst h dL_law_1621 ?_
  refine j_iadd h dL_law_1622 ?_
  refine j_sld h hX hL (by omega) (by omega) dL_law_1623 ?_
  refine j_callV h (ct_L (fun g0 => p_trim hE (okI_of (xs (z + 1).toNat)) (okI_of (xs (z + 2).toNat)))) m_X3_trim a_l_L_165 rfl rfl ⟨Nat.le_of_ble_eq_true rfl, Nat.le_of_ble_eq_true rfl⟩ (ci := 3) rfl (by omega) rcL3 rfl rfl (Nat.le_of_ble_eq_true rfl) dL_law_1624 ?_
  refine j_aload_n h 1 dL_law_1627 rfl rfl ?_
  refine j_aload_n h 3 dL_law_1628 rfl rfl ?_
  refine j_iload_n h 0 dL_law_1629 rfl rfl ?_
  refine j_iconst h dL_law_1630 ?_
  refine j_iadd h dL_law_1631 ?_
  refine j_sld h hX hL (by omega) (by omega) dL_law_1632 ?_
  refine j_aload_n h 3 dL_law_1633 rfl rfl ?_
  refine j_iload_n h 0 dL_law_1634 rfl rfl ?_
  refine j_iconst h dL_law_1635 ?_
  refine j_iadd h dL_law_1636 ?_
  refine j_sld h hX hL (by omega) (by omega) dL_law_1637 ?_
  refine j_callV h (ct_R (fun g0 => q_trim hE (okI_of (xs (z + 1).toNat)) (okI_of (xs (z + 2).toNat)))) m_X4_trim a_l_L_168 rfl rfl ⟨Nat.le_of_ble_eq_true rfl, Nat.le_of_ble_eq_true rfl⟩ (ci := 4) rfl (by omega) rcL4 rfl rfl (Nat.le_of_ble_eq_true rfl) dL_law_1638 ?_
  exact j_rcmp_eq h 2079 dL_law_1641 (by decide) (fun _ => K _) (fun w => absurd rfl w)
