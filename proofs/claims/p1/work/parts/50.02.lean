theorem dL_law_1307 : decode cL_law 1307 = .ok (.aload_n 1, 1) := by decide +kernel
theorem dL_law_1308 : decode cL_law 1308 = .ok (.aload_n 0, 1) := by decide +kernel
theorem dL_law_1309 : decode cL_law 1309 = .ok (.iload 4, 2) := by decide +kernel
theorem dL_law_1311 : decode cL_law 1311 = .ok (.iconst 1, 1) := by decide +kernel
theorem dL_law_1312 : decode cL_law 1312 = .ok (.iadd, 1) := by decide +kernel
theorem dL_law_1313 : decode cL_law 1313 = .ok (.iaload, 1) := by decide +kernel
theorem dL_law_1314 : decode cL_law 1314 = .ok (.aload_n 3, 1) := by decide +kernel
theorem dL_law_1315 : decode cL_law 1315 = .ok (.invokestatic 201, 3) := by decide +kernel
theorem dL_law_1318 : decode cL_law 1318 = .ok (.istore 5, 2) := by decide +kernel
theorem dL_law_1320 : decode cL_law 1320 = .ok (.aload_n 2, 1) := by decide +kernel
theorem dL_law_1321 : decode cL_law 1321 = .ok (.aload_n 0, 1) := by decide +kernel
theorem dL_law_1322 : decode cL_law 1322 = .ok (.iload 4, 2) := by decide +kernel
theorem dL_law_1324 : decode cL_law 1324 = .ok (.iconst 1, 1) := by decide +kernel
theorem dL_law_1325 : decode cL_law 1325 = .ok (.iadd, 1) := by decide +kernel
theorem dL_law_1326 : decode cL_law 1326 = .ok (.iaload, 1) := by decide +kernel
theorem dL_law_1327 : decode cL_law 1327 = .ok (.invokevirtual 203, 3) := by decide +kernel
theorem dL_law_1330 : decode cL_law 1330 = .ok (.istore 6, 2) := by decide +kernel
theorem dL_law_1332 : decode cL_law 1332 = .ok (.aload_n 2, 1) := by decide +kernel
theorem dL_law_1333 : decode cL_law 1333 = .ok (.invokevirtual 132, 3) := by decide +kernel
theorem dL_law_1336 : decode cL_law 1336 = .ok (.iload 5, 2) := by decide +kernel
theorem dL_law_1338 : decode cL_law 1338 = .ok (.if_icmp .eq 5, 3) := by decide +kernel
theorem dL_law_1343 : decode cL_law 1343 = .ok (.iload 5, 2) := by decide +kernel
theorem dL_law_1345 : decode cL_law 1345 = .ok (.ifCond .ne 15, 3) := by decide +kernel
theorem dL_law_1348 : decode cL_law 1348 = .ok (.aload_n 3, 1) := by decide +kernel
theorem dL_law_1349 : decode cL_law 1349 = .ok (.iconst 0, 1) := by decide +kernel
theorem dL_law_1350 : decode cL_law 1350 = .ok (.laload, 1) := by decide +kernel
theorem dL_law_1351 : decode cL_law 1351 = .ok (.iload 6, 2) := by decide +kernel
theorem dL_law_1353 : decode cL_law 1353 = .ok (.i2l, 1) := by decide +kernel
theorem dL_law_1354 : decode cL_law 1354 = .ok (.lcmp, 1) := by decide +kernel
theorem dL_law_1355 : decode cL_law 1355 = .ok (.ifCond .eq 5, 3) := by decide +kernel
theorem dL_law_1360 : decode cL_law 1360 = .ok (.goto 1098, 3) := by decide +kernel
theorem dL_law_1363 : decode cL_law 1363 = .ok (.aload_n 1, 1) := by decide +kernel
theorem dL_law_1364 : decode cL_law 1364 = .ok (.aload_n 3, 1) := by decide +kernel
theorem dL_law_1365 : decode cL_law 1365 = .ok (.invokestatic 204, 3) := by decide +kernel
theorem dL_law_1368 : decode cL_law 1368 = .ok (.istore 5, 2) := by decide +kernel
theorem dL_law_1370 : decode cL_law 1370 = .ok (.aload_n 2, 1) := by decide +kernel
theorem dL_law_1371 : decode cL_law 1371 = .ok (.invokevirtual 207, 3) := by decide +kernel
theorem dL_law_1374 : decode cL_law 1374 = .ok (.istore 6, 2) := by decide +kernel
theorem dL_law_1376 : decode cL_law 1376 = .ok (.aload_n 2, 1) := by decide +kernel
theorem dL_law_1377 : decode cL_law 1377 = .ok (.invokevirtual 132, 3) := by decide +kernel
theorem dL_law_1380 : decode cL_law 1380 = .ok (.iload 5, 2) := by decide +kernel
theorem dL_law_1382 : decode cL_law 1382 = .ok (.if_icmp .eq 5, 3) := by decide +kernel
theorem dL_law_1387 : decode cL_law 1387 = .ok (.iload 5, 2) := by decide +kernel
theorem dL_law_1389 : decode cL_law 1389 = .ok (.ifCond .ne 15, 3) := by decide +kernel
theorem dL_law_1392 : decode cL_law 1392 = .ok (.aload_n 3, 1) := by decide +kernel
theorem dL_law_1393 : decode cL_law 1393 = .ok (.iconst 0, 1) := by decide +kernel
theorem dL_law_1394 : decode cL_law 1394 = .ok (.laload, 1) := by decide +kernel
theorem dL_law_1395 : decode cL_law 1395 = .ok (.iload 6, 2) := by decide +kernel
theorem dL_law_1397 : decode cL_law 1397 = .ok (.i2l, 1) := by decide +kernel
theorem dL_law_1398 : decode cL_law 1398 = .ok (.lcmp, 1) := by decide +kernel
theorem dL_law_1399 : decode cL_law 1399 = .ok (.ifCond .eq 5, 3) := by decide +kernel
theorem dL_law_1404 : decode cL_law 1404 = .ok (.goto 1054, 3) := by decide +kernel
theorem dL_law_1407 : decode cL_law 1407 = .ok (.aload_n 1, 1) := by decide +kernel
theorem dL_law_1408 : decode cL_law 1408 = .ok (.aload_n 0, 1) := by decide +kernel
theorem dL_law_1409 : decode cL_law 1409 = .ok (.iload 4, 2) := by decide +kernel
theorem dL_law_1411 : decode cL_law 1411 = .ok (.iconst 1, 1) := by decide +kernel
theorem dL_law_1412 : decode cL_law 1412 = .ok (.iadd, 1) := by decide +kernel
theorem dL_law_1413 : decode cL_law 1413 = .ok (.iaload, 1) := by decide +kernel
theorem dL_law_1414 : decode cL_law 1414 = .ok (.aload_n 3, 1) := by decide +kernel
theorem dL_law_1415 : decode cL_law 1415 = .ok (.invokestatic 208, 3) := by decide +kernel
theorem dL_law_1418 : decode cL_law 1418 = .ok (.istore 5, 2) := by decide +kernel
theorem dL_law_1420 : decode cL_law 1420 = .ok (.aload_n 2, 1) := by decide +kernel
theorem dL_law_1421 : decode cL_law 1421 = .ok (.aload_n 0, 1) := by decide +kernel
theorem dL_law_1422 : decode cL_law 1422 = .ok (.iload 4, 2) := by decide +kernel
theorem dL_law_1424 : decode cL_law 1424 = .ok (.iconst 1, 1) := by decide +kernel
theorem dL_law_1425 : decode cL_law 1425 = .ok (.iadd, 1) := by decide +kernel
theorem dL_law_1426 : decode cL_law 1426 = .ok (.iaload, 1) := by decide +kernel
theorem dL_law_1427 : decode cL_law 1427 = .ok (.invokevirtual 210, 3) := by decide +kernel
theorem dL_law_1430 : decode cL_law 1430 = .ok (.istore 6, 2) := by decide +kernel
theorem dL_law_1432 : decode cL_law 1432 = .ok (.aload_n 2, 1) := by decide +kernel
theorem dL_law_1433 : decode cL_law 1433 = .ok (.invokevirtual 132, 3) := by decide +kernel
theorem dL_law_1436 : decode cL_law 1436 = .ok (.iload 5, 2) := by decide +kernel
theorem dL_law_1438 : decode cL_law 1438 = .ok (.if_icmp .eq 5, 3) := by decide +kernel
theorem dL_law_1443 : decode cL_law 1443 = .ok (.iload 5, 2) := by decide +kernel
theorem dL_law_1445 : decode cL_law 1445 = .ok (.ifCond .ne 15, 3) := by decide +kernel
theorem dL_law_1448 : decode cL_law 1448 = .ok (.aload_n 3, 1) := by decide +kernel
theorem dL_law_1449 : decode cL_law 1449 = .ok (.iconst 0, 1) := by decide +kernel
theorem dL_law_1450 : decode cL_law 1450 = .ok (.laload, 1) := by decide +kernel
theorem dL_law_1451 : decode cL_law 1451 = .ok (.iload 6, 2) := by decide +kernel
theorem dL_law_1453 : decode cL_law 1453 = .ok (.i2l, 1) := by decide +kernel
theorem dL_law_1454 : decode cL_law 1454 = .ok (.lcmp, 1) := by decide +kernel
theorem dL_law_1455 : decode cL_law 1455 = .ok (.ifCond .eq 5, 3) := by decide +kernel
theorem dL_law_1460 : decode cL_law 1460 = .ok (.goto 998, 3) := by decide +kernel
theorem dL_law_1463 : decode cL_law 1463 = .ok (.aload_n 1, 1) := by decide +kernel
theorem dL_law_1464 : decode cL_law 1464 = .ok (.aload_n 0, 1) := by decide +kernel
theorem dL_law_1465 : decode cL_law 1465 = .ok (.iload 4, 2) := by decide +kernel
theorem dL_law_1467 : decode cL_law 1467 = .ok (.iconst 1, 1) := by decide +kernel
theorem dL_law_1468 : decode cL_law 1468 = .ok (.iadd, 1) := by decide +kernel
theorem dL_law_1469 : decode cL_law 1469 = .ok (.iaload, 1) := by decide +kernel
theorem dL_law_1470 : decode cL_law 1470 = .ok (.aload_n 3, 1) := by decide +kernel
theorem dL_law_1471 : decode cL_law 1471 = .ok (.invokestatic 211, 3) := by decide +kernel
theorem dL_law_1474 : decode cL_law 1474 = .ok (.istore 5, 2) := by decide +kernel
theorem dL_law_1476 : decode cL_law 1476 = .ok (.aload_n 2, 1) := by decide +kernel
theorem dL_law_1477 : decode cL_law 1477 = .ok (.aload_n 0, 1) := by decide +kernel
theorem dL_law_1478 : decode cL_law 1478 = .ok (.iload 4, 2) := by decide +kernel
theorem dL_law_1480 : decode cL_law 1480 = .ok (.iconst 1, 1) := by decide +kernel
theorem dL_law_1481 : decode cL_law 1481 = .ok (.iadd, 1) := by decide +kernel
theorem dL_law_1482 : decode cL_law 1482 = .ok (.iaload, 1) := by decide +kernel
theorem dL_law_1483 : decode cL_law 1483 = .ok (.invokevirtual 213, 3) := by decide +kernel
theorem dL_law_1486 : decode cL_law 1486 = .ok (.istore 6, 2) := by decide +kernel
theorem dL_law_1488 : decode cL_law 1488 = .ok (.aload_n 2, 1) := by decide +kernel
theorem dL_law_1489 : decode cL_law 1489 = .ok (.invokevirtual 132, 3) := by decide +kernel
theorem dL_law_1492 : decode cL_law 1492 = .ok (.iload 5, 2) := by decide +kernel
theorem dL_law_1494 : decode cL_law 1494 = .ok (.if_icmp .eq 5, 3) := by decide +kernel
theorem dL_law_1499 : decode cL_law 1499 = .ok (.iload 5, 2) := by decide +kernel
theorem dL_law_1501 : decode cL_law 1501 = .ok (.ifCond .ne 15, 3) := by decide +kernel
theorem dL_law_1504 : decode cL_law 1504 = .ok (.aload_n 3, 1) := by decide +kernel
theorem dL_law_1505 : decode cL_law 1505 = .ok (.iconst 0, 1) := by decide +kernel
theorem dL_law_1506 : decode cL_law 1506 = .ok (.laload, 1) := by decide +kernel
theorem dL_law_1507 : decode cL_law 1507 = .ok (.iload 6, 2) := by decide +kernel
theorem dL_law_1509 : decode cL_law 1509 = .ok (.i2l, 1) := by decide +kernel
theorem dL_law_1510 : decode cL_law 1510 = .ok (.lcmp, 1) := by decide +kernel
theorem dL_law_1511 : decode cL_law 1511 = .ok (.ifCond .eq 5, 3) := by decide +kernel
theorem dL_law_1516 : decode cL_law 1516 = .ok (.goto 942, 3) := by decide +kernel
theorem dL_law_1519 : decode cL_law 1519 = .ok (.aload_n 1, 1) := by decide +kernel
theorem dL_law_1520 : decode cL_law 1520 = .ok (.invokevirtual 214, 3) := by decide +kernel
theorem dL_law_1523 : decode cL_law 1523 = .ok (.aload_n 2, 1) := by decide +kernel
theorem dL_law_1524 : decode cL_law 1524 = .ok (.invokevirtual 217, 3) := by decide +kernel
theorem dL_law_1527 : decode cL_law 1527 = .ok (.if_icmp .eq 931, 3) := by decide +kernel
theorem dL_law_1532 : decode cL_law 1532 = .ok (.aload_n 1, 1) := by decide +kernel
theorem dL_law_1533 : decode cL_law 1533 = .ok (.aload_n 0, 1) := by decide +kernel
theorem dL_law_1534 : decode cL_law 1534 = .ok (.iload 4, 2) := by decide +kernel
theorem dL_law_1536 : decode cL_law 1536 = .ok (.iconst 1, 1) := by decide +kernel
theorem dL_law_1537 : decode cL_law 1537 = .ok (.iadd, 1) := by decide +kernel
theorem dL_law_1538 : decode cL_law 1538 = .ok (.iaload, 1) := by decide +kernel
theorem dL_law_1539 : decode cL_law 1539 = .ok (.aload_n 3, 1) := by decide +kernel
theorem dL_law_1540 : decode cL_law 1540 = .ok (.invokestatic 218, 3) := by decide +kernel
theorem dL_law_1543 : decode cL_law 1543 = .ok (.istore 5, 2) := by decide +kernel
theorem dL_law_1545 : decode cL_law 1545 = .ok (.aload_n 2, 1) := by decide +kernel
theorem dL_law_1546 : decode cL_law 1546 = .ok (.aload_n 0, 1) := by decide +kernel
theorem dL_law_1547 : decode cL_law 1547 = .ok (.iload 4, 2) := by decide +kernel
theorem dL_law_1549 : decode cL_law 1549 = .ok (.iconst 1, 1) := by decide +kernel
theorem dL_law_1550 : decode cL_law 1550 = .ok (.iadd, 1) := by decide +kernel
theorem dL_law_1551 : decode cL_law 1551 = .ok (.iaload, 1) := by decide +kernel
theorem dL_law_1552 : decode cL_law 1552 = .ok (.invokevirtual 220, 3) := by decide +kernel
theorem dL_law_1555 : decode cL_law 1555 = .ok (.istore 6, 2) := by decide +kernel
theorem dL_law_1557 : decode cL_law 1557 = .ok (.aload_n 2, 1) := by decide +kernel
theorem dL_law_1558 : decode cL_law 1558 = .ok (.invokevirtual 132, 3) := by decide +kernel
theorem dL_law_1561 : decode cL_law 1561 = .ok (.iload 5, 2) := by decide +kernel
theorem dL_law_1563 : decode cL_law 1563 = .ok (.if_icmp .eq 5, 3) := by decide +kernel
theorem dL_law_1568 : decode cL_law 1568 = .ok (.iload 5, 2) := by decide +kernel
theorem dL_law_1570 : decode cL_law 1570 = .ok (.ifCond .ne 15, 3) := by decide +kernel
theorem dL_law_1573 : decode cL_law 1573 = .ok (.aload_n 3, 1) := by decide +kernel
theorem dL_law_1574 : decode cL_law 1574 = .ok (.iconst 0, 1) := by decide +kernel
theorem dL_law_1575 : decode cL_law 1575 = .ok (.laload, 1) := by decide +kernel
theorem dL_law_1576 : decode cL_law 1576 = .ok (.iload 6, 2) := by decide +kernel
theorem dL_law_1578 : decode cL_law 1578 = .ok (.i2l, 1) := by decide +kernel
theorem dL_law_1579 : decode cL_law 1579 = .ok (.lcmp, 1) := by decide +kernel
theorem dL_law_1580 : decode cL_law 1580 = .ok (.ifCond .eq 5, 3) := by decide +kernel
theorem dL_law_1585 : decode cL_law 1585 = .ok (.goto 873, 3) := by decide +kernel
set_option maxHeartbeats 4000000 in
set_option maxRecDepth 100000 in
theorem law_c21 {p : Program} {l : Launch} {e : Env} {s : State} {m : MethodId} {below : List Frame} {meth : Method} {c : Code} {b : Nat} {xs : Nat → Int32} {D : va_G} {cy : Nat → ClassId} {A : Nat → Prop} (hlT : l.stackTraces = false) (F : Fx D cy p m c cL_law 8 s #[Value.ref b] lw_tbl RL A) (hr : meth.sig.returnType = ret) (hlk : meth.locks = false) (hX : va_X b 6 xs s s.heap) (hbl : b < s.heap.size) (hbA : ¬ A b) (hAq : ∀ q, A q → s.heap.size ≤ q) {H : Heap} {locs : List Loc} {ls : Array Slot} (n1900 n1000 n1001 n1017 n1034 n1039 n1041 n1042 n1043 n1044 n1048 n1056 n1057 n1002 n1003 n1004 n1005 n1006 n1007 n1008 n1009 n1010 n1011 n1012 n1013 n1045 n1046 n1047 n3900 n3000 n3001 n3002 n3003 n3004 n3005 n3006 n3007 n3008 n3009 n3010 n3011 n3012 n3013 n3014 n3015 n3016 n3017 n3018 n5000 : Nat) (hP : va_P D vwCl [(n1900, .inr (11, [.ref n1000, .int 0, .ref n1001, .ref n1017, .ref n1034, .ref n1039, .ref n1041, .ref n1042, .ref n1043, .ref n1044, .ref n1048, .ref n1056, .ref n1057, .int 0])), (n1001, .inr (9, [.int 0, .int 0, .int 0, .int 0, .int 0, .ref n1002, .ref n1003, .ref n1004, .ref n1005, .ref n1006, .ref n1007, .ref n1008, .int 0, .ref n1009, .ref n1010, .ref n1011, .ref n1012, .ref n1013])), (n1044, .inr (5, [.ref n1001, .ref n1034, .ref n1045, .int 0, .int 0, .ref n1046, .ref n1047, .int 0, .int 0])), (n1046, .inl (cy 1, 8, .inl (fun _ => 0))), (n1047, .inl (cy 1, 8, .inl (fun _ => 0))), (n3900, .inr (12, [.ref n3000, .ref n3001, .ref n3002, .ref n3003, .int 0, .ref n3004, .int 0, .int 0, .int 0, .int 0, .int 0, .int 0, .int 0, .int 0, .int 0, .int (-1), .int 0, .ref n3005, .ref n3006, .int 0, .ref n3007, .ref n3008, .int 0, .int 0, .int 0, .int 0, .int 0, .int 0, .int 0, .ref n3009, .ref n3010, .int 0, .int 0, .ref n3011, .ref n3012, .int 0, .int 0, .ref n3013, .ref n3014, .ref n3015, .int 0, .ref n3016, .ref n3017, .ref n3018])), (n3000, .inl (cy 1, 1300, .inl (fun _ => 0))), (n3006, .inl (cy 1, 18, .inl (fun _ => 0))), (n5000, .inl (cy 2, 1, .inr (.inl (fun _ => 0))))] H) (hD : va_D A [(n1900, .inr (11, [.ref n1000, .int 0, .ref n1001, .ref n1017, .ref n1034, .ref n1039, .ref n1041, .ref n1042, .ref n1043, .ref n1044, .ref n1048, .ref n1056, .ref n1057, .int 0])), (n1001, .inr (9, [.int 0, .int 0, .int 0, .int 0, .int 0, .ref n1002, .ref n1003, .ref n1004, .ref n1005, .ref n1006, .ref n1007, .ref n1008, .int 0, .ref n1009, .ref n1010, .ref n1011, .ref n1012, .ref n1013])), (n1044, .inr (5, [.ref n1001, .ref n1034, .ref n1045, .int 0, .int 0, .ref n1046, .ref n1047, .int 0, .int 0])), (n1046, .inl (cy 1, 8, .inl (fun _ => 0))), (n1047, .inl (cy 1, 8, .inl (fun _ => 0))), (n3900, .inr (12, [.ref n3000, .ref n3001, .ref n3002, .ref n3003, .int 0, .ref n3004, .int 0, .int 0, .int 0, .int 0, .int 0, .int 0, .int 0, .int 0, .int 0, .int (-1), .int 0, .ref n3005, .ref n3006, .int 0, .ref n3007, .ref n3008, .int 0, .int 0, .int 0, .int 0, .int 0, .int 0, .int 0, .ref n3009, .ref n3010, .int 0, .int 0, .ref n3011, .ref n3012, .int 0, .int 0, .ref n3013, .ref n3014, .ref n3015, .int 0, .ref n3016, .ref n3017, .ref n3018])), (n3000, .inl (cy 1, 1300, .inl (fun _ => 0))), (n3006, .inl (cy 1, 18, .inl (fun _ => 0))), (n5000, .inl (cy 2, 1, .inr (.inl (fun _ => 0))))]) (hS : va_S A s.heap H locs) (hl : lv_has ls 8 [(4, .int 0), (3, .ref n5000), (2, .ref n3900), (1, .ref n1900), (0, .ref b)]) : W p l e room_1 s m #[Value.ref b] below meth c H locs 152 18765 (lw_Z below #[Value.ref b] s) (F0 m 1307 ls []) := by
  obtain ⟨⟨hx, hb, hml, hown, hts⟩, hK, hG, hZ, hA⟩ := id F
  obtain ⟨z1, ez1⟩ : ∃ z, xs 1 = z := ⟨_, rfl⟩
  obtain ⟨z2, ez2⟩ : ∃ z, xs 2 = z := ⟨_, rfl⟩
  obtain ⟨z3, ez3⟩ : ∃ z, xs 3 = z := ⟨_, rfl⟩
  obtain ⟨z4, ez4⟩ : ∃ z, xs 4 = z := ⟨_, rfl⟩
  obtain ⟨z5, ez5⟩ : ∃ z, xs 5 = z := ⟨_, rfl⟩
  refine lv_aload_n hx hb dL_law_1307 rfl (lv_at hl 3 rfl) ?_
  refine lv_aload_n hx hb dL_law_1308 rfl (lv_at hl 4 rfl) ?_
  refine lv_iload hx hb dL_law_1309 (lv_at hl 0 rfl) ?_
  refine lv_iconst (v := 1) hx hb dL_law_1311 (by decide +kernel) ?_
  refine lv_iadd hx hb dL_law_1312 ?_
  refine top_i (v := 1) (by decide +kernel) ?_
  refine va_sld hx hb hX hbl hbA hS (i := 1) (vin (by decide +kernel)) dL_law_1313 ?_
  refine top_i (v := z1) ez1 ?_
  refine lv_aload_n hx hb dL_law_1314 rfl (lv_at hl 1 rfl) ?_
  refine call_i (av := [.ref n1900, .int z1, .ref n5000]) F hP hD hS [(n1900, .inr (11, [.ref n1000, .int 0, .ref n1001, .ref n1017, .ref n1034, .ref n1039, .ref n1041, .ref n1042, .ref n1043, .ref n1044, .ref n1048, .ref n1056, .ref n1057, .int 0])), (n1001, .inr (9, [.int 0, .int 0, .int 0, .int 0, .int 0, .ref n1002, .ref n1003, .ref n1004, .ref n1005, .ref n1006, .ref n1007, .ref n1008, .int 0, .ref n1009, .ref n1010, .ref n1011, .ref n1012, .ref n1013])), (n1044, .inr (5, [.ref n1001, .ref n1034, .ref n1045, .int 0, .int 0, .ref n1046, .ref n1047, .int 0, .int 0])), (n1046, .inl (cy 1, 8, .inl (fun _ => 0))), (n1047, .inl (cy 1, 8, .inl (fun _ => 0))), (n5000, .inl (cy 2, 1, .inr (.inl (fun _ => 0))))] [(n3900, .inr (12, [.ref n3000, .ref n3001, .ref n3002, .ref n3003, .int 0, .ref n3004, .int 0, .int 0, .int 0, .int 0, .int 0, .int 0, .int 0, .int 0, .int 0, .int (-1), .int 0, .ref n3005, .ref n3006, .int 0, .ref n3007, .ref n3008, .int 0, .int 0, .int 0, .int 0, .int 0, .int 0, .int 0, .ref n3009, .ref n3010, .int 0, .int 0, .ref n3011, .ref n3012, .int 0, .int 0, .ref n3013, .ref n3014, .ref n3015, .int 0, .ref n3016, .ref n3017, .ref n3018])), (n3000, .inl (cy 1, 1300, .inl (fun _ => 0))), (n3006, .inl (cy 1, 18, .inl (fun _ => 0)))] [0, 1, 2, 3, 4, 8] [5, 6, 7] rfl rfl (by decide +kernel) (fun pr => vx_runSW (As := [.ref n1900, .int z1, .ref n5000]) (rest := []) ⟨hx, hb, hml, hown, hts⟩ (k316_L_mending l hlT D cy H.size n1900 z1 n5000 n1001 n1044 n1046 n1047 n1000 n1017 n1034 n1039 n1041 n1042 n1043 n1048 n1056 n1057 n1002 n1003 n1004 n1005 n1006 n1007 n1008 n1009 n1010 n1011 n1012 n1013 n1045) (vx_cwSW 3 hts gw_L_mending rfl rfl rfl (by decide +kernel) ⟨(by decide +kernel), (by decide +kernel)⟩) pr rfl rfl hl.1 rfl (lv_room (Nat.le_of_ble_eq_true rfl)) dL_law_1315 ⟨(by decide +kernel), (by decide +kernel)⟩) (fun r u H locs hw hP hD hS => ?_)
  rcases hw with ⟨c800001, c800002, c800003, rfl, rfl⟩ | ⟨c800004, c800005, c800006, rfl, rfl⟩ | ⟨c800007, rfl, rfl⟩ | ⟨c800008, c800009, rfl, rfl⟩
  · have hP : va_P D vwCl [(n3900, .inr (12, [.ref n3000, .ref n3001, .ref n3002, .ref n3003, .int 0, .ref n3004, .int 0, .int 0, .int 0, .int 0, .int 0, .int 0, .int 0, .int 0, .int 0, .int (-1), .int 0, .ref n3005, .ref n3006, .int 0, .ref n3007, .ref n3008, .int 0, .int 0, .int 0, .int 0, .int 0, .int 0, .int 0, .ref n3009, .ref n3010, .int 0, .int 0, .ref n3011, .ref n3012, .int 0, .int 0, .ref n3013, .ref n3014, .ref n3015, .int 0, .ref n3016, .ref n3017, .ref n3018])), (n3000, .inl (cy 1, 1300, .inl (fun _ => 0))), (n3006, .inl (cy 1, 18, .inl (fun _ => 0))), (n5000, .inl (cy 2, 1, .inr (.inl (fun _ => 0))))] H := hP
    have hD : va_D A [(n3900, .inr (12, [.ref n3000, .ref n3001, .ref n3002, .ref n3003, .int 0, .ref n3004, .int 0, .int 0, .int 0, .int 0, .int 0, .int 0, .int 0, .int 0, .int 0, .int (-1), .int 0, .ref n3005, .ref n3006, .int 0, .ref n3007, .ref n3008, .int 0, .int 0, .int 0, .int 0, .int 0, .int 0, .int 0, .ref n3009, .ref n3010, .int 0, .int 0, .ref n3011, .ref n3012, .int 0, .int 0, .ref n3013, .ref n3014, .ref n3015, .int 0, .ref n3016, .ref n3017, .ref n3018])), (n3000, .inl (cy 1, 1300, .inl (fun _ => 0))), (n3006, .inl (cy 1, 18, .inl (fun _ => 0))), (n5000, .inl (cy 2, 1, .inr (.inl (fun _ => 0))))] := hD
    refine lv_istore (lv' := [(5, .int 1), (4, .int 0), (3, .ref n5000), (2, .ref n3900), (1, .ref n1900), (0, .ref b)]) hx hb dL_law_1318 hl (by decide +kernel) rfl (fun ls hl => ?_)
    refine lv_aload_n hx hb dL_law_1320 rfl (lv_at hl 3 rfl) ?_
    refine lv_aload_n hx hb dL_law_1321 rfl (lv_at hl 5 rfl) ?_
    refine lv_iload hx hb dL_law_1322 (lv_at hl 1 rfl) ?_
    refine lv_iconst (v := 1) hx hb dL_law_1324 (by decide +kernel) ?_
    refine lv_iadd hx hb dL_law_1325 ?_
    refine top_i (v := 1) (by decide +kernel) ?_
    refine va_sld hx hb hX hbl hbA hS (i := 1) (vin (by decide +kernel)) dL_law_1326 ?_
    refine top_i (v := z1) ez1 ?_
    refine call_i (av := [.ref n3900, .int z1]) F hP hD hS [(n3900, .inr (12, [.ref n3000, .ref n3001, .ref n3002, .ref n3003, .int 0, .ref n3004, .int 0, .int 0, .int 0, .int 0, .int 0, .int 0, .int 0, .int 0, .int 0, .int (-1), .int 0, .ref n3005, .ref n3006, .int 0, .ref n3007, .ref n3008, .int 0, .int 0, .int 0, .int 0, .int 0, .int 0, .int 0, .ref n3009, .ref n3010, .int 0, .int 0, .ref n3011, .ref n3012, .int 0, .int 0, .ref n3013, .ref n3014, .ref n3015, .int 0, .ref n3016, .ref n3017, .ref n3018])), (n3000, .inl (cy 1, 1300, .inl (fun _ => 0))), (n3006, .inl (cy 1, 18, .inl (fun _ => 0)))] [(n5000, .inl (cy 2, 1, .inr (.inl (fun _ => 0))))] [0, 1, 2] [3] rfl rfl (by decide +kernel) (fun pr => va_runV (As := [.int z1]) (rest := []) ⟨hx, hb, hml, hown, hts⟩ (k237_X12_mending l D cy H.size n3900 z1 n3000 n3006 n3001 n3002 n3003 n3004 n3005 n3007 n3008 n3009 n3010 n3011 n3012 n3013 n3014 n3015 n3016 n3017 n3018) (cwV 1 hts gw_X12_mending rfl rfl rfl (by decide +kernel) ⟨(by decide +kernel), (by decide +kernel)⟩) ⟨pr.1, va_recv hK hP (ci := 12) (q0 := 0) rfl rfl, pr.2⟩ rfl rfl hl.1 rfl (lv_room (Nat.le_of_ble_eq_true rfl)) dL_law_1327 ⟨(by decide +kernel), (by decide +kernel)⟩) (fun r u H locs hw hP hD hS => ?_)
    rcases hw with ⟨c800010, c800011, rfl, rfl⟩ | ⟨c800012, c800013, c800014, rfl, rfl⟩ | ⟨c800015, c800016, c800017, c800018, rfl, rfl⟩ | ⟨c800019, c800020, c800021, c800022, rfl, rfl⟩ | ⟨c800023, c800024, c800025, rfl, rfl⟩
    · have hP : va_P D vwCl [(n5000, .inl (cy 2, 1, .inr (.inl (fun _ => 0)))), (n3006, .inl (cy 1, 18, .inl (fun _ => 0))), (n3000, .inl (cy 1, 1300, .inl (fun _ => 0))), (n3900, .inr (12, [.ref n3000, .ref n3001, .ref n3002, .ref n3003, .int 1, .ref n3004, .int 0, .int 0, .int 0, .int 0, .int 0, .int 0, .int 0, .int 0, .int 0, .int (-1), .int 0, .ref n3005, .ref n3006, .int 0, .ref n3007, .ref n3008, .int 0, .int 0, .int 0, .int 0, .int 0, .int 0, .int 0, .ref n3009, .ref n3010, .int 0, .int 0, .ref n3011, .ref n3012, .int 0, .int 0, .ref n3013, .ref n3014, .ref n3015, .int 0, .ref n3016, .ref n3017, .ref n3018]))] H := hP
      have hD : va_D A [(n5000, .inl (cy 2, 1, .inr (.inl (fun _ => 0)))), (n3006, .inl (cy 1, 18, .inl (fun _ => 0))), (n3000, .inl (cy 1, 1300, .inl (fun _ => 0))), (n3900, .inr (12, [.ref n3000, .ref n3001, .ref n3002, .ref n3003, .int 1, .ref n3004, .int 0, .int 0, .int 0, .int 0, .int 0, .int 0, .int 0, .int 0, .int 0, .int (-1), .int 0, .ref n3005, .ref n3006, .int 0, .ref n3007, .ref n3008, .int 0, .int 0, .int 0, .int 0, .int 0, .int 0, .int 0, .ref n3009, .ref n3010, .int 0, .int 0, .ref n3011, .ref n3012, .int 0, .int 0, .ref n3013, .ref n3014, .ref n3015, .int 0, .ref n3016, .ref n3017, .ref n3018]))] := hD
      refine lv_istore (lv' := [(6, .int 0), (5, .int 1), (4, .int 0), (3, .ref n5000), (2, .ref n3900), (1, .ref n1900), (0, .ref b)]) hx hb dL_law_1330 hl (by decide +kernel) rfl (fun ls hl => ?_)
      refine lv_aload_n hx hb dL_law_1332 rfl (lv_at hl 4 rfl) ?_
      refine call_i (av := [.ref n3900]) F hP hD hS [(n3900, .inr (12, [.ref n3000, .ref n3001, .ref n3002, .ref n3003, .int 1, .ref n3004, .int 0, .int 0, .int 0, .int 0, .int 0, .int 0, .int 0, .int 0, .int 0, .int (-1), .int 0, .ref n3005, .ref n3006, .int 0, .ref n3007, .ref n3008, .int 0, .int 0, .int 0, .int 0, .int 0, .int 0, .int 0, .ref n3009, .ref n3010, .int 0, .int 0, .ref n3011, .ref n3012, .int 0, .int 0, .ref n3013, .ref n3014, .ref n3015, .int 0, .ref n3016, .ref n3017, .ref n3018]))] [(n5000, .inl (cy 2, 1, .inr (.inl (fun _ => 0)))), (n3006, .inl (cy 1, 18, .inl (fun _ => 0))), (n3000, .inl (cy 1, 1300, .inl (fun _ => 0)))] [3] [0, 1, 2] rfl rfl (by decide +kernel) (fun pr => va_runV (As := []) (rest := []) ⟨hx, hb, hml, hown, hts⟩ (k333_X12_thrown l D cy H.size n3900 n3000 n3001 n3002 n3003 n3004 n3005 n3006 n3007 n3008 n3009 n3010 n3011 n3012 n3013 n3014 n3015 n3016 n3017 n3018) (cwV 0 hts gw_X12_thrown rfl rfl rfl (by decide +kernel) ⟨(by decide +kernel), (by decide +kernel)⟩) ⟨pr.1, va_recv hK hP (ci := 12) (q0 := 3) rfl rfl, pr.2⟩ rfl rfl hl.1 rfl (lv_room (Nat.le_of_ble_eq_true rfl)) dL_law_1333 ⟨(by decide +kernel), (by decide +kernel)⟩) (fun r u H locs hw hP hD hS => ?_)
      rcases hw with ⟨rfl, rfl⟩
      have hP : va_P D vwCl [(n5000, .inl (cy 2, 1, .inr (.inl (fun _ => 0)))), (n3006, .inl (cy 1, 18, .inl (fun _ => 0))), (n3000, .inl (cy 1, 1300, .inl (fun _ => 0))), (n3900, .inr (12, [.ref n3000, .ref n3001, .ref n3002, .ref n3003, .int 1, .ref n3004, .int 0, .int 0, .int 0, .int 0, .int 0, .int 0, .int 0, .int 0, .int 0, .int (-1), .int 0, .ref n3005, .ref n3006, .int 0, .ref n3007, .ref n3008, .int 0, .int 0, .int 0, .int 0, .int 0, .int 0, .int 0, .ref n3009, .ref n3010, .int 0, .int 0, .ref n3011, .ref n3012, .int 0, .int 0, .ref n3013, .ref n3014, .ref n3015, .int 0, .ref n3016, .ref n3017, .ref n3018]))] H := hP
      have hD : va_D A [(n5000, .inl (cy 2, 1, .inr (.inl (fun _ => 0)))), (n3006, .inl (cy 1, 18, .inl (fun _ => 0))), (n3000, .inl (cy 1, 1300, .inl (fun _ => 0))), (n3900, .inr (12, [.ref n3000, .ref n3001, .ref n3002, .ref n3003, .int 1, .ref n3004, .int 0, .int 0, .int 0, .int 0, .int 0, .int 0, .int 0, .int 0, .int 0, .int (-1), .int 0, .ref n3005, .ref n3006, .int 0, .ref n3007, .ref n3008, .int 0, .int 0, .int 0, .int 0, .int 0, .int 0, .int 0, .ref n3009, .ref n3010, .int 0, .int 0, .ref n3011, .ref n3012, .int 0, .int 0, .ref n3013, .ref n3014, .ref n3015, .int 0, .ref n3016, .ref n3017, .ref n3018]))] := hD
      refine lv_iload hx hb dL_law_1336 (lv_at hl 1 rfl) ?_
      refine lv_icmp_eq (tgt := 1343) hx hb dL_law_1338 (by decide +kernel) (fun _ => ?_) (fun h => absurd (by decide +kernel) h)
      refine lv_iload hx hb dL_law_1343 (lv_at hl 1 rfl) ?_
      refine lv_if_ne (tgt := 1360) hx hb dL_law_1345 (by decide +kernel) (fun _ => ?_) (fun h => absurd h (by decide +kernel))
      refine lv_goto (tgt := 2458) hx hb dL_law_1360 (by decide +kernel) ?_
      refine lv_iinc (v := 6) (lv' := [(4, .int 6), (6, .int 0), (5, .int 1), (3, .ref n5000), (2, .ref n3900), (1, .ref n1900), (0, .ref b)]) hx hb dL_law_2458 hl (k := 2) rfl (by decide) (by decide +kernel) rfl (fun ls hl => ?_)
      refine lv_goto (tgt := 23) hx hb dL_law_2461 (by decide +kernel) ?_
      refine lv_iload hx hb dL_law_23 (lv_at hl 0 rfl) ?_
      refine lv_aload_n hx hb dL_law_25 rfl (lv_at hl 6 rfl) ?_
      refine va_slen hx hb hX hbl hbA hS dL_law_26 ?_
      refine top_i (v := 6) rfl ?_
      refine lv_bipush (v := 6) hx hb dL_law_27 (by decide +kernel) ?_
      refine lv_isub hx hb dL_law_29 ?_
      refine top_i (v := 0) (by decide +kernel) ?_
      refine lv_icmp_gt (tgt := 2464) hx hb dL_law_30 (by decide +kernel) (fun _ => ?_) (fun h => absurd (by decide +kernel) h)
      refine lv_iconst (v := 1) hx hb dL_law_2464 (by decide +kernel) ?_
      refine va_forget (fun q hq => hAq _ (hS.2.2 q hq)) ?_
      refine W.widen (k := 600002) (n := 7302232) (by decide +kernel) (by decide +kernel) ?_
      exact lw_ret hx hb hr hlk dL_law_2465
    · have hP : va_P D vwCl [(n5000, .inl (cy 2, 1, .inr (.inl (fun _ => 0)))), (n3006, .inl (cy 1, 18, .inl (fun _ => 0))), (n3000, .inl (cy 1, 1300, .inl (fun _ => 0))), (n3900, .inr (12, [.ref n3000, .ref n3001, .ref n3002, .ref n3003, .int 1, .ref n3004, .int 0, .int 0, .int 0, .int 0, .int 0, .int 0, .int 0, .int 0, .int 0, .int (-1), .int 0, .ref n3005, .ref n3006, .int 0, .ref n3007, .ref n3008, .int 0, .int 0, .int 0, .int 0, .int 0, .int 0, .int 0, .ref n3009, .ref n3010, .int 0, .int 0, .ref n3011, .ref n3012, .int 0, .int 0, .ref n3013, .ref n3014, .ref n3015, .int 0, .ref n3016, .ref n3017, .ref n3018]))] H := hP
      have hD : va_D A [(n5000, .inl (cy 2, 1, .inr (.inl (fun _ => 0)))), (n3006, .inl (cy 1, 18, .inl (fun _ => 0))), (n3000, .inl (cy 1, 1300, .inl (fun _ => 0))), (n3900, .inr (12, [.ref n3000, .ref n3001, .ref n3002, .ref n3003, .int 1, .ref n3004, .int 0, .int 0, .int 0, .int 0, .int 0, .int 0, .int 0, .int 0, .int 0, .int (-1), .int 0, .ref n3005, .ref n3006, .int 0, .ref n3007, .ref n3008, .int 0, .int 0, .int 0, .int 0, .int 0, .int 0, .int 0, .ref n3009, .ref n3010, .int 0, .int 0, .ref n3011, .ref n3012, .int 0, .int 0, .ref n3013, .ref n3014, .ref n3015, .int 0, .ref n3016, .ref n3017, .ref n3018]))] := hD
      refine lv_istore (lv' := [(6, .int 0), (5, .int 1), (4, .int 0), (3, .ref n5000), (2, .ref n3900), (1, .ref n1900), (0, .ref b)]) hx hb dL_law_1330 hl (by decide +kernel) rfl (fun ls hl => ?_)
      refine lv_aload_n hx hb dL_law_1332 rfl (lv_at hl 4 rfl) ?_
      refine call_i (av := [.ref n3900]) F hP hD hS [(n3900, .inr (12, [.ref n3000, .ref n3001, .ref n3002, .ref n3003, .int 1, .ref n3004, .int 0, .int 0, .int 0, .int 0, .int 0, .int 0, .int 0, .int 0, .int 0, .int (-1), .int 0, .ref n3005, .ref n3006, .int 0, .ref n3007, .ref n3008, .int 0, .int 0, .int 0, .int 0, .int 0, .int 0, .int 0, .ref n3009, .ref n3010, .int 0, .int 0, .ref n3011, .ref n3012, .int 0, .int 0, .ref n3013, .ref n3014, .ref n3015, .int 0, .ref n3016, .ref n3017, .ref n3018]))] [(n5000, .inl (cy 2, 1, .inr (.inl (fun _ => 0)))), (n3006, .inl (cy 1, 18, .inl (fun _ => 0))), (n3000, .inl (cy 1, 1300, .inl (fun _ => 0)))] [3] [0, 1, 2] rfl rfl (by decide +kernel) (fun pr => va_runV (As := []) (rest := []) ⟨hx, hb, hml, hown, hts⟩ (k333_X12_thrown l D cy H.size n3900 n3000 n3001 n3002 n3003 n3004 n3005 n3006 n3007 n3008 n3009 n3010 n3011 n3012 n3013 n3014 n3015 n3016 n3017 n3018) (cwV 0 hts gw_X12_thrown rfl rfl rfl (by decide +kernel) ⟨(by decide +kernel), (by decide +kernel)⟩) ⟨pr.1, va_recv hK hP (ci := 12) (q0 := 3) rfl rfl, pr.2⟩ rfl rfl hl.1 rfl (lv_room (Nat.le_of_ble_eq_true rfl)) dL_law_1333 ⟨(by decide +kernel), (by decide +kernel)⟩) (fun r u H locs hw hP hD hS => ?_)
      rcases hw with ⟨rfl, rfl⟩
      have hP : va_P D vwCl [(n5000, .inl (cy 2, 1, .inr (.inl (fun _ => 0)))), (n3006, .inl (cy 1, 18, .inl (fun _ => 0))), (n3000, .inl (cy 1, 1300, .inl (fun _ => 0))), (n3900, .inr (12, [.ref n3000, .ref n3001, .ref n3002, .ref n3003, .int 1, .ref n3004, .int 0, .int 0, .int 0, .int 0, .int 0, .int 0, .int 0, .int 0, .int 0, .int (-1), .int 0, .ref n3005, .ref n3006, .int 0, .ref n3007, .ref n3008, .int 0, .int 0, .int 0, .int 0, .int 0, .int 0, .int 0, .ref n3009, .ref n3010, .int 0, .int 0, .ref n3011, .ref n3012, .int 0, .int 0, .ref n3013, .ref n3014, .ref n3015, .int 0, .ref n3016, .ref n3017, .ref n3018]))] H := hP
      have hD : va_D A [(n5000, .inl (cy 2, 1, .inr (.inl (fun _ => 0)))), (n3006, .inl (cy 1, 18, .inl (fun _ => 0))), (n3000, .inl (cy 1, 1300, .inl (fun _ => 0))), (n3900, .inr (12, [.ref n3000, .ref n3001, .ref n3002, .ref n3003, .int 1, .ref n3004, .int 0, .int 0, .int 0, .int 0, .int 0, .int 0, .int 0, .int 0, .int 0, .int (-1), .int 0, .ref n3005, .ref n3006, .int 0, .ref n3007, .ref n3008, .int 0, .int 0, .int 0, .int 0, .int 0, .int 0, .int 0, .ref n3009, .ref n3010, .int 0, .int 0, .ref n3011, .ref n3012, .int 0, .int 0, .ref n3013, .ref n3014, .ref n3015, .int 0, .ref n3016, .ref n3017, .ref n3018]))] := hD
      refine lv_iload hx hb dL_law_1336 (lv_at hl 1 rfl) ?_
      refine lv_icmp_eq (tgt := 1343) hx hb dL_law_1338 (by decide +kernel) (fun _ => ?_) (fun h => absurd (by decide +kernel) h)
      refine lv_iload hx hb dL_law_1343 (lv_at hl 1 rfl) ?_
      refine lv_if_ne (tgt := 1360) hx hb dL_law_1345 (by decide +kernel) (fun _ => ?_) (fun h => absurd h (by decide +kernel))
      refine lv_goto (tgt := 2458) hx hb dL_law_1360 (by decide +kernel) ?_
      refine lv_iinc (v := 6) (lv' := [(4, .int 6), (6, .int 0), (5, .int 1), (3, .ref n5000), (2, .ref n3900), (1, .ref n1900), (0, .ref b)]) hx hb dL_law_2458 hl (k := 2) rfl (by decide) (by decide +kernel) rfl (fun ls hl => ?_)
      refine lv_goto (tgt := 23) hx hb dL_law_2461 (by decide +kernel) ?_
      refine lv_iload hx hb dL_law_23 (lv_at hl 0 rfl) ?_
      refine lv_aload_n hx hb dL_law_25 rfl (lv_at hl 6 rfl) ?_
      refine va_slen hx hb hX hbl hbA hS dL_law_26 ?_
      refine top_i (v := 6) rfl ?_
      refine lv_bipush (v := 6) hx hb dL_law_27 (by decide +kernel) ?_
      refine lv_isub hx hb dL_law_29 ?_
      refine top_i (v := 0) (by decide +kernel) ?_
      refine lv_icmp_gt (tgt := 2464) hx hb dL_law_30 (by decide +kernel) (fun _ => ?_) (fun h => absurd (by decide +kernel) h)
      refine lv_iconst (v := 1) hx hb dL_law_2464 (by decide +kernel) ?_
      refine va_forget (fun q hq => hAq _ (hS.2.2 q hq)) ?_
      refine W.widen (k := 600002) (n := 7302232) (by decide +kernel) (by decide +kernel) ?_
      exact lw_ret hx hb hr hlk dL_law_2465
    · exact (no_b (lo_nlt_w c800017) (up_lt c800003) (by decide +kernel)).elim
    · exact absurd c800022 c800001
    · exact absurd c800025 c800002
  · have hP : va_P D vwCl [(n3900, .inr (12, [.ref n3000, .ref n3001, .ref n3002, .ref n3003, .int 0, .ref n3004, .int 0, .int 0, .int 0, .int 0, .int 0, .int 0, .int 0, .int 0, .int 0, .int (-1), .int 0, .ref n3005, .ref n3006, .int 0, .ref n3007, .ref n3008, .int 0, .int 0, .int 0, .int 0, .int 0, .int 0, .int 0, .ref n3009, .ref n3010, .int 0, .int 0, .ref n3011, .ref n3012, .int 0, .int 0, .ref n3013, .ref n3014, .ref n3015, .int 0, .ref n3016, .ref n3017, .ref n3018])), (n3000, .inl (cy 1, 1300, .inl (fun _ => 0))), (n3006, .inl (cy 1, 18, .inl (fun _ => 0))), (n5000, .inl (cy 2, 1, .inr (.inl (fun _ => 0))))] H := hP
    have hD : va_D A [(n3900, .inr (12, [.ref n3000, .ref n3001, .ref n3002, .ref n3003, .int 0, .ref n3004, .int 0, .int 0, .int 0, .int 0, .int 0, .int 0, .int 0, .int 0, .int 0, .int (-1), .int 0, .ref n3005, .ref n3006, .int 0, .ref n3007, .ref n3008, .int 0, .int 0, .int 0, .int 0, .int 0, .int 0, .int 0, .ref n3009, .ref n3010, .int 0, .int 0, .ref n3011, .ref n3012, .int 0, .int 0, .ref n3013, .ref n3014, .ref n3015, .int 0, .ref n3016, .ref n3017, .ref n3018])), (n3000, .inl (cy 1, 1300, .inl (fun _ => 0))), (n3006, .inl (cy 1, 18, .inl (fun _ => 0))), (n5000, .inl (cy 2, 1, .inr (.inl (fun _ => 0))))] := hD
    refine lv_istore (lv' := [(5, .int 1), (4, .int 0), (3, .ref n5000), (2, .ref n3900), (1, .ref n1900), (0, .ref b)]) hx hb dL_law_1318 hl (by decide +kernel) rfl (fun ls hl => ?_)
    refine lv_aload_n hx hb dL_law_1320 rfl (lv_at hl 3 rfl) ?_
    refine lv_aload_n hx hb dL_law_1321 rfl (lv_at hl 5 rfl) ?_
    refine lv_iload hx hb dL_law_1322 (lv_at hl 1 rfl) ?_
    refine lv_iconst (v := 1) hx hb dL_law_1324 (by decide +kernel) ?_
    refine lv_iadd hx hb dL_law_1325 ?_
    refine top_i (v := 1) (by decide +kernel) ?_
    refine va_sld hx hb hX hbl hbA hS (i := 1) (vin (by decide +kernel)) dL_law_1326 ?_
    refine top_i (v := z1) ez1 ?_
    refine call_i (av := [.ref n3900, .int z1]) F hP hD hS [(n3900, .inr (12, [.ref n3000, .ref n3001, .ref n3002, .ref n3003, .int 0, .ref n3004, .int 0, .int 0, .int 0, .int 0, .int 0, .int 0, .int 0, .int 0, .int 0, .int (-1), .int 0, .ref n3005, .ref n3006, .int 0, .ref n3007, .ref n3008, .int 0, .int 0, .int 0, .int 0, .int 0, .int 0, .int 0, .ref n3009, .ref n3010, .int 0, .int 0, .ref n3011, .ref n3012, .int 0, .int 0, .ref n3013, .ref n3014, .ref n3015, .int 0, .ref n3016, .ref n3017, .ref n3018])), (n3000, .inl (cy 1, 1300, .inl (fun _ => 0))), (n3006, .inl (cy 1, 18, .inl (fun _ => 0)))] [(n5000, .inl (cy 2, 1, .inr (.inl (fun _ => 0))))] [0, 1, 2] [3] rfl rfl (by decide +kernel) (fun pr => va_runV (As := [.int z1]) (rest := []) ⟨hx, hb, hml, hown, hts⟩ (k237_X12_mending l D cy H.size n3900 z1 n3000 n3006 n3001 n3002 n3003 n3004 n3005 n3007 n3008 n3009 n3010 n3011 n3012 n3013 n3014 n3015 n3016 n3017 n3018) (cwV 1 hts gw_X12_mending rfl rfl rfl (by decide +kernel) ⟨(by decide +kernel), (by decide +kernel)⟩) ⟨pr.1, va_recv hK hP (ci := 12) (q0 := 0) rfl rfl, pr.2⟩ rfl rfl hl.1 rfl (lv_room (Nat.le_of_ble_eq_true rfl)) dL_law_1327 ⟨(by decide +kernel), (by decide +kernel)⟩) (fun r u H locs hw hP hD hS => ?_)
    rcases hw with ⟨c800032, c800033, rfl, rfl⟩ | ⟨c800034, c800035, c800036, rfl, rfl⟩ | ⟨c800037, c800038, c800039, c800040, rfl, rfl⟩ | ⟨c800041, c800042, c800043, c800044, rfl, rfl⟩ | ⟨c800045, c800046, c800047, rfl, rfl⟩
    · exact (no_b (lo_nlt c800006) (up_lt_w c800032) (by decide +kernel)).elim
    · exact (no_b (lo_nlt c800006) (up_lt_w c800036) (by decide +kernel)).elim
    · have hP : va_P D vwCl [(n5000, .inl (cy 2, 1, .inr (.inl (fun _ => 0)))), (n3006, .inl (cy 1, 18, .inl (fun _ => 0))), (n3000, .inl (cy 1, 1300, .inl (fun _ => 0))), (n3900, .inr (12, [.ref n3000, .ref n3001, .ref n3002, .ref n3003, .int 1, .ref n3004, .int 0, .int 0, .int 0, .int 0, .int 0, .int 0, .int 0, .int 0, .int 0, .int (-1), .int 0, .ref n3005, .ref n3006, .int 0, .ref n3007, .ref n3008, .int 0, .int 0, .int 0, .int 0, .int 0, .int 0, .int 0, .ref n3009, .ref n3010, .int 0, .int 0, .ref n3011, .ref n3012, .int 0, .int 0, .ref n3013, .ref n3014, .ref n3015, .int 0, .ref n3016, .ref n3017, .ref n3018]))] H := hP
      have hD : va_D A [(n5000, .inl (cy 2, 1, .inr (.inl (fun _ => 0)))), (n3006, .inl (cy 1, 18, .inl (fun _ => 0))), (n3000, .inl (cy 1, 1300, .inl (fun _ => 0))), (n3900, .inr (12, [.ref n3000, .ref n3001, .ref n3002, .ref n3003, .int 1, .ref n3004, .int 0, .int 0, .int 0, .int 0, .int 0, .int 0, .int 0, .int 0, .int 0, .int (-1), .int 0, .ref n3005, .ref n3006, .int 0, .ref n3007, .ref n3008, .int 0, .int 0, .int 0, .int 0, .int 0, .int 0, .int 0, .ref n3009, .ref n3010, .int 0, .int 0, .ref n3011, .ref n3012, .int 0, .int 0, .ref n3013, .ref n3014, .ref n3015, .int 0, .ref n3016, .ref n3017, .ref n3018]))] := hD
      refine lv_istore (lv' := [(6, .int 0), (5, .int 1), (4, .int 0), (3, .ref n5000), (2, .ref n3900), (1, .ref n1900), (0, .ref b)]) hx hb dL_law_1330 hl (by decide +kernel) rfl (fun ls hl => ?_)
      refine lv_aload_n hx hb dL_law_1332 rfl (lv_at hl 4 rfl) ?_
      refine call_i (av := [.ref n3900]) F hP hD hS [(n3900, .inr (12, [.ref n3000, .ref n3001, .ref n3002, .ref n3003, .int 1, .ref n3004, .int 0, .int 0, .int 0, .int 0, .int 0, .int 0, .int 0, .int 0, .int 0, .int (-1), .int 0, .ref n3005, .ref n3006, .int 0, .ref n3007, .ref n3008, .int 0, .int 0, .int 0, .int 0, .int 0, .int 0, .int 0, .ref n3009, .ref n3010, .int 0, .int 0, .ref n3011, .ref n3012, .int 0, .int 0, .ref n3013, .ref n3014, .ref n3015, .int 0, .ref n3016, .ref n3017, .ref n3018]))] [(n5000, .inl (cy 2, 1, .inr (.inl (fun _ => 0)))), (n3006, .inl (cy 1, 18, .inl (fun _ => 0))), (n3000, .inl (cy 1, 1300, .inl (fun _ => 0)))] [3] [0, 1, 2] rfl rfl (by decide +kernel) (fun pr => va_runV (As := []) (rest := []) ⟨hx, hb, hml, hown, hts⟩ (k333_X12_thrown l D cy H.size n3900 n3000 n3001 n3002 n3003 n3004 n3005 n3006 n3007 n3008 n3009 n3010 n3011 n3012 n3013 n3014 n3015 n3016 n3017 n3018) (cwV 0 hts gw_X12_thrown rfl rfl rfl (by decide +kernel) ⟨(by decide +kernel), (by decide +kernel)⟩) ⟨pr.1, va_recv hK hP (ci := 12) (q0 := 3) rfl rfl, pr.2⟩ rfl rfl hl.1 rfl (lv_room (Nat.le_of_ble_eq_true rfl)) dL_law_1333 ⟨(by decide +kernel), (by decide +kernel)⟩) (fun r u H locs hw hP hD hS => ?_)
      rcases hw with ⟨rfl, rfl⟩
      have hP : va_P D vwCl [(n5000, .inl (cy 2, 1, .inr (.inl (fun _ => 0)))), (n3006, .inl (cy 1, 18, .inl (fun _ => 0))), (n3000, .inl (cy 1, 1300, .inl (fun _ => 0))), (n3900, .inr (12, [.ref n3000, .ref n3001, .ref n3002, .ref n3003, .int 1, .ref n3004, .int 0, .int 0, .int 0, .int 0, .int 0, .int 0, .int 0, .int 0, .int 0, .int (-1), .int 0, .ref n3005, .ref n3006, .int 0, .ref n3007, .ref n3008, .int 0, .int 0, .int 0, .int 0, .int 0, .int 0, .int 0, .ref n3009, .ref n3010, .int 0, .int 0, .ref n3011, .ref n3012, .int 0, .int 0, .ref n3013, .ref n3014, .ref n3015, .int 0, .ref n3016, .ref n3017, .ref n3018]))] H := hP
      have hD : va_D A [(n5000, .inl (cy 2, 1, .inr (.inl (fun _ => 0)))), (n3006, .inl (cy 1, 18, .inl (fun _ => 0))), (n3000, .inl (cy 1, 1300, .inl (fun _ => 0))), (n3900, .inr (12, [.ref n3000, .ref n3001, .ref n3002, .ref n3003, .int 1, .ref n3004, .int 0, .int 0, .int 0, .int 0, .int 0, .int 0, .int 0, .int 0, .int 0, .int (-1), .int 0, .ref n3005, .ref n3006, .int 0, .ref n3007, .ref n3008, .int 0, .int 0, .int 0, .int 0, .int 0, .int 0, .int 0, .ref n3009, .ref n3010, .int 0, .int 0, .ref n3011, .ref n3012, .int 0, .int 0, .ref n3013, .ref n3014, .ref n3015, .int 0, .ref n3016, .ref n3017, .ref n3018]))] := hD
      refine lv_iload hx hb dL_law_1336 (lv_at hl 1 rfl) ?_
      refine lv_icmp_eq (tgt := 1343) hx hb dL_law_1338 (by decide +kernel) (fun _ => ?_) (fun h => absurd (by decide +kernel) h)
      refine lv_iload hx hb dL_law_1343 (lv_at hl 1 rfl) ?_
      refine lv_if_ne (tgt := 1360) hx hb dL_law_1345 (by decide +kernel) (fun _ => ?_) (fun h => absurd h (by decide +kernel))
      refine lv_goto (tgt := 2458) hx hb dL_law_1360 (by decide +kernel) ?_
      refine lv_iinc (v := 6) (lv' := [(4, .int 6), (6, .int 0), (5, .int 1), (3, .ref n5000), (2, .ref n3900), (1, .ref n1900), (0, .ref b)]) hx hb dL_law_2458 hl (k := 2) rfl (by decide) (by decide +kernel) rfl (fun ls hl => ?_)
      refine lv_goto (tgt := 23) hx hb dL_law_2461 (by decide +kernel) ?_
      refine lv_iload hx hb dL_law_23 (lv_at hl 0 rfl) ?_
      refine lv_aload_n hx hb dL_law_25 rfl (lv_at hl 6 rfl) ?_
      refine va_slen hx hb hX hbl hbA hS dL_law_26 ?_
      refine top_i (v := 6) rfl ?_
      refine lv_bipush (v := 6) hx hb dL_law_27 (by decide +kernel) ?_
      refine lv_isub hx hb dL_law_29 ?_
      refine top_i (v := 0) (by decide +kernel) ?_
      refine lv_icmp_gt (tgt := 2464) hx hb dL_law_30 (by decide +kernel) (fun _ => ?_) (fun h => absurd (by decide +kernel) h)
      refine lv_iconst (v := 1) hx hb dL_law_2464 (by decide +kernel) ?_
      refine va_forget (fun q hq => hAq _ (hS.2.2 q hq)) ?_
      refine W.widen (k := 600002) (n := 7302232) (by decide +kernel) (by decide +kernel) ?_
      exact lw_ret hx hb hr hlk dL_law_2465
    · exact (no_b (lo_nlt c800006) (up_nlt_w c800042) (by decide +kernel)).elim
    · exact (no_b (lo_nlt c800006) (up_nlt_w c800046) (by decide +kernel)).elim
  · subst c800007
    have hP : va_P D vwCl [(n3900, .inr (12, [.ref n3000, .ref n3001, .ref n3002, .ref n3003, .int 0, .ref n3004, .int 0, .int 0, .int 0, .int 0, .int 0, .int 0, .int 0, .int 0, .int 0, .int (-1), .int 0, .ref n3005, .ref n3006, .int 0, .ref n3007, .ref n3008, .int 0, .int 0, .int 0, .int 0, .int 0, .int 0, .int 0, .ref n3009, .ref n3010, .int 0, .int 0, .ref n3011, .ref n3012, .int 0, .int 0, .ref n3013, .ref n3014, .ref n3015, .int 0, .ref n3016, .ref n3017, .ref n3018])), (n3000, .inl (cy 1, 1300, .inl (fun _ => 0))), (n3006, .inl (cy 1, 18, .inl (fun _ => 0))), (n5000, .inl (cy 2, 1, .inr (.inl (fun _ => 0))))] H := hP
    have hD : va_D A [(n3900, .inr (12, [.ref n3000, .ref n3001, .ref n3002, .ref n3003, .int 0, .ref n3004, .int 0, .int 0, .int 0, .int 0, .int 0, .int 0, .int 0, .int 0, .int 0, .int (-1), .int 0, .ref n3005, .ref n3006, .int 0, .ref n3007, .ref n3008, .int 0, .int 0, .int 0, .int 0, .int 0, .int 0, .int 0, .ref n3009, .ref n3010, .int 0, .int 0, .ref n3011, .ref n3012, .int 0, .int 0, .ref n3013, .ref n3014, .ref n3015, .int 0, .ref n3016, .ref n3017, .ref n3018])), (n3000, .inl (cy 1, 1300, .inl (fun _ => 0))), (n3006, .inl (cy 1, 18, .inl (fun _ => 0))), (n5000, .inl (cy 2, 1, .inr (.inl (fun _ => 0))))] := hD
    refine lv_istore (lv' := [(5, .int 0), (4, .int 0), (3, .ref n5000), (2, .ref n3900), (1, .ref n1900), (0, .ref b)]) hx hb dL_law_1318 hl (by decide +kernel) rfl (fun ls hl => ?_)
    refine lv_aload_n hx hb dL_law_1320 rfl (lv_at hl 3 rfl) ?_
    refine lv_aload_n hx hb dL_law_1321 rfl (lv_at hl 5 rfl) ?_
    refine lv_iload hx hb dL_law_1322 (lv_at hl 1 rfl) ?_
    refine lv_iconst (v := 1) hx hb dL_law_1324 (by decide +kernel) ?_
    refine lv_iadd hx hb dL_law_1325 ?_
    refine top_i (v := 1) (by decide +kernel) ?_
    refine va_sld hx hb hX hbl hbA hS (i := 1) (vin (by decide +kernel)) dL_law_1326 ?_
    refine top_i (v := 1) ez1 ?_
    refine call_i (av := [.ref n3900, .int 1]) F hP hD hS [(n3900, .inr (12, [.ref n3000, .ref n3001, .ref n3002, .ref n3003, .int 0, .ref n3004, .int 0, .int 0, .int 0, .int 0, .int 0, .int 0, .int 0, .int 0, .int 0, .int (-1), .int 0, .ref n3005, .ref n3006, .int 0, .ref n3007, .ref n3008, .int 0, .int 0, .int 0, .int 0, .int 0, .int 0, .int 0, .ref n3009, .ref n3010, .int 0, .int 0, .ref n3011, .ref n3012, .int 0, .int 0, .ref n3013, .ref n3014, .ref n3015, .int 0, .ref n3016, .ref n3017, .ref n3018])), (n3000, .inl (cy 1, 1300, .inl (fun _ => 0))), (n3006, .inl (cy 1, 18, .inl (fun _ => 0)))] [(n5000, .inl (cy 2, 1, .inr (.inl (fun _ => 0))))] [0, 1, 2] [3] rfl rfl (by decide +kernel) (fun pr => va_runV (As := [.int 1]) (rest := []) ⟨hx, hb, hml, hown, hts⟩ (k237_X12_mending l D cy H.size n3900 1 n3000 n3006 n3001 n3002 n3003 n3004 n3005 n3007 n3008 n3009 n3010 n3011 n3012 n3013 n3014 n3015 n3016 n3017 n3018) (cwV 1 hts gw_X12_mending rfl rfl rfl (by decide +kernel) ⟨(by decide +kernel), (by decide +kernel)⟩) ⟨pr.1, va_recv hK hP (ci := 12) (q0 := 0) rfl rfl, pr.2⟩ rfl rfl hl.1 rfl (lv_room (Nat.le_of_ble_eq_true rfl)) dL_law_1327 ⟨(by decide +kernel), (by decide +kernel)⟩) (fun r u H locs hw hP hD hS => ?_)
    rcases hw with ⟨c800051, c800052, rfl, rfl⟩ | ⟨c800053, c800054, c800055, rfl, rfl⟩ | ⟨c800056, c800057, c800058, c800059, rfl, rfl⟩ | ⟨c800060, c800061, c800062, c800063, rfl, rfl⟩ | ⟨c800064, c800065, c800066, rfl, rfl⟩
    · exact absurd c800051 (by decide +kernel)
    · exact absurd c800054 (by decide +kernel)
    · exact absurd c800057 (by decide +kernel)
    · have hP : va_P D vwCl [(n5000, .inl (cy 2, 1, .inr (.inl (fun _ => 0)))), (n3006, .inl (cy 1, 18, .inl (fun _ => 0))), (n3900, .inr (12, [.ref n3000, .ref n3001, .ref n3002, .ref n3003, .int 0, .ref n3004, .int 0, .int 0, .int 0, .int 0, .int 0, .int 0, .int 0, .int 0, .int 0, .int (-1), .int 0, .ref n3005, .ref n3006, .int 0, .ref n3007, .ref n3008, .int 1, .int (-1), .int 0, .int 0, .int 1, .int 0, .int 0, .ref n3009, .ref n3010, .int 0, .int 0, .ref n3011, .ref n3012, .int 0, .int 0, .ref n3013, .ref n3014, .ref n3015, .int 0, .ref n3016, .ref n3017, .ref n3018])), (n3000, .inl (cy 1, 1300, .inl (fun _ => 0)))] H := hP
      have hD : va_D A [(n5000, .inl (cy 2, 1, .inr (.inl (fun _ => 0)))), (n3006, .inl (cy 1, 18, .inl (fun _ => 0))), (n3900, .inr (12, [.ref n3000, .ref n3001, .ref n3002, .ref n3003, .int 0, .ref n3004, .int 0, .int 0, .int 0, .int 0, .int 0, .int 0, .int 0, .int 0, .int 0, .int (-1), .int 0, .ref n3005, .ref n3006, .int 0, .ref n3007, .ref n3008, .int 1, .int (-1), .int 0, .int 0, .int 1, .int 0, .int 0, .ref n3009, .ref n3010, .int 0, .int 0, .ref n3011, .ref n3012, .int 0, .int 0, .ref n3013, .ref n3014, .ref n3015, .int 0, .ref n3016, .ref n3017, .ref n3018])), (n3000, .inl (cy 1, 1300, .inl (fun _ => 0)))] := hD
      refine lv_istore (lv' := [(6, .int 0), (5, .int 0), (4, .int 0), (3, .ref n5000), (2, .ref n3900), (1, .ref n1900), (0, .ref b)]) hx hb dL_law_1330 hl (by decide +kernel) rfl (fun ls hl => ?_)
      refine lv_aload_n hx hb dL_law_1332 rfl (lv_at hl 4 rfl) ?_
      refine call_i (av := [.ref n3900]) F hP hD hS [(n3900, .inr (12, [.ref n3000, .ref n3001, .ref n3002, .ref n3003, .int 0, .ref n3004, .int 0, .int 0, .int 0, .int 0, .int 0, .int 0, .int 0, .int 0, .int 0, .int (-1), .int 0, .ref n3005, .ref n3006, .int 0, .ref n3007, .ref n3008, .int 1, .int (-1), .int 0, .int 0, .int 1, .int 0, .int 0, .ref n3009, .ref n3010, .int 0, .int 0, .ref n3011, .ref n3012, .int 0, .int 0, .ref n3013, .ref n3014, .ref n3015, .int 0, .ref n3016, .ref n3017, .ref n3018]))] [(n5000, .inl (cy 2, 1, .inr (.inl (fun _ => 0)))), (n3006, .inl (cy 1, 18, .inl (fun _ => 0))), (n3000, .inl (cy 1, 1300, .inl (fun _ => 0)))] [2] [0, 1, 3] rfl rfl (by decide +kernel) (fun pr => va_runV (As := []) (rest := []) ⟨hx, hb, hml, hown, hts⟩ (k336_X12_thrown l D cy H.size n3900 n3000 n3001 n3002 n3003 n3004 n3005 n3006 n3007 n3008 n3009 n3010 n3011 n3012 n3013 n3014 n3015 n3016 n3017 n3018) (cwV 0 hts gw_X12_thrown rfl rfl rfl (by decide +kernel) ⟨(by decide +kernel), (by decide +kernel)⟩) ⟨pr.1, va_recv hK hP (ci := 12) (q0 := 2) rfl rfl, pr.2⟩ rfl rfl hl.1 rfl (lv_room (Nat.le_of_ble_eq_true rfl)) dL_law_1333 ⟨(by decide +kernel), (by decide +kernel)⟩) (fun r u H locs hw hP hD hS => ?_)
      rcases hw with ⟨rfl, rfl⟩
      have hP : va_P D vwCl [(n5000, .inl (cy 2, 1, .inr (.inl (fun _ => 0)))), (n3006, .inl (cy 1, 18, .inl (fun _ => 0))), (n3000, .inl (cy 1, 1300, .inl (fun _ => 0))), (n3900, .inr (12, [.ref n3000, .ref n3001, .ref n3002, .ref n3003, .int 0, .ref n3004, .int 0, .int 0, .int 0, .int 0, .int 0, .int 0, .int 0, .int 0, .int 0, .int (-1), .int 0, .ref n3005, .ref n3006, .int 0, .ref n3007, .ref n3008, .int 1, .int (-1), .int 0, .int 0, .int 1, .int 0, .int 0, .ref n3009, .ref n3010, .int 0, .int 0, .ref n3011, .ref n3012, .int 0, .int 0, .ref n3013, .ref n3014, .ref n3015, .int 0, .ref n3016, .ref n3017, .ref n3018]))] H := hP
      have hD : va_D A [(n5000, .inl (cy 2, 1, .inr (.inl (fun _ => 0)))), (n3006, .inl (cy 1, 18, .inl (fun _ => 0))), (n3000, .inl (cy 1, 1300, .inl (fun _ => 0))), (n3900, .inr (12, [.ref n3000, .ref n3001, .ref n3002, .ref n3003, .int 0, .ref n3004, .int 0, .int 0, .int 0, .int 0, .int 0, .int 0, .int 0, .int 0, .int 0, .int (-1), .int 0, .ref n3005, .ref n3006, .int 0, .ref n3007, .ref n3008, .int 1, .int (-1), .int 0, .int 0, .int 1, .int 0, .int 0, .ref n3009, .ref n3010, .int 0, .int 0, .ref n3011, .ref n3012, .int 0, .int 0, .ref n3013, .ref n3014, .ref n3015, .int 0, .ref n3016, .ref n3017, .ref n3018]))] := hD
      refine lv_iload hx hb dL_law_1336 (lv_at hl 1 rfl) ?_
      refine lv_icmp_eq (tgt := 1343) hx hb dL_law_1338 (by decide +kernel) (fun _ => ?_) (fun h => absurd (by decide +kernel) h)
      refine lv_iload hx hb dL_law_1343 (lv_at hl 1 rfl) ?_
      refine lv_if_ne (tgt := 1360) hx hb dL_law_1345 (by decide +kernel) (fun h => absurd (by decide +kernel) h) (fun _ => ?_)
      refine lv_aload_n hx hb dL_law_1348 rfl (lv_at hl 3 rfl) ?_
      refine lv_iconst (v := 0) hx hb dL_law_1349 (by decide +kernel) ?_
      refine va_lald hx hb hK hP 0 2 rfl rfl (i := 0) (vin (by decide +kernel)) dL_law_1350 ?_
      refine top_l (v := 0) (by decide +kernel) ?_
      refine lv_iload hx hb dL_law_1351 (lv_at hl 0 rfl) ?_
      refine lv_i2l (v := 0) hx hb dL_law_1353 (by decide +kernel) ?_
      refine W.lcmp hx hb dL_law_1354 ?_
      refine top_i (v := 0) (by decide +kernel) ?_
      refine lv_if_eq (tgt := 1360) hx hb dL_law_1355 (by decide +kernel) (fun _ => ?_) (fun h => absurd (by decide +kernel) h)
      refine lv_goto (tgt := 2458) hx hb dL_law_1360 (by decide +kernel) ?_
      refine lv_iinc (v := 6) (lv' := [(4, .int 6), (6, .int 0), (5, .int 0), (3, .ref n5000), (2, .ref n3900), (1, .ref n1900), (0, .ref b)]) hx hb dL_law_2458 hl (k := 2) rfl (by decide) (by decide +kernel) rfl (fun ls hl => ?_)
      refine lv_goto (tgt := 23) hx hb dL_law_2461 (by decide +kernel) ?_
      refine lv_iload hx hb dL_law_23 (lv_at hl 0 rfl) ?_
      refine lv_aload_n hx hb dL_law_25 rfl (lv_at hl 6 rfl) ?_
      refine va_slen hx hb hX hbl hbA hS dL_law_26 ?_
      refine top_i (v := 6) rfl ?_
      refine lv_bipush (v := 6) hx hb dL_law_27 (by decide +kernel) ?_
      refine lv_isub hx hb dL_law_29 ?_
      refine top_i (v := 0) (by decide +kernel) ?_
      refine lv_icmp_gt (tgt := 2464) hx hb dL_law_30 (by decide +kernel) (fun _ => ?_) (fun h => absurd (by decide +kernel) h)
      refine lv_iconst (v := 1) hx hb dL_law_2464 (by decide +kernel) ?_
      refine va_forget (fun q hq => hAq _ (hS.2.2 q hq)) ?_
      refine W.widen (k := 600002) (n := 7302232) (by decide +kernel) (by decide +kernel) ?_
      exact lw_ret hx hb hr hlk dL_law_2465
    · exact absurd c800066 (by decide +kernel)
  · subst c800009
    have hP : va_P D vwCl [(n3900, .inr (12, [.ref n3000, .ref n3001, .ref n3002, .ref n3003, .int 0, .ref n3004, .int 0, .int 0, .int 0, .int 0, .int 0, .int 0, .int 0, .int 0, .int 0, .int (-1), .int 0, .ref n3005, .ref n3006, .int 0, .ref n3007, .ref n3008, .int 0, .int 0, .int 0, .int 0, .int 0, .int 0, .int 0, .ref n3009, .ref n3010, .int 0, .int 0, .ref n3011, .ref n3012, .int 0, .int 0, .ref n3013, .ref n3014, .ref n3015, .int 0, .ref n3016, .ref n3017, .ref n3018])), (n3000, .inl (cy 1, 1300, .inl (fun _ => 0))), (n3006, .inl (cy 1, 18, .inl (fun _ => 0))), (n5000, .inl (cy 2, 1, .inr (.inl (fun _ => 0))))] H := hP
    have hD : va_D A [(n3900, .inr (12, [.ref n3000, .ref n3001, .ref n3002, .ref n3003, .int 0, .ref n3004, .int 0, .int 0, .int 0, .int 0, .int 0, .int 0, .int 0, .int 0, .int 0, .int (-1), .int 0, .ref n3005, .ref n3006, .int 0, .ref n3007, .ref n3008, .int 0, .int 0, .int 0, .int 0, .int 0, .int 0, .int 0, .ref n3009, .ref n3010, .int 0, .int 0, .ref n3011, .ref n3012, .int 0, .int 0, .ref n3013, .ref n3014, .ref n3015, .int 0, .ref n3016, .ref n3017, .ref n3018])), (n3000, .inl (cy 1, 1300, .inl (fun _ => 0))), (n3006, .inl (cy 1, 18, .inl (fun _ => 0))), (n5000, .inl (cy 2, 1, .inr (.inl (fun _ => 0))))] := hD
    refine lv_istore (lv' := [(5, .int 0), (4, .int 0), (3, .ref n5000), (2, .ref n3900), (1, .ref n1900), (0, .ref b)]) hx hb dL_law_1318 hl (by decide +kernel) rfl (fun ls hl => ?_)
    refine lv_aload_n hx hb dL_law_1320 rfl (lv_at hl 3 rfl) ?_
    refine lv_aload_n hx hb dL_law_1321 rfl (lv_at hl 5 rfl) ?_
    refine lv_iload hx hb dL_law_1322 (lv_at hl 1 rfl) ?_
    refine lv_iconst (v := 1) hx hb dL_law_1324 (by decide +kernel) ?_
    refine lv_iadd hx hb dL_law_1325 ?_
    refine top_i (v := 1) (by decide +kernel) ?_
    refine va_sld hx hb hX hbl hbA hS (i := 1) (vin (by decide +kernel)) dL_law_1326 ?_
    refine top_i (v := 0) ez1 ?_
    refine call_i (av := [.ref n3900, .int 0]) F hP hD hS [(n3900, .inr (12, [.ref n3000, .ref n3001, .ref n3002, .ref n3003, .int 0, .ref n3004, .int 0, .int 0, .int 0, .int 0, .int 0, .int 0, .int 0, .int 0, .int 0, .int (-1), .int 0, .ref n3005, .ref n3006, .int 0, .ref n3007, .ref n3008, .int 0, .int 0, .int 0, .int 0, .int 0, .int 0, .int 0, .ref n3009, .ref n3010, .int 0, .int 0, .ref n3011, .ref n3012, .int 0, .int 0, .ref n3013, .ref n3014, .ref n3015, .int 0, .ref n3016, .ref n3017, .ref n3018])), (n3000, .inl (cy 1, 1300, .inl (fun _ => 0))), (n3006, .inl (cy 1, 18, .inl (fun _ => 0)))] [(n5000, .inl (cy 2, 1, .inr (.inl (fun _ => 0))))] [0, 1, 2] [3] rfl rfl (by decide +kernel) (fun pr => va_runV (As := [.int 0]) (rest := []) ⟨hx, hb, hml, hown, hts⟩ (k237_X12_mending l D cy H.size n3900 0 n3000 n3006 n3001 n3002 n3003 n3004 n3005 n3007 n3008 n3009 n3010 n3011 n3012 n3013 n3014 n3015 n3016 n3017 n3018) (cwV 1 hts gw_X12_mending rfl rfl rfl (by decide +kernel) ⟨(by decide +kernel), (by decide +kernel)⟩) ⟨pr.1, va_recv hK hP (ci := 12) (q0 := 0) rfl rfl, pr.2⟩ rfl rfl hl.1 rfl (lv_room (Nat.le_of_ble_eq_true rfl)) dL_law_1327 ⟨(by decide +kernel), (by decide +kernel)⟩) (fun r u H locs hw hP hD hS => ?_)
    rcases hw with ⟨c800071, c800072, rfl, rfl⟩ | ⟨c800073, c800074, c800075, rfl, rfl⟩ | ⟨c800076, c800077, c800078, c800079, rfl, rfl⟩ | ⟨c800080, c800081, c800082, c800083, rfl, rfl⟩ | ⟨c800084, c800085, c800086, rfl, rfl⟩
    · exact absurd c800071 (by decide +kernel)
    · exact absurd c800074 (by decide +kernel)
    · exact absurd c800077 (by decide +kernel)
    · exact absurd (by decide +kernel) c800082
    · have hP : va_P D vwCl [(n5000, .inl (cy 2, 1, .inr (.inl (fun _ => 0)))), (n3006, .inl (cy 1, 18, .inl (fun _ => 0))), (n3900, .inr (12, [.ref n3000, .ref n3001, .ref n3002, .ref n3003, .int 0, .ref n3004, .int 0, .int 0, .int 0, .int 0, .int 0, .int 0, .int 0, .int 0, .int 0, .int (-1), .int 0, .ref n3005, .ref n3006, .int 0, .ref n3007, .ref n3008, .int 1, .int (-1), .int 0, .int 0, .int 1, .int 0, .int 0, .ref n3009, .ref n3010, .int 0, .int 0, .ref n3011, .ref n3012, .int 0, .int 0, .ref n3013, .ref n3014, .ref n3015, .int 0, .ref n3016, .ref n3017, .ref n3018])), (n3000, .inl (cy 1, 1300, .inl (fun _ => 0)))] H := hP
      have hD : va_D A [(n5000, .inl (cy 2, 1, .inr (.inl (fun _ => 0)))), (n3006, .inl (cy 1, 18, .inl (fun _ => 0))), (n3900, .inr (12, [.ref n3000, .ref n3001, .ref n3002, .ref n3003, .int 0, .ref n3004, .int 0, .int 0, .int 0, .int 0, .int 0, .int 0, .int 0, .int 0, .int 0, .int (-1), .int 0, .ref n3005, .ref n3006, .int 0, .ref n3007, .ref n3008, .int 1, .int (-1), .int 0, .int 0, .int 1, .int 0, .int 0, .ref n3009, .ref n3010, .int 0, .int 0, .ref n3011, .ref n3012, .int 0, .int 0, .ref n3013, .ref n3014, .ref n3015, .int 0, .ref n3016, .ref n3017, .ref n3018])), (n3000, .inl (cy 1, 1300, .inl (fun _ => 0)))] := hD
      refine lv_istore (lv' := [(6, .int 0), (5, .int 0), (4, .int 0), (3, .ref n5000), (2, .ref n3900), (1, .ref n1900), (0, .ref b)]) hx hb dL_law_1330 hl (by decide +kernel) rfl (fun ls hl => ?_)
      refine lv_aload_n hx hb dL_law_1332 rfl (lv_at hl 4 rfl) ?_
      refine call_i (av := [.ref n3900]) F hP hD hS [(n3900, .inr (12, [.ref n3000, .ref n3001, .ref n3002, .ref n3003, .int 0, .ref n3004, .int 0, .int 0, .int 0, .int 0, .int 0, .int 0, .int 0, .int 0, .int 0, .int (-1), .int 0, .ref n3005, .ref n3006, .int 0, .ref n3007, .ref n3008, .int 1, .int (-1), .int 0, .int 0, .int 1, .int 0, .int 0, .ref n3009, .ref n3010, .int 0, .int 0, .ref n3011, .ref n3012, .int 0, .int 0, .ref n3013, .ref n3014, .ref n3015, .int 0, .ref n3016, .ref n3017, .ref n3018]))] [(n5000, .inl (cy 2, 1, .inr (.inl (fun _ => 0)))), (n3006, .inl (cy 1, 18, .inl (fun _ => 0))), (n3000, .inl (cy 1, 1300, .inl (fun _ => 0)))] [2] [0, 1, 3] rfl rfl (by decide +kernel) (fun pr => va_runV (As := []) (rest := []) ⟨hx, hb, hml, hown, hts⟩ (k336_X12_thrown l D cy H.size n3900 n3000 n3001 n3002 n3003 n3004 n3005 n3006 n3007 n3008 n3009 n3010 n3011 n3012 n3013 n3014 n3015 n3016 n3017 n3018) (cwV 0 hts gw_X12_thrown rfl rfl rfl (by decide +kernel) ⟨(by decide +kernel), (by decide +kernel)⟩) ⟨pr.1, va_recv hK hP (ci := 12) (q0 := 2) rfl rfl, pr.2⟩ rfl rfl hl.1 rfl (lv_room (Nat.le_of_ble_eq_true rfl)) dL_law_1333 ⟨(by decide +kernel), (by decide +kernel)⟩) (fun r u H locs hw hP hD hS => ?_)
      rcases hw with ⟨rfl, rfl⟩
      have hP : va_P D vwCl [(n5000, .inl (cy 2, 1, .inr (.inl (fun _ => 0)))), (n3006, .inl (cy 1, 18, .inl (fun _ => 0))), (n3000, .inl (cy 1, 1300, .inl (fun _ => 0))), (n3900, .inr (12, [.ref n3000, .ref n3001, .ref n3002, .ref n3003, .int 0, .ref n3004, .int 0, .int 0, .int 0, .int 0, .int 0, .int 0, .int 0, .int 0, .int 0, .int (-1), .int 0, .ref n3005, .ref n3006, .int 0, .ref n3007, .ref n3008, .int 1, .int (-1), .int 0, .int 0, .int 1, .int 0, .int 0, .ref n3009, .ref n3010, .int 0, .int 0, .ref n3011, .ref n3012, .int 0, .int 0, .ref n3013, .ref n3014, .ref n3015, .int 0, .ref n3016, .ref n3017, .ref n3018]))] H := hP
      have hD : va_D A [(n5000, .inl (cy 2, 1, .inr (.inl (fun _ => 0)))), (n3006, .inl (cy 1, 18, .inl (fun _ => 0))), (n3000, .inl (cy 1, 1300, .inl (fun _ => 0))), (n3900, .inr (12, [.ref n3000, .ref n3001, .ref n3002, .ref n3003, .int 0, .ref n3004, .int 0, .int 0, .int 0, .int 0, .int 0, .int 0, .int 0, .int 0, .int 0, .int (-1), .int 0, .ref n3005, .ref n3006, .int 0, .ref n3007, .ref n3008, .int 1, .int (-1), .int 0, .int 0, .int 1, .int 0, .int 0, .ref n3009, .ref n3010, .int 0, .int 0, .ref n3011, .ref n3012, .int 0, .int 0, .ref n3013, .ref n3014, .ref n3015, .int 0, .ref n3016, .ref n3017, .ref n3018]))] := hD
      refine lv_iload hx hb dL_law_1336 (lv_at hl 1 rfl) ?_
      refine lv_icmp_eq (tgt := 1343) hx hb dL_law_1338 (by decide +kernel) (fun _ => ?_) (fun h => absurd (by decide +kernel) h)
      refine lv_iload hx hb dL_law_1343 (lv_at hl 1 rfl) ?_
      refine lv_if_ne (tgt := 1360) hx hb dL_law_1345 (by decide +kernel) (fun h => absurd (by decide +kernel) h) (fun _ => ?_)
      refine lv_aload_n hx hb dL_law_1348 rfl (lv_at hl 3 rfl) ?_
      refine lv_iconst (v := 0) hx hb dL_law_1349 (by decide +kernel) ?_
      refine va_lald hx hb hK hP 0 2 rfl rfl (i := 0) (vin (by decide +kernel)) dL_law_1350 ?_
      refine top_l (v := 0) (by decide +kernel) ?_
      refine lv_iload hx hb dL_law_1351 (lv_at hl 0 rfl) ?_
      refine lv_i2l (v := 0) hx hb dL_law_1353 (by decide +kernel) ?_
      refine W.lcmp hx hb dL_law_1354 ?_
      refine top_i (v := 0) (by decide +kernel) ?_
      refine lv_if_eq (tgt := 1360) hx hb dL_law_1355 (by decide +kernel) (fun _ => ?_) (fun h => absurd (by decide +kernel) h)
      refine lv_goto (tgt := 2458) hx hb dL_law_1360 (by decide +kernel) ?_
      refine lv_iinc (v := 6) (lv' := [(4, .int 6), (6, .int 0), (5, .int 0), (3, .ref n5000), (2, .ref n3900), (1, .ref n1900), (0, .ref b)]) hx hb dL_law_2458 hl (k := 2) rfl (by decide) (by decide +kernel) rfl (fun ls hl => ?_)
      refine lv_goto (tgt := 23) hx hb dL_law_2461 (by decide +kernel) ?_
      refine lv_iload hx hb dL_law_23 (lv_at hl 0 rfl) ?_
      refine lv_aload_n hx hb dL_law_25 rfl (lv_at hl 6 rfl) ?_
      refine va_slen hx hb hX hbl hbA hS dL_law_26 ?_
      refine top_i (v := 6) rfl ?_
      refine lv_bipush (v := 6) hx hb dL_law_27 (by decide +kernel) ?_
      refine lv_isub hx hb dL_law_29 ?_
      refine top_i (v := 0) (by decide +kernel) ?_
      refine lv_icmp_gt (tgt := 2464) hx hb dL_law_30 (by decide +kernel) (fun _ => ?_) (fun h => absurd (by decide +kernel) h)
      refine lv_iconst (v := 1) hx hb dL_law_2464 (by decide +kernel) ?_
      refine va_forget (fun q hq => hAq _ (hS.2.2 q hq)) ?_
      refine W.widen (k := 600002) (n := 7302232) (by decide +kernel) (by decide +kernel) ?_
      exact lw_ret hx hb hr hlk dL_law_2465
set_option maxHeartbeats 4000000 in
set_option maxRecDepth 100000 in
theorem law_c22 {p : Program} {l : Launch} {e : Env} {s : State} {m : MethodId} {below : List Frame} {meth : Method} {c : Code} {b : Nat} {xs : Nat → Int32} {D : va_G} {cy : Nat → ClassId} {A : Nat → Prop} (hlT : l.stackTraces = false) (F : Fx D cy p m c cL_law 8 s #[Value.ref b] lw_tbl RL A) (hr : meth.sig.returnType = ret) (hlk : meth.locks = false) (hX : va_X b 6 xs s s.heap) (hbl : b < s.heap.size) (hbA : ¬ A b) (hAq : ∀ q, A q → s.heap.size ≤ q) {H : Heap} {locs : List Loc} {ls : Array Slot} (n1900 n1000 n1001 n1017 n1034 n1039 n1041 n1042 n1043 n1044 n1048 n1056 n1057 n1002 n1003 n1004 n1005 n1006 n1007 n1008 n1009 n1010 n1011 n1012 n1013 n1035 n1036 n1037 n1038 n1040 n1045 n1046 n1047 n3900 n3000 n3001 n3002 n3003 n3004 n3005 n3006 n3007 n3008 n3009 n3010 n3011 n3012 n3013 n3014 n3015 n3016 n3017 n3018 n5000 : Nat) (hP : va_P D vwCl [(n1900, .inr (11, [.ref n1000, .int 0, .ref n1001, .ref n1017, .ref n1034, .ref n1039, .ref n1041, .ref n1042, .ref n1043, .ref n1044, .ref n1048, .ref n1056, .ref n1057, .int 0])), (n1001, .inr (9, [.int 0, .int 0, .int 0, .int 0, .int 0, .ref n1002, .ref n1003, .ref n1004, .ref n1005, .ref n1006, .ref n1007, .ref n1008, .int 0, .ref n1009, .ref n1010, .ref n1011, .ref n1012, .ref n1013])), (n1034, .inr (7, [.ref n1001, .ref n1035, .ref n1036, .ref n1037, .ref n1038, .int 0, .int 0])), (n1035, .inl (cy 1, 8, .inl (fun _ => 0))), (n1036, .inl (cy 1, 8, .inl (fun _ => 0))), (n1037, .inl (cy 1, 8, .inl (fun _ => 0))), (n1038, .inl (cy 1, 8, .inl (fun _ => 0))), (n1039, .inr (4, [.int 0, .int 0, .ref n1040])), (n1040, .inl (cy 1, 408, .inl (fun _ => 0))), (n1044, .inr (5, [.ref n1001, .ref n1034, .ref n1045, .int 0, .int 0, .ref n1046, .ref n1047, .int 0, .int 0])), (n1046, .inl (cy 1, 8, .inl (fun _ => 0))), (n1047, .inl (cy 1, 8, .inl (fun _ => 0))), (n3900, .inr (12, [.ref n3000, .ref n3001, .ref n3002, .ref n3003, .int 0, .ref n3004, .int 0, .int 0, .int 0, .int 0, .int 0, .int 0, .int 0, .int 0, .int 0, .int (-1), .int 0, .ref n3005, .ref n3006, .int 0, .ref n3007, .ref n3008, .int 0, .int 0, .int 0, .int 0, .int 0, .int 0, .int 0, .ref n3009, .ref n3010, .int 0, .int 0, .ref n3011, .ref n3012, .int 0, .int 0, .ref n3013, .ref n3014, .ref n3015, .int 0, .ref n3016, .ref n3017, .ref n3018])), (n3000, .inl (cy 1, 1300, .inl (fun _ => 0))), (n3006, .inl (cy 1, 18, .inl (fun _ => 0))), (n5000, .inl (cy 2, 1, .inr (.inl (fun _ => 0))))] H) (hD : va_D A [(n1900, .inr (11, [.ref n1000, .int 0, .ref n1001, .ref n1017, .ref n1034, .ref n1039, .ref n1041, .ref n1042, .ref n1043, .ref n1044, .ref n1048, .ref n1056, .ref n1057, .int 0])), (n1001, .inr (9, [.int 0, .int 0, .int 0, .int 0, .int 0, .ref n1002, .ref n1003, .ref n1004, .ref n1005, .ref n1006, .ref n1007, .ref n1008, .int 0, .ref n1009, .ref n1010, .ref n1011, .ref n1012, .ref n1013])), (n1034, .inr (7, [.ref n1001, .ref n1035, .ref n1036, .ref n1037, .ref n1038, .int 0, .int 0])), (n1035, .inl (cy 1, 8, .inl (fun _ => 0))), (n1036, .inl (cy 1, 8, .inl (fun _ => 0))), (n1037, .inl (cy 1, 8, .inl (fun _ => 0))), (n1038, .inl (cy 1, 8, .inl (fun _ => 0))), (n1039, .inr (4, [.int 0, .int 0, .ref n1040])), (n1040, .inl (cy 1, 408, .inl (fun _ => 0))), (n1044, .inr (5, [.ref n1001, .ref n1034, .ref n1045, .int 0, .int 0, .ref n1046, .ref n1047, .int 0, .int 0])), (n1046, .inl (cy 1, 8, .inl (fun _ => 0))), (n1047, .inl (cy 1, 8, .inl (fun _ => 0))), (n3900, .inr (12, [.ref n3000, .ref n3001, .ref n3002, .ref n3003, .int 0, .ref n3004, .int 0, .int 0, .int 0, .int 0, .int 0, .int 0, .int 0, .int 0, .int 0, .int (-1), .int 0, .ref n3005, .ref n3006, .int 0, .ref n3007, .ref n3008, .int 0, .int 0, .int 0, .int 0, .int 0, .int 0, .int 0, .ref n3009, .ref n3010, .int 0, .int 0, .ref n3011, .ref n3012, .int 0, .int 0, .ref n3013, .ref n3014, .ref n3015, .int 0, .ref n3016, .ref n3017, .ref n3018])), (n3000, .inl (cy 1, 1300, .inl (fun _ => 0))), (n3006, .inl (cy 1, 18, .inl (fun _ => 0))), (n5000, .inl (cy 2, 1, .inr (.inl (fun _ => 0))))]) (hS : va_S A s.heap H locs) (hl : lv_has ls 8 [(4, .int 0), (3, .ref n5000), (2, .ref n3900), (1, .ref n1900), (0, .ref b)]) : W p l e room_1 s m #[Value.ref b] below meth c H locs 152 18765 (lw_Z below #[Value.ref b] s) (F0 m 1363 ls []) := by
  obtain ⟨⟨hx, hb, hml, hown, hts⟩, hK, hG, hZ, hA⟩ := id F
  obtain ⟨z1, ez1⟩ : ∃ z, xs 1 = z := ⟨_, rfl⟩
  obtain ⟨z2, ez2⟩ : ∃ z, xs 2 = z := ⟨_, rfl⟩
  obtain ⟨z3, ez3⟩ : ∃ z, xs 3 = z := ⟨_, rfl⟩
  obtain ⟨z4, ez4⟩ : ∃ z, xs 4 = z := ⟨_, rfl⟩
  obtain ⟨z5, ez5⟩ : ∃ z, xs 5 = z := ⟨_, rfl⟩
  refine lv_aload_n hx hb dL_law_1363 rfl (lv_at hl 3 rfl) ?_
  refine lv_aload_n hx hb dL_law_1364 rfl (lv_at hl 1 rfl) ?_
  refine call_i (av := [.ref n1900, .ref n5000]) F hP hD hS [(n1900, .inr (11, [.ref n1000, .int 0, .ref n1001, .ref n1017, .ref n1034, .ref n1039, .ref n1041, .ref n1042, .ref n1043, .ref n1044, .ref n1048, .ref n1056, .ref n1057, .int 0])), (n1001, .inr (9, [.int 0, .int 0, .int 0, .int 0, .int 0, .ref n1002, .ref n1003, .ref n1004, .ref n1005, .ref n1006, .ref n1007, .ref n1008, .int 0, .ref n1009, .ref n1010, .ref n1011, .ref n1012, .ref n1013])), (n1034, .inr (7, [.ref n1001, .ref n1035, .ref n1036, .ref n1037, .ref n1038, .int 0, .int 0])), (n1035, .inl (cy 1, 8, .inl (fun _ => 0))), (n1036, .inl (cy 1, 8, .inl (fun _ => 0))), (n1037, .inl (cy 1, 8, .inl (fun _ => 0))), (n1038, .inl (cy 1, 8, .inl (fun _ => 0))), (n1039, .inr (4, [.int 0, .int 0, .ref n1040])), (n1040, .inl (cy 1, 408, .inl (fun _ => 0))), (n1044, .inr (5, [.ref n1001, .ref n1034, .ref n1045, .int 0, .int 0, .ref n1046, .ref n1047, .int 0, .int 0])), (n1046, .inl (cy 1, 8, .inl (fun _ => 0))), (n1047, .inl (cy 1, 8, .inl (fun _ => 0))), (n5000, .inl (cy 2, 1, .inr (.inl (fun _ => 0))))] [(n3900, .inr (12, [.ref n3000, .ref n3001, .ref n3002, .ref n3003, .int 0, .ref n3004, .int 0, .int 0, .int 0, .int 0, .int 0, .int 0, .int 0, .int 0, .int 0, .int (-1), .int 0, .ref n3005, .ref n3006, .int 0, .ref n3007, .ref n3008, .int 0, .int 0, .int 0, .int 0, .int 0, .int 0, .int 0, .ref n3009, .ref n3010, .int 0, .int 0, .ref n3011, .ref n3012, .int 0, .int 0, .ref n3013, .ref n3014, .ref n3015, .int 0, .ref n3016, .ref n3017, .ref n3018])), (n3000, .inl (cy 1, 1300, .inl (fun _ => 0))), (n3006, .inl (cy 1, 18, .inl (fun _ => 0)))] [0, 1, 2, 3, 4, 5, 6, 7, 8, 9, 10, 11, 15] [12, 13, 14] rfl rfl (by decide +kernel) (fun pr => vx_runSW (As := [.ref n1900, .ref n5000]) (rest := []) ⟨hx, hb, hml, hown, hts⟩ (k317_L_mend l D cy H.size n1900 n5000 n1001 n1034 n1035 n1036 n1037 n1038 n1039 n1040 n1044 n1046 n1047 n1000 n1017 n1041 n1042 n1043 n1048 n1056 n1057 n1002 n1003 n1004 n1005 n1006 n1007 n1008 n1009 n1010 n1011 n1012 n1013 n1045) (vx_cwSW 2 hts gw_L_mend rfl rfl rfl (by decide +kernel) ⟨(by decide +kernel), (by decide +kernel)⟩) pr rfl rfl hl.1 rfl (lv_room (Nat.le_of_ble_eq_true rfl)) dL_law_1365 ⟨(by decide +kernel), (by decide +kernel)⟩) (fun r u H locs hw hP hD hS => ?_)
  rcases hw with ⟨rfl, rfl⟩
  have hP : va_P D vwCl [(n3900, .inr (12, [.ref n3000, .ref n3001, .ref n3002, .ref n3003, .int 0, .ref n3004, .int 0, .int 0, .int 0, .int 0, .int 0, .int 0, .int 0, .int 0, .int 0, .int (-1), .int 0, .ref n3005, .ref n3006, .int 0, .ref n3007, .ref n3008, .int 0, .int 0, .int 0, .int 0, .int 0, .int 0, .int 0, .ref n3009, .ref n3010, .int 0, .int 0, .ref n3011, .ref n3012, .int 0, .int 0, .ref n3013, .ref n3014, .ref n3015, .int 0, .ref n3016, .ref n3017, .ref n3018])), (n3000, .inl (cy 1, 1300, .inl (fun _ => 0))), (n3006, .inl (cy 1, 18, .inl (fun _ => 0))), (n5000, .inl (cy 2, 1, .inr (.inl (fun _ => 0))))] H := hP
  have hD : va_D A [(n3900, .inr (12, [.ref n3000, .ref n3001, .ref n3002, .ref n3003, .int 0, .ref n3004, .int 0, .int 0, .int 0, .int 0, .int 0, .int 0, .int 0, .int 0, .int 0, .int (-1), .int 0, .ref n3005, .ref n3006, .int 0, .ref n3007, .ref n3008, .int 0, .int 0, .int 0, .int 0, .int 0, .int 0, .int 0, .ref n3009, .ref n3010, .int 0, .int 0, .ref n3011, .ref n3012, .int 0, .int 0, .ref n3013, .ref n3014, .ref n3015, .int 0, .ref n3016, .ref n3017, .ref n3018])), (n3000, .inl (cy 1, 1300, .inl (fun _ => 0))), (n3006, .inl (cy 1, 18, .inl (fun _ => 0))), (n5000, .inl (cy 2, 1, .inr (.inl (fun _ => 0))))] := hD
  refine lv_istore (lv' := [(5, .int 0), (4, .int 0), (3, .ref n5000), (2, .ref n3900), (1, .ref n1900), (0, .ref b)]) hx hb dL_law_1368 hl (by decide +kernel) rfl (fun ls hl => ?_)
  refine lv_aload_n hx hb dL_law_1370 rfl (lv_at hl 3 rfl) ?_
  refine call_i (av := [.ref n3900]) F hP hD hS [(n3900, .inr (12, [.ref n3000, .ref n3001, .ref n3002, .ref n3003, .int 0, .ref n3004, .int 0, .int 0, .int 0, .int 0, .int 0, .int 0, .int 0, .int 0, .int 0, .int (-1), .int 0, .ref n3005, .ref n3006, .int 0, .ref n3007, .ref n3008, .int 0, .int 0, .int 0, .int 0, .int 0, .int 0, .int 0, .ref n3009, .ref n3010, .int 0, .int 0, .ref n3011, .ref n3012, .int 0, .int 0, .ref n3013, .ref n3014, .ref n3015, .int 0, .ref n3016, .ref n3017, .ref n3018])), (n3000, .inl (cy 1, 1300, .inl (fun _ => 0))), (n3006, .inl (cy 1, 18, .inl (fun _ => 0)))] [(n5000, .inl (cy 2, 1, .inr (.inl (fun _ => 0))))] [0, 1, 2] [3] rfl rfl (by decide +kernel) (fun pr => va_runV (As := []) (rest := []) ⟨hx, hb, hml, hown, hts⟩ (k251_X12_mend l D cy H.size n3900 n3000 n3006 n3001 n3002 n3003 n3004 n3005 n3007 n3008 n3009 n3010 n3011 n3012 n3013 n3014 n3015 n3016 n3017 n3018) (cwV 0 hts gw_X12_mend rfl rfl rfl (by decide +kernel) ⟨(by decide +kernel), (by decide +kernel)⟩) ⟨pr.1, va_recv hK hP (ci := 12) (q0 := 0) rfl rfl, pr.2⟩ rfl rfl hl.1 rfl (lv_room (Nat.le_of_ble_eq_true rfl)) dL_law_1371 ⟨(by decide +kernel), (by decide +kernel)⟩) (fun r u H locs hw hP hD hS => ?_)
  rcases hw with ⟨rfl, rfl⟩
  have hP : va_P D vwCl [(n5000, .inl (cy 2, 1, .inr (.inl (fun _ => 0)))), (n3006, .inl (cy 1, 18, .inl (fun _ => 0))), (n3900, .inr (12, [.ref n3000, .ref n3001, .ref n3002, .ref n3003, .int 0, .ref n3004, .int 0, .int 0, .int 0, .int 0, .int 0, .int 0, .int 0, .int 0, .int 0, .int (-1), .int 0, .ref n3005, .ref n3006, .int 0, .ref n3007, .ref n3008, .int 1, .int (-1), .int 0, .int 0, .int 1, .int 0, .int 0, .ref n3009, .ref n3010, .int 0, .int 0, .ref n3011, .ref n3012, .int 0, .int 0, .ref n3013, .ref n3014, .ref n3015, .int 0, .ref n3016, .ref n3017, .ref n3018])), (n3000, .inl (cy 1, 1300, .inl (upd (fun _ => 0) 7 1)))] H := hP
  have hD : va_D A [(n5000, .inl (cy 2, 1, .inr (.inl (fun _ => 0)))), (n3006, .inl (cy 1, 18, .inl (fun _ => 0))), (n3900, .inr (12, [.ref n3000, .ref n3001, .ref n3002, .ref n3003, .int 0, .ref n3004, .int 0, .int 0, .int 0, .int 0, .int 0, .int 0, .int 0, .int 0, .int 0, .int (-1), .int 0, .ref n3005, .ref n3006, .int 0, .ref n3007, .ref n3008, .int 1, .int (-1), .int 0, .int 0, .int 1, .int 0, .int 0, .ref n3009, .ref n3010, .int 0, .int 0, .ref n3011, .ref n3012, .int 0, .int 0, .ref n3013, .ref n3014, .ref n3015, .int 0, .ref n3016, .ref n3017, .ref n3018])), (n3000, .inl (cy 1, 1300, .inl (upd (fun _ => 0) 7 1)))] := hD
  refine lv_istore (lv' := [(6, .int 0), (5, .int 0), (4, .int 0), (3, .ref n5000), (2, .ref n3900), (1, .ref n1900), (0, .ref b)]) hx hb dL_law_1374 hl (by decide +kernel) rfl (fun ls hl => ?_)
  refine lv_aload_n hx hb dL_law_1376 rfl (lv_at hl 4 rfl) ?_
  refine call_i (av := [.ref n3900]) F hP hD hS [(n3900, .inr (12, [.ref n3000, .ref n3001, .ref n3002, .ref n3003, .int 0, .ref n3004, .int 0, .int 0, .int 0, .int 0, .int 0, .int 0, .int 0, .int 0, .int 0, .int (-1), .int 0, .ref n3005, .ref n3006, .int 0, .ref n3007, .ref n3008, .int 1, .int (-1), .int 0, .int 0, .int 1, .int 0, .int 0, .ref n3009, .ref n3010, .int 0, .int 0, .ref n3011, .ref n3012, .int 0, .int 0, .ref n3013, .ref n3014, .ref n3015, .int 0, .ref n3016, .ref n3017, .ref n3018]))] [(n5000, .inl (cy 2, 1, .inr (.inl (fun _ => 0)))), (n3006, .inl (cy 1, 18, .inl (fun _ => 0))), (n3000, .inl (cy 1, 1300, .inl (upd (fun _ => 0) 7 1)))] [2] [0, 1, 3] rfl rfl (by decide +kernel) (fun pr => va_runV (As := []) (rest := []) ⟨hx, hb, hml, hown, hts⟩ (k336_X12_thrown l D cy H.size n3900 n3000 n3001 n3002 n3003 n3004 n3005 n3006 n3007 n3008 n3009 n3010 n3011 n3012 n3013 n3014 n3015 n3016 n3017 n3018) (cwV 0 hts gw_X12_thrown rfl rfl rfl (by decide +kernel) ⟨(by decide +kernel), (by decide +kernel)⟩) ⟨pr.1, va_recv hK hP (ci := 12) (q0 := 2) rfl rfl, pr.2⟩ rfl rfl hl.1 rfl (lv_room (Nat.le_of_ble_eq_true rfl)) dL_law_1377 ⟨(by decide +kernel), (by decide +kernel)⟩) (fun r u H locs hw hP hD hS => ?_)
  rcases hw with ⟨rfl, rfl⟩
  have hP : va_P D vwCl [(n5000, .inl (cy 2, 1, .inr (.inl (fun _ => 0)))), (n3006, .inl (cy 1, 18, .inl (fun _ => 0))), (n3000, .inl (cy 1, 1300, .inl (upd (fun _ => 0) 7 1))), (n3900, .inr (12, [.ref n3000, .ref n3001, .ref n3002, .ref n3003, .int 0, .ref n3004, .int 0, .int 0, .int 0, .int 0, .int 0, .int 0, .int 0, .int 0, .int 0, .int (-1), .int 0, .ref n3005, .ref n3006, .int 0, .ref n3007, .ref n3008, .int 1, .int (-1), .int 0, .int 0, .int 1, .int 0, .int 0, .ref n3009, .ref n3010, .int 0, .int 0, .ref n3011, .ref n3012, .int 0, .int 0, .ref n3013, .ref n3014, .ref n3015, .int 0, .ref n3016, .ref n3017, .ref n3018]))] H := hP
  have hD : va_D A [(n5000, .inl (cy 2, 1, .inr (.inl (fun _ => 0)))), (n3006, .inl (cy 1, 18, .inl (fun _ => 0))), (n3000, .inl (cy 1, 1300, .inl (upd (fun _ => 0) 7 1))), (n3900, .inr (12, [.ref n3000, .ref n3001, .ref n3002, .ref n3003, .int 0, .ref n3004, .int 0, .int 0, .int 0, .int 0, .int 0, .int 0, .int 0, .int 0, .int 0, .int (-1), .int 0, .ref n3005, .ref n3006, .int 0, .ref n3007, .ref n3008, .int 1, .int (-1), .int 0, .int 0, .int 1, .int 0, .int 0, .ref n3009, .ref n3010, .int 0, .int 0, .ref n3011, .ref n3012, .int 0, .int 0, .ref n3013, .ref n3014, .ref n3015, .int 0, .ref n3016, .ref n3017, .ref n3018]))] := hD
  refine lv_iload hx hb dL_law_1380 (lv_at hl 1 rfl) ?_
  refine lv_icmp_eq (tgt := 1387) hx hb dL_law_1382 (by decide +kernel) (fun _ => ?_) (fun h => absurd (by decide +kernel) h)
  refine lv_iload hx hb dL_law_1387 (lv_at hl 1 rfl) ?_
  refine lv_if_ne (tgt := 1404) hx hb dL_law_1389 (by decide +kernel) (fun h => absurd (by decide +kernel) h) (fun _ => ?_)
  refine lv_aload_n hx hb dL_law_1392 rfl (lv_at hl 3 rfl) ?_
  refine lv_iconst (v := 0) hx hb dL_law_1393 (by decide +kernel) ?_
  refine va_lald hx hb hK hP 0 2 rfl rfl (i := 0) (vin (by decide +kernel)) dL_law_1394 ?_
  refine top_l (v := 0) (by decide +kernel) ?_
  refine lv_iload hx hb dL_law_1395 (lv_at hl 0 rfl) ?_
  refine lv_i2l (v := 0) hx hb dL_law_1397 (by decide +kernel) ?_
  refine W.lcmp hx hb dL_law_1398 ?_
  refine top_i (v := 0) (by decide +kernel) ?_
  refine lv_if_eq (tgt := 1404) hx hb dL_law_1399 (by decide +kernel) (fun _ => ?_) (fun h => absurd (by decide +kernel) h)
  refine lv_goto (tgt := 2458) hx hb dL_law_1404 (by decide +kernel) ?_
  refine lv_iinc (v := 6) (lv' := [(4, .int 6), (6, .int 0), (5, .int 0), (3, .ref n5000), (2, .ref n3900), (1, .ref n1900), (0, .ref b)]) hx hb dL_law_2458 hl (k := 2) rfl (by decide) (by decide +kernel) rfl (fun ls hl => ?_)
  refine lv_goto (tgt := 23) hx hb dL_law_2461 (by decide +kernel) ?_
  refine lv_iload hx hb dL_law_23 (lv_at hl 0 rfl) ?_
  refine lv_aload_n hx hb dL_law_25 rfl (lv_at hl 6 rfl) ?_
  refine va_slen hx hb hX hbl hbA hS dL_law_26 ?_
  refine top_i (v := 6) rfl ?_
  refine lv_bipush (v := 6) hx hb dL_law_27 (by decide +kernel) ?_
  refine lv_isub hx hb dL_law_29 ?_
  refine top_i (v := 0) (by decide +kernel) ?_
  refine lv_icmp_gt (tgt := 2464) hx hb dL_law_30 (by decide +kernel) (fun _ => ?_) (fun h => absurd (by decide +kernel) h)
  refine lv_iconst (v := 1) hx hb dL_law_2464 (by decide +kernel) ?_
  refine va_forget (fun q hq => hAq _ (hS.2.2 q hq)) ?_
  refine W.widen (k := 600002) (n := 7302232) (by decide +kernel) (by decide +kernel) ?_
  exact lw_ret hx hb hr hlk dL_law_2465
set_option maxHeartbeats 4000000 in
set_option maxRecDepth 100000 in
theorem law_c23 {p : Program} {l : Launch} {e : Env} {s : State} {m : MethodId} {below : List Frame} {meth : Method} {c : Code} {b : Nat} {xs : Nat → Int32} {D : va_G} {cy : Nat → ClassId} {A : Nat → Prop} (hlT : l.stackTraces = false) (F : Fx D cy p m c cL_law 8 s #[Value.ref b] lw_tbl RL A) (hr : meth.sig.returnType = ret) (hlk : meth.locks = false) (hX : va_X b 6 xs s s.heap) (hbl : b < s.heap.size) (hbA : ¬ A b) (hAq : ∀ q, A q → s.heap.size ≤ q) {H : Heap} {locs : List Loc} {ls : Array Slot} (n1900 n1000 n1001 n1017 n1034 n1039 n1041 n1042 n1043 n1044 n1048 n1056 n1057 n1002 n1003 n1004 n1005 n1006 n1007 n1008 n1009 n1010 n1011 n1012 n1013 n1049 n1050 n1051 n1052 n1053 n1054 n1055 n3900 n3000 n3001 n3002 n3003 n3004 n3005 n3006 n3007 n3008 n3009 n3010 n3011 n3012 n3013 n3014 n3015 n3016 n3017 n3018 n5000 : Nat) (hP : va_P D vwCl [(n1900, .inr (11, [.ref n1000, .int 0, .ref n1001, .ref n1017, .ref n1034, .ref n1039, .ref n1041, .ref n1042, .ref n1043, .ref n1044, .ref n1048, .ref n1056, .ref n1057, .int 0])), (n1001, .inr (9, [.int 0, .int 0, .int 0, .int 0, .int 0, .ref n1002, .ref n1003, .ref n1004, .ref n1005, .ref n1006, .ref n1007, .ref n1008, .int 0, .ref n1009, .ref n1010, .ref n1011, .ref n1012, .ref n1013])), (n1048, .inr (0, [.ref n1001, .ref n1034, .ref n1049, .ref n1050, .ref n1051, .int 0, .ref n1052, .int 0, .int 0, .ref n1053, .ref n1054, .ref n1055, .int 0])), (n3900, .inr (12, [.ref n3000, .ref n3001, .ref n3002, .ref n3003, .int 0, .ref n3004, .int 0, .int 0, .int 0, .int 0, .int 0, .int 0, .int 0, .int 0, .int 0, .int (-1), .int 0, .ref n3005, .ref n3006, .int 0, .ref n3007, .ref n3008, .int 0, .int 0, .int 0, .int 0, .int 0, .int 0, .int 0, .ref n3009, .ref n3010, .int 0, .int 0, .ref n3011, .ref n3012, .int 0, .int 0, .ref n3013, .ref n3014, .ref n3015, .int 0, .ref n3016, .ref n3017, .ref n3018])), (n3000, .inl (cy 1, 1300, .inl (fun _ => 0))), (n3006, .inl (cy 1, 18, .inl (fun _ => 0))), (n5000, .inl (cy 2, 1, .inr (.inl (fun _ => 0))))] H) (hD : va_D A [(n1900, .inr (11, [.ref n1000, .int 0, .ref n1001, .ref n1017, .ref n1034, .ref n1039, .ref n1041, .ref n1042, .ref n1043, .ref n1044, .ref n1048, .ref n1056, .ref n1057, .int 0])), (n1001, .inr (9, [.int 0, .int 0, .int 0, .int 0, .int 0, .ref n1002, .ref n1003, .ref n1004, .ref n1005, .ref n1006, .ref n1007, .ref n1008, .int 0, .ref n1009, .ref n1010, .ref n1011, .ref n1012, .ref n1013])), (n1048, .inr (0, [.ref n1001, .ref n1034, .ref n1049, .ref n1050, .ref n1051, .int 0, .ref n1052, .int 0, .int 0, .ref n1053, .ref n1054, .ref n1055, .int 0])), (n3900, .inr (12, [.ref n3000, .ref n3001, .ref n3002, .ref n3003, .int 0, .ref n3004, .int 0, .int 0, .int 0, .int 0, .int 0, .int 0, .int 0, .int 0, .int 0, .int (-1), .int 0, .ref n3005, .ref n3006, .int 0, .ref n3007, .ref n3008, .int 0, .int 0, .int 0, .int 0, .int 0, .int 0, .int 0, .ref n3009, .ref n3010, .int 0, .int 0, .ref n3011, .ref n3012, .int 0, .int 0, .ref n3013, .ref n3014, .ref n3015, .int 0, .ref n3016, .ref n3017, .ref n3018])), (n3000, .inl (cy 1, 1300, .inl (fun _ => 0))), (n3006, .inl (cy 1, 18, .inl (fun _ => 0))), (n5000, .inl (cy 2, 1, .inr (.inl (fun _ => 0))))]) (hS : va_S A s.heap H locs) (hl : lv_has ls 8 [(4, .int 0), (3, .ref n5000), (2, .ref n3900), (1, .ref n1900), (0, .ref b)]) : W p l e room_1 s m #[Value.ref b] below meth c H locs 152 18765 (lw_Z below #[Value.ref b] s) (F0 m 1407 ls []) := by
  obtain ⟨⟨hx, hb, hml, hown, hts⟩, hK, hG, hZ, hA⟩ := id F
  obtain ⟨z1, ez1⟩ : ∃ z, xs 1 = z := ⟨_, rfl⟩
  obtain ⟨z2, ez2⟩ : ∃ z, xs 2 = z := ⟨_, rfl⟩
  obtain ⟨z3, ez3⟩ : ∃ z, xs 3 = z := ⟨_, rfl⟩
  obtain ⟨z4, ez4⟩ : ∃ z, xs 4 = z := ⟨_, rfl⟩
  obtain ⟨z5, ez5⟩ : ∃ z, xs 5 = z := ⟨_, rfl⟩
  refine lv_aload_n hx hb dL_law_1407 rfl (lv_at hl 3 rfl) ?_
  refine lv_aload_n hx hb dL_law_1408 rfl (lv_at hl 4 rfl) ?_
  refine lv_iload hx hb dL_law_1409 (lv_at hl 0 rfl) ?_
  refine lv_iconst (v := 1) hx hb dL_law_1411 (by decide +kernel) ?_
  refine lv_iadd hx hb dL_law_1412 ?_
  refine top_i (v := 1) (by decide +kernel) ?_
  refine va_sld hx hb hX hbl hbA hS (i := 1) (vin (by decide +kernel)) dL_law_1413 ?_
  refine top_i (v := z1) ez1 ?_
  refine lv_aload_n hx hb dL_law_1414 rfl (lv_at hl 1 rfl) ?_
  refine call_i (av := [.ref n1900, .int z1, .ref n5000]) F hP hD hS [(n1900, .inr (11, [.ref n1000, .int 0, .ref n1001, .ref n1017, .ref n1034, .ref n1039, .ref n1041, .ref n1042, .ref n1043, .ref n1044, .ref n1048, .ref n1056, .ref n1057, .int 0])), (n1001, .inr (9, [.int 0, .int 0, .int 0, .int 0, .int 0, .ref n1002, .ref n1003, .ref n1004, .ref n1005, .ref n1006, .ref n1007, .ref n1008, .int 0, .ref n1009, .ref n1010, .ref n1011, .ref n1012, .ref n1013])), (n1048, .inr (0, [.ref n1001, .ref n1034, .ref n1049, .ref n1050, .ref n1051, .int 0, .ref n1052, .int 0, .int 0, .ref n1053, .ref n1054, .ref n1055, .int 0])), (n5000, .inl (cy 2, 1, .inr (.inl (fun _ => 0))))] [(n3900, .inr (12, [.ref n3000, .ref n3001, .ref n3002, .ref n3003, .int 0, .ref n3004, .int 0, .int 0, .int 0, .int 0, .int 0, .int 0, .int 0, .int 0, .int 0, .int (-1), .int 0, .ref n3005, .ref n3006, .int 0, .ref n3007, .ref n3008, .int 0, .int 0, .int 0, .int 0, .int 0, .int 0, .int 0, .ref n3009, .ref n3010, .int 0, .int 0, .ref n3011, .ref n3012, .int 0, .int 0, .ref n3013, .ref n3014, .ref n3015, .int 0, .ref n3016, .ref n3017, .ref n3018])), (n3000, .inl (cy 1, 1300, .inl (fun _ => 0))), (n3006, .inl (cy 1, 18, .inl (fun _ => 0)))] [0, 1, 2, 6] [3, 4, 5] rfl rfl (by decide +kernel) (fun pr => vx_runSW (As := [.ref n1900, .int z1, .ref n5000]) (rest := []) ⟨hx, hb, hml, hown, hts⟩ (k318_L_flips l hlT D cy H.size n1900 z1 n5000 n1001 n1048 n1000 n1017 n1034 n1039 n1041 n1042 n1043 n1044 n1056 n1057 n1002 n1003 n1004 n1005 n1006 n1007 n1008 n1009 n1010 n1011 n1012 n1013 n1049 n1050 n1051 n1052 n1053 n1054 n1055) (vx_cwSW 3 hts gw_L_flips rfl rfl rfl (by decide +kernel) ⟨(by decide +kernel), (by decide +kernel)⟩) pr rfl rfl hl.1 rfl (lv_room (Nat.le_of_ble_eq_true rfl)) dL_law_1415 ⟨(by decide +kernel), (by decide +kernel)⟩) (fun r u H locs hw hP hD hS => ?_)
  rcases hw with ⟨c800001, rfl, rfl⟩ | ⟨c800002, c800003, rfl, rfl⟩ | ⟨c800004, c800005, c800006, rfl, rfl⟩ | ⟨c800007, c800008, c800009, rfl, rfl⟩
  · have hP : va_P D vwCl [(n3900, .inr (12, [.ref n3000, .ref n3001, .ref n3002, .ref n3003, .int 0, .ref n3004, .int 0, .int 0, .int 0, .int 0, .int 0, .int 0, .int 0, .int 0, .int 0, .int (-1), .int 0, .ref n3005, .ref n3006, .int 0, .ref n3007, .ref n3008, .int 0, .int 0, .int 0, .int 0, .int 0, .int 0, .int 0, .ref n3009, .ref n3010, .int 0, .int 0, .ref n3011, .ref n3012, .int 0, .int 0, .ref n3013, .ref n3014, .ref n3015, .int 0, .ref n3016, .ref n3017, .ref n3018])), (n3000, .inl (cy 1, 1300, .inl (fun _ => 0))), (n3006, .inl (cy 1, 18, .inl (fun _ => 0))), (n5000, .inl (cy 2, 1, .inr (.inl (fun _ => 0))))] H := hP
    have hD : va_D A [(n3900, .inr (12, [.ref n3000, .ref n3001, .ref n3002, .ref n3003, .int 0, .ref n3004, .int 0, .int 0, .int 0, .int 0, .int 0, .int 0, .int 0, .int 0, .int 0, .int (-1), .int 0, .ref n3005, .ref n3006, .int 0, .ref n3007, .ref n3008, .int 0, .int 0, .int 0, .int 0, .int 0, .int 0, .int 0, .ref n3009, .ref n3010, .int 0, .int 0, .ref n3011, .ref n3012, .int 0, .int 0, .ref n3013, .ref n3014, .ref n3015, .int 0, .ref n3016, .ref n3017, .ref n3018])), (n3000, .inl (cy 1, 1300, .inl (fun _ => 0))), (n3006, .inl (cy 1, 18, .inl (fun _ => 0))), (n5000, .inl (cy 2, 1, .inr (.inl (fun _ => 0))))] := hD
    refine lv_istore (lv' := [(5, .int 1), (4, .int 0), (3, .ref n5000), (2, .ref n3900), (1, .ref n1900), (0, .ref b)]) hx hb dL_law_1418 hl (by decide +kernel) rfl (fun ls hl => ?_)
    refine lv_aload_n hx hb dL_law_1420 rfl (lv_at hl 3 rfl) ?_
    refine lv_aload_n hx hb dL_law_1421 rfl (lv_at hl 5 rfl) ?_
    refine lv_iload hx hb dL_law_1422 (lv_at hl 1 rfl) ?_
    refine lv_iconst (v := 1) hx hb dL_law_1424 (by decide +kernel) ?_
    refine lv_iadd hx hb dL_law_1425 ?_
    refine top_i (v := 1) (by decide +kernel) ?_
    refine va_sld hx hb hX hbl hbA hS (i := 1) (vin (by decide +kernel)) dL_law_1426 ?_
    refine top_i (v := z1) ez1 ?_
    refine call_i (av := [.ref n3900, .int z1]) F hP hD hS [(n3900, .inr (12, [.ref n3000, .ref n3001, .ref n3002, .ref n3003, .int 0, .ref n3004, .int 0, .int 0, .int 0, .int 0, .int 0, .int 0, .int 0, .int 0, .int 0, .int (-1), .int 0, .ref n3005, .ref n3006, .int 0, .ref n3007, .ref n3008, .int 0, .int 0, .int 0, .int 0, .int 0, .int 0, .int 0, .ref n3009, .ref n3010, .int 0, .int 0, .ref n3011, .ref n3012, .int 0, .int 0, .ref n3013, .ref n3014, .ref n3015, .int 0, .ref n3016, .ref n3017, .ref n3018])), (n3000, .inl (cy 1, 1300, .inl (fun _ => 0))), (n3006, .inl (cy 1, 18, .inl (fun _ => 0)))] [(n5000, .inl (cy 2, 1, .inr (.inl (fun _ => 0))))] [0, 1, 2] [3] rfl rfl (by decide +kernel) (fun pr => va_runV (As := [.int z1]) (rest := []) ⟨hx, hb, hml, hown, hts⟩ (k245_X12_flips l D cy H.size n3900 z1 n3000 n3006 n3001 n3002 n3003 n3004 n3005 n3007 n3008 n3009 n3010 n3011 n3012 n3013 n3014 n3015 n3016 n3017 n3018) (cwV 1 hts gw_X12_flips rfl rfl rfl (by decide +kernel) ⟨(by decide +kernel), (by decide +kernel)⟩) ⟨pr.1, va_recv hK hP (ci := 12) (q0 := 0) rfl rfl, pr.2⟩ rfl rfl hl.1 rfl (lv_room (Nat.le_of_ble_eq_true rfl)) dL_law_1427 ⟨(by decide +kernel), (by decide +kernel)⟩) (fun r u H locs hw hP hD hS => ?_)
    rcases hw with ⟨c800010, rfl, rfl⟩ | ⟨c800011, c800012, rfl, rfl⟩ | ⟨c800013, c800014, c800015, rfl, rfl⟩ | ⟨c800016, c800017, c800018, rfl, rfl⟩
    · have hP : va_P D vwCl [(n5000, .inl (cy 2, 1, .inr (.inl (fun _ => 0)))), (n3000, .inl (cy 1, 1300, .inl (fun _ => 0))), (n3006, .inl (cy 1, 18, .inl (fun _ => 0))), (n3900, .inr (12, [.ref n3000, .ref n3001, .ref n3002, .ref n3003, .int 1, .ref n3004, .int 0, .int 0, .int 0, .int 0, .int 0, .int 0, .int 0, .int 0, .int 0, .int (-1), .int 0, .ref n3005, .ref n3006, .int 0, .ref n3007, .ref n3008, .int 0, .int 0, .int 0, .int 0, .int 0, .int 0, .int 0, .ref n3009, .ref n3010, .int 0, .int 0, .ref n3011, .ref n3012, .int 0, .int 0, .ref n3013, .ref n3014, .ref n3015, .int 0, .ref n3016, .ref n3017, .ref n3018]))] H := hP
      have hD : va_D A [(n5000, .inl (cy 2, 1, .inr (.inl (fun _ => 0)))), (n3000, .inl (cy 1, 1300, .inl (fun _ => 0))), (n3006, .inl (cy 1, 18, .inl (fun _ => 0))), (n3900, .inr (12, [.ref n3000, .ref n3001, .ref n3002, .ref n3003, .int 1, .ref n3004, .int 0, .int 0, .int 0, .int 0, .int 0, .int 0, .int 0, .int 0, .int 0, .int (-1), .int 0, .ref n3005, .ref n3006, .int 0, .ref n3007, .ref n3008, .int 0, .int 0, .int 0, .int 0, .int 0, .int 0, .int 0, .ref n3009, .ref n3010, .int 0, .int 0, .ref n3011, .ref n3012, .int 0, .int 0, .ref n3013, .ref n3014, .ref n3015, .int 0, .ref n3016, .ref n3017, .ref n3018]))] := hD
      refine lv_istore (lv' := [(6, .int 0), (5, .int 1), (4, .int 0), (3, .ref n5000), (2, .ref n3900), (1, .ref n1900), (0, .ref b)]) hx hb dL_law_1430 hl (by decide +kernel) rfl (fun ls hl => ?_)
      refine lv_aload_n hx hb dL_law_1432 rfl (lv_at hl 4 rfl) ?_
      refine call_i (av := [.ref n3900]) F hP hD hS [(n3900, .inr (12, [.ref n3000, .ref n3001, .ref n3002, .ref n3003, .int 1, .ref n3004, .int 0, .int 0, .int 0, .int 0, .int 0, .int 0, .int 0, .int 0, .int 0, .int (-1), .int 0, .ref n3005, .ref n3006, .int 0, .ref n3007, .ref n3008, .int 0, .int 0, .int 0, .int 0, .int 0, .int 0, .int 0, .ref n3009, .ref n3010, .int 0, .int 0, .ref n3011, .ref n3012, .int 0, .int 0, .ref n3013, .ref n3014, .ref n3015, .int 0, .ref n3016, .ref n3017, .ref n3018]))] [(n5000, .inl (cy 2, 1, .inr (.inl (fun _ => 0)))), (n3000, .inl (cy 1, 1300, .inl (fun _ => 0))), (n3006, .inl (cy 1, 18, .inl (fun _ => 0)))] [3] [0, 1, 2] rfl rfl (by decide +kernel) (fun pr => va_runV (As := []) (rest := []) ⟨hx, hb, hml, hown, hts⟩ (k333_X12_thrown l D cy H.size n3900 n3000 n3001 n3002 n3003 n3004 n3005 n3006 n3007 n3008 n3009 n3010 n3011 n3012 n3013 n3014 n3015 n3016 n3017 n3018) (cwV 0 hts gw_X12_thrown rfl rfl rfl (by decide +kernel) ⟨(by decide +kernel), (by decide +kernel)⟩) ⟨pr.1, va_recv hK hP (ci := 12) (q0 := 3) rfl rfl, pr.2⟩ rfl rfl hl.1 rfl (lv_room (Nat.le_of_ble_eq_true rfl)) dL_law_1433 ⟨(by decide +kernel), (by decide +kernel)⟩) (fun r u H locs hw hP hD hS => ?_)
      rcases hw with ⟨rfl, rfl⟩
      have hP : va_P D vwCl [(n5000, .inl (cy 2, 1, .inr (.inl (fun _ => 0)))), (n3000, .inl (cy 1, 1300, .inl (fun _ => 0))), (n3006, .inl (cy 1, 18, .inl (fun _ => 0))), (n3900, .inr (12, [.ref n3000, .ref n3001, .ref n3002, .ref n3003, .int 1, .ref n3004, .int 0, .int 0, .int 0, .int 0, .int 0, .int 0, .int 0, .int 0, .int 0, .int (-1), .int 0, .ref n3005, .ref n3006, .int 0, .ref n3007, .ref n3008, .int 0, .int 0, .int 0, .int 0, .int 0, .int 0, .int 0, .ref n3009, .ref n3010, .int 0, .int 0, .ref n3011, .ref n3012, .int 0, .int 0, .ref n3013, .ref n3014, .ref n3015, .int 0, .ref n3016, .ref n3017, .ref n3018]))] H := hP
      have hD : va_D A [(n5000, .inl (cy 2, 1, .inr (.inl (fun _ => 0)))), (n3000, .inl (cy 1, 1300, .inl (fun _ => 0))), (n3006, .inl (cy 1, 18, .inl (fun _ => 0))), (n3900, .inr (12, [.ref n3000, .ref n3001, .ref n3002, .ref n3003, .int 1, .ref n3004, .int 0, .int 0, .int 0, .int 0, .int 0, .int 0, .int 0, .int 0, .int 0, .int (-1), .int 0, .ref n3005, .ref n3006, .int 0, .ref n3007, .ref n3008, .int 0, .int 0, .int 0, .int 0, .int 0, .int 0, .int 0, .ref n3009, .ref n3010, .int 0, .int 0, .ref n3011, .ref n3012, .int 0, .int 0, .ref n3013, .ref n3014, .ref n3015, .int 0, .ref n3016, .ref n3017, .ref n3018]))] := hD
      refine lv_iload hx hb dL_law_1436 (lv_at hl 1 rfl) ?_
      refine lv_icmp_eq (tgt := 1443) hx hb dL_law_1438 (by decide +kernel) (fun _ => ?_) (fun h => absurd (by decide +kernel) h)
      refine lv_iload hx hb dL_law_1443 (lv_at hl 1 rfl) ?_
      refine lv_if_ne (tgt := 1460) hx hb dL_law_1445 (by decide +kernel) (fun _ => ?_) (fun h => absurd h (by decide +kernel))
      refine lv_goto (tgt := 2458) hx hb dL_law_1460 (by decide +kernel) ?_
      refine lv_iinc (v := 6) (lv' := [(4, .int 6), (6, .int 0), (5, .int 1), (3, .ref n5000), (2, .ref n3900), (1, .ref n1900), (0, .ref b)]) hx hb dL_law_2458 hl (k := 2) rfl (by decide) (by decide +kernel) rfl (fun ls hl => ?_)
      refine lv_goto (tgt := 23) hx hb dL_law_2461 (by decide +kernel) ?_
      refine lv_iload hx hb dL_law_23 (lv_at hl 0 rfl) ?_
      refine lv_aload_n hx hb dL_law_25 rfl (lv_at hl 6 rfl) ?_
      refine va_slen hx hb hX hbl hbA hS dL_law_26 ?_
      refine top_i (v := 6) rfl ?_
      refine lv_bipush (v := 6) hx hb dL_law_27 (by decide +kernel) ?_
      refine lv_isub hx hb dL_law_29 ?_
      refine top_i (v := 0) (by decide +kernel) ?_
      refine lv_icmp_gt (tgt := 2464) hx hb dL_law_30 (by decide +kernel) (fun _ => ?_) (fun h => absurd (by decide +kernel) h)
      refine lv_iconst (v := 1) hx hb dL_law_2464 (by decide +kernel) ?_
      refine va_forget (fun q hq => hAq _ (hS.2.2 q hq)) ?_
      refine W.widen (k := 600002) (n := 7302232) (by decide +kernel) (by decide +kernel) ?_
      exact lw_ret hx hb hr hlk dL_law_2465
    · exact (no_b (lo_nlt_w c800011) (up_lt c800001) (by decide +kernel)).elim
    · exact (no_b (lo_nlt_w c800013) (up_lt c800001) (by decide +kernel)).elim
    · exact (no_b (lo_nlt_w c800016) (up_lt c800001) (by decide +kernel)).elim
  · have hP : va_P D vwCl [(n3900, .inr (12, [.ref n3000, .ref n3001, .ref n3002, .ref n3003, .int 0, .ref n3004, .int 0, .int 0, .int 0, .int 0, .int 0, .int 0, .int 0, .int 0, .int 0, .int (-1), .int 0, .ref n3005, .ref n3006, .int 0, .ref n3007, .ref n3008, .int 0, .int 0, .int 0, .int 0, .int 0, .int 0, .int 0, .ref n3009, .ref n3010, .int 0, .int 0, .ref n3011, .ref n3012, .int 0, .int 0, .ref n3013, .ref n3014, .ref n3015, .int 0, .ref n3016, .ref n3017, .ref n3018])), (n3000, .inl (cy 1, 1300, .inl (fun _ => 0))), (n3006, .inl (cy 1, 18, .inl (fun _ => 0))), (n5000, .inl (cy 2, 1, .inr (.inl (fun _ => 0))))] H := hP
    have hD : va_D A [(n3900, .inr (12, [.ref n3000, .ref n3001, .ref n3002, .ref n3003, .int 0, .ref n3004, .int 0, .int 0, .int 0, .int 0, .int 0, .int 0, .int 0, .int 0, .int 0, .int (-1), .int 0, .ref n3005, .ref n3006, .int 0, .ref n3007, .ref n3008, .int 0, .int 0, .int 0, .int 0, .int 0, .int 0, .int 0, .ref n3009, .ref n3010, .int 0, .int 0, .ref n3011, .ref n3012, .int 0, .int 0, .ref n3013, .ref n3014, .ref n3015, .int 0, .ref n3016, .ref n3017, .ref n3018])), (n3000, .inl (cy 1, 1300, .inl (fun _ => 0))), (n3006, .inl (cy 1, 18, .inl (fun _ => 0))), (n5000, .inl (cy 2, 1, .inr (.inl (fun _ => 0))))] := hD
    refine lv_istore (lv' := [(5, .int 1), (4, .int 0), (3, .ref n5000), (2, .ref n3900), (1, .ref n1900), (0, .ref b)]) hx hb dL_law_1418 hl (by decide +kernel) rfl (fun ls hl => ?_)
    refine lv_aload_n hx hb dL_law_1420 rfl (lv_at hl 3 rfl) ?_
    refine lv_aload_n hx hb dL_law_1421 rfl (lv_at hl 5 rfl) ?_
    refine lv_iload hx hb dL_law_1422 (lv_at hl 1 rfl) ?_
    refine lv_iconst (v := 1) hx hb dL_law_1424 (by decide +kernel) ?_
    refine lv_iadd hx hb dL_law_1425 ?_
    refine top_i (v := 1) (by decide +kernel) ?_
    refine va_sld hx hb hX hbl hbA hS (i := 1) (vin (by decide +kernel)) dL_law_1426 ?_
    refine top_i (v := z1) ez1 ?_
    refine call_i (av := [.ref n3900, .int z1]) F hP hD hS [(n3900, .inr (12, [.ref n3000, .ref n3001, .ref n3002, .ref n3003, .int 0, .ref n3004, .int 0, .int 0, .int 0, .int 0, .int 0, .int 0, .int 0, .int 0, .int 0, .int (-1), .int 0, .ref n3005, .ref n3006, .int 0, .ref n3007, .ref n3008, .int 0, .int 0, .int 0, .int 0, .int 0, .int 0, .int 0, .ref n3009, .ref n3010, .int 0, .int 0, .ref n3011, .ref n3012, .int 0, .int 0, .ref n3013, .ref n3014, .ref n3015, .int 0, .ref n3016, .ref n3017, .ref n3018])), (n3000, .inl (cy 1, 1300, .inl (fun _ => 0))), (n3006, .inl (cy 1, 18, .inl (fun _ => 0)))] [(n5000, .inl (cy 2, 1, .inr (.inl (fun _ => 0))))] [0, 1, 2] [3] rfl rfl (by decide +kernel) (fun pr => va_runV (As := [.int z1]) (rest := []) ⟨hx, hb, hml, hown, hts⟩ (k245_X12_flips l D cy H.size n3900 z1 n3000 n3006 n3001 n3002 n3003 n3004 n3005 n3007 n3008 n3009 n3010 n3011 n3012 n3013 n3014 n3015 n3016 n3017 n3018) (cwV 1 hts gw_X12_flips rfl rfl rfl (by decide +kernel) ⟨(by decide +kernel), (by decide +kernel)⟩) ⟨pr.1, va_recv hK hP (ci := 12) (q0 := 0) rfl rfl, pr.2⟩ rfl rfl hl.1 rfl (lv_room (Nat.le_of_ble_eq_true rfl)) dL_law_1427 ⟨(by decide +kernel), (by decide +kernel)⟩) (fun r u H locs hw hP hD hS => ?_)
    rcases hw with ⟨c800022, rfl, rfl⟩ | ⟨c800023, c800024, rfl, rfl⟩ | ⟨c800025, c800026, c800027, rfl, rfl⟩ | ⟨c800028, c800029, c800030, rfl, rfl⟩
    · exact (no_b (lo_nle c800003) (up_lt_w c800022) (by decide +kernel)).elim
    · have hP : va_P D vwCl [(n5000, .inl (cy 2, 1, .inr (.inl (fun _ => 0)))), (n3000, .inl (cy 1, 1300, .inl (fun _ => 0))), (n3006, .inl (cy 1, 18, .inl (fun _ => 0))), (n3900, .inr (12, [.ref n3000, .ref n3001, .ref n3002, .ref n3003, .int 1, .ref n3004, .int 0, .int 0, .int 0, .int 0, .int 0, .int 0, .int 0, .int 0, .int 0, .int (-1), .int 0, .ref n3005, .ref n3006, .int 0, .ref n3007, .ref n3008, .int 0, .int 0, .int 0, .int 0, .int 0, .int 0, .int 0, .ref n3009, .ref n3010, .int 0, .int 0, .ref n3011, .ref n3012, .int 0, .int 0, .ref n3013, .ref n3014, .ref n3015, .int 0, .ref n3016, .ref n3017, .ref n3018]))] H := hP
      have hD : va_D A [(n5000, .inl (cy 2, 1, .inr (.inl (fun _ => 0)))), (n3000, .inl (cy 1, 1300, .inl (fun _ => 0))), (n3006, .inl (cy 1, 18, .inl (fun _ => 0))), (n3900, .inr (12, [.ref n3000, .ref n3001, .ref n3002, .ref n3003, .int 1, .ref n3004, .int 0, .int 0, .int 0, .int 0, .int 0, .int 0, .int 0, .int 0, .int 0, .int (-1), .int 0, .ref n3005, .ref n3006, .int 0, .ref n3007, .ref n3008, .int 0, .int 0, .int 0, .int 0, .int 0, .int 0, .int 0, .ref n3009, .ref n3010, .int 0, .int 0, .ref n3011, .ref n3012, .int 0, .int 0, .ref n3013, .ref n3014, .ref n3015, .int 0, .ref n3016, .ref n3017, .ref n3018]))] := hD
      refine lv_istore (lv' := [(6, .int 0), (5, .int 1), (4, .int 0), (3, .ref n5000), (2, .ref n3900), (1, .ref n1900), (0, .ref b)]) hx hb dL_law_1430 hl (by decide +kernel) rfl (fun ls hl => ?_)
      refine lv_aload_n hx hb dL_law_1432 rfl (lv_at hl 4 rfl) ?_
      refine call_i (av := [.ref n3900]) F hP hD hS [(n3900, .inr (12, [.ref n3000, .ref n3001, .ref n3002, .ref n3003, .int 1, .ref n3004, .int 0, .int 0, .int 0, .int 0, .int 0, .int 0, .int 0, .int 0, .int 0, .int (-1), .int 0, .ref n3005, .ref n3006, .int 0, .ref n3007, .ref n3008, .int 0, .int 0, .int 0, .int 0, .int 0, .int 0, .int 0, .ref n3009, .ref n3010, .int 0, .int 0, .ref n3011, .ref n3012, .int 0, .int 0, .ref n3013, .ref n3014, .ref n3015, .int 0, .ref n3016, .ref n3017, .ref n3018]))] [(n5000, .inl (cy 2, 1, .inr (.inl (fun _ => 0)))), (n3000, .inl (cy 1, 1300, .inl (fun _ => 0))), (n3006, .inl (cy 1, 18, .inl (fun _ => 0)))] [3] [0, 1, 2] rfl rfl (by decide +kernel) (fun pr => va_runV (As := []) (rest := []) ⟨hx, hb, hml, hown, hts⟩ (k333_X12_thrown l D cy H.size n3900 n3000 n3001 n3002 n3003 n3004 n3005 n3006 n3007 n3008 n3009 n3010 n3011 n3012 n3013 n3014 n3015 n3016 n3017 n3018) (cwV 0 hts gw_X12_thrown rfl rfl rfl (by decide +kernel) ⟨(by decide +kernel), (by decide +kernel)⟩) ⟨pr.1, va_recv hK hP (ci := 12) (q0 := 3) rfl rfl, pr.2⟩ rfl rfl hl.1 rfl (lv_room (Nat.le_of_ble_eq_true rfl)) dL_law_1433 ⟨(by decide +kernel), (by decide +kernel)⟩) (fun r u H locs hw hP hD hS => ?_)
      rcases hw with ⟨rfl, rfl⟩
      have hP : va_P D vwCl [(n5000, .inl (cy 2, 1, .inr (.inl (fun _ => 0)))), (n3000, .inl (cy 1, 1300, .inl (fun _ => 0))), (n3006, .inl (cy 1, 18, .inl (fun _ => 0))), (n3900, .inr (12, [.ref n3000, .ref n3001, .ref n3002, .ref n3003, .int 1, .ref n3004, .int 0, .int 0, .int 0, .int 0, .int 0, .int 0, .int 0, .int 0, .int 0, .int (-1), .int 0, .ref n3005, .ref n3006, .int 0, .ref n3007, .ref n3008, .int 0, .int 0, .int 0, .int 0, .int 0, .int 0, .int 0, .ref n3009, .ref n3010, .int 0, .int 0, .ref n3011, .ref n3012, .int 0, .int 0, .ref n3013, .ref n3014, .ref n3015, .int 0, .ref n3016, .ref n3017, .ref n3018]))] H := hP
      have hD : va_D A [(n5000, .inl (cy 2, 1, .inr (.inl (fun _ => 0)))), (n3000, .inl (cy 1, 1300, .inl (fun _ => 0))), (n3006, .inl (cy 1, 18, .inl (fun _ => 0))), (n3900, .inr (12, [.ref n3000, .ref n3001, .ref n3002, .ref n3003, .int 1, .ref n3004, .int 0, .int 0, .int 0, .int 0, .int 0, .int 0, .int 0, .int 0, .int 0, .int (-1), .int 0, .ref n3005, .ref n3006, .int 0, .ref n3007, .ref n3008, .int 0, .int 0, .int 0, .int 0, .int 0, .int 0, .int 0, .ref n3009, .ref n3010, .int 0, .int 0, .ref n3011, .ref n3012, .int 0, .int 0, .ref n3013, .ref n3014, .ref n3015, .int 0, .ref n3016, .ref n3017, .ref n3018]))] := hD
      refine lv_iload hx hb dL_law_1436 (lv_at hl 1 rfl) ?_
      refine lv_icmp_eq (tgt := 1443) hx hb dL_law_1438 (by decide +kernel) (fun _ => ?_) (fun h => absurd (by decide +kernel) h)
      refine lv_iload hx hb dL_law_1443 (lv_at hl 1 rfl) ?_
      refine lv_if_ne (tgt := 1460) hx hb dL_law_1445 (by decide +kernel) (fun _ => ?_) (fun h => absurd h (by decide +kernel))
      refine lv_goto (tgt := 2458) hx hb dL_law_1460 (by decide +kernel) ?_
      refine lv_iinc (v := 6) (lv' := [(4, .int 6), (6, .int 0), (5, .int 1), (3, .ref n5000), (2, .ref n3900), (1, .ref n1900), (0, .ref b)]) hx hb dL_law_2458 hl (k := 2) rfl (by decide) (by decide +kernel) rfl (fun ls hl => ?_)
      refine lv_goto (tgt := 23) hx hb dL_law_2461 (by decide +kernel) ?_
      refine lv_iload hx hb dL_law_23 (lv_at hl 0 rfl) ?_
      refine lv_aload_n hx hb dL_law_25 rfl (lv_at hl 6 rfl) ?_
      refine va_slen hx hb hX hbl hbA hS dL_law_26 ?_
      refine top_i (v := 6) rfl ?_
      refine lv_bipush (v := 6) hx hb dL_law_27 (by decide +kernel) ?_
      refine lv_isub hx hb dL_law_29 ?_
      refine top_i (v := 0) (by decide +kernel) ?_
      refine lv_icmp_gt (tgt := 2464) hx hb dL_law_30 (by decide +kernel) (fun _ => ?_) (fun h => absurd (by decide +kernel) h)
      refine lv_iconst (v := 1) hx hb dL_law_2464 (by decide +kernel) ?_
      refine va_forget (fun q hq => hAq _ (hS.2.2 q hq)) ?_
      refine W.widen (k := 600002) (n := 7302232) (by decide +kernel) (by decide +kernel) ?_
      exact lw_ret hx hb hr hlk dL_law_2465
    · exact (no_b (lo_nle c800003) (up_nlt_w c800026) (by decide +kernel)).elim
    · exact (no_b (lo_nle c800003) (up_nlt_w c800029) (by decide +kernel)).elim
  · have hP : va_P D vwCl [(n3900, .inr (12, [.ref n3000, .ref n3001, .ref n3002, .ref n3003, .int 0, .ref n3004, .int 0, .int 0, .int 0, .int 0, .int 0, .int 0, .int 0, .int 0, .int 0, .int (-1), .int 0, .ref n3005, .ref n3006, .int 0, .ref n3007, .ref n3008, .int 0, .int 0, .int 0, .int 0, .int 0, .int 0, .int 0, .ref n3009, .ref n3010, .int 0, .int 0, .ref n3011, .ref n3012, .int 0, .int 0, .ref n3013, .ref n3014, .ref n3015, .int 0, .ref n3016, .ref n3017, .ref n3018])), (n3000, .inl (cy 1, 1300, .inl (fun _ => 0))), (n3006, .inl (cy 1, 18, .inl (fun _ => 0))), (n5000, .inl (cy 2, 1, .inr (.inl (fun _ => 0))))] H := hP
    have hD : va_D A [(n3900, .inr (12, [.ref n3000, .ref n3001, .ref n3002, .ref n3003, .int 0, .ref n3004, .int 0, .int 0, .int 0, .int 0, .int 0, .int 0, .int 0, .int 0, .int 0, .int (-1), .int 0, .ref n3005, .ref n3006, .int 0, .ref n3007, .ref n3008, .int 0, .int 0, .int 0, .int 0, .int 0, .int 0, .int 0, .ref n3009, .ref n3010, .int 0, .int 0, .ref n3011, .ref n3012, .int 0, .int 0, .ref n3013, .ref n3014, .ref n3015, .int 0, .ref n3016, .ref n3017, .ref n3018])), (n3000, .inl (cy 1, 1300, .inl (fun _ => 0))), (n3006, .inl (cy 1, 18, .inl (fun _ => 0))), (n5000, .inl (cy 2, 1, .inr (.inl (fun _ => 0))))] := hD
    refine lv_istore (lv' := [(5, .int 0), (4, .int 0), (3, .ref n5000), (2, .ref n3900), (1, .ref n1900), (0, .ref b)]) hx hb dL_law_1418 hl (by decide +kernel) rfl (fun ls hl => ?_)
    refine lv_aload_n hx hb dL_law_1420 rfl (lv_at hl 3 rfl) ?_
    refine lv_aload_n hx hb dL_law_1421 rfl (lv_at hl 5 rfl) ?_
    refine lv_iload hx hb dL_law_1422 (lv_at hl 1 rfl) ?_
    refine lv_iconst (v := 1) hx hb dL_law_1424 (by decide +kernel) ?_
    refine lv_iadd hx hb dL_law_1425 ?_
    refine top_i (v := 1) (by decide +kernel) ?_
    refine va_sld hx hb hX hbl hbA hS (i := 1) (vin (by decide +kernel)) dL_law_1426 ?_
    refine top_i (v := z1) ez1 ?_
    refine call_i (av := [.ref n3900, .int z1]) F hP hD hS [(n3900, .inr (12, [.ref n3000, .ref n3001, .ref n3002, .ref n3003, .int 0, .ref n3004, .int 0, .int 0, .int 0, .int 0, .int 0, .int 0, .int 0, .int 0, .int 0, .int (-1), .int 0, .ref n3005, .ref n3006, .int 0, .ref n3007, .ref n3008, .int 0, .int 0, .int 0, .int 0, .int 0, .int 0, .int 0, .ref n3009, .ref n3010, .int 0, .int 0, .ref n3011, .ref n3012, .int 0, .int 0, .ref n3013, .ref n3014, .ref n3015, .int 0, .ref n3016, .ref n3017, .ref n3018])), (n3000, .inl (cy 1, 1300, .inl (fun _ => 0))), (n3006, .inl (cy 1, 18, .inl (fun _ => 0)))] [(n5000, .inl (cy 2, 1, .inr (.inl (fun _ => 0))))] [0, 1, 2] [3] rfl rfl (by decide +kernel) (fun pr => va_runV (As := [.int z1]) (rest := []) ⟨hx, hb, hml, hown, hts⟩ (k245_X12_flips l D cy H.size n3900 z1 n3000 n3006 n3001 n3002 n3003 n3004 n3005 n3007 n3008 n3009 n3010 n3011 n3012 n3013 n3014 n3015 n3016 n3017 n3018) (cwV 1 hts gw_X12_flips rfl rfl rfl (by decide +kernel) ⟨(by decide +kernel), (by decide +kernel)⟩) ⟨pr.1, va_recv hK hP (ci := 12) (q0 := 0) rfl rfl, pr.2⟩ rfl rfl hl.1 rfl (lv_room (Nat.le_of_ble_eq_true rfl)) dL_law_1427 ⟨(by decide +kernel), (by decide +kernel)⟩) (fun r u H locs hw hP hD hS => ?_)
    rcases hw with ⟨c800034, rfl, rfl⟩ | ⟨c800035, c800036, rfl, rfl⟩ | ⟨c800037, c800038, c800039, rfl, rfl⟩ | ⟨c800040, c800041, c800042, rfl, rfl⟩
    · exact (no_b (lo_nlt c800004) (up_lt_w c800034) (by decide +kernel)).elim
    · exact (no_b (lo_lt_w c800036) (up_le c800005) (by decide +kernel)).elim
    · have hP : va_P D vwCl [(n5000, .inl (cy 2, 1, .inr (.inl (fun _ => 0)))), (n3006, .inl (cy 1, 18, .inl (fun _ => 0))), (n3900, .inr (12, [.ref n3000, .ref n3001, .ref n3002, .ref n3003, .int 0, .ref n3004, .int 0, .int 0, .int 0, .int 0, .int 0, .int 0, .int 0, .int 0, .int 0, .int (-1), .int 0, .ref n3005, .ref n3006, .int 0, .ref n3007, .ref n3008, .int 0, .int 0, .int 0, .int 0, .int 0, .int 0, .int 0, .ref n3009, .ref n3010, .int 0, .int 0, .ref n3011, .ref n3012, .int 0, .int 0, .ref n3013, .ref n3014, .ref n3015, .int 0, .ref n3016, .ref n3017, .ref n3018])), (n3000, .inl (cy 1, 1300, .inl (fun _ => 0)))] H := hP
      have hD : va_D A [(n5000, .inl (cy 2, 1, .inr (.inl (fun _ => 0)))), (n3006, .inl (cy 1, 18, .inl (fun _ => 0))), (n3900, .inr (12, [.ref n3000, .ref n3001, .ref n3002, .ref n3003, .int 0, .ref n3004, .int 0, .int 0, .int 0, .int 0, .int 0, .int 0, .int 0, .int 0, .int 0, .int (-1), .int 0, .ref n3005, .ref n3006, .int 0, .ref n3007, .ref n3008, .int 0, .int 0, .int 0, .int 0, .int 0, .int 0, .int 0, .ref n3009, .ref n3010, .int 0, .int 0, .ref n3011, .ref n3012, .int 0, .int 0, .ref n3013, .ref n3014, .ref n3015, .int 0, .ref n3016, .ref n3017, .ref n3018])), (n3000, .inl (cy 1, 1300, .inl (fun _ => 0)))] := hD
      refine lv_istore (lv' := [(6, .int 0), (5, .int 0), (4, .int 0), (3, .ref n5000), (2, .ref n3900), (1, .ref n1900), (0, .ref b)]) hx hb dL_law_1430 hl (by decide +kernel) rfl (fun ls hl => ?_)
      refine lv_aload_n hx hb dL_law_1432 rfl (lv_at hl 4 rfl) ?_
      refine call_i (av := [.ref n3900]) F hP hD hS [(n3900, .inr (12, [.ref n3000, .ref n3001, .ref n3002, .ref n3003, .int 0, .ref n3004, .int 0, .int 0, .int 0, .int 0, .int 0, .int 0, .int 0, .int 0, .int 0, .int (-1), .int 0, .ref n3005, .ref n3006, .int 0, .ref n3007, .ref n3008, .int 0, .int 0, .int 0, .int 0, .int 0, .int 0, .int 0, .ref n3009, .ref n3010, .int 0, .int 0, .ref n3011, .ref n3012, .int 0, .int 0, .ref n3013, .ref n3014, .ref n3015, .int 0, .ref n3016, .ref n3017, .ref n3018]))] [(n5000, .inl (cy 2, 1, .inr (.inl (fun _ => 0)))), (n3006, .inl (cy 1, 18, .inl (fun _ => 0))), (n3000, .inl (cy 1, 1300, .inl (fun _ => 0)))] [2] [0, 1, 3] rfl rfl (by decide +kernel) (fun pr => va_runV (As := []) (rest := []) ⟨hx, hb, hml, hown, hts⟩ (k175_X12_thrown l D cy H.size n3900 n3000 n3001 n3002 n3003 n3004 n3005 n3006 n3007 n3008 n3009 n3010 n3011 n3012 n3013 n3014 n3015 n3016 n3017 n3018) (cwV 0 hts gw_X12_thrown rfl rfl rfl (by decide +kernel) ⟨(by decide +kernel), (by decide +kernel)⟩) ⟨pr.1, va_recv hK hP (ci := 12) (q0 := 2) rfl rfl, pr.2⟩ rfl rfl hl.1 rfl (lv_room (Nat.le_of_ble_eq_true rfl)) dL_law_1433 ⟨(by decide +kernel), (by decide +kernel)⟩) (fun r u H locs hw hP hD hS => ?_)
      rcases hw with ⟨rfl, rfl⟩
      have hP : va_P D vwCl [(n5000, .inl (cy 2, 1, .inr (.inl (fun _ => 0)))), (n3006, .inl (cy 1, 18, .inl (fun _ => 0))), (n3000, .inl (cy 1, 1300, .inl (fun _ => 0))), (n3900, .inr (12, [.ref n3000, .ref n3001, .ref n3002, .ref n3003, .int 0, .ref n3004, .int 0, .int 0, .int 0, .int 0, .int 0, .int 0, .int 0, .int 0, .int 0, .int (-1), .int 0, .ref n3005, .ref n3006, .int 0, .ref n3007, .ref n3008, .int 0, .int 0, .int 0, .int 0, .int 0, .int 0, .int 0, .ref n3009, .ref n3010, .int 0, .int 0, .ref n3011, .ref n3012, .int 0, .int 0, .ref n3013, .ref n3014, .ref n3015, .int 0, .ref n3016, .ref n3017, .ref n3018]))] H := hP
      have hD : va_D A [(n5000, .inl (cy 2, 1, .inr (.inl (fun _ => 0)))), (n3006, .inl (cy 1, 18, .inl (fun _ => 0))), (n3000, .inl (cy 1, 1300, .inl (fun _ => 0))), (n3900, .inr (12, [.ref n3000, .ref n3001, .ref n3002, .ref n3003, .int 0, .ref n3004, .int 0, .int 0, .int 0, .int 0, .int 0, .int 0, .int 0, .int 0, .int 0, .int (-1), .int 0, .ref n3005, .ref n3006, .int 0, .ref n3007, .ref n3008, .int 0, .int 0, .int 0, .int 0, .int 0, .int 0, .int 0, .ref n3009, .ref n3010, .int 0, .int 0, .ref n3011, .ref n3012, .int 0, .int 0, .ref n3013, .ref n3014, .ref n3015, .int 0, .ref n3016, .ref n3017, .ref n3018]))] := hD
      refine lv_iload hx hb dL_law_1436 (lv_at hl 1 rfl) ?_
      refine lv_icmp_eq (tgt := 1443) hx hb dL_law_1438 (by decide +kernel) (fun _ => ?_) (fun h => absurd (by decide +kernel) h)
      refine lv_iload hx hb dL_law_1443 (lv_at hl 1 rfl) ?_
      refine lv_if_ne (tgt := 1460) hx hb dL_law_1445 (by decide +kernel) (fun h => absurd (by decide +kernel) h) (fun _ => ?_)
      refine lv_aload_n hx hb dL_law_1448 rfl (lv_at hl 3 rfl) ?_
      refine lv_iconst (v := 0) hx hb dL_law_1449 (by decide +kernel) ?_
      refine va_lald hx hb hK hP 0 2 rfl rfl (i := 0) (vin (by decide +kernel)) dL_law_1450 ?_
      refine top_l (v := 0) (by decide +kernel) ?_
      refine lv_iload hx hb dL_law_1451 (lv_at hl 0 rfl) ?_
      refine lv_i2l (v := 0) hx hb dL_law_1453 (by decide +kernel) ?_
      refine W.lcmp hx hb dL_law_1454 ?_
      refine top_i (v := 0) (by decide +kernel) ?_
      refine lv_if_eq (tgt := 1460) hx hb dL_law_1455 (by decide +kernel) (fun _ => ?_) (fun h => absurd (by decide +kernel) h)
      refine lv_goto (tgt := 2458) hx hb dL_law_1460 (by decide +kernel) ?_
      refine lv_iinc (v := 6) (lv' := [(4, .int 6), (6, .int 0), (5, .int 0), (3, .ref n5000), (2, .ref n3900), (1, .ref n1900), (0, .ref b)]) hx hb dL_law_2458 hl (k := 2) rfl (by decide) (by decide +kernel) rfl (fun ls hl => ?_)
      refine lv_goto (tgt := 23) hx hb dL_law_2461 (by decide +kernel) ?_
      refine lv_iload hx hb dL_law_23 (lv_at hl 0 rfl) ?_
      refine lv_aload_n hx hb dL_law_25 rfl (lv_at hl 6 rfl) ?_
      refine va_slen hx hb hX hbl hbA hS dL_law_26 ?_
      refine top_i (v := 6) rfl ?_
      refine lv_bipush (v := 6) hx hb dL_law_27 (by decide +kernel) ?_
      refine lv_isub hx hb dL_law_29 ?_
      refine top_i (v := 0) (by decide +kernel) ?_
      refine lv_icmp_gt (tgt := 2464) hx hb dL_law_30 (by decide +kernel) (fun _ => ?_) (fun h => absurd (by decide +kernel) h)
      refine lv_iconst (v := 1) hx hb dL_law_2464 (by decide +kernel) ?_
      refine va_forget (fun q hq => hAq _ (hS.2.2 q hq)) ?_
      refine W.widen (k := 600002) (n := 7302232) (by decide +kernel) (by decide +kernel) ?_
      exact lw_ret hx hb hr hlk dL_law_2465
    · exact absurd c800042 c800006
  · subst c800009
    have hP : va_P D vwCl [(n3900, .inr (12, [.ref n3000, .ref n3001, .ref n3002, .ref n3003, .int 0, .ref n3004, .int 0, .int 0, .int 0, .int 0, .int 0, .int 0, .int 0, .int 0, .int 0, .int (-1), .int 0, .ref n3005, .ref n3006, .int 0, .ref n3007, .ref n3008, .int 0, .int 0, .int 0, .int 0, .int 0, .int 0, .int 0, .ref n3009, .ref n3010, .int 0, .int 0, .ref n3011, .ref n3012, .int 0, .int 0, .ref n3013, .ref n3014, .ref n3015, .int 0, .ref n3016, .ref n3017, .ref n3018])), (n3000, .inl (cy 1, 1300, .inl (fun _ => 0))), (n3006, .inl (cy 1, 18, .inl (fun _ => 0))), (n5000, .inl (cy 2, 1, .inr (.inl (fun _ => 0))))] H := hP
    have hD : va_D A [(n3900, .inr (12, [.ref n3000, .ref n3001, .ref n3002, .ref n3003, .int 0, .ref n3004, .int 0, .int 0, .int 0, .int 0, .int 0, .int 0, .int 0, .int 0, .int 0, .int (-1), .int 0, .ref n3005, .ref n3006, .int 0, .ref n3007, .ref n3008, .int 0, .int 0, .int 0, .int 0, .int 0, .int 0, .int 0, .ref n3009, .ref n3010, .int 0, .int 0, .ref n3011, .ref n3012, .int 0, .int 0, .ref n3013, .ref n3014, .ref n3015, .int 0, .ref n3016, .ref n3017, .ref n3018])), (n3000, .inl (cy 1, 1300, .inl (fun _ => 0))), (n3006, .inl (cy 1, 18, .inl (fun _ => 0))), (n5000, .inl (cy 2, 1, .inr (.inl (fun _ => 0))))] := hD
    refine lv_istore (lv' := [(5, .int 0), (4, .int 0), (3, .ref n5000), (2, .ref n3900), (1, .ref n1900), (0, .ref b)]) hx hb dL_law_1418 hl (by decide +kernel) rfl (fun ls hl => ?_)
    refine lv_aload_n hx hb dL_law_1420 rfl (lv_at hl 3 rfl) ?_
    refine lv_aload_n hx hb dL_law_1421 rfl (lv_at hl 5 rfl) ?_
    refine lv_iload hx hb dL_law_1422 (lv_at hl 1 rfl) ?_
    refine lv_iconst (v := 1) hx hb dL_law_1424 (by decide +kernel) ?_
    refine lv_iadd hx hb dL_law_1425 ?_
    refine top_i (v := 1) (by decide +kernel) ?_
    refine va_sld hx hb hX hbl hbA hS (i := 1) (vin (by decide +kernel)) dL_law_1426 ?_
    refine top_i (v := 1) ez1 ?_
    refine call_i (av := [.ref n3900, .int 1]) F hP hD hS [(n3900, .inr (12, [.ref n3000, .ref n3001, .ref n3002, .ref n3003, .int 0, .ref n3004, .int 0, .int 0, .int 0, .int 0, .int 0, .int 0, .int 0, .int 0, .int 0, .int (-1), .int 0, .ref n3005, .ref n3006, .int 0, .ref n3007, .ref n3008, .int 0, .int 0, .int 0, .int 0, .int 0, .int 0, .int 0, .ref n3009, .ref n3010, .int 0, .int 0, .ref n3011, .ref n3012, .int 0, .int 0, .ref n3013, .ref n3014, .ref n3015, .int 0, .ref n3016, .ref n3017, .ref n3018])), (n3000, .inl (cy 1, 1300, .inl (fun _ => 0))), (n3006, .inl (cy 1, 18, .inl (fun _ => 0)))] [(n5000, .inl (cy 2, 1, .inr (.inl (fun _ => 0))))] [0, 1, 2] [3] rfl rfl (by decide +kernel) (fun pr => va_runV (As := [.int 1]) (rest := []) ⟨hx, hb, hml, hown, hts⟩ (k245_X12_flips l D cy H.size n3900 1 n3000 n3006 n3001 n3002 n3003 n3004 n3005 n3007 n3008 n3009 n3010 n3011 n3012 n3013 n3014 n3015 n3016 n3017 n3018) (cwV 1 hts gw_X12_flips rfl rfl rfl (by decide +kernel) ⟨(by decide +kernel), (by decide +kernel)⟩) ⟨pr.1, va_recv hK hP (ci := 12) (q0 := 0) rfl rfl, pr.2⟩ rfl rfl hl.1 rfl (lv_room (Nat.le_of_ble_eq_true rfl)) dL_law_1427 ⟨(by decide +kernel), (by decide +kernel)⟩) (fun r u H locs hw hP hD hS => ?_)
    rcases hw with ⟨c800047, rfl, rfl⟩ | ⟨c800048, c800049, rfl, rfl⟩ | ⟨c800050, c800051, c800052, rfl, rfl⟩ | ⟨c800053, c800054, c800055, rfl, rfl⟩
    · exact absurd c800047 (by decide +kernel)
    · exact absurd c800049 (by decide +kernel)
    · exact absurd (by decide +kernel) c800052
    · have hP : va_P D vwCl [(n5000, .inl (cy 2, 1, .inr (.inl (fun _ => 0)))), (n3006, .inl (cy 1, 18, .inl (fun _ => 0))), (n3900, .inr (12, [.ref n3000, .ref n3001, .ref n3002, .ref n3003, .int 0, .ref n3004, .int 0, .int 0, .int 0, .int 0, .int 0, .int 0, .int 0, .int 0, .int 0, .int (-1), .int 0, .ref n3005, .ref n3006, .int 0, .ref n3007, .ref n3008, .int 0, .int 0, .int 0, .int 0, .int 0, .int 0, .int 0, .ref n3009, .ref n3010, .int 0, .int 0, .ref n3011, .ref n3012, .int 0, .int 0, .ref n3013, .ref n3014, .ref n3015, .int 0, .ref n3016, .ref n3017, .ref n3018])), (n3000, .inl (cy 1, 1300, .inl (fun _ => 0)))] H := hP
      have hD : va_D A [(n5000, .inl (cy 2, 1, .inr (.inl (fun _ => 0)))), (n3006, .inl (cy 1, 18, .inl (fun _ => 0))), (n3900, .inr (12, [.ref n3000, .ref n3001, .ref n3002, .ref n3003, .int 0, .ref n3004, .int 0, .int 0, .int 0, .int 0, .int 0, .int 0, .int 0, .int 0, .int 0, .int (-1), .int 0, .ref n3005, .ref n3006, .int 0, .ref n3007, .ref n3008, .int 0, .int 0, .int 0, .int 0, .int 0, .int 0, .int 0, .ref n3009, .ref n3010, .int 0, .int 0, .ref n3011, .ref n3012, .int 0, .int 0, .ref n3013, .ref n3014, .ref n3015, .int 0, .ref n3016, .ref n3017, .ref n3018])), (n3000, .inl (cy 1, 1300, .inl (fun _ => 0)))] := hD
      refine lv_istore (lv' := [(6, .int 0), (5, .int 0), (4, .int 0), (3, .ref n5000), (2, .ref n3900), (1, .ref n1900), (0, .ref b)]) hx hb dL_law_1430 hl (by decide +kernel) rfl (fun ls hl => ?_)
      refine lv_aload_n hx hb dL_law_1432 rfl (lv_at hl 4 rfl) ?_
      refine call_i (av := [.ref n3900]) F hP hD hS [(n3900, .inr (12, [.ref n3000, .ref n3001, .ref n3002, .ref n3003, .int 0, .ref n3004, .int 0, .int 0, .int 0, .int 0, .int 0, .int 0, .int 0, .int 0, .int 0, .int (-1), .int 0, .ref n3005, .ref n3006, .int 0, .ref n3007, .ref n3008, .int 0, .int 0, .int 0, .int 0, .int 0, .int 0, .int 0, .ref n3009, .ref n3010, .int 0, .int 0, .ref n3011, .ref n3012, .int 0, .int 0, .ref n3013, .ref n3014, .ref n3015, .int 0, .ref n3016, .ref n3017, .ref n3018]))] [(n5000, .inl (cy 2, 1, .inr (.inl (fun _ => 0)))), (n3006, .inl (cy 1, 18, .inl (fun _ => 0))), (n3000, .inl (cy 1, 1300, .inl (fun _ => 0)))] [2] [0, 1, 3] rfl rfl (by decide +kernel) (fun pr => va_runV (As := []) (rest := []) ⟨hx, hb, hml, hown, hts⟩ (k175_X12_thrown l D cy H.size n3900 n3000 n3001 n3002 n3003 n3004 n3005 n3006 n3007 n3008 n3009 n3010 n3011 n3012 n3013 n3014 n3015 n3016 n3017 n3018) (cwV 0 hts gw_X12_thrown rfl rfl rfl (by decide +kernel) ⟨(by decide +kernel), (by decide +kernel)⟩) ⟨pr.1, va_recv hK hP (ci := 12) (q0 := 2) rfl rfl, pr.2⟩ rfl rfl hl.1 rfl (lv_room (Nat.le_of_ble_eq_true rfl)) dL_law_1433 ⟨(by decide +kernel), (by decide +kernel)⟩) (fun r u H locs hw hP hD hS => ?_)
      rcases hw with ⟨rfl, rfl⟩
      have hP : va_P D vwCl [(n5000, .inl (cy 2, 1, .inr (.inl (fun _ => 0)))), (n3006, .inl (cy 1, 18, .inl (fun _ => 0))), (n3000, .inl (cy 1, 1300, .inl (fun _ => 0))), (n3900, .inr (12, [.ref n3000, .ref n3001, .ref n3002, .ref n3003, .int 0, .ref n3004, .int 0, .int 0, .int 0, .int 0, .int 0, .int 0, .int 0, .int 0, .int 0, .int (-1), .int 0, .ref n3005, .ref n3006, .int 0, .ref n3007, .ref n3008, .int 0, .int 0, .int 0, .int 0, .int 0, .int 0, .int 0, .ref n3009, .ref n3010, .int 0, .int 0, .ref n3011, .ref n3012, .int 0, .int 0, .ref n3013, .ref n3014, .ref n3015, .int 0, .ref n3016, .ref n3017, .ref n3018]))] H := hP
      have hD : va_D A [(n5000, .inl (cy 2, 1, .inr (.inl (fun _ => 0)))), (n3006, .inl (cy 1, 18, .inl (fun _ => 0))), (n3000, .inl (cy 1, 1300, .inl (fun _ => 0))), (n3900, .inr (12, [.ref n3000, .ref n3001, .ref n3002, .ref n3003, .int 0, .ref n3004, .int 0, .int 0, .int 0, .int 0, .int 0, .int 0, .int 0, .int 0, .int 0, .int (-1), .int 0, .ref n3005, .ref n3006, .int 0, .ref n3007, .ref n3008, .int 0, .int 0, .int 0, .int 0, .int 0, .int 0, .int 0, .ref n3009, .ref n3010, .int 0, .int 0, .ref n3011, .ref n3012, .int 0, .int 0, .ref n3013, .ref n3014, .ref n3015, .int 0, .ref n3016, .ref n3017, .ref n3018]))] := hD
      refine lv_iload hx hb dL_law_1436 (lv_at hl 1 rfl) ?_
      refine lv_icmp_eq (tgt := 1443) hx hb dL_law_1438 (by decide +kernel) (fun _ => ?_) (fun h => absurd (by decide +kernel) h)
      refine lv_iload hx hb dL_law_1443 (lv_at hl 1 rfl) ?_
      refine lv_if_ne (tgt := 1460) hx hb dL_law_1445 (by decide +kernel) (fun h => absurd (by decide +kernel) h) (fun _ => ?_)
      refine lv_aload_n hx hb dL_law_1448 rfl (lv_at hl 3 rfl) ?_
      refine lv_iconst (v := 0) hx hb dL_law_1449 (by decide +kernel) ?_
      refine va_lald hx hb hK hP 0 2 rfl rfl (i := 0) (vin (by decide +kernel)) dL_law_1450 ?_
      refine top_l (v := 0) (by decide +kernel) ?_
      refine lv_iload hx hb dL_law_1451 (lv_at hl 0 rfl) ?_
      refine lv_i2l (v := 0) hx hb dL_law_1453 (by decide +kernel) ?_
      refine W.lcmp hx hb dL_law_1454 ?_
      refine top_i (v := 0) (by decide +kernel) ?_
      refine lv_if_eq (tgt := 1460) hx hb dL_law_1455 (by decide +kernel) (fun _ => ?_) (fun h => absurd (by decide +kernel) h)
      refine lv_goto (tgt := 2458) hx hb dL_law_1460 (by decide +kernel) ?_
      refine lv_iinc (v := 6) (lv' := [(4, .int 6), (6, .int 0), (5, .int 0), (3, .ref n5000), (2, .ref n3900), (1, .ref n1900), (0, .ref b)]) hx hb dL_law_2458 hl (k := 2) rfl (by decide) (by decide +kernel) rfl (fun ls hl => ?_)
      refine lv_goto (tgt := 23) hx hb dL_law_2461 (by decide +kernel) ?_
      refine lv_iload hx hb dL_law_23 (lv_at hl 0 rfl) ?_
      refine lv_aload_n hx hb dL_law_25 rfl (lv_at hl 6 rfl) ?_
      refine va_slen hx hb hX hbl hbA hS dL_law_26 ?_
      refine top_i (v := 6) rfl ?_
      refine lv_bipush (v := 6) hx hb dL_law_27 (by decide +kernel) ?_
      refine lv_isub hx hb dL_law_29 ?_
      refine top_i (v := 0) (by decide +kernel) ?_
      refine lv_icmp_gt (tgt := 2464) hx hb dL_law_30 (by decide +kernel) (fun _ => ?_) (fun h => absurd (by decide +kernel) h)
      refine lv_iconst (v := 1) hx hb dL_law_2464 (by decide +kernel) ?_
      refine va_forget (fun q hq => hAq _ (hS.2.2 q hq)) ?_
      refine W.widen (k := 600002) (n := 7302232) (by decide +kernel) (by decide +kernel) ?_
      exact lw_ret hx hb hr hlk dL_law_2465
set_option maxHeartbeats 4000000 in
set_option maxRecDepth 100000 in
theorem law_c24 {p : Program} {l : Launch} {e : Env} {s : State} {m : MethodId} {below : List Frame} {meth : Method} {c : Code} {b : Nat} {xs : Nat → Int32} {D : va_G} {cy : Nat → ClassId} {A : Nat → Prop} (hlT : l.stackTraces = false) (F : Fx D cy p m c cL_law 8 s #[Value.ref b] lw_tbl RL A) (hr : meth.sig.returnType = ret) (hlk : meth.locks = false) (hX : va_X b 6 xs s s.heap) (hbl : b < s.heap.size) (hbA : ¬ A b) (hAq : ∀ q, A q → s.heap.size ≤ q) {H : Heap} {locs : List Loc} {ls : Array Slot} (n1900 n1000 n1001 n1017 n1034 n1039 n1041 n1042 n1043 n1044 n1048 n1056 n1057 n1002 n1003 n1004 n1005 n1006 n1007 n1008 n1009 n1010 n1011 n1012 n1013 n1035 n1036 n1037 n1038 n3900 n3000 n3001 n3002 n3003 n3004 n3005 n3006 n3007 n3008 n3009 n3010 n3011 n3012 n3013 n3014 n3015 n3016 n3017 n3018 n5000 : Nat) (hP : va_P D vwCl [(n1900, .inr (11, [.ref n1000, .int 0, .ref n1001, .ref n1017, .ref n1034, .ref n1039, .ref n1041, .ref n1042, .ref n1043, .ref n1044, .ref n1048, .ref n1056, .ref n1057, .int 0])), (n1001, .inr (9, [.int 0, .int 0, .int 0, .int 0, .int 0, .ref n1002, .ref n1003, .ref n1004, .ref n1005, .ref n1006, .ref n1007, .ref n1008, .int 0, .ref n1009, .ref n1010, .ref n1011, .ref n1012, .ref n1013])), (n1034, .inr (7, [.ref n1001, .ref n1035, .ref n1036, .ref n1037, .ref n1038, .int 0, .int 0])), (n1035, .inl (cy 1, 8, .inl (fun _ => 0))), (n1036, .inl (cy 1, 8, .inl (fun _ => 0))), (n1037, .inl (cy 1, 8, .inl (fun _ => 0))), (n1038, .inl (cy 1, 8, .inl (fun _ => 0))), (n1041, .inl (cy 1, 34, .inl (fun _ => 0))), (n1056, .inr (3, [.ref n1001, .ref n1034])), (n3900, .inr (12, [.ref n3000, .ref n3001, .ref n3002, .ref n3003, .int 0, .ref n3004, .int 0, .int 0, .int 0, .int 0, .int 0, .int 0, .int 0, .int 0, .int 0, .int (-1), .int 0, .ref n3005, .ref n3006, .int 0, .ref n3007, .ref n3008, .int 0, .int 0, .int 0, .int 0, .int 0, .int 0, .int 0, .ref n3009, .ref n3010, .int 0, .int 0, .ref n3011, .ref n3012, .int 0, .int 0, .ref n3013, .ref n3014, .ref n3015, .int 0, .ref n3016, .ref n3017, .ref n3018])), (n3000, .inl (cy 1, 1300, .inl (fun _ => 0))), (n3006, .inl (cy 1, 18, .inl (fun _ => 0))), (n5000, .inl (cy 2, 1, .inr (.inl (fun _ => 0))))] H) (hD : va_D A [(n1900, .inr (11, [.ref n1000, .int 0, .ref n1001, .ref n1017, .ref n1034, .ref n1039, .ref n1041, .ref n1042, .ref n1043, .ref n1044, .ref n1048, .ref n1056, .ref n1057, .int 0])), (n1001, .inr (9, [.int 0, .int 0, .int 0, .int 0, .int 0, .ref n1002, .ref n1003, .ref n1004, .ref n1005, .ref n1006, .ref n1007, .ref n1008, .int 0, .ref n1009, .ref n1010, .ref n1011, .ref n1012, .ref n1013])), (n1034, .inr (7, [.ref n1001, .ref n1035, .ref n1036, .ref n1037, .ref n1038, .int 0, .int 0])), (n1035, .inl (cy 1, 8, .inl (fun _ => 0))), (n1036, .inl (cy 1, 8, .inl (fun _ => 0))), (n1037, .inl (cy 1, 8, .inl (fun _ => 0))), (n1038, .inl (cy 1, 8, .inl (fun _ => 0))), (n1041, .inl (cy 1, 34, .inl (fun _ => 0))), (n1056, .inr (3, [.ref n1001, .ref n1034])), (n3900, .inr (12, [.ref n3000, .ref n3001, .ref n3002, .ref n3003, .int 0, .ref n3004, .int 0, .int 0, .int 0, .int 0, .int 0, .int 0, .int 0, .int 0, .int 0, .int (-1), .int 0, .ref n3005, .ref n3006, .int 0, .ref n3007, .ref n3008, .int 0, .int 0, .int 0, .int 0, .int 0, .int 0, .int 0, .ref n3009, .ref n3010, .int 0, .int 0, .ref n3011, .ref n3012, .int 0, .int 0, .ref n3013, .ref n3014, .ref n3015, .int 0, .ref n3016, .ref n3017, .ref n3018])), (n3000, .inl (cy 1, 1300, .inl (fun _ => 0))), (n3006, .inl (cy 1, 18, .inl (fun _ => 0))), (n5000, .inl (cy 2, 1, .inr (.inl (fun _ => 0))))]) (hS : va_S A s.heap H locs) (hl : lv_has ls 8 [(4, .int 0), (3, .ref n5000), (2, .ref n3900), (1, .ref n1900), (0, .ref b)]) : W p l e room_1 s m #[Value.ref b] below meth c H locs 152 18765 (lw_Z below #[Value.ref b] s) (F0 m 1463 ls []) := by
  obtain ⟨⟨hx, hb, hml, hown, hts⟩, hK, hG, hZ, hA⟩ := id F
  obtain ⟨z1, ez1⟩ : ∃ z, xs 1 = z := ⟨_, rfl⟩
  obtain ⟨z2, ez2⟩ : ∃ z, xs 2 = z := ⟨_, rfl⟩
  obtain ⟨z3, ez3⟩ : ∃ z, xs 3 = z := ⟨_, rfl⟩
  obtain ⟨z4, ez4⟩ : ∃ z, xs 4 = z := ⟨_, rfl⟩
  obtain ⟨z5, ez5⟩ : ∃ z, xs 5 = z := ⟨_, rfl⟩
  refine lv_aload_n hx hb dL_law_1463 rfl (lv_at hl 3 rfl) ?_
  refine lv_aload_n hx hb dL_law_1464 rfl (lv_at hl 4 rfl) ?_
  refine lv_iload hx hb dL_law_1465 (lv_at hl 0 rfl) ?_
  refine lv_iconst (v := 1) hx hb dL_law_1467 (by decide +kernel) ?_
  refine lv_iadd hx hb dL_law_1468 ?_
  refine top_i (v := 1) (by decide +kernel) ?_
  refine va_sld hx hb hX hbl hbA hS (i := 1) (vin (by decide +kernel)) dL_law_1469 ?_
  refine top_i (v := z1) ez1 ?_
  refine lv_aload_n hx hb dL_law_1470 rfl (lv_at hl 1 rfl) ?_
  refine call_i (av := [.ref n1900, .int z1, .ref n5000]) F hP hD hS [(n1900, .inr (11, [.ref n1000, .int 0, .ref n1001, .ref n1017, .ref n1034, .ref n1039, .ref n1041, .ref n1042, .ref n1043, .ref n1044, .ref n1048, .ref n1056, .ref n1057, .int 0])), (n1001, .inr (9, [.int 0, .int 0, .int 0, .int 0, .int 0, .ref n1002, .ref n1003, .ref n1004, .ref n1005, .ref n1006, .ref n1007, .ref n1008, .int 0, .ref n1009, .ref n1010, .ref n1011, .ref n1012, .ref n1013])), (n1034, .inr (7, [.ref n1001, .ref n1035, .ref n1036, .ref n1037, .ref n1038, .int 0, .int 0])), (n1035, .inl (cy 1, 8, .inl (fun _ => 0))), (n1036, .inl (cy 1, 8, .inl (fun _ => 0))), (n1037, .inl (cy 1, 8, .inl (fun _ => 0))), (n1038, .inl (cy 1, 8, .inl (fun _ => 0))), (n1041, .inl (cy 1, 34, .inl (fun _ => 0))), (n1056, .inr (3, [.ref n1001, .ref n1034])), (n5000, .inl (cy 2, 1, .inr (.inl (fun _ => 0))))] [(n3900, .inr (12, [.ref n3000, .ref n3001, .ref n3002, .ref n3003, .int 0, .ref n3004, .int 0, .int 0, .int 0, .int 0, .int 0, .int 0, .int 0, .int 0, .int 0, .int (-1), .int 0, .ref n3005, .ref n3006, .int 0, .ref n3007, .ref n3008, .int 0, .int 0, .int 0, .int 0, .int 0, .int 0, .int 0, .ref n3009, .ref n3010, .int 0, .int 0, .ref n3011, .ref n3012, .int 0, .int 0, .ref n3013, .ref n3014, .ref n3015, .int 0, .ref n3016, .ref n3017, .ref n3018])), (n3000, .inl (cy 1, 1300, .inl (fun _ => 0))), (n3006, .inl (cy 1, 18, .inl (fun _ => 0)))] [0, 1, 2, 3, 4, 5, 6, 7, 8, 12] [9, 10, 11] rfl rfl (by decide +kernel) (fun pr => vx_runSW (As := [.ref n1900, .int z1, .ref n5000]) (rest := []) ⟨hx, hb, hml, hown, hts⟩ (k319_L_wave l hlT D cy H.size n1900 z1 n5000 n1001 n1034 n1035 n1036 n1037 n1038 n1041 n1056 n1000 n1017 n1039 n1042 n1043 n1044 n1048 n1057 n1002 n1003 n1004 n1005 n1006 n1007 n1008 n1009 n1010 n1011 n1012 n1013) (vx_cwSW 3 hts gw_L_wave rfl rfl rfl (by decide +kernel) ⟨(by decide +kernel), (by decide +kernel)⟩) pr rfl rfl hl.1 rfl (lv_room (Nat.le_of_ble_eq_true rfl)) dL_law_1471 ⟨(by decide +kernel), (by decide +kernel)⟩) (fun r u H locs hw hP hD hS => ?_)
  rcases hw with ⟨c800001, rfl, rfl⟩ | ⟨c800002, c800003, rfl, rfl⟩ | ⟨c800004, c800005, c800006, c800007, rfl, rfl⟩ | ⟨c800008, c800009, c800010, c800011, rfl, rfl⟩ | ⟨c800012, c800013, c800014, rfl, rfl⟩
  · have hP : va_P D vwCl [(n3900, .inr (12, [.ref n3000, .ref n3001, .ref n3002, .ref n3003, .int 0, .ref n3004, .int 0, .int 0, .int 0, .int 0, .int 0, .int 0, .int 0, .int 0, .int 0, .int (-1), .int 0, .ref n3005, .ref n3006, .int 0, .ref n3007, .ref n3008, .int 0, .int 0, .int 0, .int 0, .int 0, .int 0, .int 0, .ref n3009, .ref n3010, .int 0, .int 0, .ref n3011, .ref n3012, .int 0, .int 0, .ref n3013, .ref n3014, .ref n3015, .int 0, .ref n3016, .ref n3017, .ref n3018])), (n3000, .inl (cy 1, 1300, .inl (fun _ => 0))), (n3006, .inl (cy 1, 18, .inl (fun _ => 0))), (n5000, .inl (cy 2, 1, .inr (.inl (fun _ => 0))))] H := hP
    have hD : va_D A [(n3900, .inr (12, [.ref n3000, .ref n3001, .ref n3002, .ref n3003, .int 0, .ref n3004, .int 0, .int 0, .int 0, .int 0, .int 0, .int 0, .int 0, .int 0, .int 0, .int (-1), .int 0, .ref n3005, .ref n3006, .int 0, .ref n3007, .ref n3008, .int 0, .int 0, .int 0, .int 0, .int 0, .int 0, .int 0, .ref n3009, .ref n3010, .int 0, .int 0, .ref n3011, .ref n3012, .int 0, .int 0, .ref n3013, .ref n3014, .ref n3015, .int 0, .ref n3016, .ref n3017, .ref n3018])), (n3000, .inl (cy 1, 1300, .inl (fun _ => 0))), (n3006, .inl (cy 1, 18, .inl (fun _ => 0))), (n5000, .inl (cy 2, 1, .inr (.inl (fun _ => 0))))] := hD
    refine lv_istore (lv' := [(5, .int 1), (4, .int 0), (3, .ref n5000), (2, .ref n3900), (1, .ref n1900), (0, .ref b)]) hx hb dL_law_1474 hl (by decide +kernel) rfl (fun ls hl => ?_)
    refine lv_aload_n hx hb dL_law_1476 rfl (lv_at hl 3 rfl) ?_
    refine lv_aload_n hx hb dL_law_1477 rfl (lv_at hl 5 rfl) ?_
    refine lv_iload hx hb dL_law_1478 (lv_at hl 1 rfl) ?_
    refine lv_iconst (v := 1) hx hb dL_law_1480 (by decide +kernel) ?_
    refine lv_iadd hx hb dL_law_1481 ?_
    refine top_i (v := 1) (by decide +kernel) ?_
    refine va_sld hx hb hX hbl hbA hS (i := 1) (vin (by decide +kernel)) dL_law_1482 ?_
    refine top_i (v := z1) ez1 ?_
    refine call_i (av := [.ref n3900, .int z1]) F hP hD hS [(n3900, .inr (12, [.ref n3000, .ref n3001, .ref n3002, .ref n3003, .int 0, .ref n3004, .int 0, .int 0, .int 0, .int 0, .int 0, .int 0, .int 0, .int 0, .int 0, .int (-1), .int 0, .ref n3005, .ref n3006, .int 0, .ref n3007, .ref n3008, .int 0, .int 0, .int 0, .int 0, .int 0, .int 0, .int 0, .ref n3009, .ref n3010, .int 0, .int 0, .ref n3011, .ref n3012, .int 0, .int 0, .ref n3013, .ref n3014, .ref n3015, .int 0, .ref n3016, .ref n3017, .ref n3018])), (n3000, .inl (cy 1, 1300, .inl (fun _ => 0))), (n3006, .inl (cy 1, 18, .inl (fun _ => 0)))] [(n5000, .inl (cy 2, 1, .inr (.inl (fun _ => 0))))] [0, 1, 2] [3] rfl rfl (by decide +kernel) (fun pr => va_runV (As := [.int z1]) (rest := []) ⟨hx, hb, hml, hown, hts⟩ (k247_X12_wave l D cy H.size n3900 z1 n3000 n3006 n3001 n3002 n3003 n3004 n3005 n3007 n3008 n3009 n3010 n3011 n3012 n3013 n3014 n3015 n3016 n3017 n3018) (cwV 1 hts gw_X12_wave rfl rfl rfl (by decide +kernel) ⟨(by decide +kernel), (by decide +kernel)⟩) ⟨pr.1, va_recv hK hP (ci := 12) (q0 := 0) rfl rfl, pr.2⟩ rfl rfl hl.1 rfl (lv_room (Nat.le_of_ble_eq_true rfl)) dL_law_1483 ⟨(by decide +kernel), (by decide +kernel)⟩) (fun r u H locs hw hP hD hS => ?_)
    rcases hw with ⟨c800015, rfl, rfl⟩ | ⟨c800016, c800017, rfl, rfl⟩ | ⟨c800018, c800019, c800020, c800021, rfl, rfl⟩ | ⟨c800022, c800023, c800024, c800025, rfl, rfl⟩ | ⟨c800026, c800027, c800028, rfl, rfl⟩
    · have hP : va_P D vwCl [(n5000, .inl (cy 2, 1, .inr (.inl (fun _ => 0)))), (n3000, .inl (cy 1, 1300, .inl (fun _ => 0))), (n3006, .inl (cy 1, 18, .inl (fun _ => 0))), (n3900, .inr (12, [.ref n3000, .ref n3001, .ref n3002, .ref n3003, .int 1, .ref n3004, .int 0, .int 0, .int 0, .int 0, .int 0, .int 0, .int 0, .int 0, .int 0, .int (-1), .int 0, .ref n3005, .ref n3006, .int 0, .ref n3007, .ref n3008, .int 0, .int 0, .int 0, .int 0, .int 0, .int 0, .int 0, .ref n3009, .ref n3010, .int 0, .int 0, .ref n3011, .ref n3012, .int 0, .int 0, .ref n3013, .ref n3014, .ref n3015, .int 0, .ref n3016, .ref n3017, .ref n3018]))] H := hP
      have hD : va_D A [(n5000, .inl (cy 2, 1, .inr (.inl (fun _ => 0)))), (n3000, .inl (cy 1, 1300, .inl (fun _ => 0))), (n3006, .inl (cy 1, 18, .inl (fun _ => 0))), (n3900, .inr (12, [.ref n3000, .ref n3001, .ref n3002, .ref n3003, .int 1, .ref n3004, .int 0, .int 0, .int 0, .int 0, .int 0, .int 0, .int 0, .int 0, .int 0, .int (-1), .int 0, .ref n3005, .ref n3006, .int 0, .ref n3007, .ref n3008, .int 0, .int 0, .int 0, .int 0, .int 0, .int 0, .int 0, .ref n3009, .ref n3010, .int 0, .int 0, .ref n3011, .ref n3012, .int 0, .int 0, .ref n3013, .ref n3014, .ref n3015, .int 0, .ref n3016, .ref n3017, .ref n3018]))] := hD
      refine lv_istore (lv' := [(6, .int 0), (5, .int 1), (4, .int 0), (3, .ref n5000), (2, .ref n3900), (1, .ref n1900), (0, .ref b)]) hx hb dL_law_1486 hl (by decide +kernel) rfl (fun ls hl => ?_)
      refine lv_aload_n hx hb dL_law_1488 rfl (lv_at hl 4 rfl) ?_
      refine call_i (av := [.ref n3900]) F hP hD hS [(n3900, .inr (12, [.ref n3000, .ref n3001, .ref n3002, .ref n3003, .int 1, .ref n3004, .int 0, .int 0, .int 0, .int 0, .int 0, .int 0, .int 0, .int 0, .int 0, .int (-1), .int 0, .ref n3005, .ref n3006, .int 0, .ref n3007, .ref n3008, .int 0, .int 0, .int 0, .int 0, .int 0, .int 0, .int 0, .ref n3009, .ref n3010, .int 0, .int 0, .ref n3011, .ref n3012, .int 0, .int 0, .ref n3013, .ref n3014, .ref n3015, .int 0, .ref n3016, .ref n3017, .ref n3018]))] [(n5000, .inl (cy 2, 1, .inr (.inl (fun _ => 0)))), (n3000, .inl (cy 1, 1300, .inl (fun _ => 0))), (n3006, .inl (cy 1, 18, .inl (fun _ => 0)))] [3] [0, 1, 2] rfl rfl (by decide +kernel) (fun pr => va_runV (As := []) (rest := []) ⟨hx, hb, hml, hown, hts⟩ (k333_X12_thrown l D cy H.size n3900 n3000 n3001 n3002 n3003 n3004 n3005 n3006 n3007 n3008 n3009 n3010 n3011 n3012 n3013 n3014 n3015 n3016 n3017 n3018) (cwV 0 hts gw_X12_thrown rfl rfl rfl (by decide +kernel) ⟨(by decide +kernel), (by decide +kernel)⟩) ⟨pr.1, va_recv hK hP (ci := 12) (q0 := 3) rfl rfl, pr.2⟩ rfl rfl hl.1 rfl (lv_room (Nat.le_of_ble_eq_true rfl)) dL_law_1489 ⟨(by decide +kernel), (by decide +kernel)⟩) (fun r u H locs hw hP hD hS => ?_)
      rcases hw with ⟨rfl, rfl⟩
      have hP : va_P D vwCl [(n5000, .inl (cy 2, 1, .inr (.inl (fun _ => 0)))), (n3000, .inl (cy 1, 1300, .inl (fun _ => 0))), (n3006, .inl (cy 1, 18, .inl (fun _ => 0))), (n3900, .inr (12, [.ref n3000, .ref n3001, .ref n3002, .ref n3003, .int 1, .ref n3004, .int 0, .int 0, .int 0, .int 0, .int 0, .int 0, .int 0, .int 0, .int 0, .int (-1), .int 0, .ref n3005, .ref n3006, .int 0, .ref n3007, .ref n3008, .int 0, .int 0, .int 0, .int 0, .int 0, .int 0, .int 0, .ref n3009, .ref n3010, .int 0, .int 0, .ref n3011, .ref n3012, .int 0, .int 0, .ref n3013, .ref n3014, .ref n3015, .int 0, .ref n3016, .ref n3017, .ref n3018]))] H := hP
      have hD : va_D A [(n5000, .inl (cy 2, 1, .inr (.inl (fun _ => 0)))), (n3000, .inl (cy 1, 1300, .inl (fun _ => 0))), (n3006, .inl (cy 1, 18, .inl (fun _ => 0))), (n3900, .inr (12, [.ref n3000, .ref n3001, .ref n3002, .ref n3003, .int 1, .ref n3004, .int 0, .int 0, .int 0, .int 0, .int 0, .int 0, .int 0, .int 0, .int 0, .int (-1), .int 0, .ref n3005, .ref n3006, .int 0, .ref n3007, .ref n3008, .int 0, .int 0, .int 0, .int 0, .int 0, .int 0, .int 0, .ref n3009, .ref n3010, .int 0, .int 0, .ref n3011, .ref n3012, .int 0, .int 0, .ref n3013, .ref n3014, .ref n3015, .int 0, .ref n3016, .ref n3017, .ref n3018]))] := hD
      refine lv_iload hx hb dL_law_1492 (lv_at hl 1 rfl) ?_
      refine lv_icmp_eq (tgt := 1499) hx hb dL_law_1494 (by decide +kernel) (fun _ => ?_) (fun h => absurd (by decide +kernel) h)
      refine lv_iload hx hb dL_law_1499 (lv_at hl 1 rfl) ?_
      refine lv_if_ne (tgt := 1516) hx hb dL_law_1501 (by decide +kernel) (fun _ => ?_) (fun h => absurd h (by decide +kernel))
      refine lv_goto (tgt := 2458) hx hb dL_law_1516 (by decide +kernel) ?_
      refine lv_iinc (v := 6) (lv' := [(4, .int 6), (6, .int 0), (5, .int 1), (3, .ref n5000), (2, .ref n3900), (1, .ref n1900), (0, .ref b)]) hx hb dL_law_2458 hl (k := 2) rfl (by decide) (by decide +kernel) rfl (fun ls hl => ?_)
      refine lv_goto (tgt := 23) hx hb dL_law_2461 (by decide +kernel) ?_
      refine lv_iload hx hb dL_law_23 (lv_at hl 0 rfl) ?_
      refine lv_aload_n hx hb dL_law_25 rfl (lv_at hl 6 rfl) ?_
      refine va_slen hx hb hX hbl hbA hS dL_law_26 ?_
      refine top_i (v := 6) rfl ?_
      refine lv_bipush (v := 6) hx hb dL_law_27 (by decide +kernel) ?_
      refine lv_isub hx hb dL_law_29 ?_
      refine top_i (v := 0) (by decide +kernel) ?_
      refine lv_icmp_gt (tgt := 2464) hx hb dL_law_30 (by decide +kernel) (fun _ => ?_) (fun h => absurd (by decide +kernel) h)
      refine lv_iconst (v := 1) hx hb dL_law_2464 (by decide +kernel) ?_
      refine va_forget (fun q hq => hAq _ (hS.2.2 q hq)) ?_
      refine W.widen (k := 600002) (n := 7302232) (by decide +kernel) (by decide +kernel) ?_
      exact lw_ret hx hb hr hlk dL_law_2465
    · exact (no_b (lo_nlt_w c800016) (up_lt c800001) (by decide +kernel)).elim
    · exact (no_b (lo_nlt_w c800018) (up_lt c800001) (by decide +kernel)).elim
    · exact (no_b (lo_nlt_w c800022) (up_lt c800001) (by decide +kernel)).elim
    · exact (no_b (lo_nlt_w c800026) (up_lt c800001) (by decide +kernel)).elim
  · have hP : va_P D vwCl [(n3900, .inr (12, [.ref n3000, .ref n3001, .ref n3002, .ref n3003, .int 0, .ref n3004, .int 0, .int 0, .int 0, .int 0, .int 0, .int 0, .int 0, .int 0, .int 0, .int (-1), .int 0, .ref n3005, .ref n3006, .int 0, .ref n3007, .ref n3008, .int 0, .int 0, .int 0, .int 0, .int 0, .int 0, .int 0, .ref n3009, .ref n3010, .int 0, .int 0, .ref n3011, .ref n3012, .int 0, .int 0, .ref n3013, .ref n3014, .ref n3015, .int 0, .ref n3016, .ref n3017, .ref n3018])), (n3000, .inl (cy 1, 1300, .inl (fun _ => 0))), (n3006, .inl (cy 1, 18, .inl (fun _ => 0))), (n5000, .inl (cy 2, 1, .inr (.inl (fun _ => 0))))] H := hP
    have hD : va_D A [(n3900, .inr (12, [.ref n3000, .ref n3001, .ref n3002, .ref n3003, .int 0, .ref n3004, .int 0, .int 0, .int 0, .int 0, .int 0, .int 0, .int 0, .int 0, .int 0, .int (-1), .int 0, .ref n3005, .ref n3006, .int 0, .ref n3007, .ref n3008, .int 0, .int 0, .int 0, .int 0, .int 0, .int 0, .int 0, .ref n3009, .ref n3010, .int 0, .int 0, .ref n3011, .ref n3012, .int 0, .int 0, .ref n3013, .ref n3014, .ref n3015, .int 0, .ref n3016, .ref n3017, .ref n3018])), (n3000, .inl (cy 1, 1300, .inl (fun _ => 0))), (n3006, .inl (cy 1, 18, .inl (fun _ => 0))), (n5000, .inl (cy 2, 1, .inr (.inl (fun _ => 0))))] := hD
    refine lv_istore (lv' := [(5, .int 1), (4, .int 0), (3, .ref n5000), (2, .ref n3900), (1, .ref n1900), (0, .ref b)]) hx hb dL_law_1474 hl (by decide +kernel) rfl (fun ls hl => ?_)
    refine lv_aload_n hx hb dL_law_1476 rfl (lv_at hl 3 rfl) ?_
    refine lv_aload_n hx hb dL_law_1477 rfl (lv_at hl 5 rfl) ?_
    refine lv_iload hx hb dL_law_1478 (lv_at hl 1 rfl) ?_
    refine lv_iconst (v := 1) hx hb dL_law_1480 (by decide +kernel) ?_
    refine lv_iadd hx hb dL_law_1481 ?_
    refine top_i (v := 1) (by decide +kernel) ?_
    refine va_sld hx hb hX hbl hbA hS (i := 1) (vin (by decide +kernel)) dL_law_1482 ?_
    refine top_i (v := z1) ez1 ?_
    refine call_i (av := [.ref n3900, .int z1]) F hP hD hS [(n3900, .inr (12, [.ref n3000, .ref n3001, .ref n3002, .ref n3003, .int 0, .ref n3004, .int 0, .int 0, .int 0, .int 0, .int 0, .int 0, .int 0, .int 0, .int 0, .int (-1), .int 0, .ref n3005, .ref n3006, .int 0, .ref n3007, .ref n3008, .int 0, .int 0, .int 0, .int 0, .int 0, .int 0, .int 0, .ref n3009, .ref n3010, .int 0, .int 0, .ref n3011, .ref n3012, .int 0, .int 0, .ref n3013, .ref n3014, .ref n3015, .int 0, .ref n3016, .ref n3017, .ref n3018])), (n3000, .inl (cy 1, 1300, .inl (fun _ => 0))), (n3006, .inl (cy 1, 18, .inl (fun _ => 0)))] [(n5000, .inl (cy 2, 1, .inr (.inl (fun _ => 0))))] [0, 1, 2] [3] rfl rfl (by decide +kernel) (fun pr => va_runV (As := [.int z1]) (rest := []) ⟨hx, hb, hml, hown, hts⟩ (k247_X12_wave l D cy H.size n3900 z1 n3000 n3006 n3001 n3002 n3003 n3004 n3005 n3007 n3008 n3009 n3010 n3011 n3012 n3013 n3014 n3015 n3016 n3017 n3018) (cwV 1 hts gw_X12_wave rfl rfl rfl (by decide +kernel) ⟨(by decide +kernel), (by decide +kernel)⟩) ⟨pr.1, va_recv hK hP (ci := 12) (q0 := 0) rfl rfl, pr.2⟩ rfl rfl hl.1 rfl (lv_room (Nat.le_of_ble_eq_true rfl)) dL_law_1483 ⟨(by decide +kernel), (by decide +kernel)⟩) (fun r u H locs hw hP hD hS => ?_)
    rcases hw with ⟨c800032, rfl, rfl⟩ | ⟨c800033, c800034, rfl, rfl⟩ | ⟨c800035, c800036, c800037, c800038, rfl, rfl⟩ | ⟨c800039, c800040, c800041, c800042, rfl, rfl⟩ | ⟨c800043, c800044, c800045, rfl, rfl⟩
    · exact (no_b (lo_nle c800003) (up_lt_w c800032) (by decide +kernel)).elim
    · have hP : va_P D vwCl [(n5000, .inl (cy 2, 1, .inr (.inl (fun _ => 0)))), (n3000, .inl (cy 1, 1300, .inl (fun _ => 0))), (n3006, .inl (cy 1, 18, .inl (fun _ => 0))), (n3900, .inr (12, [.ref n3000, .ref n3001, .ref n3002, .ref n3003, .int 1, .ref n3004, .int 0, .int 0, .int 0, .int 0, .int 0, .int 0, .int 0, .int 0, .int 0, .int (-1), .int 0, .ref n3005, .ref n3006, .int 0, .ref n3007, .ref n3008, .int 0, .int 0, .int 0, .int 0, .int 0, .int 0, .int 0, .ref n3009, .ref n3010, .int 0, .int 0, .ref n3011, .ref n3012, .int 0, .int 0, .ref n3013, .ref n3014, .ref n3015, .int 0, .ref n3016, .ref n3017, .ref n3018]))] H := hP
      have hD : va_D A [(n5000, .inl (cy 2, 1, .inr (.inl (fun _ => 0)))), (n3000, .inl (cy 1, 1300, .inl (fun _ => 0))), (n3006, .inl (cy 1, 18, .inl (fun _ => 0))), (n3900, .inr (12, [.ref n3000, .ref n3001, .ref n3002, .ref n3003, .int 1, .ref n3004, .int 0, .int 0, .int 0, .int 0, .int 0, .int 0, .int 0, .int 0, .int 0, .int (-1), .int 0, .ref n3005, .ref n3006, .int 0, .ref n3007, .ref n3008, .int 0, .int 0, .int 0, .int 0, .int 0, .int 0, .int 0, .ref n3009, .ref n3010, .int 0, .int 0, .ref n3011, .ref n3012, .int 0, .int 0, .ref n3013, .ref n3014, .ref n3015, .int 0, .ref n3016, .ref n3017, .ref n3018]))] := hD
      refine lv_istore (lv' := [(6, .int 0), (5, .int 1), (4, .int 0), (3, .ref n5000), (2, .ref n3900), (1, .ref n1900), (0, .ref b)]) hx hb dL_law_1486 hl (by decide +kernel) rfl (fun ls hl => ?_)
      refine lv_aload_n hx hb dL_law_1488 rfl (lv_at hl 4 rfl) ?_
      refine call_i (av := [.ref n3900]) F hP hD hS [(n3900, .inr (12, [.ref n3000, .ref n3001, .ref n3002, .ref n3003, .int 1, .ref n3004, .int 0, .int 0, .int 0, .int 0, .int 0, .int 0, .int 0, .int 0, .int 0, .int (-1), .int 0, .ref n3005, .ref n3006, .int 0, .ref n3007, .ref n3008, .int 0, .int 0, .int 0, .int 0, .int 0, .int 0, .int 0, .ref n3009, .ref n3010, .int 0, .int 0, .ref n3011, .ref n3012, .int 0, .int 0, .ref n3013, .ref n3014, .ref n3015, .int 0, .ref n3016, .ref n3017, .ref n3018]))] [(n5000, .inl (cy 2, 1, .inr (.inl (fun _ => 0)))), (n3000, .inl (cy 1, 1300, .inl (fun _ => 0))), (n3006, .inl (cy 1, 18, .inl (fun _ => 0)))] [3] [0, 1, 2] rfl rfl (by decide +kernel) (fun pr => va_runV (As := []) (rest := []) ⟨hx, hb, hml, hown, hts⟩ (k333_X12_thrown l D cy H.size n3900 n3000 n3001 n3002 n3003 n3004 n3005 n3006 n3007 n3008 n3009 n3010 n3011 n3012 n3013 n3014 n3015 n3016 n3017 n3018) (cwV 0 hts gw_X12_thrown rfl rfl rfl (by decide +kernel) ⟨(by decide +kernel), (by decide +kernel)⟩) ⟨pr.1, va_recv hK hP (ci := 12) (q0 := 3) rfl rfl, pr.2⟩ rfl rfl hl.1 rfl (lv_room (Nat.le_of_ble_eq_true rfl)) dL_law_1489 ⟨(by decide +kernel), (by decide +kernel)⟩) (fun r u H locs hw hP hD hS => ?_)
      rcases hw with ⟨rfl, rfl⟩
      have hP : va_P D vwCl [(n5000, .inl (cy 2, 1, .inr (.inl (fun _ => 0)))), (n3000, .inl (cy 1, 1300, .inl (fun _ => 0))), (n3006, .inl (cy 1, 18, .inl (fun _ => 0))), (n3900, .inr (12, [.ref n3000, .ref n3001, .ref n3002, .ref n3003, .int 1, .ref n3004, .int 0, .int 0, .int 0, .int 0, .int 0, .int 0, .int 0, .int 0, .int 0, .int (-1), .int 0, .ref n3005, .ref n3006, .int 0, .ref n3007, .ref n3008, .int 0, .int 0, .int 0, .int 0, .int 0, .int 0, .int 0, .ref n3009, .ref n3010, .int 0, .int 0, .ref n3011, .ref n3012, .int 0, .int 0, .ref n3013, .ref n3014, .ref n3015, .int 0, .ref n3016, .ref n3017, .ref n3018]))] H := hP
      have hD : va_D A [(n5000, .inl (cy 2, 1, .inr (.inl (fun _ => 0)))), (n3000, .inl (cy 1, 1300, .inl (fun _ => 0))), (n3006, .inl (cy 1, 18, .inl (fun _ => 0))), (n3900, .inr (12, [.ref n3000, .ref n3001, .ref n3002, .ref n3003, .int 1, .ref n3004, .int 0, .int 0, .int 0, .int 0, .int 0, .int 0, .int 0, .int 0, .int 0, .int (-1), .int 0, .ref n3005, .ref n3006, .int 0, .ref n3007, .ref n3008, .int 0, .int 0, .int 0, .int 0, .int 0, .int 0, .int 0, .ref n3009, .ref n3010, .int 0, .int 0, .ref n3011, .ref n3012, .int 0, .int 0, .ref n3013, .ref n3014, .ref n3015, .int 0, .ref n3016, .ref n3017, .ref n3018]))] := hD
      refine lv_iload hx hb dL_law_1492 (lv_at hl 1 rfl) ?_
      refine lv_icmp_eq (tgt := 1499) hx hb dL_law_1494 (by decide +kernel) (fun _ => ?_) (fun h => absurd (by decide +kernel) h)
      refine lv_iload hx hb dL_law_1499 (lv_at hl 1 rfl) ?_
      refine lv_if_ne (tgt := 1516) hx hb dL_law_1501 (by decide +kernel) (fun _ => ?_) (fun h => absurd h (by decide +kernel))
      refine lv_goto (tgt := 2458) hx hb dL_law_1516 (by decide +kernel) ?_
      refine lv_iinc (v := 6) (lv' := [(4, .int 6), (6, .int 0), (5, .int 1), (3, .ref n5000), (2, .ref n3900), (1, .ref n1900), (0, .ref b)]) hx hb dL_law_2458 hl (k := 2) rfl (by decide) (by decide +kernel) rfl (fun ls hl => ?_)
      refine lv_goto (tgt := 23) hx hb dL_law_2461 (by decide +kernel) ?_
      refine lv_iload hx hb dL_law_23 (lv_at hl 0 rfl) ?_
      refine lv_aload_n hx hb dL_law_25 rfl (lv_at hl 6 rfl) ?_
      refine va_slen hx hb hX hbl hbA hS dL_law_26 ?_
      refine top_i (v := 6) rfl ?_
      refine lv_bipush (v := 6) hx hb dL_law_27 (by decide +kernel) ?_
      refine lv_isub hx hb dL_law_29 ?_
      refine top_i (v := 0) (by decide +kernel) ?_
      refine lv_icmp_gt (tgt := 2464) hx hb dL_law_30 (by decide +kernel) (fun _ => ?_) (fun h => absurd (by decide +kernel) h)
      refine lv_iconst (v := 1) hx hb dL_law_2464 (by decide +kernel) ?_
      refine va_forget (fun q hq => hAq _ (hS.2.2 q hq)) ?_
      refine W.widen (k := 600002) (n := 7302232) (by decide +kernel) (by decide +kernel) ?_
      exact lw_ret hx hb hr hlk dL_law_2465
    · exact (no_b (lo_nle c800003) (up_nlt_w c800036) (by decide +kernel)).elim
    · exact (no_b (lo_nle c800003) (up_nlt_w c800040) (by decide +kernel)).elim
    · exact (no_b (lo_nle c800003) (up_nlt_w c800044) (by decide +kernel)).elim
  · have hP : va_P D vwCl [(n3900, .inr (12, [.ref n3000, .ref n3001, .ref n3002, .ref n3003, .int 0, .ref n3004, .int 0, .int 0, .int 0, .int 0, .int 0, .int 0, .int 0, .int 0, .int 0, .int (-1), .int 0, .ref n3005, .ref n3006, .int 0, .ref n3007, .ref n3008, .int 0, .int 0, .int 0, .int 0, .int 0, .int 0, .int 0, .ref n3009, .ref n3010, .int 0, .int 0, .ref n3011, .ref n3012, .int 0, .int 0, .ref n3013, .ref n3014, .ref n3015, .int 0, .ref n3016, .ref n3017, .ref n3018])), (n3000, .inl (cy 1, 1300, .inl (fun _ => 0))), (n3006, .inl (cy 1, 18, .inl (fun _ => 0))), (n5000, .inl (cy 2, 1, .inr (.inl (fun _ => 0))))] H := hP
    have hD : va_D A [(n3900, .inr (12, [.ref n3000, .ref n3001, .ref n3002, .ref n3003, .int 0, .ref n3004, .int 0, .int 0, .int 0, .int 0, .int 0, .int 0, .int 0, .int 0, .int 0, .int (-1), .int 0, .ref n3005, .ref n3006, .int 0, .ref n3007, .ref n3008, .int 0, .int 0, .int 0, .int 0, .int 0, .int 0, .int 0, .ref n3009, .ref n3010, .int 0, .int 0, .ref n3011, .ref n3012, .int 0, .int 0, .ref n3013, .ref n3014, .ref n3015, .int 0, .ref n3016, .ref n3017, .ref n3018])), (n3000, .inl (cy 1, 1300, .inl (fun _ => 0))), (n3006, .inl (cy 1, 18, .inl (fun _ => 0))), (n5000, .inl (cy 2, 1, .inr (.inl (fun _ => 0))))] := hD
    refine lv_istore (lv' := [(5, .int 0), (4, .int 0), (3, .ref n5000), (2, .ref n3900), (1, .ref n1900), (0, .ref b)]) hx hb dL_law_1474 hl (by decide +kernel) rfl (fun ls hl => ?_)
    refine lv_aload_n hx hb dL_law_1476 rfl (lv_at hl 3 rfl) ?_
    refine lv_aload_n hx hb dL_law_1477 rfl (lv_at hl 5 rfl) ?_
    refine lv_iload hx hb dL_law_1478 (lv_at hl 1 rfl) ?_
    refine lv_iconst (v := 1) hx hb dL_law_1480 (by decide +kernel) ?_
    refine lv_iadd hx hb dL_law_1481 ?_
    refine top_i (v := 1) (by decide +kernel) ?_
    refine va_sld hx hb hX hbl hbA hS (i := 1) (vin (by decide +kernel)) dL_law_1482 ?_
    refine top_i (v := z1) ez1 ?_
    refine call_i (av := [.ref n3900, .int z1]) F hP hD hS [(n3900, .inr (12, [.ref n3000, .ref n3001, .ref n3002, .ref n3003, .int 0, .ref n3004, .int 0, .int 0, .int 0, .int 0, .int 0, .int 0, .int 0, .int 0, .int 0, .int (-1), .int 0, .ref n3005, .ref n3006, .int 0, .ref n3007, .ref n3008, .int 0, .int 0, .int 0, .int 0, .int 0, .int 0, .int 0, .ref n3009, .ref n3010, .int 0, .int 0, .ref n3011, .ref n3012, .int 0, .int 0, .ref n3013, .ref n3014, .ref n3015, .int 0, .ref n3016, .ref n3017, .ref n3018])), (n3000, .inl (cy 1, 1300, .inl (fun _ => 0))), (n3006, .inl (cy 1, 18, .inl (fun _ => 0)))] [(n5000, .inl (cy 2, 1, .inr (.inl (fun _ => 0))))] [0, 1, 2] [3] rfl rfl (by decide +kernel) (fun pr => va_runV (As := [.int z1]) (rest := []) ⟨hx, hb, hml, hown, hts⟩ (k247_X12_wave l D cy H.size n3900 z1 n3000 n3006 n3001 n3002 n3003 n3004 n3005 n3007 n3008 n3009 n3010 n3011 n3012 n3013 n3014 n3015 n3016 n3017 n3018) (cwV 1 hts gw_X12_wave rfl rfl rfl (by decide +kernel) ⟨(by decide +kernel), (by decide +kernel)⟩) ⟨pr.1, va_recv hK hP (ci := 12) (q0 := 0) rfl rfl, pr.2⟩ rfl rfl hl.1 rfl (lv_room (Nat.le_of_ble_eq_true rfl)) dL_law_1483 ⟨(by decide +kernel), (by decide +kernel)⟩) (fun r u H locs hw hP hD hS => ?_)
    rcases hw with ⟨c800049, rfl, rfl⟩ | ⟨c800050, c800051, rfl, rfl⟩ | ⟨c800052, c800053, c800054, c800055, rfl, rfl⟩ | ⟨c800056, c800057, c800058, c800059, rfl, rfl⟩ | ⟨c800060, c800061, c800062, rfl, rfl⟩
    · exact (no_b (lo_nlt c800004) (up_lt_w c800049) (by decide +kernel)).elim
    · exact (no_b (lo_lt_w c800051) (up_le c800005) (by decide +kernel)).elim
    · have hP : va_P D vwCl [(n5000, .inl (cy 2, 1, .inr (.inl (fun _ => 0)))), (n3006, .inl (cy 1, 18, .inl (fun _ => 0))), (n3900, .inr (12, [.ref n3000, .ref n3001, .ref n3002, .ref n3003, .int 0, .ref n3004, .int 0, .int 0, .int 0, .int 0, .int 0, .int 0, .int 0, .int 0, .int 0, .int (-1), .int 0, .ref n3005, .ref n3006, .int 0, .ref n3007, .ref n3008, .int 0, .int 0, .int 0, .int 0, .int 0, .int 0, .int 0, .ref n3009, .ref n3010, .int 0, .int 0, .ref n3011, .ref n3012, .int 0, .int 0, .ref n3013, .ref n3014, .ref n3015, .int 0, .ref n3016, .ref n3017, .ref n3018])), (n3000, .inl (cy 1, 1300, .inl (fun _ => 0)))] H := hP
      have hD : va_D A [(n5000, .inl (cy 2, 1, .inr (.inl (fun _ => 0)))), (n3006, .inl (cy 1, 18, .inl (fun _ => 0))), (n3900, .inr (12, [.ref n3000, .ref n3001, .ref n3002, .ref n3003, .int 0, .ref n3004, .int 0, .int 0, .int 0, .int 0, .int 0, .int 0, .int 0, .int 0, .int 0, .int (-1), .int 0, .ref n3005, .ref n3006, .int 0, .ref n3007, .ref n3008, .int 0, .int 0, .int 0, .int 0, .int 0, .int 0, .int 0, .ref n3009, .ref n3010, .int 0, .int 0, .ref n3011, .ref n3012, .int 0, .int 0, .ref n3013, .ref n3014, .ref n3015, .int 0, .ref n3016, .ref n3017, .ref n3018])), (n3000, .inl (cy 1, 1300, .inl (fun _ => 0)))] := hD
      refine lv_istore (lv' := [(6, .int 0), (5, .int 0), (4, .int 0), (3, .ref n5000), (2, .ref n3900), (1, .ref n1900), (0, .ref b)]) hx hb dL_law_1486 hl (by decide +kernel) rfl (fun ls hl => ?_)
      refine lv_aload_n hx hb dL_law_1488 rfl (lv_at hl 4 rfl) ?_
      refine call_i (av := [.ref n3900]) F hP hD hS [(n3900, .inr (12, [.ref n3000, .ref n3001, .ref n3002, .ref n3003, .int 0, .ref n3004, .int 0, .int 0, .int 0, .int 0, .int 0, .int 0, .int 0, .int 0, .int 0, .int (-1), .int 0, .ref n3005, .ref n3006, .int 0, .ref n3007, .ref n3008, .int 0, .int 0, .int 0, .int 0, .int 0, .int 0, .int 0, .ref n3009, .ref n3010, .int 0, .int 0, .ref n3011, .ref n3012, .int 0, .int 0, .ref n3013, .ref n3014, .ref n3015, .int 0, .ref n3016, .ref n3017, .ref n3018]))] [(n5000, .inl (cy 2, 1, .inr (.inl (fun _ => 0)))), (n3006, .inl (cy 1, 18, .inl (fun _ => 0))), (n3000, .inl (cy 1, 1300, .inl (fun _ => 0)))] [2] [0, 1, 3] rfl rfl (by decide +kernel) (fun pr => va_runV (As := []) (rest := []) ⟨hx, hb, hml, hown, hts⟩ (k175_X12_thrown l D cy H.size n3900 n3000 n3001 n3002 n3003 n3004 n3005 n3006 n3007 n3008 n3009 n3010 n3011 n3012 n3013 n3014 n3015 n3016 n3017 n3018) (cwV 0 hts gw_X12_thrown rfl rfl rfl (by decide +kernel) ⟨(by decide +kernel), (by decide +kernel)⟩) ⟨pr.1, va_recv hK hP (ci := 12) (q0 := 2) rfl rfl, pr.2⟩ rfl rfl hl.1 rfl (lv_room (Nat.le_of_ble_eq_true rfl)) dL_law_1489 ⟨(by decide +kernel), (by decide +kernel)⟩) (fun r u H locs hw hP hD hS => ?_)
      rcases hw with ⟨rfl, rfl⟩
      have hP : va_P D vwCl [(n5000, .inl (cy 2, 1, .inr (.inl (fun _ => 0)))), (n3006, .inl (cy 1, 18, .inl (fun _ => 0))), (n3000, .inl (cy 1, 1300, .inl (fun _ => 0))), (n3900, .inr (12, [.ref n3000, .ref n3001, .ref n3002, .ref n3003, .int 0, .ref n3004, .int 0, .int 0, .int 0, .int 0, .int 0, .int 0, .int 0, .int 0, .int 0, .int (-1), .int 0, .ref n3005, .ref n3006, .int 0, .ref n3007, .ref n3008, .int 0, .int 0, .int 0, .int 0, .int 0, .int 0, .int 0, .ref n3009, .ref n3010, .int 0, .int 0, .ref n3011, .ref n3012, .int 0, .int 0, .ref n3013, .ref n3014, .ref n3015, .int 0, .ref n3016, .ref n3017, .ref n3018]))] H := hP
      have hD : va_D A [(n5000, .inl (cy 2, 1, .inr (.inl (fun _ => 0)))), (n3006, .inl (cy 1, 18, .inl (fun _ => 0))), (n3000, .inl (cy 1, 1300, .inl (fun _ => 0))), (n3900, .inr (12, [.ref n3000, .ref n3001, .ref n3002, .ref n3003, .int 0, .ref n3004, .int 0, .int 0, .int 0, .int 0, .int 0, .int 0, .int 0, .int 0, .int 0, .int (-1), .int 0, .ref n3005, .ref n3006, .int 0, .ref n3007, .ref n3008, .int 0, .int 0, .int 0, .int 0, .int 0, .int 0, .int 0, .ref n3009, .ref n3010, .int 0, .int 0, .ref n3011, .ref n3012, .int 0, .int 0, .ref n3013, .ref n3014, .ref n3015, .int 0, .ref n3016, .ref n3017, .ref n3018]))] := hD
      refine lv_iload hx hb dL_law_1492 (lv_at hl 1 rfl) ?_
      refine lv_icmp_eq (tgt := 1499) hx hb dL_law_1494 (by decide +kernel) (fun _ => ?_) (fun h => absurd (by decide +kernel) h)
      refine lv_iload hx hb dL_law_1499 (lv_at hl 1 rfl) ?_
      refine lv_if_ne (tgt := 1516) hx hb dL_law_1501 (by decide +kernel) (fun h => absurd (by decide +kernel) h) (fun _ => ?_)
      refine lv_aload_n hx hb dL_law_1504 rfl (lv_at hl 3 rfl) ?_
      refine lv_iconst (v := 0) hx hb dL_law_1505 (by decide +kernel) ?_
      refine va_lald hx hb hK hP 0 2 rfl rfl (i := 0) (vin (by decide +kernel)) dL_law_1506 ?_
      refine top_l (v := 0) (by decide +kernel) ?_
      refine lv_iload hx hb dL_law_1507 (lv_at hl 0 rfl) ?_
      refine lv_i2l (v := 0) hx hb dL_law_1509 (by decide +kernel) ?_
      refine W.lcmp hx hb dL_law_1510 ?_
      refine top_i (v := 0) (by decide +kernel) ?_
      refine lv_if_eq (tgt := 1516) hx hb dL_law_1511 (by decide +kernel) (fun _ => ?_) (fun h => absurd (by decide +kernel) h)
      refine lv_goto (tgt := 2458) hx hb dL_law_1516 (by decide +kernel) ?_
      refine lv_iinc (v := 6) (lv' := [(4, .int 6), (6, .int 0), (5, .int 0), (3, .ref n5000), (2, .ref n3900), (1, .ref n1900), (0, .ref b)]) hx hb dL_law_2458 hl (k := 2) rfl (by decide) (by decide +kernel) rfl (fun ls hl => ?_)
      refine lv_goto (tgt := 23) hx hb dL_law_2461 (by decide +kernel) ?_
      refine lv_iload hx hb dL_law_23 (lv_at hl 0 rfl) ?_
      refine lv_aload_n hx hb dL_law_25 rfl (lv_at hl 6 rfl) ?_
      refine va_slen hx hb hX hbl hbA hS dL_law_26 ?_
      refine top_i (v := 6) rfl ?_
      refine lv_bipush (v := 6) hx hb dL_law_27 (by decide +kernel) ?_
      refine lv_isub hx hb dL_law_29 ?_
      refine top_i (v := 0) (by decide +kernel) ?_
      refine lv_icmp_gt (tgt := 2464) hx hb dL_law_30 (by decide +kernel) (fun _ => ?_) (fun h => absurd (by decide +kernel) h)
      refine lv_iconst (v := 1) hx hb dL_law_2464 (by decide +kernel) ?_
      refine va_forget (fun q hq => hAq _ (hS.2.2 q hq)) ?_
      refine W.widen (k := 600002) (n := 7302232) (by decide +kernel) (by decide +kernel) ?_
      exact lw_ret hx hb hr hlk dL_law_2465
    · exact absurd c800059 c800007
    · exact absurd c800062 c800006
  · subst c800011
    have hP : va_P D vwCl [(n3900, .inr (12, [.ref n3000, .ref n3001, .ref n3002, .ref n3003, .int 0, .ref n3004, .int 0, .int 0, .int 0, .int 0, .int 0, .int 0, .int 0, .int 0, .int 0, .int (-1), .int 0, .ref n3005, .ref n3006, .int 0, .ref n3007, .ref n3008, .int 0, .int 0, .int 0, .int 0, .int 0, .int 0, .int 0, .ref n3009, .ref n3010, .int 0, .int 0, .ref n3011, .ref n3012, .int 0, .int 0, .ref n3013, .ref n3014, .ref n3015, .int 0, .ref n3016, .ref n3017, .ref n3018])), (n3000, .inl (cy 1, 1300, .inl (fun _ => 0))), (n3006, .inl (cy 1, 18, .inl (fun _ => 0))), (n5000, .inl (cy 2, 1, .inr (.inl (fun _ => 0))))] H := hP
    have hD : va_D A [(n3900, .inr (12, [.ref n3000, .ref n3001, .ref n3002, .ref n3003, .int 0, .ref n3004, .int 0, .int 0, .int 0, .int 0, .int 0, .int 0, .int 0, .int 0, .int 0, .int (-1), .int 0, .ref n3005, .ref n3006, .int 0, .ref n3007, .ref n3008, .int 0, .int 0, .int 0, .int 0, .int 0, .int 0, .int 0, .ref n3009, .ref n3010, .int 0, .int 0, .ref n3011, .ref n3012, .int 0, .int 0, .ref n3013, .ref n3014, .ref n3015, .int 0, .ref n3016, .ref n3017, .ref n3018])), (n3000, .inl (cy 1, 1300, .inl (fun _ => 0))), (n3006, .inl (cy 1, 18, .inl (fun _ => 0))), (n5000, .inl (cy 2, 1, .inr (.inl (fun _ => 0))))] := hD
    refine lv_istore (lv' := [(5, .int 0), (4, .int 0), (3, .ref n5000), (2, .ref n3900), (1, .ref n1900), (0, .ref b)]) hx hb dL_law_1474 hl (by decide +kernel) rfl (fun ls hl => ?_)
    refine lv_aload_n hx hb dL_law_1476 rfl (lv_at hl 3 rfl) ?_
    refine lv_aload_n hx hb dL_law_1477 rfl (lv_at hl 5 rfl) ?_
    refine lv_iload hx hb dL_law_1478 (lv_at hl 1 rfl) ?_
    refine lv_iconst (v := 1) hx hb dL_law_1480 (by decide +kernel) ?_
    refine lv_iadd hx hb dL_law_1481 ?_
    refine top_i (v := 1) (by decide +kernel) ?_
    refine va_sld hx hb hX hbl hbA hS (i := 1) (vin (by decide +kernel)) dL_law_1482 ?_
    refine top_i (v := 1) ez1 ?_
    refine call_i (av := [.ref n3900, .int 1]) F hP hD hS [(n3900, .inr (12, [.ref n3000, .ref n3001, .ref n3002, .ref n3003, .int 0, .ref n3004, .int 0, .int 0, .int 0, .int 0, .int 0, .int 0, .int 0, .int 0, .int 0, .int (-1), .int 0, .ref n3005, .ref n3006, .int 0, .ref n3007, .ref n3008, .int 0, .int 0, .int 0, .int 0, .int 0, .int 0, .int 0, .ref n3009, .ref n3010, .int 0, .int 0, .ref n3011, .ref n3012, .int 0, .int 0, .ref n3013, .ref n3014, .ref n3015, .int 0, .ref n3016, .ref n3017, .ref n3018])), (n3000, .inl (cy 1, 1300, .inl (fun _ => 0))), (n3006, .inl (cy 1, 18, .inl (fun _ => 0)))] [(n5000, .inl (cy 2, 1, .inr (.inl (fun _ => 0))))] [0, 1, 2] [3] rfl rfl (by decide +kernel) (fun pr => va_runV (As := [.int 1]) (rest := []) ⟨hx, hb, hml, hown, hts⟩ (k247_X12_wave l D cy H.size n3900 1 n3000 n3006 n3001 n3002 n3003 n3004 n3005 n3007 n3008 n3009 n3010 n3011 n3012 n3013 n3014 n3015 n3016 n3017 n3018) (cwV 1 hts gw_X12_wave rfl rfl rfl (by decide +kernel) ⟨(by decide +kernel), (by decide +kernel)⟩) ⟨pr.1, va_recv hK hP (ci := 12) (q0 := 0) rfl rfl, pr.2⟩ rfl rfl hl.1 rfl (lv_room (Nat.le_of_ble_eq_true rfl)) dL_law_1483 ⟨(by decide +kernel), (by decide +kernel)⟩) (fun r u H locs hw hP hD hS => ?_)
    rcases hw with ⟨c800067, rfl, rfl⟩ | ⟨c800068, c800069, rfl, rfl⟩ | ⟨c800070, c800071, c800072, c800073, rfl, rfl⟩ | ⟨c800074, c800075, c800076, c800077, rfl, rfl⟩ | ⟨c800078, c800079, c800080, rfl, rfl⟩
    · exact absurd c800067 (by decide +kernel)
    · exact absurd c800069 (by decide +kernel)
    · exact absurd (by decide +kernel) c800073
    · have hP : va_P D vwCl [(n5000, .inl (cy 2, 1, .inr (.inl (fun _ => 0)))), (n3006, .inl (cy 1, 18, .inl (fun _ => 0))), (n3900, .inr (12, [.ref n3000, .ref n3001, .ref n3002, .ref n3003, .int 0, .ref n3004, .int 0, .int 0, .int 0, .int 0, .int 0, .int 0, .int 0, .int 0, .int 0, .int (-1), .int 0, .ref n3005, .ref n3006, .int 0, .ref n3007, .ref n3008, .int 0, .int 0, .int 0, .int 0, .int 0, .int 0, .int 0, .ref n3009, .ref n3010, .int 0, .int 0, .ref n3011, .ref n3012, .int 0, .int 0, .ref n3013, .ref n3014, .ref n3015, .int 0, .ref n3016, .ref n3017, .ref n3018])), (n3000, .inl (cy 1, 1300, .inl (fun _ => 0)))] H := hP
      have hD : va_D A [(n5000, .inl (cy 2, 1, .inr (.inl (fun _ => 0)))), (n3006, .inl (cy 1, 18, .inl (fun _ => 0))), (n3900, .inr (12, [.ref n3000, .ref n3001, .ref n3002, .ref n3003, .int 0, .ref n3004, .int 0, .int 0, .int 0, .int 0, .int 0, .int 0, .int 0, .int 0, .int 0, .int (-1), .int 0, .ref n3005, .ref n3006, .int 0, .ref n3007, .ref n3008, .int 0, .int 0, .int 0, .int 0, .int 0, .int 0, .int 0, .ref n3009, .ref n3010, .int 0, .int 0, .ref n3011, .ref n3012, .int 0, .int 0, .ref n3013, .ref n3014, .ref n3015, .int 0, .ref n3016, .ref n3017, .ref n3018])), (n3000, .inl (cy 1, 1300, .inl (fun _ => 0)))] := hD
      refine lv_istore (lv' := [(6, .int 0), (5, .int 0), (4, .int 0), (3, .ref n5000), (2, .ref n3900), (1, .ref n1900), (0, .ref b)]) hx hb dL_law_1486 hl (by decide +kernel) rfl (fun ls hl => ?_)
      refine lv_aload_n hx hb dL_law_1488 rfl (lv_at hl 4 rfl) ?_
      refine call_i (av := [.ref n3900]) F hP hD hS [(n3900, .inr (12, [.ref n3000, .ref n3001, .ref n3002, .ref n3003, .int 0, .ref n3004, .int 0, .int 0, .int 0, .int 0, .int 0, .int 0, .int 0, .int 0, .int 0, .int (-1), .int 0, .ref n3005, .ref n3006, .int 0, .ref n3007, .ref n3008, .int 0, .int 0, .int 0, .int 0, .int 0, .int 0, .int 0, .ref n3009, .ref n3010, .int 0, .int 0, .ref n3011, .ref n3012, .int 0, .int 0, .ref n3013, .ref n3014, .ref n3015, .int 0, .ref n3016, .ref n3017, .ref n3018]))] [(n5000, .inl (cy 2, 1, .inr (.inl (fun _ => 0)))), (n3006, .inl (cy 1, 18, .inl (fun _ => 0))), (n3000, .inl (cy 1, 1300, .inl (fun _ => 0)))] [2] [0, 1, 3] rfl rfl (by decide +kernel) (fun pr => va_runV (As := []) (rest := []) ⟨hx, hb, hml, hown, hts⟩ (k175_X12_thrown l D cy H.size n3900 n3000 n3001 n3002 n3003 n3004 n3005 n3006 n3007 n3008 n3009 n3010 n3011 n3012 n3013 n3014 n3015 n3016 n3017 n3018) (cwV 0 hts gw_X12_thrown rfl rfl rfl (by decide +kernel) ⟨(by decide +kernel), (by decide +kernel)⟩) ⟨pr.1, va_recv hK hP (ci := 12) (q0 := 2) rfl rfl, pr.2⟩ rfl rfl hl.1 rfl (lv_room (Nat.le_of_ble_eq_true rfl)) dL_law_1489 ⟨(by decide +kernel), (by decide +kernel)⟩) (fun r u H locs hw hP hD hS => ?_)
      rcases hw with ⟨rfl, rfl⟩
      have hP : va_P D vwCl [(n5000, .inl (cy 2, 1, .inr (.inl (fun _ => 0)))), (n3006, .inl (cy 1, 18, .inl (fun _ => 0))), (n3000, .inl (cy 1, 1300, .inl (fun _ => 0))), (n3900, .inr (12, [.ref n3000, .ref n3001, .ref n3002, .ref n3003, .int 0, .ref n3004, .int 0, .int 0, .int 0, .int 0, .int 0, .int 0, .int 0, .int 0, .int 0, .int (-1), .int 0, .ref n3005, .ref n3006, .int 0, .ref n3007, .ref n3008, .int 0, .int 0, .int 0, .int 0, .int 0, .int 0, .int 0, .ref n3009, .ref n3010, .int 0, .int 0, .ref n3011, .ref n3012, .int 0, .int 0, .ref n3013, .ref n3014, .ref n3015, .int 0, .ref n3016, .ref n3017, .ref n3018]))] H := hP
      have hD : va_D A [(n5000, .inl (cy 2, 1, .inr (.inl (fun _ => 0)))), (n3006, .inl (cy 1, 18, .inl (fun _ => 0))), (n3000, .inl (cy 1, 1300, .inl (fun _ => 0))), (n3900, .inr (12, [.ref n3000, .ref n3001, .ref n3002, .ref n3003, .int 0, .ref n3004, .int 0, .int 0, .int 0, .int 0, .int 0, .int 0, .int 0, .int 0, .int 0, .int (-1), .int 0, .ref n3005, .ref n3006, .int 0, .ref n3007, .ref n3008, .int 0, .int 0, .int 0, .int 0, .int 0, .int 0, .int 0, .ref n3009, .ref n3010, .int 0, .int 0, .ref n3011, .ref n3012, .int 0, .int 0, .ref n3013, .ref n3014, .ref n3015, .int 0, .ref n3016, .ref n3017, .ref n3018]))] := hD
      refine lv_iload hx hb dL_law_1492 (lv_at hl 1 rfl) ?_
      refine lv_icmp_eq (tgt := 1499) hx hb dL_law_1494 (by decide +kernel) (fun _ => ?_) (fun h => absurd (by decide +kernel) h)
      refine lv_iload hx hb dL_law_1499 (lv_at hl 1 rfl) ?_
      refine lv_if_ne (tgt := 1516) hx hb dL_law_1501 (by decide +kernel) (fun h => absurd (by decide +kernel) h) (fun _ => ?_)
      refine lv_aload_n hx hb dL_law_1504 rfl (lv_at hl 3 rfl) ?_
      refine lv_iconst (v := 0) hx hb dL_law_1505 (by decide +kernel) ?_
      refine va_lald hx hb hK hP 0 2 rfl rfl (i := 0) (vin (by decide +kernel)) dL_law_1506 ?_
      refine top_l (v := 0) (by decide +kernel) ?_
      refine lv_iload hx hb dL_law_1507 (lv_at hl 0 rfl) ?_
      refine lv_i2l (v := 0) hx hb dL_law_1509 (by decide +kernel) ?_
      refine W.lcmp hx hb dL_law_1510 ?_
      refine top_i (v := 0) (by decide +kernel) ?_
      refine lv_if_eq (tgt := 1516) hx hb dL_law_1511 (by decide +kernel) (fun _ => ?_) (fun h => absurd (by decide +kernel) h)
      refine lv_goto (tgt := 2458) hx hb dL_law_1516 (by decide +kernel) ?_
      refine lv_iinc (v := 6) (lv' := [(4, .int 6), (6, .int 0), (5, .int 0), (3, .ref n5000), (2, .ref n3900), (1, .ref n1900), (0, .ref b)]) hx hb dL_law_2458 hl (k := 2) rfl (by decide) (by decide +kernel) rfl (fun ls hl => ?_)
      refine lv_goto (tgt := 23) hx hb dL_law_2461 (by decide +kernel) ?_
      refine lv_iload hx hb dL_law_23 (lv_at hl 0 rfl) ?_
      refine lv_aload_n hx hb dL_law_25 rfl (lv_at hl 6 rfl) ?_
      refine va_slen hx hb hX hbl hbA hS dL_law_26 ?_
      refine top_i (v := 6) rfl ?_
      refine lv_bipush (v := 6) hx hb dL_law_27 (by decide +kernel) ?_
      refine lv_isub hx hb dL_law_29 ?_
      refine top_i (v := 0) (by decide +kernel) ?_
      refine lv_icmp_gt (tgt := 2464) hx hb dL_law_30 (by decide +kernel) (fun _ => ?_) (fun h => absurd (by decide +kernel) h)
      refine lv_iconst (v := 1) hx hb dL_law_2464 (by decide +kernel) ?_
      refine va_forget (fun q hq => hAq _ (hS.2.2 q hq)) ?_
      refine W.widen (k := 600002) (n := 7302232) (by decide +kernel) (by decide +kernel) ?_
      exact lw_ret hx hb hr hlk dL_law_2465
    · exact absurd c800080 (by decide +kernel)
  · subst c800014
    have hP : va_P D vwCl [(n3900, .inr (12, [.ref n3000, .ref n3001, .ref n3002, .ref n3003, .int 0, .ref n3004, .int 0, .int 0, .int 0, .int 0, .int 0, .int 0, .int 0, .int 0, .int 0, .int (-1), .int 0, .ref n3005, .ref n3006, .int 0, .ref n3007, .ref n3008, .int 0, .int 0, .int 0, .int 0, .int 0, .int 0, .int 0, .ref n3009, .ref n3010, .int 0, .int 0, .ref n3011, .ref n3012, .int 0, .int 0, .ref n3013, .ref n3014, .ref n3015, .int 0, .ref n3016, .ref n3017, .ref n3018])), (n3000, .inl (cy 1, 1300, .inl (fun _ => 0))), (n3006, .inl (cy 1, 18, .inl (fun _ => 0))), (n5000, .inl (cy 2, 1, .inr (.inl (fun _ => 0))))] H := hP
    have hD : va_D A [(n3900, .inr (12, [.ref n3000, .ref n3001, .ref n3002, .ref n3003, .int 0, .ref n3004, .int 0, .int 0, .int 0, .int 0, .int 0, .int 0, .int 0, .int 0, .int 0, .int (-1), .int 0, .ref n3005, .ref n3006, .int 0, .ref n3007, .ref n3008, .int 0, .int 0, .int 0, .int 0, .int 0, .int 0, .int 0, .ref n3009, .ref n3010, .int 0, .int 0, .ref n3011, .ref n3012, .int 0, .int 0, .ref n3013, .ref n3014, .ref n3015, .int 0, .ref n3016, .ref n3017, .ref n3018])), (n3000, .inl (cy 1, 1300, .inl (fun _ => 0))), (n3006, .inl (cy 1, 18, .inl (fun _ => 0))), (n5000, .inl (cy 2, 1, .inr (.inl (fun _ => 0))))] := hD
    refine lv_istore (lv' := [(5, .int 0), (4, .int 0), (3, .ref n5000), (2, .ref n3900), (1, .ref n1900), (0, .ref b)]) hx hb dL_law_1474 hl (by decide +kernel) rfl (fun ls hl => ?_)
    refine lv_aload_n hx hb dL_law_1476 rfl (lv_at hl 3 rfl) ?_
    refine lv_aload_n hx hb dL_law_1477 rfl (lv_at hl 5 rfl) ?_
    refine lv_iload hx hb dL_law_1478 (lv_at hl 1 rfl) ?_
    refine lv_iconst (v := 1) hx hb dL_law_1480 (by decide +kernel) ?_
    refine lv_iadd hx hb dL_law_1481 ?_
    refine top_i (v := 1) (by decide +kernel) ?_
    refine va_sld hx hb hX hbl hbA hS (i := 1) (vin (by decide +kernel)) dL_law_1482 ?_
    refine top_i (v := 0) ez1 ?_
    refine call_i (av := [.ref n3900, .int 0]) F hP hD hS [(n3900, .inr (12, [.ref n3000, .ref n3001, .ref n3002, .ref n3003, .int 0, .ref n3004, .int 0, .int 0, .int 0, .int 0, .int 0, .int 0, .int 0, .int 0, .int 0, .int (-1), .int 0, .ref n3005, .ref n3006, .int 0, .ref n3007, .ref n3008, .int 0, .int 0, .int 0, .int 0, .int 0, .int 0, .int 0, .ref n3009, .ref n3010, .int 0, .int 0, .ref n3011, .ref n3012, .int 0, .int 0, .ref n3013, .ref n3014, .ref n3015, .int 0, .ref n3016, .ref n3017, .ref n3018])), (n3000, .inl (cy 1, 1300, .inl (fun _ => 0))), (n3006, .inl (cy 1, 18, .inl (fun _ => 0)))] [(n5000, .inl (cy 2, 1, .inr (.inl (fun _ => 0))))] [0, 1, 2] [3] rfl rfl (by decide +kernel) (fun pr => va_runV (As := [.int 0]) (rest := []) ⟨hx, hb, hml, hown, hts⟩ (k247_X12_wave l D cy H.size n3900 0 n3000 n3006 n3001 n3002 n3003 n3004 n3005 n3007 n3008 n3009 n3010 n3011 n3012 n3013 n3014 n3015 n3016 n3017 n3018) (cwV 1 hts gw_X12_wave rfl rfl rfl (by decide +kernel) ⟨(by decide +kernel), (by decide +kernel)⟩) ⟨pr.1, va_recv hK hP (ci := 12) (q0 := 0) rfl rfl, pr.2⟩ rfl rfl hl.1 rfl (lv_room (Nat.le_of_ble_eq_true rfl)) dL_law_1483 ⟨(by decide +kernel), (by decide +kernel)⟩) (fun r u H locs hw hP hD hS => ?_)
    rcases hw with ⟨c800085, rfl, rfl⟩ | ⟨c800086, c800087, rfl, rfl⟩ | ⟨c800088, c800089, c800090, c800091, rfl, rfl⟩ | ⟨c800092, c800093, c800094, c800095, rfl, rfl⟩ | ⟨c800096, c800097, c800098, rfl, rfl⟩
    · exact absurd c800085 (by decide +kernel)
    · exact absurd c800087 (by decide +kernel)
    · exact absurd (by decide +kernel) c800090
    · exact absurd (by decide +kernel) c800094
    · have hP : va_P D vwCl [(n5000, .inl (cy 2, 1, .inr (.inl (fun _ => 0)))), (n3006, .inl (cy 1, 18, .inl (fun _ => 0))), (n3900, .inr (12, [.ref n3000, .ref n3001, .ref n3002, .ref n3003, .int 0, .ref n3004, .int 0, .int 0, .int 0, .int 0, .int 0, .int 0, .int 0, .int 0, .int 0, .int (-1), .int 0, .ref n3005, .ref n3006, .int 0, .ref n3007, .ref n3008, .int 0, .int 0, .int 0, .int 0, .int 0, .int 0, .int 0, .ref n3009, .ref n3010, .int 0, .int 0, .ref n3011, .ref n3012, .int 0, .int 0, .ref n3013, .ref n3014, .ref n3015, .int 0, .ref n3016, .ref n3017, .ref n3018])), (n3000, .inl (cy 1, 1300, .inl (fun _ => 0)))] H := hP
      have hD : va_D A [(n5000, .inl (cy 2, 1, .inr (.inl (fun _ => 0)))), (n3006, .inl (cy 1, 18, .inl (fun _ => 0))), (n3900, .inr (12, [.ref n3000, .ref n3001, .ref n3002, .ref n3003, .int 0, .ref n3004, .int 0, .int 0, .int 0, .int 0, .int 0, .int 0, .int 0, .int 0, .int 0, .int (-1), .int 0, .ref n3005, .ref n3006, .int 0, .ref n3007, .ref n3008, .int 0, .int 0, .int 0, .int 0, .int 0, .int 0, .int 0, .ref n3009, .ref n3010, .int 0, .int 0, .ref n3011, .ref n3012, .int 0, .int 0, .ref n3013, .ref n3014, .ref n3015, .int 0, .ref n3016, .ref n3017, .ref n3018])), (n3000, .inl (cy 1, 1300, .inl (fun _ => 0)))] := hD
      refine lv_istore (lv' := [(6, .int 0), (5, .int 0), (4, .int 0), (3, .ref n5000), (2, .ref n3900), (1, .ref n1900), (0, .ref b)]) hx hb dL_law_1486 hl (by decide +kernel) rfl (fun ls hl => ?_)
      refine lv_aload_n hx hb dL_law_1488 rfl (lv_at hl 4 rfl) ?_
      refine call_i (av := [.ref n3900]) F hP hD hS [(n3900, .inr (12, [.ref n3000, .ref n3001, .ref n3002, .ref n3003, .int 0, .ref n3004, .int 0, .int 0, .int 0, .int 0, .int 0, .int 0, .int 0, .int 0, .int 0, .int (-1), .int 0, .ref n3005, .ref n3006, .int 0, .ref n3007, .ref n3008, .int 0, .int 0, .int 0, .int 0, .int 0, .int 0, .int 0, .ref n3009, .ref n3010, .int 0, .int 0, .ref n3011, .ref n3012, .int 0, .int 0, .ref n3013, .ref n3014, .ref n3015, .int 0, .ref n3016, .ref n3017, .ref n3018]))] [(n5000, .inl (cy 2, 1, .inr (.inl (fun _ => 0)))), (n3006, .inl (cy 1, 18, .inl (fun _ => 0))), (n3000, .inl (cy 1, 1300, .inl (fun _ => 0)))] [2] [0, 1, 3] rfl rfl (by decide +kernel) (fun pr => va_runV (As := []) (rest := []) ⟨hx, hb, hml, hown, hts⟩ (k175_X12_thrown l D cy H.size n3900 n3000 n3001 n3002 n3003 n3004 n3005 n3006 n3007 n3008 n3009 n3010 n3011 n3012 n3013 n3014 n3015 n3016 n3017 n3018) (cwV 0 hts gw_X12_thrown rfl rfl rfl (by decide +kernel) ⟨(by decide +kernel), (by decide +kernel)⟩) ⟨pr.1, va_recv hK hP (ci := 12) (q0 := 2) rfl rfl, pr.2⟩ rfl rfl hl.1 rfl (lv_room (Nat.le_of_ble_eq_true rfl)) dL_law_1489 ⟨(by decide +kernel), (by decide +kernel)⟩) (fun r u H locs hw hP hD hS => ?_)
      rcases hw with ⟨rfl, rfl⟩
      have hP : va_P D vwCl [(n5000, .inl (cy 2, 1, .inr (.inl (fun _ => 0)))), (n3006, .inl (cy 1, 18, .inl (fun _ => 0))), (n3000, .inl (cy 1, 1300, .inl (fun _ => 0))), (n3900, .inr (12, [.ref n3000, .ref n3001, .ref n3002, .ref n3003, .int 0, .ref n3004, .int 0, .int 0, .int 0, .int 0, .int 0, .int 0, .int 0, .int 0, .int 0, .int (-1), .int 0, .ref n3005, .ref n3006, .int 0, .ref n3007, .ref n3008, .int 0, .int 0, .int 0, .int 0, .int 0, .int 0, .int 0, .ref n3009, .ref n3010, .int 0, .int 0, .ref n3011, .ref n3012, .int 0, .int 0, .ref n3013, .ref n3014, .ref n3015, .int 0, .ref n3016, .ref n3017, .ref n3018]))] H := hP
      have hD : va_D A [(n5000, .inl (cy 2, 1, .inr (.inl (fun _ => 0)))), (n3006, .inl (cy 1, 18, .inl (fun _ => 0))), (n3000, .inl (cy 1, 1300, .inl (fun _ => 0))), (n3900, .inr (12, [.ref n3000, .ref n3001, .ref n3002, .ref n3003, .int 0, .ref n3004, .int 0, .int 0, .int 0, .int 0, .int 0, .int 0, .int 0, .int 0, .int 0, .int (-1), .int 0, .ref n3005, .ref n3006, .int 0, .ref n3007, .ref n3008, .int 0, .int 0, .int 0, .int 0, .int 0, .int 0, .int 0, .ref n3009, .ref n3010, .int 0, .int 0, .ref n3011, .ref n3012, .int 0, .int 0, .ref n3013, .ref n3014, .ref n3015, .int 0, .ref n3016, .ref n3017, .ref n3018]))] := hD
      refine lv_iload hx hb dL_law_1492 (lv_at hl 1 rfl) ?_
      refine lv_icmp_eq (tgt := 1499) hx hb dL_law_1494 (by decide +kernel) (fun _ => ?_) (fun h => absurd (by decide +kernel) h)
      refine lv_iload hx hb dL_law_1499 (lv_at hl 1 rfl) ?_
      refine lv_if_ne (tgt := 1516) hx hb dL_law_1501 (by decide +kernel) (fun h => absurd (by decide +kernel) h) (fun _ => ?_)
      refine lv_aload_n hx hb dL_law_1504 rfl (lv_at hl 3 rfl) ?_
      refine lv_iconst (v := 0) hx hb dL_law_1505 (by decide +kernel) ?_
      refine va_lald hx hb hK hP 0 2 rfl rfl (i := 0) (vin (by decide +kernel)) dL_law_1506 ?_
      refine top_l (v := 0) (by decide +kernel) ?_
      refine lv_iload hx hb dL_law_1507 (lv_at hl 0 rfl) ?_
      refine lv_i2l (v := 0) hx hb dL_law_1509 (by decide +kernel) ?_
      refine W.lcmp hx hb dL_law_1510 ?_
      refine top_i (v := 0) (by decide +kernel) ?_
      refine lv_if_eq (tgt := 1516) hx hb dL_law_1511 (by decide +kernel) (fun _ => ?_) (fun h => absurd (by decide +kernel) h)
      refine lv_goto (tgt := 2458) hx hb dL_law_1516 (by decide +kernel) ?_
      refine lv_iinc (v := 6) (lv' := [(4, .int 6), (6, .int 0), (5, .int 0), (3, .ref n5000), (2, .ref n3900), (1, .ref n1900), (0, .ref b)]) hx hb dL_law_2458 hl (k := 2) rfl (by decide) (by decide +kernel) rfl (fun ls hl => ?_)
      refine lv_goto (tgt := 23) hx hb dL_law_2461 (by decide +kernel) ?_
      refine lv_iload hx hb dL_law_23 (lv_at hl 0 rfl) ?_
      refine lv_aload_n hx hb dL_law_25 rfl (lv_at hl 6 rfl) ?_
      refine va_slen hx hb hX hbl hbA hS dL_law_26 ?_
      refine top_i (v := 6) rfl ?_
      refine lv_bipush (v := 6) hx hb dL_law_27 (by decide +kernel) ?_
      refine lv_isub hx hb dL_law_29 ?_
      refine top_i (v := 0) (by decide +kernel) ?_
      refine lv_icmp_gt (tgt := 2464) hx hb dL_law_30 (by decide +kernel) (fun _ => ?_) (fun h => absurd (by decide +kernel) h)
      refine lv_iconst (v := 1) hx hb dL_law_2464 (by decide +kernel) ?_
      refine va_forget (fun q hq => hAq _ (hS.2.2 q hq)) ?_
      refine W.widen (k := 600002) (n := 7302232) (by decide +kernel) (by decide +kernel) ?_
      exact lw_ret hx hb hr hlk dL_law_2465
set_option maxHeartbeats 4000000 in
set_option maxRecDepth 100000 in
theorem law_c25 {p : Program} {l : Launch} {e : Env} {s : State} {m : MethodId} {below : List Frame} {meth : Method} {c : Code} {b : Nat} {xs : Nat → Int32} {D : va_G} {cy : Nat → ClassId} {A : Nat → Prop} (hlT : l.stackTraces = false) (F : Fx D cy p m c cL_law 8 s #[Value.ref b] lw_tbl RL A) (hr : meth.sig.returnType = ret) (hlk : meth.locks = false) (hX : va_X b 6 xs s s.heap) (hbl : b < s.heap.size) (hbA : ¬ A b) (hAq : ∀ q, A q → s.heap.size ≤ q) {H : Heap} {locs : List Loc} {ls : Array Slot} (n1900 n1000 n1001 n1017 n1034 n1039 n1041 n1042 n1043 n1044 n1048 n1056 n1057 n1002 n1003 n1004 n1005 n1006 n1007 n1008 n1009 n1010 n1011 n1012 n1013 n1035 n1036 n1037 n1038 n1040 n3900 n3000 n3001 n3002 n3003 n3004 n3005 n3006 n3007 n3008 n3009 n3010 n3011 n3012 n3013 n3014 n3015 n3016 n3017 n3018 n5000 : Nat) (hP : va_P D vwCl [(n1900, .inr (11, [.ref n1000, .int 0, .ref n1001, .ref n1017, .ref n1034, .ref n1039, .ref n1041, .ref n1042, .ref n1043, .ref n1044, .ref n1048, .ref n1056, .ref n1057, .int 0])), (n1001, .inr (9, [.int 0, .int 0, .int 0, .int 0, .int 0, .ref n1002, .ref n1003, .ref n1004, .ref n1005, .ref n1006, .ref n1007, .ref n1008, .int 0, .ref n1009, .ref n1010, .ref n1011, .ref n1012, .ref n1013])), (n1034, .inr (7, [.ref n1001, .ref n1035, .ref n1036, .ref n1037, .ref n1038, .int 0, .int 0])), (n1035, .inl (cy 1, 8, .inl (fun _ => 0))), (n1036, .inl (cy 1, 8, .inl (fun _ => 0))), (n1037, .inl (cy 1, 8, .inl (fun _ => 0))), (n1038, .inl (cy 1, 8, .inl (fun _ => 0))), (n1039, .inr (4, [.int 0, .int 0, .ref n1040])), (n1040, .inl (cy 1, 408, .inl (fun _ => 0))), (n1056, .inr (3, [.ref n1001, .ref n1034])), (n3900, .inr (12, [.ref n3000, .ref n3001, .ref n3002, .ref n3003, .int 0, .ref n3004, .int 0, .int 0, .int 0, .int 0, .int 0, .int 0, .int 0, .int 0, .int 0, .int (-1), .int 0, .ref n3005, .ref n3006, .int 0, .ref n3007, .ref n3008, .int 0, .int 0, .int 0, .int 0, .int 0, .int 0, .int 0, .ref n3009, .ref n3010, .int 0, .int 0, .ref n3011, .ref n3012, .int 0, .int 0, .ref n3013, .ref n3014, .ref n3015, .int 0, .ref n3016, .ref n3017, .ref n3018])), (n3000, .inl (cy 1, 1300, .inl (fun _ => 0)))] H) (hD : va_D A [(n1900, .inr (11, [.ref n1000, .int 0, .ref n1001, .ref n1017, .ref n1034, .ref n1039, .ref n1041, .ref n1042, .ref n1043, .ref n1044, .ref n1048, .ref n1056, .ref n1057, .int 0])), (n1001, .inr (9, [.int 0, .int 0, .int 0, .int 0, .int 0, .ref n1002, .ref n1003, .ref n1004, .ref n1005, .ref n1006, .ref n1007, .ref n1008, .int 0, .ref n1009, .ref n1010, .ref n1011, .ref n1012, .ref n1013])), (n1034, .inr (7, [.ref n1001, .ref n1035, .ref n1036, .ref n1037, .ref n1038, .int 0, .int 0])), (n1035, .inl (cy 1, 8, .inl (fun _ => 0))), (n1036, .inl (cy 1, 8, .inl (fun _ => 0))), (n1037, .inl (cy 1, 8, .inl (fun _ => 0))), (n1038, .inl (cy 1, 8, .inl (fun _ => 0))), (n1039, .inr (4, [.int 0, .int 0, .ref n1040])), (n1040, .inl (cy 1, 408, .inl (fun _ => 0))), (n1056, .inr (3, [.ref n1001, .ref n1034])), (n3900, .inr (12, [.ref n3000, .ref n3001, .ref n3002, .ref n3003, .int 0, .ref n3004, .int 0, .int 0, .int 0, .int 0, .int 0, .int 0, .int 0, .int 0, .int 0, .int (-1), .int 0, .ref n3005, .ref n3006, .int 0, .ref n3007, .ref n3008, .int 0, .int 0, .int 0, .int 0, .int 0, .int 0, .int 0, .ref n3009, .ref n3010, .int 0, .int 0, .ref n3011, .ref n3012, .int 0, .int 0, .ref n3013, .ref n3014, .ref n3015, .int 0, .ref n3016, .ref n3017, .ref n3018])), (n3000, .inl (cy 1, 1300, .inl (fun _ => 0)))]) (hS : va_S A s.heap H locs) (hl : lv_has ls 8 [(4, .int 0), (3, .ref n5000), (2, .ref n3900), (1, .ref n1900), (0, .ref b)]) : W p l e room_1 s m #[Value.ref b] below meth c H locs 152 18765 (lw_Z below #[Value.ref b] s) (F0 m 1519 ls []) := by
  obtain ⟨⟨hx, hb, hml, hown, hts⟩, hK, hG, hZ, hA⟩ := id F
  obtain ⟨z1, ez1⟩ : ∃ z, xs 1 = z := ⟨_, rfl⟩
  obtain ⟨z2, ez2⟩ : ∃ z, xs 2 = z := ⟨_, rfl⟩
  obtain ⟨z3, ez3⟩ : ∃ z, xs 3 = z := ⟨_, rfl⟩
  obtain ⟨z4, ez4⟩ : ∃ z, xs 4 = z := ⟨_, rfl⟩
  obtain ⟨z5, ez5⟩ : ∃ z, xs 5 = z := ⟨_, rfl⟩
  refine lv_aload_n hx hb dL_law_1519 rfl (lv_at hl 3 rfl) ?_
  refine call_i (av := [.ref n1900]) F hP hD hS [(n1900, .inr (11, [.ref n1000, .int 0, .ref n1001, .ref n1017, .ref n1034, .ref n1039, .ref n1041, .ref n1042, .ref n1043, .ref n1044, .ref n1048, .ref n1056, .ref n1057, .int 0])), (n1001, .inr (9, [.int 0, .int 0, .int 0, .int 0, .int 0, .ref n1002, .ref n1003, .ref n1004, .ref n1005, .ref n1006, .ref n1007, .ref n1008, .int 0, .ref n1009, .ref n1010, .ref n1011, .ref n1012, .ref n1013])), (n1034, .inr (7, [.ref n1001, .ref n1035, .ref n1036, .ref n1037, .ref n1038, .int 0, .int 0])), (n1035, .inl (cy 1, 8, .inl (fun _ => 0))), (n1036, .inl (cy 1, 8, .inl (fun _ => 0))), (n1037, .inl (cy 1, 8, .inl (fun _ => 0))), (n1038, .inl (cy 1, 8, .inl (fun _ => 0))), (n1039, .inr (4, [.int 0, .int 0, .ref n1040])), (n1040, .inl (cy 1, 408, .inl (fun _ => 0))), (n1056, .inr (3, [.ref n1001, .ref n1034]))] [(n3900, .inr (12, [.ref n3000, .ref n3001, .ref n3002, .ref n3003, .int 0, .ref n3004, .int 0, .int 0, .int 0, .int 0, .int 0, .int 0, .int 0, .int 0, .int 0, .int (-1), .int 0, .ref n3005, .ref n3006, .int 0, .ref n3007, .ref n3008, .int 0, .int 0, .int 0, .int 0, .int 0, .int 0, .int 0, .ref n3009, .ref n3010, .int 0, .int 0, .ref n3011, .ref n3012, .int 0, .int 0, .ref n3013, .ref n3014, .ref n3015, .int 0, .ref n3016, .ref n3017, .ref n3018])), (n3000, .inl (cy 1, 1300, .inl (fun _ => 0)))] [0, 1, 2, 3, 4, 5, 6, 7, 8, 9] [10, 11] rfl rfl (by decide +kernel) (fun pr => va_runV (As := []) (rest := []) ⟨hx, hb, hml, hown, hts⟩ (k109_X11_goWave l D cy H.size n1900 n1001 n1034 n1035 n1036 n1037 n1038 n1039 n1040 n1056 n1000 n1017 n1041 n1042 n1043 n1044 n1048 n1057 n1002 n1003 n1004 n1005 n1006 n1007 n1008 n1009 n1010 n1011 n1012 n1013) (cwV 0 hts gw_X11_goWave rfl rfl rfl (by decide +kernel) ⟨(by decide +kernel), (by decide +kernel)⟩) ⟨pr.1, va_recv hK hP (ci := 11) (q0 := 0) rfl rfl, pr.2⟩ rfl rfl hl.1 rfl (lv_room (Nat.le_of_ble_eq_true rfl)) dL_law_1520 ⟨(by decide +kernel), (by decide +kernel)⟩) (fun r u H locs hw hP hD hS => ?_)
  rcases hw with ⟨rfl, -⟩
  have hP := left_P hP
  have hD := left_D hD
  have hP : va_P D vwCl [(n3900, .inr (12, [.ref n3000, .ref n3001, .ref n3002, .ref n3003, .int 0, .ref n3004, .int 0, .int 0, .int 0, .int 0, .int 0, .int 0, .int 0, .int 0, .int 0, .int (-1), .int 0, .ref n3005, .ref n3006, .int 0, .ref n3007, .ref n3008, .int 0, .int 0, .int 0, .int 0, .int 0, .int 0, .int 0, .ref n3009, .ref n3010, .int 0, .int 0, .ref n3011, .ref n3012, .int 0, .int 0, .ref n3013, .ref n3014, .ref n3015, .int 0, .ref n3016, .ref n3017, .ref n3018])), (n3000, .inl (cy 1, 1300, .inl (fun _ => 0)))] H := hP
  have hD : va_D A [(n3900, .inr (12, [.ref n3000, .ref n3001, .ref n3002, .ref n3003, .int 0, .ref n3004, .int 0, .int 0, .int 0, .int 0, .int 0, .int 0, .int 0, .int 0, .int 0, .int (-1), .int 0, .ref n3005, .ref n3006, .int 0, .ref n3007, .ref n3008, .int 0, .int 0, .int 0, .int 0, .int 0, .int 0, .int 0, .ref n3009, .ref n3010, .int 0, .int 0, .ref n3011, .ref n3012, .int 0, .int 0, .ref n3013, .ref n3014, .ref n3015, .int 0, .ref n3016, .ref n3017, .ref n3018])), (n3000, .inl (cy 1, 1300, .inl (fun _ => 0)))] := hD
  refine lv_aload_n hx hb dL_law_1523 rfl (lv_at hl 2 rfl) ?_
  refine call_i (av := [.ref n3900]) F hP hD hS [(n3900, .inr (12, [.ref n3000, .ref n3001, .ref n3002, .ref n3003, .int 0, .ref n3004, .int 0, .int 0, .int 0, .int 0, .int 0, .int 0, .int 0, .int 0, .int 0, .int (-1), .int 0, .ref n3005, .ref n3006, .int 0, .ref n3007, .ref n3008, .int 0, .int 0, .int 0, .int 0, .int 0, .int 0, .int 0, .ref n3009, .ref n3010, .int 0, .int 0, .ref n3011, .ref n3012, .int 0, .int 0, .ref n3013, .ref n3014, .ref n3015, .int 0, .ref n3016, .ref n3017, .ref n3018])), (n3000, .inl (cy 1, 1300, .inl (fun _ => 0)))] [] [0, 1] [] rfl rfl (by decide +kernel) (fun pr => va_runV (As := []) (rest := [.int 0]) ⟨hx, hb, hml, hown, hts⟩ (k256_X12_goWave l D cy H.size n3900 n3000 n3001 n3002 n3003 n3004 n3005 n3006 n3007 n3008 n3009 n3010 n3011 n3012 n3013 n3014 n3015 n3016 n3017 n3018) (cwV 0 hts gw_X12_goWave rfl rfl rfl (by decide +kernel) ⟨(by decide +kernel), (by decide +kernel)⟩) ⟨pr.1, va_recv hK hP (ci := 12) (q0 := 0) rfl rfl, pr.2⟩ rfl rfl hl.1 rfl (lv_room (Nat.le_of_ble_eq_true rfl)) dL_law_1524 ⟨(by decide +kernel), (by decide +kernel)⟩) (fun r u H locs hw hP hD hS => ?_)
  rcases hw with ⟨rfl, rfl⟩
  have hP : va_P D vwCl [(n3900, .inr (12, [.ref n3000, .ref n3001, .ref n3002, .ref n3003, .int 0, .ref n3004, .int 0, .int 0, .int 0, .int 0, .int 0, .int 0, .int 0, .int 0, .int 0, .int (-1), .int 0, .ref n3005, .ref n3006, .int 0, .ref n3007, .ref n3008, .int 0, .int 0, .int 0, .int 0, .int 0, .int 0, .int 0, .ref n3009, .ref n3010, .int 0, .int 0, .ref n3011, .ref n3012, .int 0, .int 0, .ref n3013, .ref n3014, .ref n3015, .int 0, .ref n3016, .ref n3017, .ref n3018])), (n3000, .inl (cy 1, 1300, .inl (upd (fun _ => 0) 7 1)))] H := hP
  have hD : va_D A [(n3900, .inr (12, [.ref n3000, .ref n3001, .ref n3002, .ref n3003, .int 0, .ref n3004, .int 0, .int 0, .int 0, .int 0, .int 0, .int 0, .int 0, .int 0, .int 0, .int (-1), .int 0, .ref n3005, .ref n3006, .int 0, .ref n3007, .ref n3008, .int 0, .int 0, .int 0, .int 0, .int 0, .int 0, .int 0, .ref n3009, .ref n3010, .int 0, .int 0, .ref n3011, .ref n3012, .int 0, .int 0, .ref n3013, .ref n3014, .ref n3015, .int 0, .ref n3016, .ref n3017, .ref n3018])), (n3000, .inl (cy 1, 1300, .inl (upd (fun _ => 0) 7 1)))] := hD
  refine lv_icmp_eq (tgt := 2458) hx hb dL_law_1527 (by decide +kernel) (fun _ => ?_) (fun h => absurd (by decide +kernel) h)
  refine lv_iinc (v := 6) (lv' := [(4, .int 6), (3, .ref n5000), (2, .ref n3900), (1, .ref n1900), (0, .ref b)]) hx hb dL_law_2458 hl (k := 0) rfl (by decide) (by decide +kernel) rfl (fun ls hl => ?_)
  refine lv_goto (tgt := 23) hx hb dL_law_2461 (by decide +kernel) ?_
  refine lv_iload hx hb dL_law_23 (lv_at hl 0 rfl) ?_
  refine lv_aload_n hx hb dL_law_25 rfl (lv_at hl 4 rfl) ?_
  refine va_slen hx hb hX hbl hbA hS dL_law_26 ?_
  refine top_i (v := 6) rfl ?_
  refine lv_bipush (v := 6) hx hb dL_law_27 (by decide +kernel) ?_
  refine lv_isub hx hb dL_law_29 ?_
  refine top_i (v := 0) (by decide +kernel) ?_
  refine lv_icmp_gt (tgt := 2464) hx hb dL_law_30 (by decide +kernel) (fun _ => ?_) (fun h => absurd (by decide +kernel) h)
  refine lv_iconst (v := 1) hx hb dL_law_2464 (by decide +kernel) ?_
  refine va_forget (fun q hq => hAq _ (hS.2.2 q hq)) ?_
  refine W.widen (k := 600002) (n := 7302232) (by decide +kernel) (by decide +kernel) ?_
  exact lw_ret hx hb hr hlk dL_law_2465
set_option maxHeartbeats 4000000 in
set_option maxRecDepth 100000 in
theorem law_c26 {p : Program} {l : Launch} {e : Env} {s : State} {m : MethodId} {below : List Frame} {meth : Method} {c : Code} {b : Nat} {xs : Nat → Int32} {D : va_G} {cy : Nat → ClassId} {A : Nat → Prop} (hlT : l.stackTraces = false) (F : Fx D cy p m c cL_law 8 s #[Value.ref b] lw_tbl RL A) (hr : meth.sig.returnType = ret) (hlk : meth.locks = false) (hX : va_X b 6 xs s s.heap) (hbl : b < s.heap.size) (hbA : ¬ A b) (hAq : ∀ q, A q → s.heap.size ≤ q) {H : Heap} {locs : List Loc} {ls : Array Slot} (n1900 n1000 n1001 n1017 n1034 n1039 n1041 n1042 n1043 n1044 n1048 n1056 n1057 n1002 n1003 n1004 n1005 n1006 n1007 n1008 n1009 n1010 n1011 n1012 n1013 n1035 n1036 n1037 n1038 n1049 n1050 n1051 n1052 n1053 n1054 n1055 n3900 n3000 n3001 n3002 n3003 n3004 n3005 n3006 n3007 n3008 n3009 n3010 n3011 n3012 n3013 n3014 n3015 n3016 n3017 n3018 n5000 : Nat) (hP : va_P D vwCl [(n1900, .inr (11, [.ref n1000, .int 0, .ref n1001, .ref n1017, .ref n1034, .ref n1039, .ref n1041, .ref n1042, .ref n1043, .ref n1044, .ref n1048, .ref n1056, .ref n1057, .int 0])), (n1001, .inr (9, [.int 0, .int 0, .int 0, .int 0, .int 0, .ref n1002, .ref n1003, .ref n1004, .ref n1005, .ref n1006, .ref n1007, .ref n1008, .int 0, .ref n1009, .ref n1010, .ref n1011, .ref n1012, .ref n1013])), (n1034, .inr (7, [.ref n1001, .ref n1035, .ref n1036, .ref n1037, .ref n1038, .int 0, .int 0])), (n1036, .inl (cy 1, 8, .inl (fun _ => 0))), (n1048, .inr (0, [.ref n1001, .ref n1034, .ref n1049, .ref n1050, .ref n1051, .int 0, .ref n1052, .int 0, .int 0, .ref n1053, .ref n1054, .ref n1055, .int 0])), (n1053, .inl (cy 1, 8, .inl (fun _ => 0))), (n1054, .inl (cy 1, 6, .inl (fun _ => 0))), (n1055, .inl (cy 1, 6, .inl (fun _ => 0))), (n3900, .inr (12, [.ref n3000, .ref n3001, .ref n3002, .ref n3003, .int 0, .ref n3004, .int 0, .int 0, .int 0, .int 0, .int 0, .int 0, .int 0, .int 0, .int 0, .int (-1), .int 0, .ref n3005, .ref n3006, .int 0, .ref n3007, .ref n3008, .int 0, .int 0, .int 0, .int 0, .int 0, .int 0, .int 0, .ref n3009, .ref n3010, .int 0, .int 0, .ref n3011, .ref n3012, .int 0, .int 0, .ref n3013, .ref n3014, .ref n3015, .int 0, .ref n3016, .ref n3017, .ref n3018])), (n3000, .inl (cy 1, 1300, .inl (fun _ => 0))), (n5000, .inl (cy 2, 1, .inr (.inl (fun _ => 0))))] H) (hD : va_D A [(n1900, .inr (11, [.ref n1000, .int 0, .ref n1001, .ref n1017, .ref n1034, .ref n1039, .ref n1041, .ref n1042, .ref n1043, .ref n1044, .ref n1048, .ref n1056, .ref n1057, .int 0])), (n1001, .inr (9, [.int 0, .int 0, .int 0, .int 0, .int 0, .ref n1002, .ref n1003, .ref n1004, .ref n1005, .ref n1006, .ref n1007, .ref n1008, .int 0, .ref n1009, .ref n1010, .ref n1011, .ref n1012, .ref n1013])), (n1034, .inr (7, [.ref n1001, .ref n1035, .ref n1036, .ref n1037, .ref n1038, .int 0, .int 0])), (n1036, .inl (cy 1, 8, .inl (fun _ => 0))), (n1048, .inr (0, [.ref n1001, .ref n1034, .ref n1049, .ref n1050, .ref n1051, .int 0, .ref n1052, .int 0, .int 0, .ref n1053, .ref n1054, .ref n1055, .int 0])), (n1053, .inl (cy 1, 8, .inl (fun _ => 0))), (n1054, .inl (cy 1, 6, .inl (fun _ => 0))), (n1055, .inl (cy 1, 6, .inl (fun _ => 0))), (n3900, .inr (12, [.ref n3000, .ref n3001, .ref n3002, .ref n3003, .int 0, .ref n3004, .int 0, .int 0, .int 0, .int 0, .int 0, .int 0, .int 0, .int 0, .int 0, .int (-1), .int 0, .ref n3005, .ref n3006, .int 0, .ref n3007, .ref n3008, .int 0, .int 0, .int 0, .int 0, .int 0, .int 0, .int 0, .ref n3009, .ref n3010, .int 0, .int 0, .ref n3011, .ref n3012, .int 0, .int 0, .ref n3013, .ref n3014, .ref n3015, .int 0, .ref n3016, .ref n3017, .ref n3018])), (n3000, .inl (cy 1, 1300, .inl (fun _ => 0))), (n5000, .inl (cy 2, 1, .inr (.inl (fun _ => 0))))]) (hS : va_S A s.heap H locs) (hl : lv_has ls 8 [(4, .int 0), (3, .ref n5000), (2, .ref n3900), (1, .ref n1900), (0, .ref b)]) : W p l e room_1 s m #[Value.ref b] below meth c H locs 152 18765 (lw_Z below #[Value.ref b] s) (F0 m 1532 ls []) := by
  obtain ⟨⟨hx, hb, hml, hown, hts⟩, hK, hG, hZ, hA⟩ := id F
  obtain ⟨z1, ez1⟩ : ∃ z, xs 1 = z := ⟨_, rfl⟩
  obtain ⟨z2, ez2⟩ : ∃ z, xs 2 = z := ⟨_, rfl⟩
  obtain ⟨z3, ez3⟩ : ∃ z, xs 3 = z := ⟨_, rfl⟩
  obtain ⟨z4, ez4⟩ : ∃ z, xs 4 = z := ⟨_, rfl⟩
  obtain ⟨z5, ez5⟩ : ∃ z, xs 5 = z := ⟨_, rfl⟩
  refine lv_aload_n hx hb dL_law_1532 rfl (lv_at hl 3 rfl) ?_
  refine lv_aload_n hx hb dL_law_1533 rfl (lv_at hl 4 rfl) ?_
  refine lv_iload hx hb dL_law_1534 (lv_at hl 0 rfl) ?_
  refine lv_iconst (v := 1) hx hb dL_law_1536 (by decide +kernel) ?_
  refine lv_iadd hx hb dL_law_1537 ?_
  refine top_i (v := 1) (by decide +kernel) ?_
  refine va_sld hx hb hX hbl hbA hS (i := 1) (vin (by decide +kernel)) dL_law_1538 ?_
  refine top_i (v := z1) ez1 ?_
  refine lv_aload_n hx hb dL_law_1539 rfl (lv_at hl 1 rfl) ?_
  refine call_i (av := [.ref n1900, .int z1, .ref n5000]) F hP hD hS [(n1900, .inr (11, [.ref n1000, .int 0, .ref n1001, .ref n1017, .ref n1034, .ref n1039, .ref n1041, .ref n1042, .ref n1043, .ref n1044, .ref n1048, .ref n1056, .ref n1057, .int 0])), (n1001, .inr (9, [.int 0, .int 0, .int 0, .int 0, .int 0, .ref n1002, .ref n1003, .ref n1004, .ref n1005, .ref n1006, .ref n1007, .ref n1008, .int 0, .ref n1009, .ref n1010, .ref n1011, .ref n1012, .ref n1013])), (n1034, .inr (7, [.ref n1001, .ref n1035, .ref n1036, .ref n1037, .ref n1038, .int 0, .int 0])), (n1036, .inl (cy 1, 8, .inl (fun _ => 0))), (n1048, .inr (0, [.ref n1001, .ref n1034, .ref n1049, .ref n1050, .ref n1051, .int 0, .ref n1052, .int 0, .int 0, .ref n1053, .ref n1054, .ref n1055, .int 0])), (n1053, .inl (cy 1, 8, .inl (fun _ => 0))), (n1054, .inl (cy 1, 6, .inl (fun _ => 0))), (n1055, .inl (cy 1, 6, .inl (fun _ => 0))), (n5000, .inl (cy 2, 1, .inr (.inl (fun _ => 0))))] [(n3900, .inr (12, [.ref n3000, .ref n3001, .ref n3002, .ref n3003, .int 0, .ref n3004, .int 0, .int 0, .int 0, .int 0, .int 0, .int 0, .int 0, .int 0, .int 0, .int (-1), .int 0, .ref n3005, .ref n3006, .int 0, .ref n3007, .ref n3008, .int 0, .int 0, .int 0, .int 0, .int 0, .int 0, .int 0, .ref n3009, .ref n3010, .int 0, .int 0, .ref n3011, .ref n3012, .int 0, .int 0, .ref n3013, .ref n3014, .ref n3015, .int 0, .ref n3016, .ref n3017, .ref n3018])), (n3000, .inl (cy 1, 1300, .inl (fun _ => 0)))] [0, 1, 2, 3, 4, 5, 6, 7, 10] [8, 9] rfl rfl (by decide +kernel) (fun pr => vx_runSW (As := [.ref n1900, .int z1, .ref n5000]) (rest := []) ⟨hx, hb, hml, hown, hts⟩ (k320_L_calm l hlT D cy H.size n1900 z1 n5000 n1001 n1034 n1036 n1048 n1053 n1054 n1055 n1000 n1017 n1039 n1041 n1042 n1043 n1044 n1056 n1057 n1002 n1003 n1004 n1005 n1006 n1007 n1008 n1009 n1010 n1011 n1012 n1013 n1035 n1037 n1038 n1049 n1050 n1051 n1052) (vx_cwSW 3 hts gw_L_calm rfl rfl rfl (by decide +kernel) ⟨(by decide +kernel), (by decide +kernel)⟩) pr rfl rfl hl.1 rfl (lv_room (Nat.le_of_ble_eq_true rfl)) dL_law_1540 ⟨(by decide +kernel), (by decide +kernel)⟩) (fun r u H locs hw hP hD hS => ?_)
  rcases hw with ⟨c800001, c800002, rfl, rfl⟩ | ⟨c800003, c800004, c800005, rfl, rfl⟩ | ⟨c800006, rfl, rfl⟩ | ⟨c800007, c800008, c800009, c800010, rfl, rfl⟩ | ⟨c800011, c800012, c800013, c800014, rfl, rfl⟩ | ⟨c800015, c800016, c800017, c800018, rfl, rfl⟩ | ⟨c800019, c800020, c800021, c800022, rfl, rfl⟩ | ⟨c800023, c800024, c800025, c800026, rfl, rfl⟩ | ⟨c800027, c800028, c800029, c800030, rfl, rfl⟩
  · have hP : va_P D vwCl [(n3900, .inr (12, [.ref n3000, .ref n3001, .ref n3002, .ref n3003, .int 0, .ref n3004, .int 0, .int 0, .int 0, .int 0, .int 0, .int 0, .int 0, .int 0, .int 0, .int (-1), .int 0, .ref n3005, .ref n3006, .int 0, .ref n3007, .ref n3008, .int 0, .int 0, .int 0, .int 0, .int 0, .int 0, .int 0, .ref n3009, .ref n3010, .int 0, .int 0, .ref n3011, .ref n3012, .int 0, .int 0, .ref n3013, .ref n3014, .ref n3015, .int 0, .ref n3016, .ref n3017, .ref n3018])), (n3000, .inl (cy 1, 1300, .inl (fun _ => 0))), (n5000, .inl (cy 2, 1, .inr (.inl (fun _ => 0))))] H := hP
    have hD : va_D A [(n3900, .inr (12, [.ref n3000, .ref n3001, .ref n3002, .ref n3003, .int 0, .ref n3004, .int 0, .int 0, .int 0, .int 0, .int 0, .int 0, .int 0, .int 0, .int 0, .int (-1), .int 0, .ref n3005, .ref n3006, .int 0, .ref n3007, .ref n3008, .int 0, .int 0, .int 0, .int 0, .int 0, .int 0, .int 0, .ref n3009, .ref n3010, .int 0, .int 0, .ref n3011, .ref n3012, .int 0, .int 0, .ref n3013, .ref n3014, .ref n3015, .int 0, .ref n3016, .ref n3017, .ref n3018])), (n3000, .inl (cy 1, 1300, .inl (fun _ => 0))), (n5000, .inl (cy 2, 1, .inr (.inl (fun _ => 0))))] := hD
    refine lv_istore (lv' := [(5, .int 1), (4, .int 0), (3, .ref n5000), (2, .ref n3900), (1, .ref n1900), (0, .ref b)]) hx hb dL_law_1543 hl (by decide +kernel) rfl (fun ls hl => ?_)
    refine lv_aload_n hx hb dL_law_1545 rfl (lv_at hl 3 rfl) ?_
    refine lv_aload_n hx hb dL_law_1546 rfl (lv_at hl 5 rfl) ?_
    refine lv_iload hx hb dL_law_1547 (lv_at hl 1 rfl) ?_
    refine lv_iconst (v := 1) hx hb dL_law_1549 (by decide +kernel) ?_
    refine lv_iadd hx hb dL_law_1550 ?_
    refine top_i (v := 1) (by decide +kernel) ?_
    refine va_sld hx hb hX hbl hbA hS (i := 1) (vin (by decide +kernel)) dL_law_1551 ?_
    refine top_i (v := z1) ez1 ?_
    refine call_i (av := [.ref n3900, .int z1]) F hP hD hS [(n3900, .inr (12, [.ref n3000, .ref n3001, .ref n3002, .ref n3003, .int 0, .ref n3004, .int 0, .int 0, .int 0, .int 0, .int 0, .int 0, .int 0, .int 0, .int 0, .int (-1), .int 0, .ref n3005, .ref n3006, .int 0, .ref n3007, .ref n3008, .int 0, .int 0, .int 0, .int 0, .int 0, .int 0, .int 0, .ref n3009, .ref n3010, .int 0, .int 0, .ref n3011, .ref n3012, .int 0, .int 0, .ref n3013, .ref n3014, .ref n3015, .int 0, .ref n3016, .ref n3017, .ref n3018])), (n3000, .inl (cy 1, 1300, .inl (fun _ => 0)))] [(n5000, .inl (cy 2, 1, .inr (.inl (fun _ => 0))))] [0, 1] [2] rfl rfl (by decide +kernel) (fun pr => va_runV (As := [.int z1]) (rest := []) ⟨hx, hb, hml, hown, hts⟩ (k239_X12_calm l D cy H.size n3900 z1 n3000 n3001 n3002 n3003 n3004 n3005 n3006 n3007 n3008 n3009 n3010 n3011 n3012 n3013 n3014 n3015 n3016 n3017 n3018) (cwV 1 hts gw_X12_calm rfl rfl rfl (by decide +kernel) ⟨(by decide +kernel), (by decide +kernel)⟩) ⟨pr.1, va_recv hK hP (ci := 12) (q0 := 0) rfl rfl, pr.2⟩ rfl rfl hl.1 rfl (lv_room (Nat.le_of_ble_eq_true rfl)) dL_law_1552 ⟨(by decide +kernel), (by decide +kernel)⟩) (fun r u H locs hw hP hD hS => ?_)
    rcases hw with ⟨c800031, rfl, rfl⟩ | ⟨c800032, c800033, rfl, rfl⟩ | ⟨c800034, c800035, c800036, rfl, rfl⟩ | ⟨c800037, c800038, c800039, c800040, rfl, rfl⟩ | ⟨c800041, c800042, c800043, c800044, rfl, rfl⟩ | ⟨c800045, c800046, c800047, c800048, rfl, rfl⟩ | ⟨c800049, c800050, c800051, c800052, rfl, rfl⟩ | ⟨c800053, c800054, c800055, c800056, rfl, rfl⟩ | ⟨c800057, c800058, c800059, c800060, rfl, rfl⟩
    · exact absurd c800031 c800001
    · have hP : va_P D vwCl [(n5000, .inl (cy 2, 1, .inr (.inl (fun _ => 0)))), (n3000, .inl (cy 1, 1300, .inl (fun _ => 0))), (n3900, .inr (12, [.ref n3000, .ref n3001, .ref n3002, .ref n3003, .int 1, .ref n3004, .int 0, .int 0, .int 0, .int 0, .int 0, .int 0, .int 0, .int 0, .int 0, .int (-1), .int 0, .ref n3005, .ref n3006, .int 0, .ref n3007, .ref n3008, .int 0, .int 0, .int 0, .int 0, .int 0, .int 0, .int 0, .ref n3009, .ref n3010, .int 0, .int 0, .ref n3011, .ref n3012, .int 0, .int 0, .ref n3013, .ref n3014, .ref n3015, .int 0, .ref n3016, .ref n3017, .ref n3018]))] H := hP
      have hD : va_D A [(n5000, .inl (cy 2, 1, .inr (.inl (fun _ => 0)))), (n3000, .inl (cy 1, 1300, .inl (fun _ => 0))), (n3900, .inr (12, [.ref n3000, .ref n3001, .ref n3002, .ref n3003, .int 1, .ref n3004, .int 0, .int 0, .int 0, .int 0, .int 0, .int 0, .int 0, .int 0, .int 0, .int (-1), .int 0, .ref n3005, .ref n3006, .int 0, .ref n3007, .ref n3008, .int 0, .int 0, .int 0, .int 0, .int 0, .int 0, .int 0, .ref n3009, .ref n3010, .int 0, .int 0, .ref n3011, .ref n3012, .int 0, .int 0, .ref n3013, .ref n3014, .ref n3015, .int 0, .ref n3016, .ref n3017, .ref n3018]))] := hD
      refine lv_istore (lv' := [(6, .int 0), (5, .int 1), (4, .int 0), (3, .ref n5000), (2, .ref n3900), (1, .ref n1900), (0, .ref b)]) hx hb dL_law_1555 hl (by decide +kernel) rfl (fun ls hl => ?_)
      refine lv_aload_n hx hb dL_law_1557 rfl (lv_at hl 4 rfl) ?_
      refine call_i (av := [.ref n3900]) F hP hD hS [(n3900, .inr (12, [.ref n3000, .ref n3001, .ref n3002, .ref n3003, .int 1, .ref n3004, .int 0, .int 0, .int 0, .int 0, .int 0, .int 0, .int 0, .int 0, .int 0, .int (-1), .int 0, .ref n3005, .ref n3006, .int 0, .ref n3007, .ref n3008, .int 0, .int 0, .int 0, .int 0, .int 0, .int 0, .int 0, .ref n3009, .ref n3010, .int 0, .int 0, .ref n3011, .ref n3012, .int 0, .int 0, .ref n3013, .ref n3014, .ref n3015, .int 0, .ref n3016, .ref n3017, .ref n3018]))] [(n5000, .inl (cy 2, 1, .inr (.inl (fun _ => 0)))), (n3000, .inl (cy 1, 1300, .inl (fun _ => 0)))] [2] [0, 1] rfl rfl (by decide +kernel) (fun pr => va_runV (As := []) (rest := []) ⟨hx, hb, hml, hown, hts⟩ (k333_X12_thrown l D cy H.size n3900 n3000 n3001 n3002 n3003 n3004 n3005 n3006 n3007 n3008 n3009 n3010 n3011 n3012 n3013 n3014 n3015 n3016 n3017 n3018) (cwV 0 hts gw_X12_thrown rfl rfl rfl (by decide +kernel) ⟨(by decide +kernel), (by decide +kernel)⟩) ⟨pr.1, va_recv hK hP (ci := 12) (q0 := 2) rfl rfl, pr.2⟩ rfl rfl hl.1 rfl (lv_room (Nat.le_of_ble_eq_true rfl)) dL_law_1558 ⟨(by decide +kernel), (by decide +kernel)⟩) (fun r u H locs hw hP hD hS => ?_)
      rcases hw with ⟨rfl, rfl⟩
      have hP : va_P D vwCl [(n5000, .inl (cy 2, 1, .inr (.inl (fun _ => 0)))), (n3000, .inl (cy 1, 1300, .inl (fun _ => 0))), (n3900, .inr (12, [.ref n3000, .ref n3001, .ref n3002, .ref n3003, .int 1, .ref n3004, .int 0, .int 0, .int 0, .int 0, .int 0, .int 0, .int 0, .int 0, .int 0, .int (-1), .int 0, .ref n3005, .ref n3006, .int 0, .ref n3007, .ref n3008, .int 0, .int 0, .int 0, .int 0, .int 0, .int 0, .int 0, .ref n3009, .ref n3010, .int 0, .int 0, .ref n3011, .ref n3012, .int 0, .int 0, .ref n3013, .ref n3014, .ref n3015, .int 0, .ref n3016, .ref n3017, .ref n3018]))] H := hP
      have hD : va_D A [(n5000, .inl (cy 2, 1, .inr (.inl (fun _ => 0)))), (n3000, .inl (cy 1, 1300, .inl (fun _ => 0))), (n3900, .inr (12, [.ref n3000, .ref n3001, .ref n3002, .ref n3003, .int 1, .ref n3004, .int 0, .int 0, .int 0, .int 0, .int 0, .int 0, .int 0, .int 0, .int 0, .int (-1), .int 0, .ref n3005, .ref n3006, .int 0, .ref n3007, .ref n3008, .int 0, .int 0, .int 0, .int 0, .int 0, .int 0, .int 0, .ref n3009, .ref n3010, .int 0, .int 0, .ref n3011, .ref n3012, .int 0, .int 0, .ref n3013, .ref n3014, .ref n3015, .int 0, .ref n3016, .ref n3017, .ref n3018]))] := hD
      refine lv_iload hx hb dL_law_1561 (lv_at hl 1 rfl) ?_
      refine lv_icmp_eq (tgt := 1568) hx hb dL_law_1563 (by decide +kernel) (fun _ => ?_) (fun h => absurd (by decide +kernel) h)
      refine lv_iload hx hb dL_law_1568 (lv_at hl 1 rfl) ?_
      refine lv_if_ne (tgt := 1585) hx hb dL_law_1570 (by decide +kernel) (fun _ => ?_) (fun h => absurd h (by decide +kernel))
      refine lv_goto (tgt := 2458) hx hb dL_law_1585 (by decide +kernel) ?_
      refine lv_iinc (v := 6) (lv' := [(4, .int 6), (6, .int 0), (5, .int 1), (3, .ref n5000), (2, .ref n3900), (1, .ref n1900), (0, .ref b)]) hx hb dL_law_2458 hl (k := 2) rfl (by decide) (by decide +kernel) rfl (fun ls hl => ?_)
      refine lv_goto (tgt := 23) hx hb dL_law_2461 (by decide +kernel) ?_
      refine lv_iload hx hb dL_law_23 (lv_at hl 0 rfl) ?_
      refine lv_aload_n hx hb dL_law_25 rfl (lv_at hl 6 rfl) ?_
      refine va_slen hx hb hX hbl hbA hS dL_law_26 ?_
      refine top_i (v := 6) rfl ?_
      refine lv_bipush (v := 6) hx hb dL_law_27 (by decide +kernel) ?_
      refine lv_isub hx hb dL_law_29 ?_
      refine top_i (v := 0) (by decide +kernel) ?_
      refine lv_icmp_gt (tgt := 2464) hx hb dL_law_30 (by decide +kernel) (fun _ => ?_) (fun h => absurd (by decide +kernel) h)
      refine lv_iconst (v := 1) hx hb dL_law_2464 (by decide +kernel) ?_
      refine va_forget (fun q hq => hAq _ (hS.2.2 q hq)) ?_
      refine W.widen (k := 600002) (n := 7302232) (by decide +kernel) (by decide +kernel) ?_
      exact lw_ret hx hb hr hlk dL_law_2465
    · exact (no_b (lo_nlt_w c800035) (up_lt c800002) (by decide +kernel)).elim
    · exact (no_b (lo_nlt_w c800038) (up_lt c800002) (by decide +kernel)).elim
    · exact (no_b (lo_nlt_w c800042) (up_lt c800002) (by decide +kernel)).elim
    · exact (no_b (lo_nlt_w c800046) (up_lt c800002) (by decide +kernel)).elim
    · exact (no_b (lo_nlt_w c800050) (up_lt c800002) (by decide +kernel)).elim
    · exact (no_b (lo_nlt_w c800054) (up_lt c800002) (by decide +kernel)).elim
    · exact (no_b (lo_nlt_w c800058) (up_lt c800002) (by decide +kernel)).elim
  · have hP : va_P D vwCl [(n3900, .inr (12, [.ref n3000, .ref n3001, .ref n3002, .ref n3003, .int 0, .ref n3004, .int 0, .int 0, .int 0, .int 0, .int 0, .int 0, .int 0, .int 0, .int 0, .int (-1), .int 0, .ref n3005, .ref n3006, .int 0, .ref n3007, .ref n3008, .int 0, .int 0, .int 0, .int 0, .int 0, .int 0, .int 0, .ref n3009, .ref n3010, .int 0, .int 0, .ref n3011, .ref n3012, .int 0, .int 0, .ref n3013, .ref n3014, .ref n3015, .int 0, .ref n3016, .ref n3017, .ref n3018])), (n3000, .inl (cy 1, 1300, .inl (fun _ => 0))), (n5000, .inl (cy 2, 1, .inr (.inl (fun _ => 0))))] H := hP
    have hD : va_D A [(n3900, .inr (12, [.ref n3000, .ref n3001, .ref n3002, .ref n3003, .int 0, .ref n3004, .int 0, .int 0, .int 0, .int 0, .int 0, .int 0, .int 0, .int 0, .int 0, .int (-1), .int 0, .ref n3005, .ref n3006, .int 0, .ref n3007, .ref n3008, .int 0, .int 0, .int 0, .int 0, .int 0, .int 0, .int 0, .ref n3009, .ref n3010, .int 0, .int 0, .ref n3011, .ref n3012, .int 0, .int 0, .ref n3013, .ref n3014, .ref n3015, .int 0, .ref n3016, .ref n3017, .ref n3018])), (n3000, .inl (cy 1, 1300, .inl (fun _ => 0))), (n5000, .inl (cy 2, 1, .inr (.inl (fun _ => 0))))] := hD
    refine lv_istore (lv' := [(5, .int 1), (4, .int 0), (3, .ref n5000), (2, .ref n3900), (1, .ref n1900), (0, .ref b)]) hx hb dL_law_1543 hl (by decide +kernel) rfl (fun ls hl => ?_)
    refine lv_aload_n hx hb dL_law_1545 rfl (lv_at hl 3 rfl) ?_
    refine lv_aload_n hx hb dL_law_1546 rfl (lv_at hl 5 rfl) ?_
    refine lv_iload hx hb dL_law_1547 (lv_at hl 1 rfl) ?_
    refine lv_iconst (v := 1) hx hb dL_law_1549 (by decide +kernel) ?_
    refine lv_iadd hx hb dL_law_1550 ?_
    refine top_i (v := 1) (by decide +kernel) ?_
    refine va_sld hx hb hX hbl hbA hS (i := 1) (vin (by decide +kernel)) dL_law_1551 ?_
    refine top_i (v := z1) ez1 ?_
    refine call_i (av := [.ref n3900, .int z1]) F hP hD hS [(n3900, .inr (12, [.ref n3000, .ref n3001, .ref n3002, .ref n3003, .int 0, .ref n3004, .int 0, .int 0, .int 0, .int 0, .int 0, .int 0, .int 0, .int 0, .int 0, .int (-1), .int 0, .ref n3005, .ref n3006, .int 0, .ref n3007, .ref n3008, .int 0, .int 0, .int 0, .int 0, .int 0, .int 0, .int 0, .ref n3009, .ref n3010, .int 0, .int 0, .ref n3011, .ref n3012, .int 0, .int 0, .ref n3013, .ref n3014, .ref n3015, .int 0, .ref n3016, .ref n3017, .ref n3018])), (n3000, .inl (cy 1, 1300, .inl (fun _ => 0)))] [(n5000, .inl (cy 2, 1, .inr (.inl (fun _ => 0))))] [0, 1] [2] rfl rfl (by decide +kernel) (fun pr => va_runV (As := [.int z1]) (rest := []) ⟨hx, hb, hml, hown, hts⟩ (k239_X12_calm l D cy H.size n3900 z1 n3000 n3001 n3002 n3003 n3004 n3005 n3006 n3007 n3008 n3009 n3010 n3011 n3012 n3013 n3014 n3015 n3016 n3017 n3018) (cwV 1 hts gw_X12_calm rfl rfl rfl (by decide +kernel) ⟨(by decide +kernel), (by decide +kernel)⟩) ⟨pr.1, va_recv hK hP (ci := 12) (q0 := 0) rfl rfl, pr.2⟩ rfl rfl hl.1 rfl (lv_room (Nat.le_of_ble_eq_true rfl)) dL_law_1552 ⟨(by decide +kernel), (by decide +kernel)⟩) (fun r u H locs hw hP hD hS => ?_)
    rcases hw with ⟨c800064, rfl, rfl⟩ | ⟨c800065, c800066, rfl, rfl⟩ | ⟨c800067, c800068, c800069, rfl, rfl⟩ | ⟨c800070, c800071, c800072, c800073, rfl, rfl⟩ | ⟨c800074, c800075, c800076, c800077, rfl, rfl⟩ | ⟨c800078, c800079, c800080, c800081, rfl, rfl⟩ | ⟨c800082, c800083, c800084, c800085, rfl, rfl⟩ | ⟨c800086, c800087, c800088, c800089, rfl, rfl⟩ | ⟨c800090, c800091, c800092, c800093, rfl, rfl⟩
    · exact absurd c800064 c800003
    · exact (no_b (lo_nlt c800005) (up_lt_w c800066) (by decide +kernel)).elim
    · have hP : va_P D vwCl [(n5000, .inl (cy 2, 1, .inr (.inl (fun _ => 0)))), (n3000, .inl (cy 1, 1300, .inl (fun _ => 0))), (n3900, .inr (12, [.ref n3000, .ref n3001, .ref n3002, .ref n3003, .int 1, .ref n3004, .int 0, .int 0, .int 0, .int 0, .int 0, .int 0, .int 0, .int 0, .int 0, .int (-1), .int 0, .ref n3005, .ref n3006, .int 0, .ref n3007, .ref n3008, .int 0, .int 0, .int 0, .int 0, .int 0, .int 0, .int 0, .ref n3009, .ref n3010, .int 0, .int 0, .ref n3011, .ref n3012, .int 0, .int 0, .ref n3013, .ref n3014, .ref n3015, .int 0, .ref n3016, .ref n3017, .ref n3018]))] H := hP
      have hD : va_D A [(n5000, .inl (cy 2, 1, .inr (.inl (fun _ => 0)))), (n3000, .inl (cy 1, 1300, .inl (fun _ => 0))), (n3900, .inr (12, [.ref n3000, .ref n3001, .ref n3002, .ref n3003, .int 1, .ref n3004, .int 0, .int 0, .int 0, .int 0, .int 0, .int 0, .int 0, .int 0, .int 0, .int (-1), .int 0, .ref n3005, .ref n3006, .int 0, .ref n3007, .ref n3008, .int 0, .int 0, .int 0, .int 0, .int 0, .int 0, .int 0, .ref n3009, .ref n3010, .int 0, .int 0, .ref n3011, .ref n3012, .int 0, .int 0, .ref n3013, .ref n3014, .ref n3015, .int 0, .ref n3016, .ref n3017, .ref n3018]))] := hD
      refine lv_istore (lv' := [(6, .int 0), (5, .int 1), (4, .int 0), (3, .ref n5000), (2, .ref n3900), (1, .ref n1900), (0, .ref b)]) hx hb dL_law_1555 hl (by decide +kernel) rfl (fun ls hl => ?_)
      refine lv_aload_n hx hb dL_law_1557 rfl (lv_at hl 4 rfl) ?_
      refine call_i (av := [.ref n3900]) F hP hD hS [(n3900, .inr (12, [.ref n3000, .ref n3001, .ref n3002, .ref n3003, .int 1, .ref n3004, .int 0, .int 0, .int 0, .int 0, .int 0, .int 0, .int 0, .int 0, .int 0, .int (-1), .int 0, .ref n3005, .ref n3006, .int 0, .ref n3007, .ref n3008, .int 0, .int 0, .int 0, .int 0, .int 0, .int 0, .int 0, .ref n3009, .ref n3010, .int 0, .int 0, .ref n3011, .ref n3012, .int 0, .int 0, .ref n3013, .ref n3014, .ref n3015, .int 0, .ref n3016, .ref n3017, .ref n3018]))] [(n5000, .inl (cy 2, 1, .inr (.inl (fun _ => 0)))), (n3000, .inl (cy 1, 1300, .inl (fun _ => 0)))] [2] [0, 1] rfl rfl (by decide +kernel) (fun pr => va_runV (As := []) (rest := []) ⟨hx, hb, hml, hown, hts⟩ (k333_X12_thrown l D cy H.size n3900 n3000 n3001 n3002 n3003 n3004 n3005 n3006 n3007 n3008 n3009 n3010 n3011 n3012 n3013 n3014 n3015 n3016 n3017 n3018) (cwV 0 hts gw_X12_thrown rfl rfl rfl (by decide +kernel) ⟨(by decide +kernel), (by decide +kernel)⟩) ⟨pr.1, va_recv hK hP (ci := 12) (q0 := 2) rfl rfl, pr.2⟩ rfl rfl hl.1 rfl (lv_room (Nat.le_of_ble_eq_true rfl)) dL_law_1558 ⟨(by decide +kernel), (by decide +kernel)⟩) (fun r u H locs hw hP hD hS => ?_)
      rcases hw with ⟨rfl, rfl⟩
      have hP : va_P D vwCl [(n5000, .inl (cy 2, 1, .inr (.inl (fun _ => 0)))), (n3000, .inl (cy 1, 1300, .inl (fun _ => 0))), (n3900, .inr (12, [.ref n3000, .ref n3001, .ref n3002, .ref n3003, .int 1, .ref n3004, .int 0, .int 0, .int 0, .int 0, .int 0, .int 0, .int 0, .int 0, .int 0, .int (-1), .int 0, .ref n3005, .ref n3006, .int 0, .ref n3007, .ref n3008, .int 0, .int 0, .int 0, .int 0, .int 0, .int 0, .int 0, .ref n3009, .ref n3010, .int 0, .int 0, .ref n3011, .ref n3012, .int 0, .int 0, .ref n3013, .ref n3014, .ref n3015, .int 0, .ref n3016, .ref n3017, .ref n3018]))] H := hP
      have hD : va_D A [(n5000, .inl (cy 2, 1, .inr (.inl (fun _ => 0)))), (n3000, .inl (cy 1, 1300, .inl (fun _ => 0))), (n3900, .inr (12, [.ref n3000, .ref n3001, .ref n3002, .ref n3003, .int 1, .ref n3004, .int 0, .int 0, .int 0, .int 0, .int 0, .int 0, .int 0, .int 0, .int 0, .int (-1), .int 0, .ref n3005, .ref n3006, .int 0, .ref n3007, .ref n3008, .int 0, .int 0, .int 0, .int 0, .int 0, .int 0, .int 0, .ref n3009, .ref n3010, .int 0, .int 0, .ref n3011, .ref n3012, .int 0, .int 0, .ref n3013, .ref n3014, .ref n3015, .int 0, .ref n3016, .ref n3017, .ref n3018]))] := hD
      refine lv_iload hx hb dL_law_1561 (lv_at hl 1 rfl) ?_
      refine lv_icmp_eq (tgt := 1568) hx hb dL_law_1563 (by decide +kernel) (fun _ => ?_) (fun h => absurd (by decide +kernel) h)
      refine lv_iload hx hb dL_law_1568 (lv_at hl 1 rfl) ?_
      refine lv_if_ne (tgt := 1585) hx hb dL_law_1570 (by decide +kernel) (fun _ => ?_) (fun h => absurd h (by decide +kernel))
      refine lv_goto (tgt := 2458) hx hb dL_law_1585 (by decide +kernel) ?_
      refine lv_iinc (v := 6) (lv' := [(4, .int 6), (6, .int 0), (5, .int 1), (3, .ref n5000), (2, .ref n3900), (1, .ref n1900), (0, .ref b)]) hx hb dL_law_2458 hl (k := 2) rfl (by decide) (by decide +kernel) rfl (fun ls hl => ?_)
      refine lv_goto (tgt := 23) hx hb dL_law_2461 (by decide +kernel) ?_
      refine lv_iload hx hb dL_law_23 (lv_at hl 0 rfl) ?_
      refine lv_aload_n hx hb dL_law_25 rfl (lv_at hl 6 rfl) ?_
      refine va_slen hx hb hX hbl hbA hS dL_law_26 ?_
      refine top_i (v := 6) rfl ?_
      refine lv_bipush (v := 6) hx hb dL_law_27 (by decide +kernel) ?_
      refine lv_isub hx hb dL_law_29 ?_
      refine top_i (v := 0) (by decide +kernel) ?_
      refine lv_icmp_gt (tgt := 2464) hx hb dL_law_30 (by decide +kernel) (fun _ => ?_) (fun h => absurd (by decide +kernel) h)
      refine lv_iconst (v := 1) hx hb dL_law_2464 (by decide +kernel) ?_
      refine va_forget (fun q hq => hAq _ (hS.2.2 q hq)) ?_
      refine W.widen (k := 600002) (n := 7302232) (by decide +kernel) (by decide +kernel) ?_
      exact lw_ret hx hb hr hlk dL_law_2465
    · exact (no_b (lo_nlt c800005) (up_nlt_w c800072) (by decide +kernel)).elim
    · exact (no_b (lo_nlt c800005) (up_nlt_w c800076) (by decide +kernel)).elim
    · exact (no_b (lo_nlt c800005) (up_nlt_w c800080) (by decide +kernel)).elim
    · exact (no_b (lo_nlt c800005) (up_nlt_w c800084) (by decide +kernel)).elim
    · exact (no_b (lo_nlt c800005) (up_nlt_w c800088) (by decide +kernel)).elim
    · exact (no_b (lo_nlt c800005) (up_nlt_w c800092) (by decide +kernel)).elim
  · subst c800006
    have hP : va_P D vwCl [(n3900, .inr (12, [.ref n3000, .ref n3001, .ref n3002, .ref n3003, .int 0, .ref n3004, .int 0, .int 0, .int 0, .int 0, .int 0, .int 0, .int 0, .int 0, .int 0, .int (-1), .int 0, .ref n3005, .ref n3006, .int 0, .ref n3007, .ref n3008, .int 0, .int 0, .int 0, .int 0, .int 0, .int 0, .int 0, .ref n3009, .ref n3010, .int 0, .int 0, .ref n3011, .ref n3012, .int 0, .int 0, .ref n3013, .ref n3014, .ref n3015, .int 0, .ref n3016, .ref n3017, .ref n3018])), (n3000, .inl (cy 1, 1300, .inl (fun _ => 0))), (n5000, .inl (cy 2, 1, .inr (.inl (fun _ => 0))))] H := hP
    have hD : va_D A [(n3900, .inr (12, [.ref n3000, .ref n3001, .ref n3002, .ref n3003, .int 0, .ref n3004, .int 0, .int 0, .int 0, .int 0, .int 0, .int 0, .int 0, .int 0, .int 0, .int (-1), .int 0, .ref n3005, .ref n3006, .int 0, .ref n3007, .ref n3008, .int 0, .int 0, .int 0, .int 0, .int 0, .int 0, .int 0, .ref n3009, .ref n3010, .int 0, .int 0, .ref n3011, .ref n3012, .int 0, .int 0, .ref n3013, .ref n3014, .ref n3015, .int 0, .ref n3016, .ref n3017, .ref n3018])), (n3000, .inl (cy 1, 1300, .inl (fun _ => 0))), (n5000, .inl (cy 2, 1, .inr (.inl (fun _ => 0))))] := hD
    refine lv_istore (lv' := [(5, .int 0), (4, .int 0), (3, .ref n5000), (2, .ref n3900), (1, .ref n1900), (0, .ref b)]) hx hb dL_law_1543 hl (by decide +kernel) rfl (fun ls hl => ?_)
    refine lv_aload_n hx hb dL_law_1545 rfl (lv_at hl 3 rfl) ?_
    refine lv_aload_n hx hb dL_law_1546 rfl (lv_at hl 5 rfl) ?_
    refine lv_iload hx hb dL_law_1547 (lv_at hl 1 rfl) ?_
    refine lv_iconst (v := 1) hx hb dL_law_1549 (by decide +kernel) ?_
    refine lv_iadd hx hb dL_law_1550 ?_
    refine top_i (v := 1) (by decide +kernel) ?_
    refine va_sld hx hb hX hbl hbA hS (i := 1) (vin (by decide +kernel)) dL_law_1551 ?_
    refine top_i (v := 0) ez1 ?_
    refine call_i (av := [.ref n3900, .int 0]) F hP hD hS [(n3900, .inr (12, [.ref n3000, .ref n3001, .ref n3002, .ref n3003, .int 0, .ref n3004, .int 0, .int 0, .int 0, .int 0, .int 0, .int 0, .int 0, .int 0, .int 0, .int (-1), .int 0, .ref n3005, .ref n3006, .int 0, .ref n3007, .ref n3008, .int 0, .int 0, .int 0, .int 0, .int 0, .int 0, .int 0, .ref n3009, .ref n3010, .int 0, .int 0, .ref n3011, .ref n3012, .int 0, .int 0, .ref n3013, .ref n3014, .ref n3015, .int 0, .ref n3016, .ref n3017, .ref n3018])), (n3000, .inl (cy 1, 1300, .inl (fun _ => 0)))] [(n5000, .inl (cy 2, 1, .inr (.inl (fun _ => 0))))] [0, 1] [2] rfl rfl (by decide +kernel) (fun pr => va_runV (As := [.int 0]) (rest := []) ⟨hx, hb, hml, hown, hts⟩ (k239_X12_calm l D cy H.size n3900 0 n3000 n3001 n3002 n3003 n3004 n3005 n3006 n3007 n3008 n3009 n3010 n3011 n3012 n3013 n3014 n3015 n3016 n3017 n3018) (cwV 1 hts gw_X12_calm rfl rfl rfl (by decide +kernel) ⟨(by decide +kernel), (by decide +kernel)⟩) ⟨pr.1, va_recv hK hP (ci := 12) (q0 := 0) rfl rfl, pr.2⟩ rfl rfl hl.1 rfl (lv_room (Nat.le_of_ble_eq_true rfl)) dL_law_1552 ⟨(by decide +kernel), (by decide +kernel)⟩) (fun r u H locs hw hP hD hS => ?_)
    rcases hw with ⟨c800097, rfl, rfl⟩ | ⟨c800098, c800099, rfl, rfl⟩ | ⟨c800100, c800101, c800102, rfl, rfl⟩ | ⟨c800103, c800104, c800105, c800106, rfl, rfl⟩ | ⟨c800107, c800108, c800109, c800110, rfl, rfl⟩ | ⟨c800111, c800112, c800113, c800114, rfl, rfl⟩ | ⟨c800115, c800116, c800117, c800118, rfl, rfl⟩ | ⟨c800119, c800120, c800121, c800122, rfl, rfl⟩ | ⟨c800123, c800124, c800125, c800126, rfl, rfl⟩
    · have hP : va_P D vwCl [(n5000, .inl (cy 2, 1, .inr (.inl (fun _ => 0)))), (n3000, .inl (cy 1, 1300, .inl (fun _ => 0))), (n3900, .inr (12, [.ref n3000, .ref n3001, .ref n3002, .ref n3003, .int 0, .ref n3004, .int 0, .int 0, .int 0, .int 0, .int 0, .int 0, .int 0, .int 0, .int 0, .int (-1), .int 0, .ref n3005, .ref n3006, .int 0, .ref n3007, .ref n3008, .int 0, .int 0, .int 0, .int 0, .int 0, .int 0, .int 0, .ref n3009, .ref n3010, .int 0, .int 1, .ref n3011, .ref n3012, .int 0, .int 0, .ref n3013, .ref n3014, .ref n3015, .int 0, .ref n3016, .ref n3017, .ref n3018]))] H := hP
      have hD : va_D A [(n5000, .inl (cy 2, 1, .inr (.inl (fun _ => 0)))), (n3000, .inl (cy 1, 1300, .inl (fun _ => 0))), (n3900, .inr (12, [.ref n3000, .ref n3001, .ref n3002, .ref n3003, .int 0, .ref n3004, .int 0, .int 0, .int 0, .int 0, .int 0, .int 0, .int 0, .int 0, .int 0, .int (-1), .int 0, .ref n3005, .ref n3006, .int 0, .ref n3007, .ref n3008, .int 0, .int 0, .int 0, .int 0, .int 0, .int 0, .int 0, .ref n3009, .ref n3010, .int 0, .int 1, .ref n3011, .ref n3012, .int 0, .int 0, .ref n3013, .ref n3014, .ref n3015, .int 0, .ref n3016, .ref n3017, .ref n3018]))] := hD
      refine lv_istore (lv' := [(6, .int 0), (5, .int 0), (4, .int 0), (3, .ref n5000), (2, .ref n3900), (1, .ref n1900), (0, .ref b)]) hx hb dL_law_1555 hl (by decide +kernel) rfl (fun ls hl => ?_)
      refine lv_aload_n hx hb dL_law_1557 rfl (lv_at hl 4 rfl) ?_
      refine call_i (av := [.ref n3900]) F hP hD hS [(n3900, .inr (12, [.ref n3000, .ref n3001, .ref n3002, .ref n3003, .int 0, .ref n3004, .int 0, .int 0, .int 0, .int 0, .int 0, .int 0, .int 0, .int 0, .int 0, .int (-1), .int 0, .ref n3005, .ref n3006, .int 0, .ref n3007, .ref n3008, .int 0, .int 0, .int 0, .int 0, .int 0, .int 0, .int 0, .ref n3009, .ref n3010, .int 0, .int 1, .ref n3011, .ref n3012, .int 0, .int 0, .ref n3013, .ref n3014, .ref n3015, .int 0, .ref n3016, .ref n3017, .ref n3018]))] [(n5000, .inl (cy 2, 1, .inr (.inl (fun _ => 0)))), (n3000, .inl (cy 1, 1300, .inl (fun _ => 0)))] [2] [0, 1] rfl rfl (by decide +kernel) (fun pr => va_runV (As := []) (rest := []) ⟨hx, hb, hml, hown, hts⟩ (k337_X12_thrown l D cy H.size n3900 n3000 n3001 n3002 n3003 n3004 n3005 n3006 n3007 n3008 n3009 n3010 n3011 n3012 n3013 n3014 n3015 n3016 n3017 n3018) (cwV 0 hts gw_X12_thrown rfl rfl rfl (by decide +kernel) ⟨(by decide +kernel), (by decide +kernel)⟩) ⟨pr.1, va_recv hK hP (ci := 12) (q0 := 2) rfl rfl, pr.2⟩ rfl rfl hl.1 rfl (lv_room (Nat.le_of_ble_eq_true rfl)) dL_law_1558 ⟨(by decide +kernel), (by decide +kernel)⟩) (fun r u H locs hw hP hD hS => ?_)
      rcases hw with ⟨rfl, rfl⟩
      have hP : va_P D vwCl [(n5000, .inl (cy 2, 1, .inr (.inl (fun _ => 0)))), (n3000, .inl (cy 1, 1300, .inl (fun _ => 0))), (n3900, .inr (12, [.ref n3000, .ref n3001, .ref n3002, .ref n3003, .int 0, .ref n3004, .int 0, .int 0, .int 0, .int 0, .int 0, .int 0, .int 0, .int 0, .int 0, .int (-1), .int 0, .ref n3005, .ref n3006, .int 0, .ref n3007, .ref n3008, .int 0, .int 0, .int 0, .int 0, .int 0, .int 0, .int 0, .ref n3009, .ref n3010, .int 0, .int 1, .ref n3011, .ref n3012, .int 0, .int 0, .ref n3013, .ref n3014, .ref n3015, .int 0, .ref n3016, .ref n3017, .ref n3018]))] H := hP
      have hD : va_D A [(n5000, .inl (cy 2, 1, .inr (.inl (fun _ => 0)))), (n3000, .inl (cy 1, 1300, .inl (fun _ => 0))), (n3900, .inr (12, [.ref n3000, .ref n3001, .ref n3002, .ref n3003, .int 0, .ref n3004, .int 0, .int 0, .int 0, .int 0, .int 0, .int 0, .int 0, .int 0, .int 0, .int (-1), .int 0, .ref n3005, .ref n3006, .int 0, .ref n3007, .ref n3008, .int 0, .int 0, .int 0, .int 0, .int 0, .int 0, .int 0, .ref n3009, .ref n3010, .int 0, .int 1, .ref n3011, .ref n3012, .int 0, .int 0, .ref n3013, .ref n3014, .ref n3015, .int 0, .ref n3016, .ref n3017, .ref n3018]))] := hD
      refine lv_iload hx hb dL_law_1561 (lv_at hl 1 rfl) ?_
      refine lv_icmp_eq (tgt := 1568) hx hb dL_law_1563 (by decide +kernel) (fun _ => ?_) (fun h => absurd (by decide +kernel) h)
      refine lv_iload hx hb dL_law_1568 (lv_at hl 1 rfl) ?_
      refine lv_if_ne (tgt := 1585) hx hb dL_law_1570 (by decide +kernel) (fun h => absurd (by decide +kernel) h) (fun _ => ?_)
      refine lv_aload_n hx hb dL_law_1573 rfl (lv_at hl 3 rfl) ?_
      refine lv_iconst (v := 0) hx hb dL_law_1574 (by decide +kernel) ?_
      refine va_lald hx hb hK hP 0 2 rfl rfl (i := 0) (vin (by decide +kernel)) dL_law_1575 ?_
      refine top_l (v := 0) (by decide +kernel) ?_
      refine lv_iload hx hb dL_law_1576 (lv_at hl 0 rfl) ?_
      refine lv_i2l (v := 0) hx hb dL_law_1578 (by decide +kernel) ?_
      refine W.lcmp hx hb dL_law_1579 ?_
      refine top_i (v := 0) (by decide +kernel) ?_
      refine lv_if_eq (tgt := 1585) hx hb dL_law_1580 (by decide +kernel) (fun _ => ?_) (fun h => absurd (by decide +kernel) h)
      refine lv_goto (tgt := 2458) hx hb dL_law_1585 (by decide +kernel) ?_
      refine lv_iinc (v := 6) (lv' := [(4, .int 6), (6, .int 0), (5, .int 0), (3, .ref n5000), (2, .ref n3900), (1, .ref n1900), (0, .ref b)]) hx hb dL_law_2458 hl (k := 2) rfl (by decide) (by decide +kernel) rfl (fun ls hl => ?_)
      refine lv_goto (tgt := 23) hx hb dL_law_2461 (by decide +kernel) ?_
      refine lv_iload hx hb dL_law_23 (lv_at hl 0 rfl) ?_
      refine lv_aload_n hx hb dL_law_25 rfl (lv_at hl 6 rfl) ?_
      refine va_slen hx hb hX hbl hbA hS dL_law_26 ?_
      refine top_i (v := 6) rfl ?_
      refine lv_bipush (v := 6) hx hb dL_law_27 (by decide +kernel) ?_
      refine lv_isub hx hb dL_law_29 ?_
      refine top_i (v := 0) (by decide +kernel) ?_
      refine lv_icmp_gt (tgt := 2464) hx hb dL_law_30 (by decide +kernel) (fun _ => ?_) (fun h => absurd (by decide +kernel) h)
      refine lv_iconst (v := 1) hx hb dL_law_2464 (by decide +kernel) ?_
      refine va_forget (fun q hq => hAq _ (hS.2.2 q hq)) ?_
      refine W.widen (k := 600002) (n := 7302232) (by decide +kernel) (by decide +kernel) ?_
      exact lw_ret hx hb hr hlk dL_law_2465
    · exact absurd (by decide +kernel) c800098
    · exact absurd (by decide +kernel) c800100
    · exact absurd (by decide +kernel) c800103
    · exact absurd (by decide +kernel) c800107
    · exact absurd (by decide +kernel) c800111
    · exact absurd (by decide +kernel) c800115
    · exact absurd (by decide +kernel) c800119
    · exact absurd (by decide +kernel) c800123
  · subst c800010
    have hP : va_P D vwCl [(n3900, .inr (12, [.ref n3000, .ref n3001, .ref n3002, .ref n3003, .int 0, .ref n3004, .int 0, .int 0, .int 0, .int 0, .int 0, .int 0, .int 0, .int 0, .int 0, .int (-1), .int 0, .ref n3005, .ref n3006, .int 0, .ref n3007, .ref n3008, .int 0, .int 0, .int 0, .int 0, .int 0, .int 0, .int 0, .ref n3009, .ref n3010, .int 0, .int 0, .ref n3011, .ref n3012, .int 0, .int 0, .ref n3013, .ref n3014, .ref n3015, .int 0, .ref n3016, .ref n3017, .ref n3018])), (n3000, .inl (cy 1, 1300, .inl (fun _ => 0))), (n5000, .inl (cy 2, 1, .inr (.inl (vp_updL (fun _ => 0) 0 (-1)))))] H := hP
    have hD : va_D A [(n3900, .inr (12, [.ref n3000, .ref n3001, .ref n3002, .ref n3003, .int 0, .ref n3004, .int 0, .int 0, .int 0, .int 0, .int 0, .int 0, .int 0, .int 0, .int 0, .int (-1), .int 0, .ref n3005, .ref n3006, .int 0, .ref n3007, .ref n3008, .int 0, .int 0, .int 0, .int 0, .int 0, .int 0, .int 0, .ref n3009, .ref n3010, .int 0, .int 0, .ref n3011, .ref n3012, .int 0, .int 0, .ref n3013, .ref n3014, .ref n3015, .int 0, .ref n3016, .ref n3017, .ref n3018])), (n3000, .inl (cy 1, 1300, .inl (fun _ => 0))), (n5000, .inl (cy 2, 1, .inr (.inl (vp_updL (fun _ => 0) 0 (-1)))))] := hD
    refine lv_istore (lv' := [(5, .int 0), (4, .int 0), (3, .ref n5000), (2, .ref n3900), (1, .ref n1900), (0, .ref b)]) hx hb dL_law_1543 hl (by decide +kernel) rfl (fun ls hl => ?_)
    refine lv_aload_n hx hb dL_law_1545 rfl (lv_at hl 3 rfl) ?_
    refine lv_aload_n hx hb dL_law_1546 rfl (lv_at hl 5 rfl) ?_
    refine lv_iload hx hb dL_law_1547 (lv_at hl 1 rfl) ?_
    refine lv_iconst (v := 1) hx hb dL_law_1549 (by decide +kernel) ?_
    refine lv_iadd hx hb dL_law_1550 ?_
    refine top_i (v := 1) (by decide +kernel) ?_
    refine va_sld hx hb hX hbl hbA hS (i := 1) (vin (by decide +kernel)) dL_law_1551 ?_
    refine top_i (v := 10) ez1 ?_
    refine call_i (av := [.ref n3900, .int 10]) F hP hD hS [(n3900, .inr (12, [.ref n3000, .ref n3001, .ref n3002, .ref n3003, .int 0, .ref n3004, .int 0, .int 0, .int 0, .int 0, .int 0, .int 0, .int 0, .int 0, .int 0, .int (-1), .int 0, .ref n3005, .ref n3006, .int 0, .ref n3007, .ref n3008, .int 0, .int 0, .int 0, .int 0, .int 0, .int 0, .int 0, .ref n3009, .ref n3010, .int 0, .int 0, .ref n3011, .ref n3012, .int 0, .int 0, .ref n3013, .ref n3014, .ref n3015, .int 0, .ref n3016, .ref n3017, .ref n3018])), (n3000, .inl (cy 1, 1300, .inl (fun _ => 0)))] [(n5000, .inl (cy 2, 1, .inr (.inl (vp_updL (fun _ => 0) 0 (-1)))))] [0, 1] [2] rfl rfl (by decide +kernel) (fun pr => va_runV (As := [.int 10]) (rest := []) ⟨hx, hb, hml, hown, hts⟩ (k239_X12_calm l D cy H.size n3900 10 n3000 n3001 n3002 n3003 n3004 n3005 n3006 n3007 n3008 n3009 n3010 n3011 n3012 n3013 n3014 n3015 n3016 n3017 n3018) (cwV 1 hts gw_X12_calm rfl rfl rfl (by decide +kernel) ⟨(by decide +kernel), (by decide +kernel)⟩) ⟨pr.1, va_recv hK hP (ci := 12) (q0 := 0) rfl rfl, pr.2⟩ rfl rfl hl.1 rfl (lv_room (Nat.le_of_ble_eq_true rfl)) dL_law_1552 ⟨(by decide +kernel), (by decide +kernel)⟩) (fun r u H locs hw hP hD hS => ?_)
    rcases hw with ⟨c800131, rfl, rfl⟩ | ⟨c800132, c800133, rfl, rfl⟩ | ⟨c800134, c800135, c800136, rfl, rfl⟩ | ⟨c800137, c800138, c800139, c800140, rfl, rfl⟩ | ⟨c800141, c800142, c800143, c800144, rfl, rfl⟩ | ⟨c800145, c800146, c800147, c800148, rfl, rfl⟩ | ⟨c800149, c800150, c800151, c800152, rfl, rfl⟩ | ⟨c800153, c800154, c800155, c800156, rfl, rfl⟩ | ⟨c800157, c800158, c800159, c800160, rfl, rfl⟩
    · exact absurd c800131 (by decide +kernel)
    · exact absurd c800133 (by decide +kernel)
    · exact absurd c800136 (by decide +kernel)
    · have hP : va_P D vwCl [(n5000, .inl (cy 2, 1, .inr (.inl (vp_updL (fun _ => 0) 0 (-1))))), (n3000, .inl (cy 1, 1300, .inl (fun _ => 0))), (n3900, .inr (12, [.ref n3000, .ref n3001, .ref n3002, .ref n3003, .int 0, .ref n3004, .int 0, .int 0, .int 0, .int 0, .int 0, .int 0, .int 0, .int 0, .int 0, .int (-1), .int 0, .ref n3005, .ref n3006, .int 0, .ref n3007, .ref n3008, .int 0, .int 0, .int 0, .int 0, .int 0, .int 0, .int 0, .ref n3009, .ref n3010, .int 0, .int 1, .ref n3011, .ref n3012, .int 0, .int 0, .ref n3013, .ref n3014, .ref n3015, .int 0, .ref n3016, .ref n3017, .ref n3018]))] H := hP
      have hD : va_D A [(n5000, .inl (cy 2, 1, .inr (.inl (vp_updL (fun _ => 0) 0 (-1))))), (n3000, .inl (cy 1, 1300, .inl (fun _ => 0))), (n3900, .inr (12, [.ref n3000, .ref n3001, .ref n3002, .ref n3003, .int 0, .ref n3004, .int 0, .int 0, .int 0, .int 0, .int 0, .int 0, .int 0, .int 0, .int 0, .int (-1), .int 0, .ref n3005, .ref n3006, .int 0, .ref n3007, .ref n3008, .int 0, .int 0, .int 0, .int 0, .int 0, .int 0, .int 0, .ref n3009, .ref n3010, .int 0, .int 1, .ref n3011, .ref n3012, .int 0, .int 0, .ref n3013, .ref n3014, .ref n3015, .int 0, .ref n3016, .ref n3017, .ref n3018]))] := hD
      refine lv_istore (lv' := [(6, .int (-1)), (5, .int 0), (4, .int 0), (3, .ref n5000), (2, .ref n3900), (1, .ref n1900), (0, .ref b)]) hx hb dL_law_1555 hl (by decide +kernel) rfl (fun ls hl => ?_)
      refine lv_aload_n hx hb dL_law_1557 rfl (lv_at hl 4 rfl) ?_
      refine call_i (av := [.ref n3900]) F hP hD hS [(n3900, .inr (12, [.ref n3000, .ref n3001, .ref n3002, .ref n3003, .int 0, .ref n3004, .int 0, .int 0, .int 0, .int 0, .int 0, .int 0, .int 0, .int 0, .int 0, .int (-1), .int 0, .ref n3005, .ref n3006, .int 0, .ref n3007, .ref n3008, .int 0, .int 0, .int 0, .int 0, .int 0, .int 0, .int 0, .ref n3009, .ref n3010, .int 0, .int 1, .ref n3011, .ref n3012, .int 0, .int 0, .ref n3013, .ref n3014, .ref n3015, .int 0, .ref n3016, .ref n3017, .ref n3018]))] [(n5000, .inl (cy 2, 1, .inr (.inl (vp_updL (fun _ => 0) 0 (-1))))), (n3000, .inl (cy 1, 1300, .inl (fun _ => 0)))] [2] [0, 1] rfl rfl (by decide +kernel) (fun pr => va_runV (As := []) (rest := []) ⟨hx, hb, hml, hown, hts⟩ (k337_X12_thrown l D cy H.size n3900 n3000 n3001 n3002 n3003 n3004 n3005 n3006 n3007 n3008 n3009 n3010 n3011 n3012 n3013 n3014 n3015 n3016 n3017 n3018) (cwV 0 hts gw_X12_thrown rfl rfl rfl (by decide +kernel) ⟨(by decide +kernel), (by decide +kernel)⟩) ⟨pr.1, va_recv hK hP (ci := 12) (q0 := 2) rfl rfl, pr.2⟩ rfl rfl hl.1 rfl (lv_room (Nat.le_of_ble_eq_true rfl)) dL_law_1558 ⟨(by decide +kernel), (by decide +kernel)⟩) (fun r u H locs hw hP hD hS => ?_)
      rcases hw with ⟨rfl, rfl⟩
      have hP : va_P D vwCl [(n5000, .inl (cy 2, 1, .inr (.inl (vp_updL (fun _ => 0) 0 (-1))))), (n3000, .inl (cy 1, 1300, .inl (fun _ => 0))), (n3900, .inr (12, [.ref n3000, .ref n3001, .ref n3002, .ref n3003, .int 0, .ref n3004, .int 0, .int 0, .int 0, .int 0, .int 0, .int 0, .int 0, .int 0, .int 0, .int (-1), .int 0, .ref n3005, .ref n3006, .int 0, .ref n3007, .ref n3008, .int 0, .int 0, .int 0, .int 0, .int 0, .int 0, .int 0, .ref n3009, .ref n3010, .int 0, .int 1, .ref n3011, .ref n3012, .int 0, .int 0, .ref n3013, .ref n3014, .ref n3015, .int 0, .ref n3016, .ref n3017, .ref n3018]))] H := hP
      have hD : va_D A [(n5000, .inl (cy 2, 1, .inr (.inl (vp_updL (fun _ => 0) 0 (-1))))), (n3000, .inl (cy 1, 1300, .inl (fun _ => 0))), (n3900, .inr (12, [.ref n3000, .ref n3001, .ref n3002, .ref n3003, .int 0, .ref n3004, .int 0, .int 0, .int 0, .int 0, .int 0, .int 0, .int 0, .int 0, .int 0, .int (-1), .int 0, .ref n3005, .ref n3006, .int 0, .ref n3007, .ref n3008, .int 0, .int 0, .int 0, .int 0, .int 0, .int 0, .int 0, .ref n3009, .ref n3010, .int 0, .int 1, .ref n3011, .ref n3012, .int 0, .int 0, .ref n3013, .ref n3014, .ref n3015, .int 0, .ref n3016, .ref n3017, .ref n3018]))] := hD
      refine lv_iload hx hb dL_law_1561 (lv_at hl 1 rfl) ?_
      refine lv_icmp_eq (tgt := 1568) hx hb dL_law_1563 (by decide +kernel) (fun _ => ?_) (fun h => absurd (by decide +kernel) h)
      refine lv_iload hx hb dL_law_1568 (lv_at hl 1 rfl) ?_
      refine lv_if_ne (tgt := 1585) hx hb dL_law_1570 (by decide +kernel) (fun h => absurd (by decide +kernel) h) (fun _ => ?_)
      refine lv_aload_n hx hb dL_law_1573 rfl (lv_at hl 3 rfl) ?_
      refine lv_iconst (v := 0) hx hb dL_law_1574 (by decide +kernel) ?_
      refine va_lald hx hb hK hP 0 2 rfl rfl (i := 0) (vin (by decide +kernel)) dL_law_1575 ?_
      refine top_l (v := (-1)) (by decide +kernel) ?_
      refine lv_iload hx hb dL_law_1576 (lv_at hl 0 rfl) ?_
      refine lv_i2l (v := (-1)) hx hb dL_law_1578 (by decide +kernel) ?_
      refine W.lcmp hx hb dL_law_1579 ?_
      refine top_i (v := 0) (by decide +kernel) ?_
      refine lv_if_eq (tgt := 1585) hx hb dL_law_1580 (by decide +kernel) (fun _ => ?_) (fun h => absurd (by decide +kernel) h)
      refine lv_goto (tgt := 2458) hx hb dL_law_1585 (by decide +kernel) ?_
      refine lv_iinc (v := 6) (lv' := [(4, .int 6), (6, .int (-1)), (5, .int 0), (3, .ref n5000), (2, .ref n3900), (1, .ref n1900), (0, .ref b)]) hx hb dL_law_2458 hl (k := 2) rfl (by decide) (by decide +kernel) rfl (fun ls hl => ?_)
      refine lv_goto (tgt := 23) hx hb dL_law_2461 (by decide +kernel) ?_
      refine lv_iload hx hb dL_law_23 (lv_at hl 0 rfl) ?_
      refine lv_aload_n hx hb dL_law_25 rfl (lv_at hl 6 rfl) ?_
      refine va_slen hx hb hX hbl hbA hS dL_law_26 ?_
      refine top_i (v := 6) rfl ?_
      refine lv_bipush (v := 6) hx hb dL_law_27 (by decide +kernel) ?_
      refine lv_isub hx hb dL_law_29 ?_
      refine top_i (v := 0) (by decide +kernel) ?_
      refine lv_icmp_gt (tgt := 2464) hx hb dL_law_30 (by decide +kernel) (fun _ => ?_) (fun h => absurd (by decide +kernel) h)
      refine lv_iconst (v := 1) hx hb dL_law_2464 (by decide +kernel) ?_
      refine va_forget (fun q hq => hAq _ (hS.2.2 q hq)) ?_
      refine W.widen (k := 600002) (n := 7302232) (by decide +kernel) (by decide +kernel) ?_
      exact lw_ret hx hb hr hlk dL_law_2465
    · exact absurd c800144 (by decide +kernel)
    · exact absurd c800148 (by decide +kernel)
    · exact absurd c800152 (by decide +kernel)
    · exact absurd c800156 (by decide +kernel)
    · exact absurd c800160 (by decide +kernel)
  · subst c800014
    have hP : va_P D vwCl [(n3900, .inr (12, [.ref n3000, .ref n3001, .ref n3002, .ref n3003, .int 0, .ref n3004, .int 0, .int 0, .int 0, .int 0, .int 0, .int 0, .int 0, .int 0, .int 0, .int (-1), .int 0, .ref n3005, .ref n3006, .int 0, .ref n3007, .ref n3008, .int 0, .int 0, .int 0, .int 0, .int 0, .int 0, .int 0, .ref n3009, .ref n3010, .int 0, .int 0, .ref n3011, .ref n3012, .int 0, .int 0, .ref n3013, .ref n3014, .ref n3015, .int 0, .ref n3016, .ref n3017, .ref n3018])), (n3000, .inl (cy 1, 1300, .inl (fun _ => 0))), (n5000, .inl (cy 2, 1, .inr (.inl (vp_updL (fun _ => 0) 0 (-1)))))] H := hP
    have hD : va_D A [(n3900, .inr (12, [.ref n3000, .ref n3001, .ref n3002, .ref n3003, .int 0, .ref n3004, .int 0, .int 0, .int 0, .int 0, .int 0, .int 0, .int 0, .int 0, .int 0, .int (-1), .int 0, .ref n3005, .ref n3006, .int 0, .ref n3007, .ref n3008, .int 0, .int 0, .int 0, .int 0, .int 0, .int 0, .int 0, .ref n3009, .ref n3010, .int 0, .int 0, .ref n3011, .ref n3012, .int 0, .int 0, .ref n3013, .ref n3014, .ref n3015, .int 0, .ref n3016, .ref n3017, .ref n3018])), (n3000, .inl (cy 1, 1300, .inl (fun _ => 0))), (n5000, .inl (cy 2, 1, .inr (.inl (vp_updL (fun _ => 0) 0 (-1)))))] := hD
    refine lv_istore (lv' := [(5, .int 0), (4, .int 0), (3, .ref n5000), (2, .ref n3900), (1, .ref n1900), (0, .ref b)]) hx hb dL_law_1543 hl (by decide +kernel) rfl (fun ls hl => ?_)
    refine lv_aload_n hx hb dL_law_1545 rfl (lv_at hl 3 rfl) ?_
    refine lv_aload_n hx hb dL_law_1546 rfl (lv_at hl 5 rfl) ?_
    refine lv_iload hx hb dL_law_1547 (lv_at hl 1 rfl) ?_
    refine lv_iconst (v := 1) hx hb dL_law_1549 (by decide +kernel) ?_
    refine lv_iadd hx hb dL_law_1550 ?_
    refine top_i (v := 1) (by decide +kernel) ?_
    refine va_sld hx hb hX hbl hbA hS (i := 1) (vin (by decide +kernel)) dL_law_1551 ?_
    refine top_i (v := 11) ez1 ?_
    refine call_i (av := [.ref n3900, .int 11]) F hP hD hS [(n3900, .inr (12, [.ref n3000, .ref n3001, .ref n3002, .ref n3003, .int 0, .ref n3004, .int 0, .int 0, .int 0, .int 0, .int 0, .int 0, .int 0, .int 0, .int 0, .int (-1), .int 0, .ref n3005, .ref n3006, .int 0, .ref n3007, .ref n3008, .int 0, .int 0, .int 0, .int 0, .int 0, .int 0, .int 0, .ref n3009, .ref n3010, .int 0, .int 0, .ref n3011, .ref n3012, .int 0, .int 0, .ref n3013, .ref n3014, .ref n3015, .int 0, .ref n3016, .ref n3017, .ref n3018])), (n3000, .inl (cy 1, 1300, .inl (fun _ => 0)))] [(n5000, .inl (cy 2, 1, .inr (.inl (vp_updL (fun _ => 0) 0 (-1)))))] [0, 1] [2] rfl rfl (by decide +kernel) (fun pr => va_runV (As := [.int 11]) (rest := []) ⟨hx, hb, hml, hown, hts⟩ (k239_X12_calm l D cy H.size n3900 11 n3000 n3001 n3002 n3003 n3004 n3005 n3006 n3007 n3008 n3009 n3010 n3011 n3012 n3013 n3014 n3015 n3016 n3017 n3018) (cwV 1 hts gw_X12_calm rfl rfl rfl (by decide +kernel) ⟨(by decide +kernel), (by decide +kernel)⟩) ⟨pr.1, va_recv hK hP (ci := 12) (q0 := 0) rfl rfl, pr.2⟩ rfl rfl hl.1 rfl (lv_room (Nat.le_of_ble_eq_true rfl)) dL_law_1552 ⟨(by decide +kernel), (by decide +kernel)⟩) (fun r u H locs hw hP hD hS => ?_)
    rcases hw with ⟨c800165, rfl, rfl⟩ | ⟨c800166, c800167, rfl, rfl⟩ | ⟨c800168, c800169, c800170, rfl, rfl⟩ | ⟨c800171, c800172, c800173, c800174, rfl, rfl⟩ | ⟨c800175, c800176, c800177, c800178, rfl, rfl⟩ | ⟨c800179, c800180, c800181, c800182, rfl, rfl⟩ | ⟨c800183, c800184, c800185, c800186, rfl, rfl⟩ | ⟨c800187, c800188, c800189, c800190, rfl, rfl⟩ | ⟨c800191, c800192, c800193, c800194, rfl, rfl⟩
    · exact absurd c800165 (by decide +kernel)
    · exact absurd c800167 (by decide +kernel)
    · exact absurd c800170 (by decide +kernel)
    · exact absurd c800174 (by decide +kernel)
    · have hP : va_P D vwCl [(n5000, .inl (cy 2, 1, .inr (.inl (vp_updL (fun _ => 0) 0 (-1))))), (n3000, .inl (cy 1, 1300, .inl (fun _ => 0))), (n3900, .inr (12, [.ref n3000, .ref n3001, .ref n3002, .ref n3003, .int 0, .ref n3004, .int 0, .int 0, .int 0, .int 0, .int 0, .int 0, .int 0, .int 0, .int 0, .int (-1), .int 0, .ref n3005, .ref n3006, .int 0, .ref n3007, .ref n3008, .int 0, .int 0, .int 0, .int 0, .int 0, .int 0, .int 0, .ref n3009, .ref n3010, .int 0, .int 1, .ref n3011, .ref n3012, .int 0, .int 0, .ref n3013, .ref n3014, .ref n3015, .int 0, .ref n3016, .ref n3017, .ref n3018]))] H := hP
      have hD : va_D A [(n5000, .inl (cy 2, 1, .inr (.inl (vp_updL (fun _ => 0) 0 (-1))))), (n3000, .inl (cy 1, 1300, .inl (fun _ => 0))), (n3900, .inr (12, [.ref n3000, .ref n3001, .ref n3002, .ref n3003, .int 0, .ref n3004, .int 0, .int 0, .int 0, .int 0, .int 0, .int 0, .int 0, .int 0, .int 0, .int (-1), .int 0, .ref n3005, .ref n3006, .int 0, .ref n3007, .ref n3008, .int 0, .int 0, .int 0, .int 0, .int 0, .int 0, .int 0, .ref n3009, .ref n3010, .int 0, .int 1, .ref n3011, .ref n3012, .int 0, .int 0, .ref n3013, .ref n3014, .ref n3015, .int 0, .ref n3016, .ref n3017, .ref n3018]))] := hD
      refine lv_istore (lv' := [(6, .int (-1)), (5, .int 0), (4, .int 0), (3, .ref n5000), (2, .ref n3900), (1, .ref n1900), (0, .ref b)]) hx hb dL_law_1555 hl (by decide +kernel) rfl (fun ls hl => ?_)
      refine lv_aload_n hx hb dL_law_1557 rfl (lv_at hl 4 rfl) ?_
      refine call_i (av := [.ref n3900]) F hP hD hS [(n3900, .inr (12, [.ref n3000, .ref n3001, .ref n3002, .ref n3003, .int 0, .ref n3004, .int 0, .int 0, .int 0, .int 0, .int 0, .int 0, .int 0, .int 0, .int 0, .int (-1), .int 0, .ref n3005, .ref n3006, .int 0, .ref n3007, .ref n3008, .int 0, .int 0, .int 0, .int 0, .int 0, .int 0, .int 0, .ref n3009, .ref n3010, .int 0, .int 1, .ref n3011, .ref n3012, .int 0, .int 0, .ref n3013, .ref n3014, .ref n3015, .int 0, .ref n3016, .ref n3017, .ref n3018]))] [(n5000, .inl (cy 2, 1, .inr (.inl (vp_updL (fun _ => 0) 0 (-1))))), (n3000, .inl (cy 1, 1300, .inl (fun _ => 0)))] [2] [0, 1] rfl rfl (by decide +kernel) (fun pr => va_runV (As := []) (rest := []) ⟨hx, hb, hml, hown, hts⟩ (k337_X12_thrown l D cy H.size n3900 n3000 n3001 n3002 n3003 n3004 n3005 n3006 n3007 n3008 n3009 n3010 n3011 n3012 n3013 n3014 n3015 n3016 n3017 n3018) (cwV 0 hts gw_X12_thrown rfl rfl rfl (by decide +kernel) ⟨(by decide +kernel), (by decide +kernel)⟩) ⟨pr.1, va_recv hK hP (ci := 12) (q0 := 2) rfl rfl, pr.2⟩ rfl rfl hl.1 rfl (lv_room (Nat.le_of_ble_eq_true rfl)) dL_law_1558 ⟨(by decide +kernel), (by decide +kernel)⟩) (fun r u H locs hw hP hD hS => ?_)
      rcases hw with ⟨rfl, rfl⟩
      have hP : va_P D vwCl [(n5000, .inl (cy 2, 1, .inr (.inl (vp_updL (fun _ => 0) 0 (-1))))), (n3000, .inl (cy 1, 1300, .inl (fun _ => 0))), (n3900, .inr (12, [.ref n3000, .ref n3001, .ref n3002, .ref n3003, .int 0, .ref n3004, .int 0, .int 0, .int 0, .int 0, .int 0, .int 0, .int 0, .int 0, .int 0, .int (-1), .int 0, .ref n3005, .ref n3006, .int 0, .ref n3007, .ref n3008, .int 0, .int 0, .int 0, .int 0, .int 0, .int 0, .int 0, .ref n3009, .ref n3010, .int 0, .int 1, .ref n3011, .ref n3012, .int 0, .int 0, .ref n3013, .ref n3014, .ref n3015, .int 0, .ref n3016, .ref n3017, .ref n3018]))] H := hP
      have hD : va_D A [(n5000, .inl (cy 2, 1, .inr (.inl (vp_updL (fun _ => 0) 0 (-1))))), (n3000, .inl (cy 1, 1300, .inl (fun _ => 0))), (n3900, .inr (12, [.ref n3000, .ref n3001, .ref n3002, .ref n3003, .int 0, .ref n3004, .int 0, .int 0, .int 0, .int 0, .int 0, .int 0, .int 0, .int 0, .int 0, .int (-1), .int 0, .ref n3005, .ref n3006, .int 0, .ref n3007, .ref n3008, .int 0, .int 0, .int 0, .int 0, .int 0, .int 0, .int 0, .ref n3009, .ref n3010, .int 0, .int 1, .ref n3011, .ref n3012, .int 0, .int 0, .ref n3013, .ref n3014, .ref n3015, .int 0, .ref n3016, .ref n3017, .ref n3018]))] := hD
      refine lv_iload hx hb dL_law_1561 (lv_at hl 1 rfl) ?_
      refine lv_icmp_eq (tgt := 1568) hx hb dL_law_1563 (by decide +kernel) (fun _ => ?_) (fun h => absurd (by decide +kernel) h)
      refine lv_iload hx hb dL_law_1568 (lv_at hl 1 rfl) ?_
      refine lv_if_ne (tgt := 1585) hx hb dL_law_1570 (by decide +kernel) (fun h => absurd (by decide +kernel) h) (fun _ => ?_)
      refine lv_aload_n hx hb dL_law_1573 rfl (lv_at hl 3 rfl) ?_
      refine lv_iconst (v := 0) hx hb dL_law_1574 (by decide +kernel) ?_
      refine va_lald hx hb hK hP 0 2 rfl rfl (i := 0) (vin (by decide +kernel)) dL_law_1575 ?_
      refine top_l (v := (-1)) (by decide +kernel) ?_
      refine lv_iload hx hb dL_law_1576 (lv_at hl 0 rfl) ?_
      refine lv_i2l (v := (-1)) hx hb dL_law_1578 (by decide +kernel) ?_
      refine W.lcmp hx hb dL_law_1579 ?_
      refine top_i (v := 0) (by decide +kernel) ?_
      refine lv_if_eq (tgt := 1585) hx hb dL_law_1580 (by decide +kernel) (fun _ => ?_) (fun h => absurd (by decide +kernel) h)
      refine lv_goto (tgt := 2458) hx hb dL_law_1585 (by decide +kernel) ?_
      refine lv_iinc (v := 6) (lv' := [(4, .int 6), (6, .int (-1)), (5, .int 0), (3, .ref n5000), (2, .ref n3900), (1, .ref n1900), (0, .ref b)]) hx hb dL_law_2458 hl (k := 2) rfl (by decide) (by decide +kernel) rfl (fun ls hl => ?_)
      refine lv_goto (tgt := 23) hx hb dL_law_2461 (by decide +kernel) ?_
      refine lv_iload hx hb dL_law_23 (lv_at hl 0 rfl) ?_
      refine lv_aload_n hx hb dL_law_25 rfl (lv_at hl 6 rfl) ?_
      refine va_slen hx hb hX hbl hbA hS dL_law_26 ?_
      refine top_i (v := 6) rfl ?_
      refine lv_bipush (v := 6) hx hb dL_law_27 (by decide +kernel) ?_
      refine lv_isub hx hb dL_law_29 ?_
      refine top_i (v := 0) (by decide +kernel) ?_
      refine lv_icmp_gt (tgt := 2464) hx hb dL_law_30 (by decide +kernel) (fun _ => ?_) (fun h => absurd (by decide +kernel) h)
      refine lv_iconst (v := 1) hx hb dL_law_2464 (by decide +kernel) ?_
      refine va_forget (fun q hq => hAq _ (hS.2.2 q hq)) ?_
      refine W.widen (k := 600002) (n := 7302232) (by decide +kernel) (by decide +kernel) ?_
      exact lw_ret hx hb hr hlk dL_law_2465
    · exact absurd c800182 (by decide +kernel)
    · exact absurd c800186 (by decide +kernel)
    · exact absurd c800190 (by decide +kernel)
    · exact absurd c800194 (by decide +kernel)
  · subst c800018
    have hP : va_P D vwCl [(n3900, .inr (12, [.ref n3000, .ref n3001, .ref n3002, .ref n3003, .int 0, .ref n3004, .int 0, .int 0, .int 0, .int 0, .int 0, .int 0, .int 0, .int 0, .int 0, .int (-1), .int 0, .ref n3005, .ref n3006, .int 0, .ref n3007, .ref n3008, .int 0, .int 0, .int 0, .int 0, .int 0, .int 0, .int 0, .ref n3009, .ref n3010, .int 0, .int 0, .ref n3011, .ref n3012, .int 0, .int 0, .ref n3013, .ref n3014, .ref n3015, .int 0, .ref n3016, .ref n3017, .ref n3018])), (n3000, .inl (cy 1, 1300, .inl (fun _ => 0))), (n5000, .inl (cy 2, 1, .inr (.inl (vp_updL (fun _ => 0) 0 (-1)))))] H := hP
    have hD : va_D A [(n3900, .inr (12, [.ref n3000, .ref n3001, .ref n3002, .ref n3003, .int 0, .ref n3004, .int 0, .int 0, .int 0, .int 0, .int 0, .int 0, .int 0, .int 0, .int 0, .int (-1), .int 0, .ref n3005, .ref n3006, .int 0, .ref n3007, .ref n3008, .int 0, .int 0, .int 0, .int 0, .int 0, .int 0, .int 0, .ref n3009, .ref n3010, .int 0, .int 0, .ref n3011, .ref n3012, .int 0, .int 0, .ref n3013, .ref n3014, .ref n3015, .int 0, .ref n3016, .ref n3017, .ref n3018])), (n3000, .inl (cy 1, 1300, .inl (fun _ => 0))), (n5000, .inl (cy 2, 1, .inr (.inl (vp_updL (fun _ => 0) 0 (-1)))))] := hD
    refine lv_istore (lv' := [(5, .int 0), (4, .int 0), (3, .ref n5000), (2, .ref n3900), (1, .ref n1900), (0, .ref b)]) hx hb dL_law_1543 hl (by decide +kernel) rfl (fun ls hl => ?_)
    refine lv_aload_n hx hb dL_law_1545 rfl (lv_at hl 3 rfl) ?_
    refine lv_aload_n hx hb dL_law_1546 rfl (lv_at hl 5 rfl) ?_
    refine lv_iload hx hb dL_law_1547 (lv_at hl 1 rfl) ?_
    refine lv_iconst (v := 1) hx hb dL_law_1549 (by decide +kernel) ?_
    refine lv_iadd hx hb dL_law_1550 ?_
    refine top_i (v := 1) (by decide +kernel) ?_
    refine va_sld hx hb hX hbl hbA hS (i := 1) (vin (by decide +kernel)) dL_law_1551 ?_
    refine top_i (v := 12) ez1 ?_
    refine call_i (av := [.ref n3900, .int 12]) F hP hD hS [(n3900, .inr (12, [.ref n3000, .ref n3001, .ref n3002, .ref n3003, .int 0, .ref n3004, .int 0, .int 0, .int 0, .int 0, .int 0, .int 0, .int 0, .int 0, .int 0, .int (-1), .int 0, .ref n3005, .ref n3006, .int 0, .ref n3007, .ref n3008, .int 0, .int 0, .int 0, .int 0, .int 0, .int 0, .int 0, .ref n3009, .ref n3010, .int 0, .int 0, .ref n3011, .ref n3012, .int 0, .int 0, .ref n3013, .ref n3014, .ref n3015, .int 0, .ref n3016, .ref n3017, .ref n3018])), (n3000, .inl (cy 1, 1300, .inl (fun _ => 0)))] [(n5000, .inl (cy 2, 1, .inr (.inl (vp_updL (fun _ => 0) 0 (-1)))))] [0, 1] [2] rfl rfl (by decide +kernel) (fun pr => va_runV (As := [.int 12]) (rest := []) ⟨hx, hb, hml, hown, hts⟩ (k239_X12_calm l D cy H.size n3900 12 n3000 n3001 n3002 n3003 n3004 n3005 n3006 n3007 n3008 n3009 n3010 n3011 n3012 n3013 n3014 n3015 n3016 n3017 n3018) (cwV 1 hts gw_X12_calm rfl rfl rfl (by decide +kernel) ⟨(by decide +kernel), (by decide +kernel)⟩) ⟨pr.1, va_recv hK hP (ci := 12) (q0 := 0) rfl rfl, pr.2⟩ rfl rfl hl.1 rfl (lv_room (Nat.le_of_ble_eq_true rfl)) dL_law_1552 ⟨(by decide +kernel), (by decide +kernel)⟩) (fun r u H locs hw hP hD hS => ?_)
    rcases hw with ⟨c800199, rfl, rfl⟩ | ⟨c800200, c800201, rfl, rfl⟩ | ⟨c800202, c800203, c800204, rfl, rfl⟩ | ⟨c800205, c800206, c800207, c800208, rfl, rfl⟩ | ⟨c800209, c800210, c800211, c800212, rfl, rfl⟩ | ⟨c800213, c800214, c800215, c800216, rfl, rfl⟩ | ⟨c800217, c800218, c800219, c800220, rfl, rfl⟩ | ⟨c800221, c800222, c800223, c800224, rfl, rfl⟩ | ⟨c800225, c800226, c800227, c800228, rfl, rfl⟩
    · exact absurd c800199 (by decide +kernel)
    · exact absurd c800201 (by decide +kernel)
    · exact absurd c800204 (by decide +kernel)
    · exact absurd c800208 (by decide +kernel)
    · exact absurd c800212 (by decide +kernel)
    · have hP : va_P D vwCl [(n5000, .inl (cy 2, 1, .inr (.inl (vp_updL (fun _ => 0) 0 (-1))))), (n3000, .inl (cy 1, 1300, .inl (fun _ => 0))), (n3900, .inr (12, [.ref n3000, .ref n3001, .ref n3002, .ref n3003, .int 0, .ref n3004, .int 0, .int 0, .int 0, .int 0, .int 0, .int 0, .int 0, .int 0, .int 0, .int (-1), .int 0, .ref n3005, .ref n3006, .int 0, .ref n3007, .ref n3008, .int 0, .int 0, .int 0, .int 0, .int 0, .int 0, .int 0, .ref n3009, .ref n3010, .int 0, .int 1, .ref n3011, .ref n3012, .int 0, .int 0, .ref n3013, .ref n3014, .ref n3015, .int 0, .ref n3016, .ref n3017, .ref n3018]))] H := hP
      have hD : va_D A [(n5000, .inl (cy 2, 1, .inr (.inl (vp_updL (fun _ => 0) 0 (-1))))), (n3000, .inl (cy 1, 1300, .inl (fun _ => 0))), (n3900, .inr (12, [.ref n3000, .ref n3001, .ref n3002, .ref n3003, .int 0, .ref n3004, .int 0, .int 0, .int 0, .int 0, .int 0, .int 0, .int 0, .int 0, .int 0, .int (-1), .int 0, .ref n3005, .ref n3006, .int 0, .ref n3007, .ref n3008, .int 0, .int 0, .int 0, .int 0, .int 0, .int 0, .int 0, .ref n3009, .ref n3010, .int 0, .int 1, .ref n3011, .ref n3012, .int 0, .int 0, .ref n3013, .ref n3014, .ref n3015, .int 0, .ref n3016, .ref n3017, .ref n3018]))] := hD
      refine lv_istore (lv' := [(6, .int (-1)), (5, .int 0), (4, .int 0), (3, .ref n5000), (2, .ref n3900), (1, .ref n1900), (0, .ref b)]) hx hb dL_law_1555 hl (by decide +kernel) rfl (fun ls hl => ?_)
      refine lv_aload_n hx hb dL_law_1557 rfl (lv_at hl 4 rfl) ?_
      refine call_i (av := [.ref n3900]) F hP hD hS [(n3900, .inr (12, [.ref n3000, .ref n3001, .ref n3002, .ref n3003, .int 0, .ref n3004, .int 0, .int 0, .int 0, .int 0, .int 0, .int 0, .int 0, .int 0, .int 0, .int (-1), .int 0, .ref n3005, .ref n3006, .int 0, .ref n3007, .ref n3008, .int 0, .int 0, .int 0, .int 0, .int 0, .int 0, .int 0, .ref n3009, .ref n3010, .int 0, .int 1, .ref n3011, .ref n3012, .int 0, .int 0, .ref n3013, .ref n3014, .ref n3015, .int 0, .ref n3016, .ref n3017, .ref n3018]))] [(n5000, .inl (cy 2, 1, .inr (.inl (vp_updL (fun _ => 0) 0 (-1))))), (n3000, .inl (cy 1, 1300, .inl (fun _ => 0)))] [2] [0, 1] rfl rfl (by decide +kernel) (fun pr => va_runV (As := []) (rest := []) ⟨hx, hb, hml, hown, hts⟩ (k337_X12_thrown l D cy H.size n3900 n3000 n3001 n3002 n3003 n3004 n3005 n3006 n3007 n3008 n3009 n3010 n3011 n3012 n3013 n3014 n3015 n3016 n3017 n3018) (cwV 0 hts gw_X12_thrown rfl rfl rfl (by decide +kernel) ⟨(by decide +kernel), (by decide +kernel)⟩) ⟨pr.1, va_recv hK hP (ci := 12) (q0 := 2) rfl rfl, pr.2⟩ rfl rfl hl.1 rfl (lv_room (Nat.le_of_ble_eq_true rfl)) dL_law_1558 ⟨(by decide +kernel), (by decide +kernel)⟩) (fun r u H locs hw hP hD hS => ?_)
      rcases hw with ⟨rfl, rfl⟩
      have hP : va_P D vwCl [(n5000, .inl (cy 2, 1, .inr (.inl (vp_updL (fun _ => 0) 0 (-1))))), (n3000, .inl (cy 1, 1300, .inl (fun _ => 0))), (n3900, .inr (12, [.ref n3000, .ref n3001, .ref n3002, .ref n3003, .int 0, .ref n3004, .int 0, .int 0, .int 0, .int 0, .int 0, .int 0, .int 0, .int 0, .int 0, .int (-1), .int 0, .ref n3005, .ref n3006, .int 0, .ref n3007, .ref n3008, .int 0, .int 0, .int 0, .int 0, .int 0, .int 0, .int 0, .ref n3009, .ref n3010, .int 0, .int 1, .ref n3011, .ref n3012, .int 0, .int 0, .ref n3013, .ref n3014, .ref n3015, .int 0, .ref n3016, .ref n3017, .ref n3018]))] H := hP
      have hD : va_D A [(n5000, .inl (cy 2, 1, .inr (.inl (vp_updL (fun _ => 0) 0 (-1))))), (n3000, .inl (cy 1, 1300, .inl (fun _ => 0))), (n3900, .inr (12, [.ref n3000, .ref n3001, .ref n3002, .ref n3003, .int 0, .ref n3004, .int 0, .int 0, .int 0, .int 0, .int 0, .int 0, .int 0, .int 0, .int 0, .int (-1), .int 0, .ref n3005, .ref n3006, .int 0, .ref n3007, .ref n3008, .int 0, .int 0, .int 0, .int 0, .int 0, .int 0, .int 0, .ref n3009, .ref n3010, .int 0, .int 1, .ref n3011, .ref n3012, .int 0, .int 0, .ref n3013, .ref n3014, .ref n3015, .int 0, .ref n3016, .ref n3017, .ref n3018]))] := hD
      refine lv_iload hx hb dL_law_1561 (lv_at hl 1 rfl) ?_
      refine lv_icmp_eq (tgt := 1568) hx hb dL_law_1563 (by decide +kernel) (fun _ => ?_) (fun h => absurd (by decide +kernel) h)
      refine lv_iload hx hb dL_law_1568 (lv_at hl 1 rfl) ?_
      refine lv_if_ne (tgt := 1585) hx hb dL_law_1570 (by decide +kernel) (fun h => absurd (by decide +kernel) h) (fun _ => ?_)
      refine lv_aload_n hx hb dL_law_1573 rfl (lv_at hl 3 rfl) ?_
      refine lv_iconst (v := 0) hx hb dL_law_1574 (by decide +kernel) ?_
      refine va_lald hx hb hK hP 0 2 rfl rfl (i := 0) (vin (by decide +kernel)) dL_law_1575 ?_
      refine top_l (v := (-1)) (by decide +kernel) ?_
      refine lv_iload hx hb dL_law_1576 (lv_at hl 0 rfl) ?_
      refine lv_i2l (v := (-1)) hx hb dL_law_1578 (by decide +kernel) ?_
      refine W.lcmp hx hb dL_law_1579 ?_
      refine top_i (v := 0) (by decide +kernel) ?_
      refine lv_if_eq (tgt := 1585) hx hb dL_law_1580 (by decide +kernel) (fun _ => ?_) (fun h => absurd (by decide +kernel) h)
      refine lv_goto (tgt := 2458) hx hb dL_law_1585 (by decide +kernel) ?_
      refine lv_iinc (v := 6) (lv' := [(4, .int 6), (6, .int (-1)), (5, .int 0), (3, .ref n5000), (2, .ref n3900), (1, .ref n1900), (0, .ref b)]) hx hb dL_law_2458 hl (k := 2) rfl (by decide) (by decide +kernel) rfl (fun ls hl => ?_)
      refine lv_goto (tgt := 23) hx hb dL_law_2461 (by decide +kernel) ?_
      refine lv_iload hx hb dL_law_23 (lv_at hl 0 rfl) ?_
      refine lv_aload_n hx hb dL_law_25 rfl (lv_at hl 6 rfl) ?_
      refine va_slen hx hb hX hbl hbA hS dL_law_26 ?_
      refine top_i (v := 6) rfl ?_
      refine lv_bipush (v := 6) hx hb dL_law_27 (by decide +kernel) ?_
      refine lv_isub hx hb dL_law_29 ?_
      refine top_i (v := 0) (by decide +kernel) ?_
      refine lv_icmp_gt (tgt := 2464) hx hb dL_law_30 (by decide +kernel) (fun _ => ?_) (fun h => absurd (by decide +kernel) h)
      refine lv_iconst (v := 1) hx hb dL_law_2464 (by decide +kernel) ?_
      refine va_forget (fun q hq => hAq _ (hS.2.2 q hq)) ?_
      refine W.widen (k := 600002) (n := 7302232) (by decide +kernel) (by decide +kernel) ?_
      exact lw_ret hx hb hr hlk dL_law_2465
    · exact absurd c800220 (by decide +kernel)
    · exact absurd c800224 (by decide +kernel)
    · exact absurd c800228 (by decide +kernel)
  · subst c800022
    have hP : va_P D vwCl [(n3900, .inr (12, [.ref n3000, .ref n3001, .ref n3002, .ref n3003, .int 0, .ref n3004, .int 0, .int 0, .int 0, .int 0, .int 0, .int 0, .int 0, .int 0, .int 0, .int (-1), .int 0, .ref n3005, .ref n3006, .int 0, .ref n3007, .ref n3008, .int 0, .int 0, .int 0, .int 0, .int 0, .int 0, .int 0, .ref n3009, .ref n3010, .int 0, .int 0, .ref n3011, .ref n3012, .int 0, .int 0, .ref n3013, .ref n3014, .ref n3015, .int 0, .ref n3016, .ref n3017, .ref n3018])), (n3000, .inl (cy 1, 1300, .inl (fun _ => 0))), (n5000, .inl (cy 2, 1, .inr (.inl (vp_updL (fun _ => 0) 0 (-1)))))] H := hP
    have hD : va_D A [(n3900, .inr (12, [.ref n3000, .ref n3001, .ref n3002, .ref n3003, .int 0, .ref n3004, .int 0, .int 0, .int 0, .int 0, .int 0, .int 0, .int 0, .int 0, .int 0, .int (-1), .int 0, .ref n3005, .ref n3006, .int 0, .ref n3007, .ref n3008, .int 0, .int 0, .int 0, .int 0, .int 0, .int 0, .int 0, .ref n3009, .ref n3010, .int 0, .int 0, .ref n3011, .ref n3012, .int 0, .int 0, .ref n3013, .ref n3014, .ref n3015, .int 0, .ref n3016, .ref n3017, .ref n3018])), (n3000, .inl (cy 1, 1300, .inl (fun _ => 0))), (n5000, .inl (cy 2, 1, .inr (.inl (vp_updL (fun _ => 0) 0 (-1)))))] := hD
    refine lv_istore (lv' := [(5, .int 0), (4, .int 0), (3, .ref n5000), (2, .ref n3900), (1, .ref n1900), (0, .ref b)]) hx hb dL_law_1543 hl (by decide +kernel) rfl (fun ls hl => ?_)
    refine lv_aload_n hx hb dL_law_1545 rfl (lv_at hl 3 rfl) ?_
    refine lv_aload_n hx hb dL_law_1546 rfl (lv_at hl 5 rfl) ?_
    refine lv_iload hx hb dL_law_1547 (lv_at hl 1 rfl) ?_
    refine lv_iconst (v := 1) hx hb dL_law_1549 (by decide +kernel) ?_
    refine lv_iadd hx hb dL_law_1550 ?_
    refine top_i (v := 1) (by decide +kernel) ?_
    refine va_sld hx hb hX hbl hbA hS (i := 1) (vin (by decide +kernel)) dL_law_1551 ?_
    refine top_i (v := 13) ez1 ?_
    refine call_i (av := [.ref n3900, .int 13]) F hP hD hS [(n3900, .inr (12, [.ref n3000, .ref n3001, .ref n3002, .ref n3003, .int 0, .ref n3004, .int 0, .int 0, .int 0, .int 0, .int 0, .int 0, .int 0, .int 0, .int 0, .int (-1), .int 0, .ref n3005, .ref n3006, .int 0, .ref n3007, .ref n3008, .int 0, .int 0, .int 0, .int 0, .int 0, .int 0, .int 0, .ref n3009, .ref n3010, .int 0, .int 0, .ref n3011, .ref n3012, .int 0, .int 0, .ref n3013, .ref n3014, .ref n3015, .int 0, .ref n3016, .ref n3017, .ref n3018])), (n3000, .inl (cy 1, 1300, .inl (fun _ => 0)))] [(n5000, .inl (cy 2, 1, .inr (.inl (vp_updL (fun _ => 0) 0 (-1)))))] [0, 1] [2] rfl rfl (by decide +kernel) (fun pr => va_runV (As := [.int 13]) (rest := []) ⟨hx, hb, hml, hown, hts⟩ (k239_X12_calm l D cy H.size n3900 13 n3000 n3001 n3002 n3003 n3004 n3005 n3006 n3007 n3008 n3009 n3010 n3011 n3012 n3013 n3014 n3015 n3016 n3017 n3018) (cwV 1 hts gw_X12_calm rfl rfl rfl (by decide +kernel) ⟨(by decide +kernel), (by decide +kernel)⟩) ⟨pr.1, va_recv hK hP (ci := 12) (q0 := 0) rfl rfl, pr.2⟩ rfl rfl hl.1 rfl (lv_room (Nat.le_of_ble_eq_true rfl)) dL_law_1552 ⟨(by decide +kernel), (by decide +kernel)⟩) (fun r u H locs hw hP hD hS => ?_)
    rcases hw with ⟨c800233, rfl, rfl⟩ | ⟨c800234, c800235, rfl, rfl⟩ | ⟨c800236, c800237, c800238, rfl, rfl⟩ | ⟨c800239, c800240, c800241, c800242, rfl, rfl⟩ | ⟨c800243, c800244, c800245, c800246, rfl, rfl⟩ | ⟨c800247, c800248, c800249, c800250, rfl, rfl⟩ | ⟨c800251, c800252, c800253, c800254, rfl, rfl⟩ | ⟨c800255, c800256, c800257, c800258, rfl, rfl⟩ | ⟨c800259, c800260, c800261, c800262, rfl, rfl⟩
    · exact absurd c800233 (by decide +kernel)
    · exact absurd c800235 (by decide +kernel)
    · exact absurd c800238 (by decide +kernel)
    · exact absurd c800242 (by decide +kernel)
    · exact absurd c800246 (by decide +kernel)
    · exact absurd c800250 (by decide +kernel)
    · have hP : va_P D vwCl [(n5000, .inl (cy 2, 1, .inr (.inl (vp_updL (fun _ => 0) 0 (-1))))), (n3000, .inl (cy 1, 1300, .inl (fun _ => 0))), (n3900, .inr (12, [.ref n3000, .ref n3001, .ref n3002, .ref n3003, .int 0, .ref n3004, .int 0, .int 0, .int 0, .int 0, .int 0, .int 0, .int 0, .int 0, .int 0, .int (-1), .int 0, .ref n3005, .ref n3006, .int 0, .ref n3007, .ref n3008, .int 0, .int 0, .int 0, .int 0, .int 0, .int 0, .int 0, .ref n3009, .ref n3010, .int 0, .int 1, .ref n3011, .ref n3012, .int 0, .int 0, .ref n3013, .ref n3014, .ref n3015, .int 0, .ref n3016, .ref n3017, .ref n3018]))] H := hP
      have hD : va_D A [(n5000, .inl (cy 2, 1, .inr (.inl (vp_updL (fun _ => 0) 0 (-1))))), (n3000, .inl (cy 1, 1300, .inl (fun _ => 0))), (n3900, .inr (12, [.ref n3000, .ref n3001, .ref n3002, .ref n3003, .int 0, .ref n3004, .int 0, .int 0, .int 0, .int 0, .int 0, .int 0, .int 0, .int 0, .int 0, .int (-1), .int 0, .ref n3005, .ref n3006, .int 0, .ref n3007, .ref n3008, .int 0, .int 0, .int 0, .int 0, .int 0, .int 0, .int 0, .ref n3009, .ref n3010, .int 0, .int 1, .ref n3011, .ref n3012, .int 0, .int 0, .ref n3013, .ref n3014, .ref n3015, .int 0, .ref n3016, .ref n3017, .ref n3018]))] := hD
      refine lv_istore (lv' := [(6, .int (-1)), (5, .int 0), (4, .int 0), (3, .ref n5000), (2, .ref n3900), (1, .ref n1900), (0, .ref b)]) hx hb dL_law_1555 hl (by decide +kernel) rfl (fun ls hl => ?_)
      refine lv_aload_n hx hb dL_law_1557 rfl (lv_at hl 4 rfl) ?_
      refine call_i (av := [.ref n3900]) F hP hD hS [(n3900, .inr (12, [.ref n3000, .ref n3001, .ref n3002, .ref n3003, .int 0, .ref n3004, .int 0, .int 0, .int 0, .int 0, .int 0, .int 0, .int 0, .int 0, .int 0, .int (-1), .int 0, .ref n3005, .ref n3006, .int 0, .ref n3007, .ref n3008, .int 0, .int 0, .int 0, .int 0, .int 0, .int 0, .int 0, .ref n3009, .ref n3010, .int 0, .int 1, .ref n3011, .ref n3012, .int 0, .int 0, .ref n3013, .ref n3014, .ref n3015, .int 0, .ref n3016, .ref n3017, .ref n3018]))] [(n5000, .inl (cy 2, 1, .inr (.inl (vp_updL (fun _ => 0) 0 (-1))))), (n3000, .inl (cy 1, 1300, .inl (fun _ => 0)))] [2] [0, 1] rfl rfl (by decide +kernel) (fun pr => va_runV (As := []) (rest := []) ⟨hx, hb, hml, hown, hts⟩ (k337_X12_thrown l D cy H.size n3900 n3000 n3001 n3002 n3003 n3004 n3005 n3006 n3007 n3008 n3009 n3010 n3011 n3012 n3013 n3014 n3015 n3016 n3017 n3018) (cwV 0 hts gw_X12_thrown rfl rfl rfl (by decide +kernel) ⟨(by decide +kernel), (by decide +kernel)⟩) ⟨pr.1, va_recv hK hP (ci := 12) (q0 := 2) rfl rfl, pr.2⟩ rfl rfl hl.1 rfl (lv_room (Nat.le_of_ble_eq_true rfl)) dL_law_1558 ⟨(by decide +kernel), (by decide +kernel)⟩) (fun r u H locs hw hP hD hS => ?_)
      rcases hw with ⟨rfl, rfl⟩
      have hP : va_P D vwCl [(n5000, .inl (cy 2, 1, .inr (.inl (vp_updL (fun _ => 0) 0 (-1))))), (n3000, .inl (cy 1, 1300, .inl (fun _ => 0))), (n3900, .inr (12, [.ref n3000, .ref n3001, .ref n3002, .ref n3003, .int 0, .ref n3004, .int 0, .int 0, .int 0, .int 0, .int 0, .int 0, .int 0, .int 0, .int 0, .int (-1), .int 0, .ref n3005, .ref n3006, .int 0, .ref n3007, .ref n3008, .int 0, .int 0, .int 0, .int 0, .int 0, .int 0, .int 0, .ref n3009, .ref n3010, .int 0, .int 1, .ref n3011, .ref n3012, .int 0, .int 0, .ref n3013, .ref n3014, .ref n3015, .int 0, .ref n3016, .ref n3017, .ref n3018]))] H := hP
      have hD : va_D A [(n5000, .inl (cy 2, 1, .inr (.inl (vp_updL (fun _ => 0) 0 (-1))))), (n3000, .inl (cy 1, 1300, .inl (fun _ => 0))), (n3900, .inr (12, [.ref n3000, .ref n3001, .ref n3002, .ref n3003, .int 0, .ref n3004, .int 0, .int 0, .int 0, .int 0, .int 0, .int 0, .int 0, .int 0, .int 0, .int (-1), .int 0, .ref n3005, .ref n3006, .int 0, .ref n3007, .ref n3008, .int 0, .int 0, .int 0, .int 0, .int 0, .int 0, .int 0, .ref n3009, .ref n3010, .int 0, .int 1, .ref n3011, .ref n3012, .int 0, .int 0, .ref n3013, .ref n3014, .ref n3015, .int 0, .ref n3016, .ref n3017, .ref n3018]))] := hD
      refine lv_iload hx hb dL_law_1561 (lv_at hl 1 rfl) ?_
      refine lv_icmp_eq (tgt := 1568) hx hb dL_law_1563 (by decide +kernel) (fun _ => ?_) (fun h => absurd (by decide +kernel) h)
      refine lv_iload hx hb dL_law_1568 (lv_at hl 1 rfl) ?_
      refine lv_if_ne (tgt := 1585) hx hb dL_law_1570 (by decide +kernel) (fun h => absurd (by decide +kernel) h) (fun _ => ?_)
      refine lv_aload_n hx hb dL_law_1573 rfl (lv_at hl 3 rfl) ?_
      refine lv_iconst (v := 0) hx hb dL_law_1574 (by decide +kernel) ?_
      refine va_lald hx hb hK hP 0 2 rfl rfl (i := 0) (vin (by decide +kernel)) dL_law_1575 ?_
      refine top_l (v := (-1)) (by decide +kernel) ?_
      refine lv_iload hx hb dL_law_1576 (lv_at hl 0 rfl) ?_
      refine lv_i2l (v := (-1)) hx hb dL_law_1578 (by decide +kernel) ?_
      refine W.lcmp hx hb dL_law_1579 ?_
      refine top_i (v := 0) (by decide +kernel) ?_
      refine lv_if_eq (tgt := 1585) hx hb dL_law_1580 (by decide +kernel) (fun _ => ?_) (fun h => absurd (by decide +kernel) h)
      refine lv_goto (tgt := 2458) hx hb dL_law_1585 (by decide +kernel) ?_
      refine lv_iinc (v := 6) (lv' := [(4, .int 6), (6, .int (-1)), (5, .int 0), (3, .ref n5000), (2, .ref n3900), (1, .ref n1900), (0, .ref b)]) hx hb dL_law_2458 hl (k := 2) rfl (by decide) (by decide +kernel) rfl (fun ls hl => ?_)
      refine lv_goto (tgt := 23) hx hb dL_law_2461 (by decide +kernel) ?_
      refine lv_iload hx hb dL_law_23 (lv_at hl 0 rfl) ?_
      refine lv_aload_n hx hb dL_law_25 rfl (lv_at hl 6 rfl) ?_
      refine va_slen hx hb hX hbl hbA hS dL_law_26 ?_
      refine top_i (v := 6) rfl ?_
      refine lv_bipush (v := 6) hx hb dL_law_27 (by decide +kernel) ?_
      refine lv_isub hx hb dL_law_29 ?_
      refine top_i (v := 0) (by decide +kernel) ?_
      refine lv_icmp_gt (tgt := 2464) hx hb dL_law_30 (by decide +kernel) (fun _ => ?_) (fun h => absurd (by decide +kernel) h)
      refine lv_iconst (v := 1) hx hb dL_law_2464 (by decide +kernel) ?_
      refine va_forget (fun q hq => hAq _ (hS.2.2 q hq)) ?_
      refine W.widen (k := 600002) (n := 7302232) (by decide +kernel) (by decide +kernel) ?_
      exact lw_ret hx hb hr hlk dL_law_2465
    · exact absurd c800258 (by decide +kernel)
    · exact absurd c800262 (by decide +kernel)
  · subst c800026
    have hP : va_P D vwCl [(n3900, .inr (12, [.ref n3000, .ref n3001, .ref n3002, .ref n3003, .int 0, .ref n3004, .int 0, .int 0, .int 0, .int 0, .int 0, .int 0, .int 0, .int 0, .int 0, .int (-1), .int 0, .ref n3005, .ref n3006, .int 0, .ref n3007, .ref n3008, .int 0, .int 0, .int 0, .int 0, .int 0, .int 0, .int 0, .ref n3009, .ref n3010, .int 0, .int 0, .ref n3011, .ref n3012, .int 0, .int 0, .ref n3013, .ref n3014, .ref n3015, .int 0, .ref n3016, .ref n3017, .ref n3018])), (n3000, .inl (cy 1, 1300, .inl (fun _ => 0))), (n5000, .inl (cy 2, 1, .inr (.inl (vp_updL (fun _ => 0) 0 (-1)))))] H := hP
    have hD : va_D A [(n3900, .inr (12, [.ref n3000, .ref n3001, .ref n3002, .ref n3003, .int 0, .ref n3004, .int 0, .int 0, .int 0, .int 0, .int 0, .int 0, .int 0, .int 0, .int 0, .int (-1), .int 0, .ref n3005, .ref n3006, .int 0, .ref n3007, .ref n3008, .int 0, .int 0, .int 0, .int 0, .int 0, .int 0, .int 0, .ref n3009, .ref n3010, .int 0, .int 0, .ref n3011, .ref n3012, .int 0, .int 0, .ref n3013, .ref n3014, .ref n3015, .int 0, .ref n3016, .ref n3017, .ref n3018])), (n3000, .inl (cy 1, 1300, .inl (fun _ => 0))), (n5000, .inl (cy 2, 1, .inr (.inl (vp_updL (fun _ => 0) 0 (-1)))))] := hD
    refine lv_istore (lv' := [(5, .int 0), (4, .int 0), (3, .ref n5000), (2, .ref n3900), (1, .ref n1900), (0, .ref b)]) hx hb dL_law_1543 hl (by decide +kernel) rfl (fun ls hl => ?_)
    refine lv_aload_n hx hb dL_law_1545 rfl (lv_at hl 3 rfl) ?_
    refine lv_aload_n hx hb dL_law_1546 rfl (lv_at hl 5 rfl) ?_
    refine lv_iload hx hb dL_law_1547 (lv_at hl 1 rfl) ?_
    refine lv_iconst (v := 1) hx hb dL_law_1549 (by decide +kernel) ?_
    refine lv_iadd hx hb dL_law_1550 ?_
    refine top_i (v := 1) (by decide +kernel) ?_
    refine va_sld hx hb hX hbl hbA hS (i := 1) (vin (by decide +kernel)) dL_law_1551 ?_
    refine top_i (v := 14) ez1 ?_
    refine call_i (av := [.ref n3900, .int 14]) F hP hD hS [(n3900, .inr (12, [.ref n3000, .ref n3001, .ref n3002, .ref n3003, .int 0, .ref n3004, .int 0, .int 0, .int 0, .int 0, .int 0, .int 0, .int 0, .int 0, .int 0, .int (-1), .int 0, .ref n3005, .ref n3006, .int 0, .ref n3007, .ref n3008, .int 0, .int 0, .int 0, .int 0, .int 0, .int 0, .int 0, .ref n3009, .ref n3010, .int 0, .int 0, .ref n3011, .ref n3012, .int 0, .int 0, .ref n3013, .ref n3014, .ref n3015, .int 0, .ref n3016, .ref n3017, .ref n3018])), (n3000, .inl (cy 1, 1300, .inl (fun _ => 0)))] [(n5000, .inl (cy 2, 1, .inr (.inl (vp_updL (fun _ => 0) 0 (-1)))))] [0, 1] [2] rfl rfl (by decide +kernel) (fun pr => va_runV (As := [.int 14]) (rest := []) ⟨hx, hb, hml, hown, hts⟩ (k239_X12_calm l D cy H.size n3900 14 n3000 n3001 n3002 n3003 n3004 n3005 n3006 n3007 n3008 n3009 n3010 n3011 n3012 n3013 n3014 n3015 n3016 n3017 n3018) (cwV 1 hts gw_X12_calm rfl rfl rfl (by decide +kernel) ⟨(by decide +kernel), (by decide +kernel)⟩) ⟨pr.1, va_recv hK hP (ci := 12) (q0 := 0) rfl rfl, pr.2⟩ rfl rfl hl.1 rfl (lv_room (Nat.le_of_ble_eq_true rfl)) dL_law_1552 ⟨(by decide +kernel), (by decide +kernel)⟩) (fun r u H locs hw hP hD hS => ?_)
    rcases hw with ⟨c800267, rfl, rfl⟩ | ⟨c800268, c800269, rfl, rfl⟩ | ⟨c800270, c800271, c800272, rfl, rfl⟩ | ⟨c800273, c800274, c800275, c800276, rfl, rfl⟩ | ⟨c800277, c800278, c800279, c800280, rfl, rfl⟩ | ⟨c800281, c800282, c800283, c800284, rfl, rfl⟩ | ⟨c800285, c800286, c800287, c800288, rfl, rfl⟩ | ⟨c800289, c800290, c800291, c800292, rfl, rfl⟩ | ⟨c800293, c800294, c800295, c800296, rfl, rfl⟩
    · exact absurd c800267 (by decide +kernel)
    · exact absurd c800269 (by decide +kernel)
    · exact absurd c800272 (by decide +kernel)
    · exact absurd c800276 (by decide +kernel)
    · exact absurd c800280 (by decide +kernel)
    · exact absurd c800284 (by decide +kernel)
    · exact absurd c800288 (by decide +kernel)
    · have hP : va_P D vwCl [(n5000, .inl (cy 2, 1, .inr (.inl (vp_updL (fun _ => 0) 0 (-1))))), (n3000, .inl (cy 1, 1300, .inl (fun _ => 0))), (n3900, .inr (12, [.ref n3000, .ref n3001, .ref n3002, .ref n3003, .int 0, .ref n3004, .int 0, .int 0, .int 0, .int 0, .int 0, .int 0, .int 0, .int 0, .int 0, .int (-1), .int 0, .ref n3005, .ref n3006, .int 0, .ref n3007, .ref n3008, .int 0, .int 0, .int 0, .int 0, .int 0, .int 0, .int 0, .ref n3009, .ref n3010, .int 0, .int 1, .ref n3011, .ref n3012, .int 0, .int 0, .ref n3013, .ref n3014, .ref n3015, .int 0, .ref n3016, .ref n3017, .ref n3018]))] H := hP
      have hD : va_D A [(n5000, .inl (cy 2, 1, .inr (.inl (vp_updL (fun _ => 0) 0 (-1))))), (n3000, .inl (cy 1, 1300, .inl (fun _ => 0))), (n3900, .inr (12, [.ref n3000, .ref n3001, .ref n3002, .ref n3003, .int 0, .ref n3004, .int 0, .int 0, .int 0, .int 0, .int 0, .int 0, .int 0, .int 0, .int 0, .int (-1), .int 0, .ref n3005, .ref n3006, .int 0, .ref n3007, .ref n3008, .int 0, .int 0, .int 0, .int 0, .int 0, .int 0, .int 0, .ref n3009, .ref n3010, .int 0, .int 1, .ref n3011, .ref n3012, .int 0, .int 0, .ref n3013, .ref n3014, .ref n3015, .int 0, .ref n3016, .ref n3017, .ref n3018]))] := hD
      refine lv_istore (lv' := [(6, .int (-1)), (5, .int 0), (4, .int 0), (3, .ref n5000), (2, .ref n3900), (1, .ref n1900), (0, .ref b)]) hx hb dL_law_1555 hl (by decide +kernel) rfl (fun ls hl => ?_)
      refine lv_aload_n hx hb dL_law_1557 rfl (lv_at hl 4 rfl) ?_
      refine call_i (av := [.ref n3900]) F hP hD hS [(n3900, .inr (12, [.ref n3000, .ref n3001, .ref n3002, .ref n3003, .int 0, .ref n3004, .int 0, .int 0, .int 0, .int 0, .int 0, .int 0, .int 0, .int 0, .int 0, .int (-1), .int 0, .ref n3005, .ref n3006, .int 0, .ref n3007, .ref n3008, .int 0, .int 0, .int 0, .int 0, .int 0, .int 0, .int 0, .ref n3009, .ref n3010, .int 0, .int 1, .ref n3011, .ref n3012, .int 0, .int 0, .ref n3013, .ref n3014, .ref n3015, .int 0, .ref n3016, .ref n3017, .ref n3018]))] [(n5000, .inl (cy 2, 1, .inr (.inl (vp_updL (fun _ => 0) 0 (-1))))), (n3000, .inl (cy 1, 1300, .inl (fun _ => 0)))] [2] [0, 1] rfl rfl (by decide +kernel) (fun pr => va_runV (As := []) (rest := []) ⟨hx, hb, hml, hown, hts⟩ (k337_X12_thrown l D cy H.size n3900 n3000 n3001 n3002 n3003 n3004 n3005 n3006 n3007 n3008 n3009 n3010 n3011 n3012 n3013 n3014 n3015 n3016 n3017 n3018) (cwV 0 hts gw_X12_thrown rfl rfl rfl (by decide +kernel) ⟨(by decide +kernel), (by decide +kernel)⟩) ⟨pr.1, va_recv hK hP (ci := 12) (q0 := 2) rfl rfl, pr.2⟩ rfl rfl hl.1 rfl (lv_room (Nat.le_of_ble_eq_true rfl)) dL_law_1558 ⟨(by decide +kernel), (by decide +kernel)⟩) (fun r u H locs hw hP hD hS => ?_)
      rcases hw with ⟨rfl, rfl⟩
      have hP : va_P D vwCl [(n5000, .inl (cy 2, 1, .inr (.inl (vp_updL (fun _ => 0) 0 (-1))))), (n3000, .inl (cy 1, 1300, .inl (fun _ => 0))), (n3900, .inr (12, [.ref n3000, .ref n3001, .ref n3002, .ref n3003, .int 0, .ref n3004, .int 0, .int 0, .int 0, .int 0, .int 0, .int 0, .int 0, .int 0, .int 0, .int (-1), .int 0, .ref n3005, .ref n3006, .int 0, .ref n3007, .ref n3008, .int 0, .int 0, .int 0, .int 0, .int 0, .int 0, .int 0, .ref n3009, .ref n3010, .int 0, .int 1, .ref n3011, .ref n3012, .int 0, .int 0, .ref n3013, .ref n3014, .ref n3015, .int 0, .ref n3016, .ref n3017, .ref n3018]))] H := hP
      have hD : va_D A [(n5000, .inl (cy 2, 1, .inr (.inl (vp_updL (fun _ => 0) 0 (-1))))), (n3000, .inl (cy 1, 1300, .inl (fun _ => 0))), (n3900, .inr (12, [.ref n3000, .ref n3001, .ref n3002, .ref n3003, .int 0, .ref n3004, .int 0, .int 0, .int 0, .int 0, .int 0, .int 0, .int 0, .int 0, .int 0, .int (-1), .int 0, .ref n3005, .ref n3006, .int 0, .ref n3007, .ref n3008, .int 0, .int 0, .int 0, .int 0, .int 0, .int 0, .int 0, .ref n3009, .ref n3010, .int 0, .int 1, .ref n3011, .ref n3012, .int 0, .int 0, .ref n3013, .ref n3014, .ref n3015, .int 0, .ref n3016, .ref n3017, .ref n3018]))] := hD
      refine lv_iload hx hb dL_law_1561 (lv_at hl 1 rfl) ?_
      refine lv_icmp_eq (tgt := 1568) hx hb dL_law_1563 (by decide +kernel) (fun _ => ?_) (fun h => absurd (by decide +kernel) h)
      refine lv_iload hx hb dL_law_1568 (lv_at hl 1 rfl) ?_
      refine lv_if_ne (tgt := 1585) hx hb dL_law_1570 (by decide +kernel) (fun h => absurd (by decide +kernel) h) (fun _ => ?_)
      refine lv_aload_n hx hb dL_law_1573 rfl (lv_at hl 3 rfl) ?_
      refine lv_iconst (v := 0) hx hb dL_law_1574 (by decide +kernel) ?_
      refine va_lald hx hb hK hP 0 2 rfl rfl (i := 0) (vin (by decide +kernel)) dL_law_1575 ?_
      refine top_l (v := (-1)) (by decide +kernel) ?_
      refine lv_iload hx hb dL_law_1576 (lv_at hl 0 rfl) ?_
      refine lv_i2l (v := (-1)) hx hb dL_law_1578 (by decide +kernel) ?_
      refine W.lcmp hx hb dL_law_1579 ?_
      refine top_i (v := 0) (by decide +kernel) ?_
      refine lv_if_eq (tgt := 1585) hx hb dL_law_1580 (by decide +kernel) (fun _ => ?_) (fun h => absurd (by decide +kernel) h)
      refine lv_goto (tgt := 2458) hx hb dL_law_1585 (by decide +kernel) ?_
      refine lv_iinc (v := 6) (lv' := [(4, .int 6), (6, .int (-1)), (5, .int 0), (3, .ref n5000), (2, .ref n3900), (1, .ref n1900), (0, .ref b)]) hx hb dL_law_2458 hl (k := 2) rfl (by decide) (by decide +kernel) rfl (fun ls hl => ?_)
      refine lv_goto (tgt := 23) hx hb dL_law_2461 (by decide +kernel) ?_
      refine lv_iload hx hb dL_law_23 (lv_at hl 0 rfl) ?_
      refine lv_aload_n hx hb dL_law_25 rfl (lv_at hl 6 rfl) ?_
      refine va_slen hx hb hX hbl hbA hS dL_law_26 ?_
      refine top_i (v := 6) rfl ?_
      refine lv_bipush (v := 6) hx hb dL_law_27 (by decide +kernel) ?_
      refine lv_isub hx hb dL_law_29 ?_
      refine top_i (v := 0) (by decide +kernel) ?_
      refine lv_icmp_gt (tgt := 2464) hx hb dL_law_30 (by decide +kernel) (fun _ => ?_) (fun h => absurd (by decide +kernel) h)
      refine lv_iconst (v := 1) hx hb dL_law_2464 (by decide +kernel) ?_
      refine va_forget (fun q hq => hAq _ (hS.2.2 q hq)) ?_
      refine W.widen (k := 600002) (n := 7302232) (by decide +kernel) (by decide +kernel) ?_
      exact lw_ret hx hb hr hlk dL_law_2465
    · exact absurd c800296 (by decide +kernel)
  · subst c800030
    have hP : va_P D vwCl [(n3900, .inr (12, [.ref n3000, .ref n3001, .ref n3002, .ref n3003, .int 0, .ref n3004, .int 0, .int 0, .int 0, .int 0, .int 0, .int 0, .int 0, .int 0, .int 0, .int (-1), .int 0, .ref n3005, .ref n3006, .int 0, .ref n3007, .ref n3008, .int 0, .int 0, .int 0, .int 0, .int 0, .int 0, .int 0, .ref n3009, .ref n3010, .int 0, .int 0, .ref n3011, .ref n3012, .int 0, .int 0, .ref n3013, .ref n3014, .ref n3015, .int 0, .ref n3016, .ref n3017, .ref n3018])), (n3000, .inl (cy 1, 1300, .inl (fun _ => 0))), (n5000, .inl (cy 2, 1, .inr (.inl (vp_updL (fun _ => 0) 0 (-1)))))] H := hP
    have hD : va_D A [(n3900, .inr (12, [.ref n3000, .ref n3001, .ref n3002, .ref n3003, .int 0, .ref n3004, .int 0, .int 0, .int 0, .int 0, .int 0, .int 0, .int 0, .int 0, .int 0, .int (-1), .int 0, .ref n3005, .ref n3006, .int 0, .ref n3007, .ref n3008, .int 0, .int 0, .int 0, .int 0, .int 0, .int 0, .int 0, .ref n3009, .ref n3010, .int 0, .int 0, .ref n3011, .ref n3012, .int 0, .int 0, .ref n3013, .ref n3014, .ref n3015, .int 0, .ref n3016, .ref n3017, .ref n3018])), (n3000, .inl (cy 1, 1300, .inl (fun _ => 0))), (n5000, .inl (cy 2, 1, .inr (.inl (vp_updL (fun _ => 0) 0 (-1)))))] := hD
    refine lv_istore (lv' := [(5, .int 0), (4, .int 0), (3, .ref n5000), (2, .ref n3900), (1, .ref n1900), (0, .ref b)]) hx hb dL_law_1543 hl (by decide +kernel) rfl (fun ls hl => ?_)
    refine lv_aload_n hx hb dL_law_1545 rfl (lv_at hl 3 rfl) ?_
    refine lv_aload_n hx hb dL_law_1546 rfl (lv_at hl 5 rfl) ?_
    refine lv_iload hx hb dL_law_1547 (lv_at hl 1 rfl) ?_
    refine lv_iconst (v := 1) hx hb dL_law_1549 (by decide +kernel) ?_
    refine lv_iadd hx hb dL_law_1550 ?_
    refine top_i (v := 1) (by decide +kernel) ?_
    refine va_sld hx hb hX hbl hbA hS (i := 1) (vin (by decide +kernel)) dL_law_1551 ?_
    refine top_i (v := 15) ez1 ?_
    refine call_i (av := [.ref n3900, .int 15]) F hP hD hS [(n3900, .inr (12, [.ref n3000, .ref n3001, .ref n3002, .ref n3003, .int 0, .ref n3004, .int 0, .int 0, .int 0, .int 0, .int 0, .int 0, .int 0, .int 0, .int 0, .int (-1), .int 0, .ref n3005, .ref n3006, .int 0, .ref n3007, .ref n3008, .int 0, .int 0, .int 0, .int 0, .int 0, .int 0, .int 0, .ref n3009, .ref n3010, .int 0, .int 0, .ref n3011, .ref n3012, .int 0, .int 0, .ref n3013, .ref n3014, .ref n3015, .int 0, .ref n3016, .ref n3017, .ref n3018])), (n3000, .inl (cy 1, 1300, .inl (fun _ => 0)))] [(n5000, .inl (cy 2, 1, .inr (.inl (vp_updL (fun _ => 0) 0 (-1)))))] [0, 1] [2] rfl rfl (by decide +kernel) (fun pr => va_runV (As := [.int 15]) (rest := []) ⟨hx, hb, hml, hown, hts⟩ (k239_X12_calm l D cy H.size n3900 15 n3000 n3001 n3002 n3003 n3004 n3005 n3006 n3007 n3008 n3009 n3010 n3011 n3012 n3013 n3014 n3015 n3016 n3017 n3018) (cwV 1 hts gw_X12_calm rfl rfl rfl (by decide +kernel) ⟨(by decide +kernel), (by decide +kernel)⟩) ⟨pr.1, va_recv hK hP (ci := 12) (q0 := 0) rfl rfl, pr.2⟩ rfl rfl hl.1 rfl (lv_room (Nat.le_of_ble_eq_true rfl)) dL_law_1552 ⟨(by decide +kernel), (by decide +kernel)⟩) (fun r u H locs hw hP hD hS => ?_)
    rcases hw with ⟨c800301, rfl, rfl⟩ | ⟨c800302, c800303, rfl, rfl⟩ | ⟨c800304, c800305, c800306, rfl, rfl⟩ | ⟨c800307, c800308, c800309, c800310, rfl, rfl⟩ | ⟨c800311, c800312, c800313, c800314, rfl, rfl⟩ | ⟨c800315, c800316, c800317, c800318, rfl, rfl⟩ | ⟨c800319, c800320, c800321, c800322, rfl, rfl⟩ | ⟨c800323, c800324, c800325, c800326, rfl, rfl⟩ | ⟨c800327, c800328, c800329, c800330, rfl, rfl⟩
    · exact absurd c800301 (by decide +kernel)
    · exact absurd c800303 (by decide +kernel)
    · exact absurd c800306 (by decide +kernel)
    · exact absurd c800310 (by decide +kernel)
    · exact absurd c800314 (by decide +kernel)
    · exact absurd c800318 (by decide +kernel)
    · exact absurd c800322 (by decide +kernel)
    · exact absurd c800326 (by decide +kernel)
    · have hP : va_P D vwCl [(n5000, .inl (cy 2, 1, .inr (.inl (vp_updL (fun _ => 0) 0 (-1))))), (n3000, .inl (cy 1, 1300, .inl (fun _ => 0))), (n3900, .inr (12, [.ref n3000, .ref n3001, .ref n3002, .ref n3003, .int 0, .ref n3004, .int 0, .int 0, .int 0, .int 0, .int 0, .int 0, .int 0, .int 0, .int 0, .int (-1), .int 0, .ref n3005, .ref n3006, .int 0, .ref n3007, .ref n3008, .int 0, .int 0, .int 0, .int 0, .int 0, .int 0, .int 0, .ref n3009, .ref n3010, .int 0, .int 1, .ref n3011, .ref n3012, .int 0, .int 0, .ref n3013, .ref n3014, .ref n3015, .int 0, .ref n3016, .ref n3017, .ref n3018]))] H := hP
      have hD : va_D A [(n5000, .inl (cy 2, 1, .inr (.inl (vp_updL (fun _ => 0) 0 (-1))))), (n3000, .inl (cy 1, 1300, .inl (fun _ => 0))), (n3900, .inr (12, [.ref n3000, .ref n3001, .ref n3002, .ref n3003, .int 0, .ref n3004, .int 0, .int 0, .int 0, .int 0, .int 0, .int 0, .int 0, .int 0, .int 0, .int (-1), .int 0, .ref n3005, .ref n3006, .int 0, .ref n3007, .ref n3008, .int 0, .int 0, .int 0, .int 0, .int 0, .int 0, .int 0, .ref n3009, .ref n3010, .int 0, .int 1, .ref n3011, .ref n3012, .int 0, .int 0, .ref n3013, .ref n3014, .ref n3015, .int 0, .ref n3016, .ref n3017, .ref n3018]))] := hD
      refine lv_istore (lv' := [(6, .int (-1)), (5, .int 0), (4, .int 0), (3, .ref n5000), (2, .ref n3900), (1, .ref n1900), (0, .ref b)]) hx hb dL_law_1555 hl (by decide +kernel) rfl (fun ls hl => ?_)
      refine lv_aload_n hx hb dL_law_1557 rfl (lv_at hl 4 rfl) ?_
      refine call_i (av := [.ref n3900]) F hP hD hS [(n3900, .inr (12, [.ref n3000, .ref n3001, .ref n3002, .ref n3003, .int 0, .ref n3004, .int 0, .int 0, .int 0, .int 0, .int 0, .int 0, .int 0, .int 0, .int 0, .int (-1), .int 0, .ref n3005, .ref n3006, .int 0, .ref n3007, .ref n3008, .int 0, .int 0, .int 0, .int 0, .int 0, .int 0, .int 0, .ref n3009, .ref n3010, .int 0, .int 1, .ref n3011, .ref n3012, .int 0, .int 0, .ref n3013, .ref n3014, .ref n3015, .int 0, .ref n3016, .ref n3017, .ref n3018]))] [(n5000, .inl (cy 2, 1, .inr (.inl (vp_updL (fun _ => 0) 0 (-1))))), (n3000, .inl (cy 1, 1300, .inl (fun _ => 0)))] [2] [0, 1] rfl rfl (by decide +kernel) (fun pr => va_runV (As := []) (rest := []) ⟨hx, hb, hml, hown, hts⟩ (k337_X12_thrown l D cy H.size n3900 n3000 n3001 n3002 n3003 n3004 n3005 n3006 n3007 n3008 n3009 n3010 n3011 n3012 n3013 n3014 n3015 n3016 n3017 n3018) (cwV 0 hts gw_X12_thrown rfl rfl rfl (by decide +kernel) ⟨(by decide +kernel), (by decide +kernel)⟩) ⟨pr.1, va_recv hK hP (ci := 12) (q0 := 2) rfl rfl, pr.2⟩ rfl rfl hl.1 rfl (lv_room (Nat.le_of_ble_eq_true rfl)) dL_law_1558 ⟨(by decide +kernel), (by decide +kernel)⟩) (fun r u H locs hw hP hD hS => ?_)
      rcases hw with ⟨rfl, rfl⟩
      have hP : va_P D vwCl [(n5000, .inl (cy 2, 1, .inr (.inl (vp_updL (fun _ => 0) 0 (-1))))), (n3000, .inl (cy 1, 1300, .inl (fun _ => 0))), (n3900, .inr (12, [.ref n3000, .ref n3001, .ref n3002, .ref n3003, .int 0, .ref n3004, .int 0, .int 0, .int 0, .int 0, .int 0, .int 0, .int 0, .int 0, .int 0, .int (-1), .int 0, .ref n3005, .ref n3006, .int 0, .ref n3007, .ref n3008, .int 0, .int 0, .int 0, .int 0, .int 0, .int 0, .int 0, .ref n3009, .ref n3010, .int 0, .int 1, .ref n3011, .ref n3012, .int 0, .int 0, .ref n3013, .ref n3014, .ref n3015, .int 0, .ref n3016, .ref n3017, .ref n3018]))] H := hP
      have hD : va_D A [(n5000, .inl (cy 2, 1, .inr (.inl (vp_updL (fun _ => 0) 0 (-1))))), (n3000, .inl (cy 1, 1300, .inl (fun _ => 0))), (n3900, .inr (12, [.ref n3000, .ref n3001, .ref n3002, .ref n3003, .int 0, .ref n3004, .int 0, .int 0, .int 0, .int 0, .int 0, .int 0, .int 0, .int 0, .int 0, .int (-1), .int 0, .ref n3005, .ref n3006, .int 0, .ref n3007, .ref n3008, .int 0, .int 0, .int 0, .int 0, .int 0, .int 0, .int 0, .ref n3009, .ref n3010, .int 0, .int 1, .ref n3011, .ref n3012, .int 0, .int 0, .ref n3013, .ref n3014, .ref n3015, .int 0, .ref n3016, .ref n3017, .ref n3018]))] := hD
      refine lv_iload hx hb dL_law_1561 (lv_at hl 1 rfl) ?_
      refine lv_icmp_eq (tgt := 1568) hx hb dL_law_1563 (by decide +kernel) (fun _ => ?_) (fun h => absurd (by decide +kernel) h)
      refine lv_iload hx hb dL_law_1568 (lv_at hl 1 rfl) ?_
      refine lv_if_ne (tgt := 1585) hx hb dL_law_1570 (by decide +kernel) (fun h => absurd (by decide +kernel) h) (fun _ => ?_)
      refine lv_aload_n hx hb dL_law_1573 rfl (lv_at hl 3 rfl) ?_
      refine lv_iconst (v := 0) hx hb dL_law_1574 (by decide +kernel) ?_
      refine va_lald hx hb hK hP 0 2 rfl rfl (i := 0) (vin (by decide +kernel)) dL_law_1575 ?_
      refine top_l (v := (-1)) (by decide +kernel) ?_
      refine lv_iload hx hb dL_law_1576 (lv_at hl 0 rfl) ?_
      refine lv_i2l (v := (-1)) hx hb dL_law_1578 (by decide +kernel) ?_
      refine W.lcmp hx hb dL_law_1579 ?_
      refine top_i (v := 0) (by decide +kernel) ?_
      refine lv_if_eq (tgt := 1585) hx hb dL_law_1580 (by decide +kernel) (fun _ => ?_) (fun h => absurd (by decide +kernel) h)
      refine lv_goto (tgt := 2458) hx hb dL_law_1585 (by decide +kernel) ?_
      refine lv_iinc (v := 6) (lv' := [(4, .int 6), (6, .int (-1)), (5, .int 0), (3, .ref n5000), (2, .ref n3900), (1, .ref n1900), (0, .ref b)]) hx hb dL_law_2458 hl (k := 2) rfl (by decide) (by decide +kernel) rfl (fun ls hl => ?_)
      refine lv_goto (tgt := 23) hx hb dL_law_2461 (by decide +kernel) ?_
      refine lv_iload hx hb dL_law_23 (lv_at hl 0 rfl) ?_
      refine lv_aload_n hx hb dL_law_25 rfl (lv_at hl 6 rfl) ?_
      refine va_slen hx hb hX hbl hbA hS dL_law_26 ?_
      refine top_i (v := 6) rfl ?_
      refine lv_bipush (v := 6) hx hb dL_law_27 (by decide +kernel) ?_
      refine lv_isub hx hb dL_law_29 ?_
      refine top_i (v := 0) (by decide +kernel) ?_
      refine lv_icmp_gt (tgt := 2464) hx hb dL_law_30 (by decide +kernel) (fun _ => ?_) (fun h => absurd (by decide +kernel) h)
      refine lv_iconst (v := 1) hx hb dL_law_2464 (by decide +kernel) ?_
      refine va_forget (fun q hq => hAq _ (hS.2.2 q hq)) ?_
      refine W.widen (k := 600002) (n := 7302232) (by decide +kernel) (by decide +kernel) ?_
      exact lw_ret hx hb hr hlk dL_law_2465
