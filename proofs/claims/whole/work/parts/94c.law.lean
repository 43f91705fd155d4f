set_option maxRecDepth 20000 in
set_option maxHeartbeats 4000000 in
theorem law_dim {G : Cx} {P : Option Value → Hp → Prop} {n k : Nat} {σ : ST} {μ : Hp} (hL : 5 * n + 5 ≤ cL G) (hL2 : cL G ≤ 2560) (hn : n < 8192) (h : Cl σ μ) (h9 : Mo σ μ) (hs : Ws n σ) (nx : Nx G P n k) : V G M_L_law 17 (41 * k + 41) (2870 * k + 2870) P 1334 (lawL n) [] μ := by
  refine v_aload_n 2 dL_law_1334 rfl rfl ?_
  refine v_aload_n 3 dL_law_1335 rfl rfl ?_
  refine v_iload_n 0 dL_law_1336 rfl rfl ?_
  refine v_iconst (v := 1) dL_law_1337 (by first | rfl | decide) ?_
  refine v_iadd dL_law_1338 ?_
  refine v_roi (ro_script G) dL_law_1339 (ix_in (a := 5 * n) (b := 1) (by omega) (by omega)) (by omega) ?_
  refine v_aload_n 3 dL_law_1340 rfl rfl ?_
  refine v_iload_n 0 dL_law_1341 rfl rfl ?_
  refine v_iconst (v := 2) dL_law_1342 (by first | rfl | decide) ?_
  refine v_iadd dL_law_1343 ?_
  refine v_roi (ro_script G) dL_law_1344 (ix_in (a := 5 * n) (b := 2) (by omega) (by omega)) (by omega) ?_
  refine v_callV (mc := 41 * k + 41) (ms := 2870 * k + 2870) (c_X6_dim 13 h hs.1.1.1 hn hs.1.2.1) cs_L_155 dL_law_1345 h.1 rfl rfl (Nat.le_of_ble_eq_true rfl) ?_
  rintro _ m1 ⟨rfl, h1, f1⟩
  have h9b := h9.fo f1
  obtain ⟨fs9, h60⟩ := h9b.c60
  refine v_aload_n 1 dL_law_1348 rfl rfl ?_
  refine v_aload_n 3 dL_law_1349 rfl rfl ?_
  refine v_iload_n 0 dL_law_1350 rfl rfl ?_
  refine v_iconst (v := 1) dL_law_1351 (by first | rfl | decide) ?_
  refine v_iadd dL_law_1352 ?_
  refine v_roi (ro_script G) dL_law_1353 (ix_in (a := 5 * n) (b := 1) (by omega) (by omega)) (by omega) ?_
  refine v_aload_n 3 dL_law_1354 rfl rfl ?_
  refine v_iload_n 0 dL_law_1355 rfl rfl ?_
  refine v_iconst (v := 2) dL_law_1356 (by first | rfl | decide) ?_
  refine v_iadd dL_law_1357 ?_
  refine v_roi (ro_script G) dL_law_1358 (ix_in (a := 5 * n) (b := 2) (by omega) (by omega)) (by omega) ?_
  refine v_callV (mc := 41 * k + 41) (ms := 2870 * k + 2870) (c_X7_dim 13 h9b hs.1.1.1 hn hs.1.2.1) cs_L_158 dL_law_1359 h60 rfl rfl (Nat.le_of_ble_eq_true rfl) ?_
  rintro _ m2 ⟨rfl, h2, f2⟩
  refine v_icmp_eq (tgt := 1753) dL_law_1362 (by decide) (fun _ => ?_) (fun z9 => absurd rfl z9)
  refine v_bud (mc1 := 41 * k) (ms1 := 2870 * k) (by omega) (by omega) ?_
  exact nx _ _ (h1.fp f2) h2 ((ws_dim hs hn _ _).mono (Nat.le_succ n))

set_option maxRecDepth 20000 in
set_option maxHeartbeats 4000000 in
theorem law_film {G : Cx} {P : Option Value → Hp → Prop} {n k : Nat} {σ : ST} {μ : Hp} (hL : 5 * n + 5 ≤ cL G) (hL2 : cL G ≤ 2560) (hn : n < 8192) (h : Cl σ μ) (h9 : Mo σ μ) (hs : Ws n σ) (nx : Nx G P n k) : V G M_L_law 17 (41 * k + 41) (2870 * k + 2870) P 1367 (lawL n) [] μ := by
  refine v_aload_n 2 dL_law_1367 rfl rfl ?_
  refine v_aload_n 3 dL_law_1368 rfl rfl ?_
  refine v_iload_n 0 dL_law_1369 rfl rfl ?_
  refine v_iconst (v := 1) dL_law_1370 (by first | rfl | decide) ?_
  refine v_iadd dL_law_1371 ?_
  refine v_roi (ro_script G) dL_law_1372 (ix_in (a := 5 * n) (b := 1) (by omega) (by omega)) (by omega) ?_
  refine v_aload_n 3 dL_law_1373 rfl rfl ?_
  refine v_iload_n 0 dL_law_1374 rfl rfl ?_
  refine v_iconst (v := 2) dL_law_1375 (by first | rfl | decide) ?_
  refine v_iadd dL_law_1376 ?_
  refine v_roi (ro_script G) dL_law_1377 (ix_in (a := 5 * n) (b := 2) (by omega) (by omega)) (by omega) ?_
  refine v_callV (mc := 41 * k + 41) (ms := 2870 * k + 2870) (c_X6_film 10 h hs.1.1.1 hn hs.1.2.1 hs.1.1.2) cs_L_159 dL_law_1378 h.1 rfl rfl (Nat.le_of_ble_eq_true rfl) ?_
  rintro _ m1 ⟨rfl, h1, f1⟩
  have h9b := h9.fo f1
  obtain ⟨fs9, h60⟩ := h9b.c60
  refine v_aload_n 1 dL_law_1381 rfl rfl ?_
  refine v_aload_n 3 dL_law_1382 rfl rfl ?_
  refine v_iload_n 0 dL_law_1383 rfl rfl ?_
  refine v_iconst (v := 1) dL_law_1384 (by first | rfl | decide) ?_
  refine v_iadd dL_law_1385 ?_
  refine v_roi (ro_script G) dL_law_1386 (ix_in (a := 5 * n) (b := 1) (by omega) (by omega)) (by omega) ?_
  refine v_aload_n 3 dL_law_1387 rfl rfl ?_
  refine v_iload_n 0 dL_law_1388 rfl rfl ?_
  refine v_iconst (v := 2) dL_law_1389 (by first | rfl | decide) ?_
  refine v_iadd dL_law_1390 ?_
  refine v_roi (ro_script G) dL_law_1391 (ix_in (a := 5 * n) (b := 2) (by omega) (by omega)) (by omega) ?_
  refine v_callV (mc := 41 * k + 41) (ms := 2870 * k + 2870) (c_X7_film 10 h9b hs.1.1.1 hn hs.1.2.1 hs.1.1.2) cs_L_162 dL_law_1392 h60 rfl rfl (Nat.le_of_ble_eq_true rfl) ?_
  rintro _ m2 ⟨rfl, h2, f2⟩
  refine v_icmp_eq (tgt := 1753) dL_law_1395 (by decide) (fun _ => ?_) (fun z9 => absurd rfl z9)
  refine v_bud (mc1 := 41 * k) (ms1 := 2870 * k) (by omega) (by omega) ?_
  exact nx _ _ (h1.fp f2) h2 (hs.mono (Nat.le_succ n))

set_option maxRecDepth 20000 in
set_option maxHeartbeats 4000000 in
theorem law_sumFilm {G : Cx} {P : Option Value → Hp → Prop} {n k : Nat} {σ : ST} {μ : Hp} (hL : 5 * n + 5 ≤ cL G) (hL2 : cL G ≤ 2560) (hn : n < 8192) (h : Cl σ μ) (h9 : Mo σ μ) (hs : Ws n σ) (nx : Nx G P n k) : V G M_L_law 17 (41 * k + 41) (2870 * k + 2870) P 1400 (lawL n) [] μ := by
  refine v_aload_n 2 dL_law_1400 rfl rfl ?_
  refine v_aload_n 3 dL_law_1401 rfl rfl ?_
  refine v_iload_n 0 dL_law_1402 rfl rfl ?_
  refine v_iconst (v := 1) dL_law_1403 (by first | rfl | decide) ?_
  refine v_iadd dL_law_1404 ?_
  refine v_roi (ro_script G) dL_law_1405 (ix_in (a := 5 * n) (b := 1) (by omega) (by omega)) (by omega) ?_
  refine v_callV (mc := 41 * k + 41) (ms := 2870 * k + 2870) (c_X6_sumFilm 14 h hs.1.1.1 hn hs.1.2.1) cs_L_163 dL_law_1406 h.1 rfl rfl (Nat.le_of_ble_eq_true rfl) ?_
  rintro _ m1 ⟨rfl, h1, f1⟩
  have h9b := h9.fo f1
  obtain ⟨fs9, h60⟩ := h9b.c60
  refine v_aload_n 1 dL_law_1409 rfl rfl ?_
  refine v_aload_n 3 dL_law_1410 rfl rfl ?_
  refine v_iload_n 0 dL_law_1411 rfl rfl ?_
  refine v_iconst (v := 1) dL_law_1412 (by first | rfl | decide) ?_
  refine v_iadd dL_law_1413 ?_
  refine v_roi (ro_script G) dL_law_1414 (ix_in (a := 5 * n) (b := 1) (by omega) (by omega)) (by omega) ?_
  refine v_callV (mc := 41 * k + 41) (ms := 2870 * k + 2870) (c_X7_sumFilm 14 h9b hs.1.1.1 hn hs.1.2.1) cs_L_167 dL_law_1415 h60 rfl rfl (Nat.le_of_ble_eq_true rfl) ?_
  rintro _ m2 ⟨rfl, h2, f2⟩
  refine v_lc_eq (tgt := 1753) dL_law_1418 dL_law_1419 (by decide) (fun _ => ?_) (fun z9 => absurd rfl z9)
  refine v_bud (mc1 := 41 * k) (ms1 := 2870 * k) (by omega) (by omega) ?_
  exact nx _ _ (h1.fp f2) h2 (hs.mono (Nat.le_succ n))

set_option maxRecDepth 20000 in
set_option maxHeartbeats 4000000 in
theorem law_store {G : Cx} {P : Option Value → Hp → Prop} {n k : Nat} {σ : ST} {μ : Hp} (hL : 5 * n + 5 ≤ cL G) (hL2 : cL G ≤ 2560) (hn : n < 8192) (h : Cl σ μ) (h9 : Mo σ μ) (hs : Ws n σ) (nx : Nx G P n k) : V G M_L_law 17 (41 * k + 41) (2870 * k + 2870) P 1424 (lawL n) [] μ := by
  refine v_aload_n 2 dL_law_1424 rfl rfl ?_
  refine v_aload_n 3 dL_law_1425 rfl rfl ?_
  refine v_iload_n 0 dL_law_1426 rfl rfl ?_
  refine v_iconst (v := 1) dL_law_1427 (by first | rfl | decide) ?_
  refine v_iadd dL_law_1428 ?_
  refine v_roi (ro_script G) dL_law_1429 (ix_in (a := 5 * n) (b := 1) (by omega) (by omega)) (by omega) ?_
  refine v_aload_n 3 dL_law_1430 rfl rfl ?_
  refine v_iload_n 0 dL_law_1431 rfl rfl ?_
  refine v_iconst (v := 2) dL_law_1432 (by first | rfl | decide) ?_
  refine v_iadd dL_law_1433 ?_
  refine v_roi (ro_script G) dL_law_1434 (ix_in (a := 5 * n) (b := 2) (by omega) (by omega)) (by omega) ?_
  refine v_aload_n 3 dL_law_1435 rfl rfl ?_
  refine v_iload_n 0 dL_law_1436 rfl rfl ?_
  refine v_iconst (v := 3) dL_law_1437 (by first | rfl | decide) ?_
  refine v_iadd dL_law_1438 ?_
  refine v_roi (ro_script G) dL_law_1439 (ix_in (a := 5 * n) (b := 3) (by omega) (by omega)) (by omega) ?_
  refine v_callV (mc := 41 * k + 41) (ms := 2870 * k + 2870) (c_X6_store 14 h hs.1.1.1) cs_L_168 dL_law_1440 h.1 rfl rfl (Nat.le_of_ble_eq_true rfl) ?_
  rintro _ m1 ⟨rfl, h1, f1⟩
  have h9b := h9.fo f1
  obtain ⟨fs9, h60⟩ := h9b.c60
  refine v_aload_n 1 dL_law_1443 rfl rfl ?_
  refine v_aload_n 3 dL_law_1444 rfl rfl ?_
  refine v_iload_n 0 dL_law_1445 rfl rfl ?_
  refine v_iconst (v := 1) dL_law_1446 (by first | rfl | decide) ?_
  refine v_iadd dL_law_1447 ?_
  refine v_roi (ro_script G) dL_law_1448 (ix_in (a := 5 * n) (b := 1) (by omega) (by omega)) (by omega) ?_
  refine v_aload_n 3 dL_law_1449 rfl rfl ?_
  refine v_iload_n 0 dL_law_1450 rfl rfl ?_
  refine v_iconst (v := 2) dL_law_1451 (by first | rfl | decide) ?_
  refine v_iadd dL_law_1452 ?_
  refine v_roi (ro_script G) dL_law_1453 (ix_in (a := 5 * n) (b := 2) (by omega) (by omega)) (by omega) ?_
  refine v_aload_n 3 dL_law_1454 rfl rfl ?_
  refine v_iload_n 0 dL_law_1455 rfl rfl ?_
  refine v_iconst (v := 3) dL_law_1456 (by first | rfl | decide) ?_
  refine v_iadd dL_law_1457 ?_
  refine v_roi (ro_script G) dL_law_1458 (ix_in (a := 5 * n) (b := 3) (by omega) (by omega)) (by omega) ?_
  refine v_callV (mc := 41 * k + 41) (ms := 2870 * k + 2870) (c_X7_store 14 h9b hs.1.1.1 hs.1.2.2.2) cs_L_171 dL_law_1459 h60 rfl rfl (Nat.le_of_ble_eq_true rfl) ?_
  rintro _ m2 ⟨rfl, h2, f2⟩
  refine v_icmp_eq (tgt := 1753) dL_law_1462 (by decide) (fun _ => ?_) (fun z9 => absurd rfl z9)
  refine v_bud (mc1 := 41 * k) (ms1 := 2870 * k) (by omega) (by omega) ?_
  exact nx _ _ (h1.fp f2) h2 ((ws_store hs _ _ _).mono (Nat.le_succ n))

set_option maxRecDepth 20000 in
set_option maxHeartbeats 4000000 in
theorem law_empty {G : Cx} {P : Option Value → Hp → Prop} {n k : Nat} {σ : ST} {μ : Hp} (hL : 5 * n + 5 ≤ cL G) (hL2 : cL G ≤ 2560) (hn : n < 8192) (h : Cl σ μ) (h9 : Mo σ μ) (hs : Ws n σ) (nx : Nx G P n k) : V G M_L_law 17 (41 * k + 41) (2870 * k + 2870) P 1467 (lawL n) [] μ := by
  refine v_aload_n 2 dL_law_1467 rfl rfl ?_
  refine v_aload_n 3 dL_law_1468 rfl rfl ?_
  refine v_iload_n 0 dL_law_1469 rfl rfl ?_
  refine v_iconst (v := 1) dL_law_1470 (by first | rfl | decide) ?_
  refine v_iadd dL_law_1471 ?_
  refine v_roi (ro_script G) dL_law_1472 (ix_in (a := 5 * n) (b := 1) (by omega) (by omega)) (by omega) ?_
  refine v_aload_n 3 dL_law_1473 rfl rfl ?_
  refine v_iload_n 0 dL_law_1474 rfl rfl ?_
  refine v_iconst (v := 2) dL_law_1475 (by first | rfl | decide) ?_
  refine v_iadd dL_law_1476 ?_
  refine v_roi (ro_script G) dL_law_1477 (ix_in (a := 5 * n) (b := 2) (by omega) (by omega)) (by omega) ?_
  refine v_callV (mc := 41 * k + 41) (ms := 2870 * k + 2870) (c_X6_empty 14 h hs.1.1.1) cs_L_172 dL_law_1478 h.1 rfl rfl (Nat.le_of_ble_eq_true rfl) ?_
  rintro _ m1 ⟨rfl, h1, f1⟩
  have h9b := h9.fo f1
  obtain ⟨fs9, h60⟩ := h9b.c60
  refine v_aload_n 1 dL_law_1481 rfl rfl ?_
  refine v_aload_n 3 dL_law_1482 rfl rfl ?_
  refine v_iload_n 0 dL_law_1483 rfl rfl ?_
  refine v_iconst (v := 1) dL_law_1484 (by first | rfl | decide) ?_
  refine v_iadd dL_law_1485 ?_
  refine v_roi (ro_script G) dL_law_1486 (ix_in (a := 5 * n) (b := 1) (by omega) (by omega)) (by omega) ?_
  refine v_aload_n 3 dL_law_1487 rfl rfl ?_
  refine v_iload_n 0 dL_law_1488 rfl rfl ?_
  refine v_iconst (v := 2) dL_law_1489 (by first | rfl | decide) ?_
  refine v_iadd dL_law_1490 ?_
  refine v_roi (ro_script G) dL_law_1491 (ix_in (a := 5 * n) (b := 2) (by omega) (by omega)) (by omega) ?_
  refine v_callV (mc := 41 * k + 41) (ms := 2870 * k + 2870) (c_X7_empty 14 h9b hs.1.1.1 hs.1.2.2.1) cs_L_175 dL_law_1492 h60 rfl rfl (Nat.le_of_ble_eq_true rfl) ?_
  rintro _ m2 ⟨rfl, h2, f2⟩
  refine v_icmp_eq (tgt := 1753) dL_law_1495 (by decide) (fun _ => ?_) (fun z9 => absurd rfl z9)
  refine v_bud (mc1 := 41 * k) (ms1 := 2870 * k) (by omega) (by omega) ?_
  exact nx _ _ (h1.fp f2) h2 ((ws_empty hs _ _).mono (Nat.le_succ n))

set_option maxRecDepth 20000 in
set_option maxHeartbeats 4000000 in
theorem law_fetch {G : Cx} {P : Option Value → Hp → Prop} {n k : Nat} {σ : ST} {μ : Hp} (hL : 5 * n + 5 ≤ cL G) (hL2 : cL G ≤ 2560) (hn : n < 8192) (h : Cl σ μ) (h9 : Mo σ μ) (hs : Ws n σ) (nx : Nx G P n k) : V G M_L_law 17 (41 * k + 41) (2870 * k + 2870) P 1500 (lawL n) [] μ := by
  refine v_aload_n 2 dL_law_1500 rfl rfl ?_
  refine v_aload_n 3 dL_law_1501 rfl rfl ?_
  refine v_iload_n 0 dL_law_1502 rfl rfl ?_
  refine v_iconst (v := 1) dL_law_1503 (by first | rfl | decide) ?_
  refine v_iadd dL_law_1504 ?_
  refine v_roi (ro_script G) dL_law_1505 (ix_in (a := 5 * n) (b := 1) (by omega) (by omega)) (by omega) ?_
  refine v_aload_n 3 dL_law_1506 rfl rfl ?_
  refine v_iload_n 0 dL_law_1507 rfl rfl ?_
  refine v_iconst (v := 2) dL_law_1508 (by first | rfl | decide) ?_
  refine v_iadd dL_law_1509 ?_
  refine v_roi (ro_script G) dL_law_1510 (ix_in (a := 5 * n) (b := 2) (by omega) (by omega)) (by omega) ?_
  refine v_callV (mc := 41 * k + 41) (ms := 2870 * k + 2870) (c_X6_fetch 14 h hs.1.1.1) cs_L_176 dL_law_1511 h.1 rfl rfl (Nat.le_of_ble_eq_true rfl) ?_
  rintro _ m1 ⟨rfl, h1, f1⟩
  have h9b := h9.fo f1
  obtain ⟨fs9, h60⟩ := h9b.c60
  refine v_aload_n 1 dL_law_1514 rfl rfl ?_
  refine v_aload_n 3 dL_law_1515 rfl rfl ?_
  refine v_iload_n 0 dL_law_1516 rfl rfl ?_
  refine v_iconst (v := 1) dL_law_1517 (by first | rfl | decide) ?_
  refine v_iadd dL_law_1518 ?_
  refine v_roi (ro_script G) dL_law_1519 (ix_in (a := 5 * n) (b := 1) (by omega) (by omega)) (by omega) ?_
  refine v_aload_n 3 dL_law_1520 rfl rfl ?_
  refine v_iload_n 0 dL_law_1521 rfl rfl ?_
  refine v_iconst (v := 2) dL_law_1522 (by first | rfl | decide) ?_
  refine v_iadd dL_law_1523 ?_
  refine v_roi (ro_script G) dL_law_1524 (ix_in (a := 5 * n) (b := 2) (by omega) (by omega)) (by omega) ?_
  refine v_callV (mc := 41 * k + 41) (ms := 2870 * k + 2870) (c_X7_fetch 14 h9b hs.1.1.1 hs.1.2.2.1) cs_L_179 dL_law_1525 h60 rfl rfl (Nat.le_of_ble_eq_true rfl) ?_
  rintro _ m2 ⟨rfl, h2, f2⟩
  refine v_icmp_eq (tgt := 1753) dL_law_1528 (by decide) (fun _ => ?_) (fun z9 => absurd rfl z9)
  refine v_bud (mc1 := 41 * k) (ms1 := 2870 * k) (by omega) (by omega) ?_
  exact nx _ _ (h1.fp f2) h2 ((ws_fetch hs _ _).mono (Nat.le_succ n))

set_option maxRecDepth 20000 in
set_option maxHeartbeats 4000000 in
theorem law_rack {G : Cx} {P : Option Value → Hp → Prop} {n k : Nat} {σ : ST} {μ : Hp} (hL : 5 * n + 5 ≤ cL G) (hL2 : cL G ≤ 2560) (hn : n < 8192) (h : Cl σ μ) (h9 : Mo σ μ) (hs : Ws n σ) (nx : Nx G P n k) : V G M_L_law 17 (41 * k + 41) (2870 * k + 2870) P 1533 (lawL n) [] μ := by
  refine v_aload_n 2 dL_law_1533 rfl rfl ?_
  refine v_aload_n 3 dL_law_1534 rfl rfl ?_
  refine v_iload_n 0 dL_law_1535 rfl rfl ?_
  refine v_iconst (v := 1) dL_law_1536 (by first | rfl | decide) ?_
  refine v_iadd dL_law_1537 ?_
  refine v_roi (ro_script G) dL_law_1538 (ix_in (a := 5 * n) (b := 1) (by omega) (by omega)) (by omega) ?_
  refine v_aload_n 3 dL_law_1539 rfl rfl ?_
  refine v_iload_n 0 dL_law_1540 rfl rfl ?_
  refine v_iconst (v := 2) dL_law_1541 (by first | rfl | decide) ?_
  refine v_iadd dL_law_1542 ?_
  refine v_roi (ro_script G) dL_law_1543 (ix_in (a := 5 * n) (b := 2) (by omega) (by omega)) (by omega) ?_
  refine v_callV (mc := 41 * k + 41) (ms := 2870 * k + 2870) (c_X6_rack 14 h hs.1.1.1) cs_L_180 dL_law_1544 h.1 rfl rfl (Nat.le_of_ble_eq_true rfl) ?_
  refine rt_k ?_
  obtain ⟨fs9, h60⟩ := h9.c60
  refine v_aload_n 1 dL_law_1547 rfl rfl ?_
  refine v_aload_n 3 dL_law_1548 rfl rfl ?_
  refine v_iload_n 0 dL_law_1549 rfl rfl ?_
  refine v_iconst (v := 1) dL_law_1550 (by first | rfl | decide) ?_
  refine v_iadd dL_law_1551 ?_
  refine v_roi (ro_script G) dL_law_1552 (ix_in (a := 5 * n) (b := 1) (by omega) (by omega)) (by omega) ?_
  refine v_aload_n 3 dL_law_1553 rfl rfl ?_
  refine v_iload_n 0 dL_law_1554 rfl rfl ?_
  refine v_iconst (v := 2) dL_law_1555 (by first | rfl | decide) ?_
  refine v_iadd dL_law_1556 ?_
  refine v_roi (ro_script G) dL_law_1557 (ix_in (a := 5 * n) (b := 2) (by omega) (by omega)) (by omega) ?_
  refine v_callV (mc := 41 * k + 41) (ms := 2870 * k + 2870) (c_X7_rack 14 h9 hs.1.1.1) cs_L_183 dL_law_1558 h60 rfl rfl (Nat.le_of_ble_eq_true rfl) ?_
  rintro _ m2 ⟨rfl, h2, f2⟩
  refine v_icmp_eq (tgt := 1753) dL_law_1561 (by decide) (fun _ => ?_) (fun z9 => absurd rfl z9)
  refine v_bud (mc1 := 41 * k) (ms1 := 2870 * k) (by omega) (by omega) ?_
  exact nx _ _ (h.fp f2) h2 (hs.mono (Nat.le_succ n))

set_option maxRecDepth 20000 in
set_option maxHeartbeats 4000000 in
theorem law_copy {G : Cx} {P : Option Value → Hp → Prop} {n k : Nat} {σ : ST} {μ : Hp} (hL : 5 * n + 5 ≤ cL G) (hL2 : cL G ≤ 2560) (hn : n < 8192) (h : Cl σ μ) (h9 : Mo σ μ) (hs : Ws n σ) (nx : Nx G P n k) : V G M_L_law 17 (41 * k + 41) (2870 * k + 2870) P 1566 (lawL n) [] μ := by
  refine v_aload_n 2 dL_law_1566 rfl rfl ?_
  refine v_aload_n 3 dL_law_1567 rfl rfl ?_
  refine v_iload_n 0 dL_law_1568 rfl rfl ?_
  refine v_iconst (v := 1) dL_law_1569 (by first | rfl | decide) ?_
  refine v_iadd dL_law_1570 ?_
  refine v_roi (ro_script G) dL_law_1571 (ix_in (a := 5 * n) (b := 1) (by omega) (by omega)) (by omega) ?_
  refine v_aload_n 3 dL_law_1572 rfl rfl ?_
  refine v_iload_n 0 dL_law_1573 rfl rfl ?_
  refine v_iconst (v := 2) dL_law_1574 (by first | rfl | decide) ?_
  refine v_iadd dL_law_1575 ?_
  refine v_roi (ro_script G) dL_law_1576 (ix_in (a := 5 * n) (b := 2) (by omega) (by omega)) (by omega) ?_
  refine v_callV (mc := 41 * k + 41) (ms := 2870 * k + 2870) (c_X6_copy 15 h hs.1.1.1) cs_L_184 dL_law_1577 h.1 rfl rfl (Nat.le_of_ble_eq_true rfl) ?_
  rintro _ m1 ⟨rfl, h1, f1⟩
  have h9b := h9.fo f1
  obtain ⟨fs9, h60⟩ := h9b.c60
  refine v_aload_n 1 dL_law_1580 rfl rfl ?_
  refine v_aload_n 3 dL_law_1581 rfl rfl ?_
  refine v_iload_n 0 dL_law_1582 rfl rfl ?_
  refine v_iconst (v := 1) dL_law_1583 (by first | rfl | decide) ?_
  refine v_iadd dL_law_1584 ?_
  refine v_roi (ro_script G) dL_law_1585 (ix_in (a := 5 * n) (b := 1) (by omega) (by omega)) (by omega) ?_
  refine v_aload_n 3 dL_law_1586 rfl rfl ?_
  refine v_iload_n 0 dL_law_1587 rfl rfl ?_
  refine v_iconst (v := 2) dL_law_1588 (by first | rfl | decide) ?_
  refine v_iadd dL_law_1589 ?_
  refine v_roi (ro_script G) dL_law_1590 (ix_in (a := 5 * n) (b := 2) (by omega) (by omega)) (by omega) ?_
  refine v_callV (mc := 41 * k + 41) (ms := 2870 * k + 2870) (c_X7_copy 14 h9b hs.1.1.1) cs_L_187 dL_law_1591 h60 rfl rfl (Nat.le_of_ble_eq_true rfl) ?_
  rintro _ m2 ⟨rfl, h2, f2⟩
  refine v_icmp_eq (tgt := 1753) dL_law_1594 (by decide) (fun _ => ?_) (fun z9 => absurd rfl z9)
  refine v_bud (mc1 := 41 * k) (ms1 := 2870 * k) (by omega) (by omega) ?_
  exact nx _ _ (h1.fp f2) h2 ((ws_copy hs _ _).mono (Nat.le_succ n))

set_option maxRecDepth 20000 in
set_option maxHeartbeats 4000000 in
theorem law_feed {G : Cx} {P : Option Value → Hp → Prop} {n k : Nat} {σ : ST} {μ : Hp} (hL : 5 * n + 5 ≤ cL G) (hL2 : cL G ≤ 2560) (hn : n < 8192) (h : Cl σ μ) (h9 : Mo σ μ) (hs : Ws n σ) (nx : Nx G P n k) : V G M_L_law 17 (41 * k + 41) (2870 * k + 2870) P 1599 (lawL n) [] μ := by
  refine v_aload_n 2 dL_law_1599 rfl rfl ?_
  refine v_aload_n 3 dL_law_1600 rfl rfl ?_
  refine v_iload_n 0 dL_law_1601 rfl rfl ?_
  refine v_iconst (v := 1) dL_law_1602 (by first | rfl | decide) ?_
  refine v_iadd dL_law_1603 ?_
  refine v_roi (ro_script G) dL_law_1604 (ix_in (a := 5 * n) (b := 1) (by omega) (by omega)) (by omega) ?_
  refine v_callV (mc := 41 * k + 41) (ms := 2870 * k + 2870) (c_X6_feed 16 h hs.1.1.1) cs_L_188 dL_law_1605 h.1 rfl rfl (Nat.le_of_ble_eq_true rfl) ?_
  rintro _ m1 ⟨rfl, h1, f1⟩
  have h9b := h9.fo f1
  obtain ⟨fs9, h60⟩ := h9b.c60
  refine v_aload_n 1 dL_law_1608 rfl rfl ?_
  refine v_aload_n 3 dL_law_1609 rfl rfl ?_
  refine v_iload_n 0 dL_law_1610 rfl rfl ?_
  refine v_iconst (v := 1) dL_law_1611 (by first | rfl | decide) ?_
  refine v_iadd dL_law_1612 ?_
  refine v_roi (ro_script G) dL_law_1613 (ix_in (a := 5 * n) (b := 1) (by omega) (by omega)) (by omega) ?_
  refine v_callV (mc := 41 * k + 41) (ms := 2870 * k + 2870) (c_X7_feed 15 h9b hs.1.1.1) cs_L_191 dL_law_1614 h60 rfl rfl (Nat.le_of_ble_eq_true rfl) ?_
  rintro _ m2 ⟨rfl, h2, f2⟩
  refine v_icmp_eq (tgt := 1753) dL_law_1617 (by decide) (fun _ => ?_) (fun z9 => absurd rfl z9)
  refine v_bud (mc1 := 41 * k) (ms1 := 2870 * k) (by omega) (by omega) ?_
  exact nx _ _ (h1.fp f2) h2 ((ws_feed hs _).mono (Nat.le_succ n))

set_option maxRecDepth 20000 in
set_option maxHeartbeats 4000000 in
theorem law_wipe {G : Cx} {P : Option Value → Hp → Prop} {n k : Nat} {σ : ST} {μ : Hp} (hL : 5 * n + 5 ≤ cL G) (hL2 : cL G ≤ 2560) (hn : n < 8192) (h : Cl σ μ) (h9 : Mo σ μ) (hs : Ws n σ) (nx : Nx G P n k) : V G M_L_law 17 (41 * k + 41) (2870 * k + 2870) P 1622 (lawL n) [] μ := by
  refine v_aload_n 2 dL_law_1622 rfl rfl ?_
  refine v_callV (mc := 41 * k + 41) (ms := 2870 * k + 2870) (c_X6_wipe 16 h hs.1.1.1) cs_L_192 dL_law_1623 h.1 rfl rfl (Nat.le_of_ble_eq_true rfl) ?_
  rintro _ m1 ⟨rfl, h1, f1⟩
  have h9b := h9.fo f1
  obtain ⟨fs9, h60⟩ := h9b.c60
  refine v_aload_n 1 dL_law_1626 rfl rfl ?_
  refine v_callV (mc := 41 * k + 41) (ms := 2870 * k + 2870) (c_X7_wipe 16 h9b hs.1.1.1) cs_L_195 dL_law_1627 h60 rfl rfl (Nat.le_of_ble_eq_true rfl) ?_
  rintro _ m2 ⟨rfl, h2, f2⟩
  refine v_icmp_eq (tgt := 1753) dL_law_1630 (by decide) (fun _ => ?_) (fun z9 => absurd rfl z9)
  refine v_bud (mc1 := 41 * k) (ms1 := 2870 * k) (by omega) (by omega) ?_
  exact nx _ _ (h1.fp f2) h2 ((ws_wipe hs).mono (Nat.le_succ n))

set_option maxRecDepth 20000 in
set_option maxHeartbeats 4000000 in
theorem law_read {G : Cx} {P : Option Value → Hp → Prop} {n k : Nat} {σ : ST} {μ : Hp} (hL : 5 * n + 5 ≤ cL G) (hL2 : cL G ≤ 2560) (hn : n < 8192) (h : Cl σ μ) (h9 : Mo σ μ) (hs : Ws n σ) (nx : Nx G P n k) : V G M_L_law 17 (41 * k + 41) (2870 * k + 2870) P 1635 (lawL n) [] μ := by
  refine v_aload_n 2 dL_law_1635 rfl rfl ?_
  refine v_callV (mc := 41 * k + 41) (ms := 2870 * k + 2870) (c_X6_read 0 h hs.1.1.1 hs.2.2.2.1) cs_L_196 dL_law_1636 h.1 rfl rfl (Nat.le_of_ble_eq_true rfl) ?_
  rintro _ m1 ⟨rfl, h1, f1⟩
  have h9b := h9.fo f1
  obtain ⟨fs9, h60⟩ := h9b.c60
  refine v_aload_n 1 dL_law_1639 rfl rfl ?_
  refine v_callV (mc := 41 * k + 41) (ms := 2870 * k + 2870) (c_X7_read 4 h9b hs.1.1.1 hs.2.2.2.1) cs_L_199 dL_law_1640 h60 rfl rfl (Nat.le_of_ble_eq_true rfl) ?_
  rintro _ m2 ⟨rfl, h2, f2⟩
  refine v_icmp_eq (tgt := 1753) dL_law_1643 (by decide) (fun _ => ?_) (fun z9 => absurd rfl z9)
  refine v_bud (mc1 := 41 * k) (ms1 := 2870 * k) (by omega) (by omega) ?_
  exact nx _ _ (h1.fp f2) h2 ((ws_read hs).mono (Nat.le_succ n))

set_option maxRecDepth 20000 in
set_option maxHeartbeats 4000000 in
theorem law_why {G : Cx} {P : Option Value → Hp → Prop} {n k : Nat} {σ : ST} {μ : Hp} (hL : 5 * n + 5 ≤ cL G) (hL2 : cL G ≤ 2560) (hn : n < 8192) (h : Cl σ μ) (h9 : Mo σ μ) (hs : Ws n σ) (nx : Nx G P n k) : V G M_L_law 17 (41 * k + 41) (2870 * k + 2870) P 1648 (lawL n) [] μ := by
  refine v_aload_n 2 dL_law_1648 rfl rfl ?_
  refine v_aload_n 3 dL_law_1649 rfl rfl ?_
  refine v_iload_n 0 dL_law_1650 rfl rfl ?_
  refine v_iconst (v := 1) dL_law_1651 (by first | rfl | decide) ?_
  refine v_iadd dL_law_1652 ?_
  refine v_roi (ro_script G) dL_law_1653 (ix_in (a := 5 * n) (b := 1) (by omega) (by omega)) (by omega) ?_
  refine v_aload_n 3 dL_law_1654 rfl rfl ?_
  refine v_iload_n 0 dL_law_1655 rfl rfl ?_
  refine v_iconst (v := 2) dL_law_1656 (by first | rfl | decide) ?_
  refine v_iadd dL_law_1657 ?_
  refine v_roi (ro_script G) dL_law_1658 (ix_in (a := 5 * n) (b := 2) (by omega) (by omega)) (by omega) ?_
  refine v_callV (mc := 41 * k + 41) (ms := 2870 * k + 2870) (c_X6_why 16 h hs.1.1.1 hs.2.2.2.2) cs_L_200 dL_law_1659 h.1 rfl rfl (Nat.le_of_ble_eq_true rfl) ?_
  refine rt_k ?_
  obtain ⟨fs9, h60⟩ := h9.c60
  refine v_aload_n 1 dL_law_1662 rfl rfl ?_
  refine v_aload_n 3 dL_law_1663 rfl rfl ?_
  refine v_iload_n 0 dL_law_1664 rfl rfl ?_
  refine v_iconst (v := 1) dL_law_1665 (by first | rfl | decide) ?_
  refine v_iadd dL_law_1666 ?_
  refine v_roi (ro_script G) dL_law_1667 (ix_in (a := 5 * n) (b := 1) (by omega) (by omega)) (by omega) ?_
  refine v_aload_n 3 dL_law_1668 rfl rfl ?_
  refine v_iload_n 0 dL_law_1669 rfl rfl ?_
  refine v_iconst (v := 2) dL_law_1670 (by first | rfl | decide) ?_
  refine v_iadd dL_law_1671 ?_
  refine v_roi (ro_script G) dL_law_1672 (ix_in (a := 5 * n) (b := 2) (by omega) (by omega)) (by omega) ?_
  refine v_callV (mc := 41 * k + 41) (ms := 2870 * k + 2870) (c_X7_why 15 h9 hs.1.1.1 hs.2.2.2.2) cs_L_203 dL_law_1673 h60 rfl rfl (Nat.le_of_ble_eq_true rfl) ?_
  rintro _ m2 ⟨rfl, h2, f2⟩
  refine v_icmp_eq (tgt := 1753) dL_law_1676 (by decide) (fun _ => ?_) (fun z9 => absurd rfl z9)
  refine v_bud (mc1 := 41 * k) (ms1 := 2870 * k) (by omega) (by omega) ?_
  exact nx _ _ (h.fp f2) h2 (hs.mono (Nat.le_succ n))

set_option maxRecDepth 20000 in
set_option maxHeartbeats 4000000 in
theorem law_spelled {G : Cx} {P : Option Value → Hp → Prop} {n k : Nat} {σ : ST} {μ : Hp} (hL : 5 * n + 5 ≤ cL G) (hL2 : cL G ≤ 2560) (hn : n < 8192) (h : Cl σ μ) (h9 : Mo σ μ) (hs : Ws n σ) (nx : Nx G P n k) : V G M_L_law 17 (41 * k + 41) (2870 * k + 2870) P 1681 (lawL n) [] μ := by
  refine v_aload_n 2 dL_law_1681 rfl rfl ?_
  refine v_aload_n 3 dL_law_1682 rfl rfl ?_
  refine v_iload_n 0 dL_law_1683 rfl rfl ?_
  refine v_iconst (v := 1) dL_law_1684 (by first | rfl | decide) ?_
  refine v_iadd dL_law_1685 ?_
  refine v_roi (ro_script G) dL_law_1686 (ix_in (a := 5 * n) (b := 1) (by omega) (by omega)) (by omega) ?_
  refine v_callV (mc := 41 * k) (ms := 2870 * k) (c_X6_spelled 8 h hs.1.1.1) cs_L_204 dL_law_1687 h.1 rfl rfl (Nat.le_of_ble_eq_true rfl) ?_
  rintro _ m1 ⟨rfl, h1, f1⟩
  have h9b := h9.fo f1
  obtain ⟨fs9, h60⟩ := h9b.c60
  refine v_aload_n 1 dL_law_1690 rfl rfl ?_
  refine v_aload_n 3 dL_law_1691 rfl rfl ?_
  refine v_iload_n 0 dL_law_1692 rfl rfl ?_
  refine v_iconst (v := 1) dL_law_1693 (by first | rfl | decide) ?_
  refine v_iadd dL_law_1694 ?_
  refine v_roi (ro_script G) dL_law_1695 (ix_in (a := 5 * n) (b := 1) (by omega) (by omega)) (by omega) ?_
  refine v_callV (mc := 41 * k) (ms := 2870 * k) (c_X7_spelled 13 h9b hs.1.1.1) cs_L_207 dL_law_1696 h60 rfl rfl (Nat.le_of_ble_eq_true rfl) ?_
  rintro _ m2 ⟨rfl, h2, f2⟩
  refine v_icmp_eq (tgt := 1753) dL_law_1699 (by decide) (fun _ => ?_) (fun z9 => absurd rfl z9)
  refine v_bud (mc1 := 41 * k) (ms1 := 2870 * k) (by omega) (by omega) ?_
  exact nx _ _ (h1.fp f2) h2 (hs.mono (Nat.le_succ n))

set_option maxRecDepth 20000 in
set_option maxHeartbeats 4000000 in
theorem law_image {G : Cx} {P : Option Value → Hp → Prop} {n k : Nat} {σ : ST} {μ : Hp} (hL : 5 * n + 5 ≤ cL G) (hL2 : cL G ≤ 2560) (hn : n < 8192) (h : Cl σ μ) (h9 : Mo σ μ) (hs : Ws n σ) (nx : Nx G P n k) : V G M_L_law 17 (41 * k + 41) (2870 * k + 2870) P 1704 (lawL n) [] μ := by
  refine v_aload_n 2 dL_law_1704 rfl rfl ?_
  refine v_callV (mc := 41 * k + 41) (ms := 2870 * k + 2870) (c_X6_image 13 h hs.1.1.1) cs_L_208 dL_law_1705 h.1 rfl rfl (Nat.le_of_ble_eq_true rfl) ?_
  rintro _ m1 ⟨rfl, h1, f1⟩
  have h9b := h9.fo f1
  obtain ⟨fs9, h60⟩ := h9b.c60
  refine v_aload_n 1 dL_law_1708 rfl rfl ?_
  refine v_callV (mc := 41 * k + 41) (ms := 2870 * k + 2870) (c_X7_image 15 h9b hs.1.1.1) cs_L_211 dL_law_1709 h60 rfl rfl (Nat.le_of_ble_eq_true rfl) ?_
  rintro _ m2 ⟨rfl, h2, f2⟩
  refine v_icmp_eq (tgt := 1753) dL_law_1712 (by decide) (fun _ => ?_) (fun z9 => absurd rfl z9)
  refine v_bud (mc1 := 41 * k) (ms1 := 2870 * k) (by omega) (by omega) ?_
  exact nx _ _ (h1.fp f2) h2 ((ws_image hs).mono (Nat.le_succ n))

set_option maxRecDepth 20000 in
set_option maxHeartbeats 4000000 in
theorem law_undo {G : Cx} {P : Option Value → Hp → Prop} {n k : Nat} {σ : ST} {μ : Hp} (hL : 5 * n + 5 ≤ cL G) (hL2 : cL G ≤ 2560) (hn : n < 8192) (h : Cl σ μ) (h9 : Mo σ μ) (hs : Ws n σ) (nx : Nx G P n k) : V G M_L_law 17 (41 * k + 41) (2870 * k + 2870) P 1717 (lawL n) [] μ := by
  refine v_aload_n 2 dL_law_1717 rfl rfl ?_
  refine v_callV (mc := 41 * k + 41) (ms := 2870 * k + 2870) (c_X6_undo 13 h hs.1.1.1 (fun b hb => (hs.2.1 b hb).1.1.1)) cs_L_212 dL_law_1718 h.1 rfl rfl (Nat.le_of_ble_eq_true rfl) ?_
  rintro _ m1 ⟨rfl, h1, f1⟩
  have h9b := h9.fo f1
  obtain ⟨fs9, h60⟩ := h9b.c60
  refine v_aload_n 1 dL_law_1721 rfl rfl ?_
  refine v_callV (mc := 41 * k + 41) (ms := 2870 * k + 2870) (c_X7_undo 15 h9b hs.1.1.1 (fun b hb => (hs.2.1 b hb).1.1.1)) cs_L_215 dL_law_1722 h60 rfl rfl (Nat.le_of_ble_eq_true rfl) ?_
  rintro _ m2 ⟨rfl, h2, f2⟩
  refine v_icmp_eq (tgt := 1753) dL_law_1725 (by decide) (fun _ => ?_) (fun z9 => absurd rfl z9)
  refine v_bud (mc1 := 41 * k) (ms1 := 2870 * k) (by omega) (by omega) ?_
  exact nx _ _ (h1.fp f2) h2 ((ws_undo hs).mono (Nat.le_succ n))

set_option maxRecDepth 20000 in
set_option maxHeartbeats 4000000 in
theorem law_count {G : Cx} {P : Option Value → Hp → Prop} {n k : Nat} {σ : ST} {μ : Hp} (hL : 5 * n + 5 ≤ cL G) (hL2 : cL G ≤ 2560) (hn : n < 8192) (h : Cl σ μ) (h9 : Mo σ μ) (hs : Ws n σ) (nx : Nx G P n k) : V G M_L_law 17 (41 * k + 41) (2870 * k + 2870) P 1730 (lawL n) [] μ := by
  refine v_aload_n 2 dL_law_1730 rfl rfl ?_
  refine v_aload_n 3 dL_law_1731 rfl rfl ?_
  refine v_iload_n 0 dL_law_1732 rfl rfl ?_
  refine v_iconst (v := 1) dL_law_1733 (by first | rfl | decide) ?_
  refine v_iadd dL_law_1734 ?_
  refine v_roi (ro_script G) dL_law_1735 (ix_in (a := 5 * n) (b := 1) (by omega) (by omega)) (by omega) ?_
  refine v_callV (mc := 41 * k + 41) (ms := 2870 * k + 2870) (c_X6_count 15 h hs.1.1.1) cs_L_216 dL_law_1736 h.1 rfl rfl (Nat.le_of_ble_eq_true rfl) ?_
  refine rt_k ?_
  obtain ⟨fs9, h60⟩ := h9.c60
  refine v_aload_n 1 dL_law_1739 rfl rfl ?_
  refine v_aload_n 3 dL_law_1740 rfl rfl ?_
  refine v_iload_n 0 dL_law_1741 rfl rfl ?_
  refine v_iconst (v := 1) dL_law_1742 (by first | rfl | decide) ?_
  refine v_iadd dL_law_1743 ?_
  refine v_roi (ro_script G) dL_law_1744 (ix_in (a := 5 * n) (b := 1) (by omega) (by omega)) (by omega) ?_
  refine v_callV (mc := 41 * k + 41) (ms := 2870 * k + 2870) (c_X7_count 15 h9 hs.1.1.1) cs_L_219 dL_law_1745 h60 rfl rfl (Nat.le_of_ble_eq_true rfl) ?_
  rintro _ m2 ⟨rfl, h2, f2⟩
  refine v_icmp_eq (tgt := 1753) dL_law_1748 (by decide) (fun _ => ?_) (fun z9 => absurd rfl z9)
  refine v_bud (mc1 := 41 * k) (ms1 := 2870 * k) (by omega) (by omega) ?_
  exact nx _ _ (h.fp f2) h2 (hs.mono (Nat.le_succ n))

