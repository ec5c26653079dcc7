/-! THE LAW'S TURNS, 3 -/
section LWS3
variable {PQ : Gp → List Frame → Array Value → State → State → Prop} {L RC RS cells slots i pc : Nat} {f : Nat → Int32} {v5 v6 : Value} {st : List Value} {h : Hp}
theorem w_putty (j : J h) (hi : i + 7 ≤ L) (hL : L ≤ 3584) (hc : Nat.ble (cells + 17) RC = true) (hs : Nat.ble (slots + 307) RS = true) (x : ∀ h2, J h2 → lwF PQ L f RC RS (cells + 17) (slots + 307) 1968 i v5 v6 [] h2) : lwF PQ L f RC RS cells slots 1288 i v5 v6 [] h := by
  refine p_wide (cells + 17) (slots + 307) (by omega) (by omega) ?_
  obtain ⟨r, h1, m1, S1, n1⟩ := q_putty j (f (i + 1)) (f (i + 2))
  refine p_aL1 dL_law_1288 ?_
  refine w_arg 1 hi hL (by decide) rfl dL_law_1289 dL_law_1290 dL_law_1292 dL_law_1293 dL_law_1294 ?_
  refine w_arg 2 hi hL (by decide) rfl dL_law_1295 dL_law_1296 dL_law_1298 dL_law_1299 dL_law_1300 ?_
  refine pe_v2i m1 lm_L_126 dL_law_1301 j.1.1.1.i0 j.1.1.1.k0 rfl rfl hc hs ?_
  refine p_aL2 dL_law_1304 ?_
  refine w_arg 1 hi hL (by decide) rfl dL_law_1305 dL_law_1306 dL_law_1308 dL_law_1309 dL_law_1310 ?_
  refine w_arg 2 hi hL (by decide) rfl dL_law_1311 dL_law_1312 dL_law_1314 dL_law_1315 dL_law_1316 ?_
  refine p_v2 n1 lm_L_129 dL_law_1317 S1.i50 S1.k50 rfl rfl hc hs (fun v h2 e => ?_)
  obtain ⟨rfl, j2⟩ := e
  show lwF PQ L f RC RS (cells + 17) (slots + 307) 1320 i v5 v6 [.int r, .int r] h2
  exact p_iceq dL_law_1320 (fun _ => x h2 j2) (fun z => absurd rfl z)
theorem w_puttyOf (j : J h) (hi : i + 7 ≤ L) (hL : L ≤ 3584) (hc : Nat.ble (cells + 17) RC = true) (hs : Nat.ble (slots + 307) RS = true) (x : ∀ h2, J h2 → lwF PQ L f RC RS (cells + 17) (slots + 307) 1968 i v5 v6 [] h2) : lwF PQ L f RC RS cells slots 1325 i v5 v6 [] h := by
  refine p_wide (cells + 17) (slots + 307) (by omega) (by omega) ?_
  obtain ⟨r, h1, m1, S1, n1⟩ := q_puttyOf j (f (i + 1)) (f (i + 2))
  refine p_aL1 dL_law_1325 ?_
  refine w_arg 1 hi hL (by decide) rfl dL_law_1326 dL_law_1327 dL_law_1329 dL_law_1330 dL_law_1331 ?_
  refine w_arg 2 hi hL (by decide) rfl dL_law_1332 dL_law_1333 dL_law_1335 dL_law_1336 dL_law_1337 ?_
  refine pe_v2i m1 lm_L_130 dL_law_1338 j.1.1.1.i0 j.1.1.1.k0 rfl rfl hc hs ?_
  refine p_aL2 dL_law_1341 ?_
  refine w_arg 1 hi hL (by decide) rfl dL_law_1342 dL_law_1343 dL_law_1345 dL_law_1346 dL_law_1347 ?_
  refine w_arg 2 hi hL (by decide) rfl dL_law_1348 dL_law_1349 dL_law_1351 dL_law_1352 dL_law_1353 ?_
  refine p_v2 n1 lm_L_133 dL_law_1354 S1.i50 S1.k50 rfl rfl hc hs (fun v h2 e => ?_)
  obtain ⟨rfl, j2⟩ := e
  show lwF PQ L f RC RS (cells + 17) (slots + 307) 1357 i v5 v6 [.int r, .int r] h2
  exact p_iceq dL_law_1357 (fun _ => x h2 j2) (fun z => absurd rfl z)
theorem w_scratches (j : J h) (hi : i + 7 ≤ L) (hL : L ≤ 3584) (hc : Nat.ble (cells + 17) RC = true) (hs : Nat.ble (slots + 307) RS = true) (x : ∀ h2, J h2 → lwF PQ L f RC RS (cells + 17) (slots + 307) 1968 i v5 v6 [] h2) : lwF PQ L f RC RS cells slots 1362 i v5 v6 [] h := by
  refine p_wide (cells + 17) (slots + 307) (by omega) (by omega) ?_
  obtain ⟨r, h1, m1, S1, n1⟩ := q_scratches j (f (i + 1)) (f (i + 2)) (f (i + 3))
  refine p_aL1 dL_law_1362 ?_
  refine w_arg 1 hi hL (by decide) rfl dL_law_1363 dL_law_1364 dL_law_1366 dL_law_1367 dL_law_1368 ?_
  refine w_arg 2 hi hL (by decide) rfl dL_law_1369 dL_law_1370 dL_law_1372 dL_law_1373 dL_law_1374 ?_
  refine w_arg 3 hi hL (by decide) rfl dL_law_1375 dL_law_1376 dL_law_1378 dL_law_1379 dL_law_1380 ?_
  refine pe_v3i m1 lm_L_134 dL_law_1381 j.1.1.1.i0 j.1.1.1.k0 rfl rfl hc hs ?_
  refine p_aL2 dL_law_1384 ?_
  refine w_arg 1 hi hL (by decide) rfl dL_law_1385 dL_law_1386 dL_law_1388 dL_law_1389 dL_law_1390 ?_
  refine w_arg 2 hi hL (by decide) rfl dL_law_1391 dL_law_1392 dL_law_1394 dL_law_1395 dL_law_1396 ?_
  refine w_arg 3 hi hL (by decide) rfl dL_law_1397 dL_law_1398 dL_law_1400 dL_law_1401 dL_law_1402 ?_
  refine p_v3 n1 lm_L_137 dL_law_1403 S1.i50 S1.k50 rfl rfl hc hs (fun v h2 e => ?_)
  obtain ⟨rfl, j2⟩ := e
  show lwF PQ L f RC RS (cells + 17) (slots + 307) 1406 i v5 v6 [.int r, .int r] h2
  exact p_iceq dL_law_1406 (fun _ => x h2 j2) (fun z => absurd rfl z)
theorem w_could (j : J h) (hi : i + 7 ≤ L) (hL : L ≤ 3584) (hc : Nat.ble (cells + 17) RC = true) (hs : Nat.ble (slots + 307) RS = true) (x : ∀ h2, J h2 → lwF PQ L f RC RS (cells + 17) (slots + 307) 1968 i v5 v6 [] h2) : lwF PQ L f RC RS cells slots 1411 i v5 v6 [] h := by
  refine p_wide (cells + 17) (slots + 307) (by omega) (by omega) ?_
  obtain ⟨r, h1, m1, S1, n1⟩ := q_could j (f (i + 1)) (f (i + 2))
  refine p_aL1 dL_law_1411 ?_
  refine w_arg 1 hi hL (by decide) rfl dL_law_1412 dL_law_1413 dL_law_1415 dL_law_1416 dL_law_1417 ?_
  refine w_arg 2 hi hL (by decide) rfl dL_law_1418 dL_law_1419 dL_law_1421 dL_law_1422 dL_law_1423 ?_
  refine pe_v2i m1 lm_L_138 dL_law_1424 j.1.1.1.i0 j.1.1.1.k0 rfl rfl hc hs ?_
  refine p_aL2 dL_law_1427 ?_
  refine w_arg 1 hi hL (by decide) rfl dL_law_1428 dL_law_1429 dL_law_1431 dL_law_1432 dL_law_1433 ?_
  refine w_arg 2 hi hL (by decide) rfl dL_law_1434 dL_law_1435 dL_law_1437 dL_law_1438 dL_law_1439 ?_
  refine p_v2 n1 lm_L_141 dL_law_1440 S1.i50 S1.k50 rfl rfl hc hs (fun v h2 e => ?_)
  obtain ⟨rfl, j2⟩ := e
  show lwF PQ L f RC RS (cells + 17) (slots + 307) 1443 i v5 v6 [.int r, .int r] h2
  exact p_iceq dL_law_1443 (fun _ => x h2 j2) (fun z => absurd rfl z)
theorem w_wholes (j : J h) (hi : i + 7 ≤ L) (hL : L ≤ 3584) (hc : Nat.ble (cells + 17) RC = true) (hs : Nat.ble (slots + 307) RS = true) (x : ∀ h2, J h2 → lwF PQ L f RC RS (cells + 17) (slots + 307) 1968 i v5 v6 [] h2) : lwF PQ L f RC RS cells slots 1448 i v5 v6 [] h := by
  refine p_wide (cells + 17) (slots + 307) (by omega) (by omega) ?_
  obtain ⟨r, h1, m1, S1, n1⟩ := q_wholes j 
  refine p_aL1 dL_law_1448 ?_
  refine pe_v0i m1 lm_L_142 dL_law_1449 j.1.1.1.i0 j.1.1.1.k0 rfl rfl hc hs ?_
  refine p_aL2 dL_law_1452 ?_
  refine p_v0 n1 lm_L_145 dL_law_1453 S1.i50 S1.k50 rfl rfl hc hs (fun v h2 e => ?_)
  obtain ⟨rfl, j2⟩ := e
  show lwF PQ L f RC RS (cells + 17) (slots + 307) 1456 i v5 v6 [.int r, .int r] h2
  exact p_iceq dL_law_1456 (fun _ => x h2 j2) (fun z => absurd rfl z)
theorem w_whole (j : J h) (hi : i + 7 ≤ L) (hL : L ≤ 3584) (hc : Nat.ble (cells + 17) RC = true) (hs : Nat.ble (slots + 307) RS = true) (x : ∀ h2, J h2 → lwF PQ L f RC RS (cells + 17) (slots + 307) 1968 i v5 v6 [] h2) : lwF PQ L f RC RS cells slots 1461 i v5 v6 [] h := by
  refine p_wide (cells + 17) (slots + 307) (by omega) (by omega) ?_
  obtain ⟨r, h1, m1, S1, n1⟩ := q_whole j (f (i + 1))
  refine p_aL1 dL_law_1461 ?_
  refine w_arg 1 hi hL (by decide) rfl dL_law_1462 dL_law_1463 dL_law_1465 dL_law_1466 dL_law_1467 ?_
  refine pe_v1i m1 lm_L_146 dL_law_1468 j.1.1.1.i0 j.1.1.1.k0 rfl rfl hc hs ?_
  refine p_aL2 dL_law_1471 ?_
  refine w_arg 1 hi hL (by decide) rfl dL_law_1472 dL_law_1473 dL_law_1475 dL_law_1476 dL_law_1477 ?_
  refine p_v1 n1 lm_L_149 dL_law_1478 S1.i50 S1.k50 rfl rfl hc hs (fun v h2 e => ?_)
  obtain ⟨rfl, j2⟩ := e
  show lwF PQ L f RC RS (cells + 17) (slots + 307) 1481 i v5 v6 [.int r, .int r] h2
  exact p_iceq dL_law_1481 (fun _ => x h2 j2) (fun z => absurd rfl z)
theorem w_written (j : J h) (hi : i + 7 ≤ L) (hL : L ≤ 3584) (hc : Nat.ble (cells + 17) RC = true) (hs : Nat.ble (slots + 307) RS = true) (x : ∀ h2, J h2 → lwF PQ L f RC RS (cells + 17) (slots + 307) 1968 i v5 v6 [] h2) : lwF PQ L f RC RS cells slots 1486 i v5 v6 [] h := by
  refine p_wide (cells + 17) (slots + 307) (by omega) (by omega) ?_
  obtain ⟨r, h1, m1, S1, n1⟩ := q_written j (f (i + 1))
  refine p_aL1 dL_law_1486 ?_
  refine w_arg 1 hi hL (by decide) rfl dL_law_1487 dL_law_1488 dL_law_1490 dL_law_1491 dL_law_1492 ?_
  refine pe_v1i m1 lm_L_150 dL_law_1493 j.1.1.1.i0 j.1.1.1.k0 rfl rfl hc hs ?_
  refine p_aL2 dL_law_1496 ?_
  refine w_arg 1 hi hL (by decide) rfl dL_law_1497 dL_law_1498 dL_law_1500 dL_law_1501 dL_law_1502 ?_
  refine p_v1 n1 lm_L_153 dL_law_1503 S1.i50 S1.k50 rfl rfl hc hs (fun v h2 e => ?_)
  obtain ⟨rfl, j2⟩ := e
  show lwF PQ L f RC RS (cells + 17) (slots + 307) 1506 i v5 v6 [.int r, .int r] h2
  exact p_iceq dL_law_1506 (fun _ => x h2 j2) (fun z => absurd rfl z)
theorem w_wordOf (j : J h) (hi : i + 7 ≤ L) (hL : L ≤ 3584) (hc : Nat.ble (cells + 17) RC = true) (hs : Nat.ble (slots + 307) RS = true) (x : ∀ h2, J h2 → lwF PQ L f RC RS (cells + 17) (slots + 307) 1968 i v5 v6 [] h2) : lwF PQ L f RC RS cells slots 1511 i v5 v6 [] h := by
  refine p_wide (cells + 17) (slots + 307) (by omega) (by omega) ?_
  obtain ⟨r, h1, m1, S1, n1⟩ := q_wordOf j (f (i + 1))
  refine p_aL1 dL_law_1511 ?_
  refine w_arg 1 hi hL (by decide) rfl dL_law_1512 dL_law_1513 dL_law_1515 dL_law_1516 dL_law_1517 ?_
  refine pe_v1i m1 lm_L_154 dL_law_1518 j.1.1.1.i0 j.1.1.1.k0 rfl rfl hc hs ?_
  refine p_aL2 dL_law_1521 ?_
  refine w_arg 1 hi hL (by decide) rfl dL_law_1522 dL_law_1523 dL_law_1525 dL_law_1526 dL_law_1527 ?_
  refine p_v1 n1 lm_L_157 dL_law_1528 S1.i50 S1.k50 rfl rfl hc hs (fun v h2 e => ?_)
  obtain ⟨rfl, j2⟩ := e
  show lwF PQ L f RC RS (cells + 17) (slots + 307) 1531 i v5 v6 [.int r, .int r] h2
  exact p_iceq dL_law_1531 (fun _ => x h2 j2) (fun z => absurd rfl z)
theorem w_owner (j : J h) (hi : i + 7 ≤ L) (hL : L ≤ 3584) (hc : Nat.ble (cells + 17) RC = true) (hs : Nat.ble (slots + 307) RS = true) (x : ∀ h2, J h2 → lwF PQ L f RC RS (cells + 17) (slots + 307) 1968 i v5 v6 [] h2) : lwF PQ L f RC RS cells slots 1536 i v5 v6 [] h := by
  refine p_wide (cells + 17) (slots + 307) (by omega) (by omega) ?_
  obtain ⟨r, h1, m1, S1, n1⟩ := q_owner j (f (i + 1))
  refine p_aL1 dL_law_1536 ?_
  refine w_arg 1 hi hL (by decide) rfl dL_law_1537 dL_law_1538 dL_law_1540 dL_law_1541 dL_law_1542 ?_
  refine pe_v1i m1 lm_L_158 dL_law_1543 j.1.1.1.i0 j.1.1.1.k0 rfl rfl hc hs ?_
  refine p_aL2 dL_law_1546 ?_
  refine w_arg 1 hi hL (by decide) rfl dL_law_1547 dL_law_1548 dL_law_1550 dL_law_1551 dL_law_1552 ?_
  refine p_v1 n1 lm_L_161 dL_law_1553 S1.i50 S1.k50 rfl rfl hc hs (fun v h2 e => ?_)
  obtain ⟨rfl, j2⟩ := e
  show lwF PQ L f RC RS (cells + 17) (slots + 307) 1556 i v5 v6 [.int r, .int r] h2
  exact p_iceq dL_law_1556 (fun _ => x h2 j2) (fun z => absurd rfl z)
theorem w_missing (j : J h) (hi : i + 7 ≤ L) (hL : L ≤ 3584) (hc : Nat.ble (cells + 17) RC = true) (hs : Nat.ble (slots + 307) RS = true) (x : ∀ h2, J h2 → lwF PQ L f RC RS (cells + 17) (slots + 307) 1968 i v5 v6 [] h2) : lwF PQ L f RC RS cells slots 1561 i v5 v6 [] h := by
  refine p_wide (cells + 17) (slots + 307) (by omega) (by omega) ?_
  obtain ⟨r, h1, m1, S1, n1⟩ := q_missing j 
  refine p_aL1 dL_law_1561 ?_
  refine pe_v0i m1 lm_L_162 dL_law_1562 j.1.1.1.i0 j.1.1.1.k0 rfl rfl hc hs ?_
  refine p_aL2 dL_law_1565 ?_
  refine p_v0 n1 lm_L_165 dL_law_1566 S1.i50 S1.k50 rfl rfl hc hs (fun v h2 e => ?_)
  obtain ⟨rfl, j2⟩ := e
  show lwF PQ L f RC RS (cells + 17) (slots + 307) 1569 i v5 v6 [.int r, .int r] h2
  exact p_iceq dL_law_1569 (fun _ => x h2 j2) (fun z => absurd rfl z)
theorem w_shelf (j : J h) (hi : i + 7 ≤ L) (hL : L ≤ 3584) (hc : Nat.ble (cells + 17) RC = true) (hs : Nat.ble (slots + 307) RS = true) (x : ∀ h2, J h2 → lwF PQ L f RC RS (cells + 17) (slots + 307) 1968 i v5 v6 [] h2) : lwF PQ L f RC RS cells slots 1574 i v5 v6 [] h := by
  refine p_wide (cells + 17) (slots + 307) (by omega) (by omega) ?_
  obtain ⟨r, h1, m1, S1, n1⟩ := q_shelf j 
  refine p_aL1 dL_law_1574 ?_
  refine pe_v0i m1 lm_L_166 dL_law_1575 j.1.1.1.i0 j.1.1.1.k0 rfl rfl hc hs ?_
  refine p_aL2 dL_law_1578 ?_
  refine p_v0 n1 lm_L_169 dL_law_1579 S1.i50 S1.k50 rfl rfl hc hs (fun v h2 e => ?_)
  obtain ⟨rfl, j2⟩ := e
  show lwF PQ L f RC RS (cells + 17) (slots + 307) 1582 i v5 v6 [.int r, .int r] h2
  exact p_iceq dL_law_1582 (fun _ => x h2 j2) (fun z => absurd rfl z)
theorem w_gain (j : J h) (hi : i + 7 ≤ L) (hL : L ≤ 3584) (hc : Nat.ble (cells + 17) RC = true) (hs : Nat.ble (slots + 307) RS = true) (x : ∀ h2, J h2 → lwF PQ L f RC RS (cells + 17) (slots + 307) 1968 i v5 v6 [] h2) : lwF PQ L f RC RS cells slots 1587 i v5 v6 [] h := by
  refine p_wide (cells + 17) (slots + 307) (by omega) (by omega) ?_
  obtain ⟨r, h1, m1, S1, n1⟩ := q_gain j (f (i + 1)) (f (i + 2))
  refine p_aL1 dL_law_1587 ?_
  refine w_arg 1 hi hL (by decide) rfl dL_law_1588 dL_law_1589 dL_law_1591 dL_law_1592 dL_law_1593 ?_
  refine w_arg 2 hi hL (by decide) rfl dL_law_1594 dL_law_1595 dL_law_1597 dL_law_1598 dL_law_1599 ?_
  refine pe_v2i m1 lm_L_170 dL_law_1600 j.1.1.1.i0 j.1.1.1.k0 rfl rfl hc hs ?_
  refine p_aL2 dL_law_1603 ?_
  refine w_arg 1 hi hL (by decide) rfl dL_law_1604 dL_law_1605 dL_law_1607 dL_law_1608 dL_law_1609 ?_
  refine w_arg 2 hi hL (by decide) rfl dL_law_1610 dL_law_1611 dL_law_1613 dL_law_1614 dL_law_1615 ?_
  refine p_v2 n1 lm_L_173 dL_law_1616 S1.i50 S1.k50 rfl rfl hc hs (fun v h2 e => ?_)
  obtain ⟨rfl, j2⟩ := e
  show lwF PQ L f RC RS (cells + 17) (slots + 307) 1619 i v5 v6 [.int r, .int r] h2
  exact p_iceq dL_law_1619 (fun _ => x h2 j2) (fun z => absurd rfl z)
theorem w_rests (j : J h) (hi : i + 7 ≤ L) (hL : L ≤ 3584) (hc : Nat.ble (cells + 17) RC = true) (hs : Nat.ble (slots + 307) RS = true) (x : ∀ h2, J h2 → lwF PQ L f RC RS (cells + 17) (slots + 307) 1968 i v5 v6 [] h2) : lwF PQ L f RC RS cells slots 1624 i v5 v6 [] h := by
  refine p_wide (cells + 17) (slots + 307) (by omega) (by omega) ?_
  obtain ⟨r, h1, m1, S1, n1⟩ := q_rests j 
  refine p_aL1 dL_law_1624 ?_
  refine pe_v0i m1 lm_L_174 dL_law_1625 j.1.1.1.i0 j.1.1.1.k0 rfl rfl hc hs ?_
  refine p_aL2 dL_law_1628 ?_
  refine p_v0 n1 lm_L_177 dL_law_1629 S1.i50 S1.k50 rfl rfl hc hs (fun v h2 e => ?_)
  obtain ⟨rfl, j2⟩ := e
  show lwF PQ L f RC RS (cells + 17) (slots + 307) 1632 i v5 v6 [.int r, .int r] h2
  exact p_iceq dL_law_1632 (fun _ => x h2 j2) (fun z => absurd rfl z)
end LWS3
