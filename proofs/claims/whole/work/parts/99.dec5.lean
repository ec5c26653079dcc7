/-! DECODE ROWS OF THE LAW, by program -/
theorem dL_law_1354 : gd cL_law 1354 (.invokevirtual 133) 3 1357 := by decide +kernel
theorem dL_law_1357 : gb cL_law 1357 (.if_icmp .eq 611) (611) 1360 1968 := by decide +kernel
theorem dL_law_1360 : decode cL_law 1360 = .ok (.iconst 0, 1) ∧ 1360 + 1 = 1361 ∧ Int32.ofInt (0) = (0) := by decide +kernel
theorem dL_law_1361 : gd cL_law 1361 (.ireturn) 1 1362 := by decide +kernel
theorem dL_law_1362 : gd cL_law 1362 (.aload_n 1) 1 1363 := by decide +kernel
theorem dL_law_1363 : gd cL_law 1363 (.aload_n 0) 1 1364 := by decide +kernel
theorem dL_law_1364 : gd cL_law 1364 (.iload 4) 2 1366 := by decide +kernel
theorem dL_law_1366 : decode cL_law 1366 = .ok (.iconst 1, 1) ∧ 1366 + 1 = 1367 ∧ Int32.ofInt (1) = (1) := by decide +kernel
theorem dL_law_1367 : gd cL_law 1367 (.iadd) 1 1368 := by decide +kernel
theorem dL_law_1368 : gd cL_law 1368 (.iaload) 1 1369 := by decide +kernel
theorem dL_law_1369 : gd cL_law 1369 (.aload_n 0) 1 1370 := by decide +kernel
theorem dL_law_1370 : gd cL_law 1370 (.iload 4) 2 1372 := by decide +kernel
theorem dL_law_1372 : decode cL_law 1372 = .ok (.iconst 2, 1) ∧ 1372 + 1 = 1373 ∧ Int32.ofInt (2) = (2) := by decide +kernel
theorem dL_law_1373 : gd cL_law 1373 (.iadd) 1 1374 := by decide +kernel
theorem dL_law_1374 : gd cL_law 1374 (.iaload) 1 1375 := by decide +kernel
theorem dL_law_1375 : gd cL_law 1375 (.aload_n 0) 1 1376 := by decide +kernel
theorem dL_law_1376 : gd cL_law 1376 (.iload 4) 2 1378 := by decide +kernel
theorem dL_law_1378 : decode cL_law 1378 = .ok (.iconst 3, 1) ∧ 1378 + 1 = 1379 ∧ Int32.ofInt (3) = (3) := by decide +kernel
theorem dL_law_1379 : gd cL_law 1379 (.iadd) 1 1380 := by decide +kernel
theorem dL_law_1380 : gd cL_law 1380 (.iaload) 1 1381 := by decide +kernel
theorem dL_law_1381 : gd cL_law 1381 (.invokevirtual 134) 3 1384 := by decide +kernel
theorem dL_law_1384 : gd cL_law 1384 (.aload_n 2) 1 1385 := by decide +kernel
theorem dL_law_1385 : gd cL_law 1385 (.aload_n 0) 1 1386 := by decide +kernel
theorem dL_law_1386 : gd cL_law 1386 (.iload 4) 2 1388 := by decide +kernel
theorem dL_law_1388 : decode cL_law 1388 = .ok (.iconst 1, 1) ∧ 1388 + 1 = 1389 ∧ Int32.ofInt (1) = (1) := by decide +kernel
theorem dL_law_1389 : gd cL_law 1389 (.iadd) 1 1390 := by decide +kernel
theorem dL_law_1390 : gd cL_law 1390 (.iaload) 1 1391 := by decide +kernel
theorem dL_law_1391 : gd cL_law 1391 (.aload_n 0) 1 1392 := by decide +kernel
theorem dL_law_1392 : gd cL_law 1392 (.iload 4) 2 1394 := by decide +kernel
theorem dL_law_1394 : decode cL_law 1394 = .ok (.iconst 2, 1) ∧ 1394 + 1 = 1395 ∧ Int32.ofInt (2) = (2) := by decide +kernel
theorem dL_law_1395 : gd cL_law 1395 (.iadd) 1 1396 := by decide +kernel
theorem dL_law_1396 : gd cL_law 1396 (.iaload) 1 1397 := by decide +kernel
theorem dL_law_1397 : gd cL_law 1397 (.aload_n 0) 1 1398 := by decide +kernel
theorem dL_law_1398 : gd cL_law 1398 (.iload 4) 2 1400 := by decide +kernel
theorem dL_law_1400 : decode cL_law 1400 = .ok (.iconst 3, 1) ∧ 1400 + 1 = 1401 ∧ Int32.ofInt (3) = (3) := by decide +kernel
theorem dL_law_1401 : gd cL_law 1401 (.iadd) 1 1402 := by decide +kernel
theorem dL_law_1402 : gd cL_law 1402 (.iaload) 1 1403 := by decide +kernel
theorem dL_law_1403 : gd cL_law 1403 (.invokevirtual 137) 3 1406 := by decide +kernel
theorem dL_law_1406 : gb cL_law 1406 (.if_icmp .eq 562) (562) 1409 1968 := by decide +kernel
theorem dL_law_1409 : decode cL_law 1409 = .ok (.iconst 0, 1) ∧ 1409 + 1 = 1410 ∧ Int32.ofInt (0) = (0) := by decide +kernel
theorem dL_law_1410 : gd cL_law 1410 (.ireturn) 1 1411 := by decide +kernel
theorem dL_law_1411 : gd cL_law 1411 (.aload_n 1) 1 1412 := by decide +kernel
theorem dL_law_1412 : gd cL_law 1412 (.aload_n 0) 1 1413 := by decide +kernel
theorem dL_law_1413 : gd cL_law 1413 (.iload 4) 2 1415 := by decide +kernel
theorem dL_law_1415 : decode cL_law 1415 = .ok (.iconst 1, 1) ∧ 1415 + 1 = 1416 ∧ Int32.ofInt (1) = (1) := by decide +kernel
theorem dL_law_1416 : gd cL_law 1416 (.iadd) 1 1417 := by decide +kernel
theorem dL_law_1417 : gd cL_law 1417 (.iaload) 1 1418 := by decide +kernel
theorem dL_law_1418 : gd cL_law 1418 (.aload_n 0) 1 1419 := by decide +kernel
theorem dL_law_1419 : gd cL_law 1419 (.iload 4) 2 1421 := by decide +kernel
theorem dL_law_1421 : decode cL_law 1421 = .ok (.iconst 2, 1) ∧ 1421 + 1 = 1422 ∧ Int32.ofInt (2) = (2) := by decide +kernel
theorem dL_law_1422 : gd cL_law 1422 (.iadd) 1 1423 := by decide +kernel
theorem dL_law_1423 : gd cL_law 1423 (.iaload) 1 1424 := by decide +kernel
theorem dL_law_1424 : gd cL_law 1424 (.invokevirtual 138) 3 1427 := by decide +kernel
theorem dL_law_1427 : gd cL_law 1427 (.aload_n 2) 1 1428 := by decide +kernel
theorem dL_law_1428 : gd cL_law 1428 (.aload_n 0) 1 1429 := by decide +kernel
theorem dL_law_1429 : gd cL_law 1429 (.iload 4) 2 1431 := by decide +kernel
theorem dL_law_1431 : decode cL_law 1431 = .ok (.iconst 1, 1) ∧ 1431 + 1 = 1432 ∧ Int32.ofInt (1) = (1) := by decide +kernel
theorem dL_law_1432 : gd cL_law 1432 (.iadd) 1 1433 := by decide +kernel
theorem dL_law_1433 : gd cL_law 1433 (.iaload) 1 1434 := by decide +kernel
theorem dL_law_1434 : gd cL_law 1434 (.aload_n 0) 1 1435 := by decide +kernel
theorem dL_law_1435 : gd cL_law 1435 (.iload 4) 2 1437 := by decide +kernel
theorem dL_law_1437 : decode cL_law 1437 = .ok (.iconst 2, 1) ∧ 1437 + 1 = 1438 ∧ Int32.ofInt (2) = (2) := by decide +kernel
theorem dL_law_1438 : gd cL_law 1438 (.iadd) 1 1439 := by decide +kernel
theorem dL_law_1439 : gd cL_law 1439 (.iaload) 1 1440 := by decide +kernel
theorem dL_law_1440 : gd cL_law 1440 (.invokevirtual 141) 3 1443 := by decide +kernel
theorem dL_law_1443 : gb cL_law 1443 (.if_icmp .eq 525) (525) 1446 1968 := by decide +kernel
theorem dL_law_1446 : decode cL_law 1446 = .ok (.iconst 0, 1) ∧ 1446 + 1 = 1447 ∧ Int32.ofInt (0) = (0) := by decide +kernel
theorem dL_law_1447 : gd cL_law 1447 (.ireturn) 1 1448 := by decide +kernel
theorem dL_law_1448 : gd cL_law 1448 (.aload_n 1) 1 1449 := by decide +kernel
theorem dL_law_1449 : gd cL_law 1449 (.invokevirtual 142) 3 1452 := by decide +kernel
theorem dL_law_1452 : gd cL_law 1452 (.aload_n 2) 1 1453 := by decide +kernel
theorem dL_law_1453 : gd cL_law 1453 (.invokevirtual 145) 3 1456 := by decide +kernel
theorem dL_law_1456 : gb cL_law 1456 (.if_icmp .eq 512) (512) 1459 1968 := by decide +kernel
theorem dL_law_1459 : decode cL_law 1459 = .ok (.iconst 0, 1) ∧ 1459 + 1 = 1460 ∧ Int32.ofInt (0) = (0) := by decide +kernel
theorem dL_law_1460 : gd cL_law 1460 (.ireturn) 1 1461 := by decide +kernel
theorem dL_law_1461 : gd cL_law 1461 (.aload_n 1) 1 1462 := by decide +kernel
theorem dL_law_1462 : gd cL_law 1462 (.aload_n 0) 1 1463 := by decide +kernel
theorem dL_law_1463 : gd cL_law 1463 (.iload 4) 2 1465 := by decide +kernel
theorem dL_law_1465 : decode cL_law 1465 = .ok (.iconst 1, 1) ∧ 1465 + 1 = 1466 ∧ Int32.ofInt (1) = (1) := by decide +kernel
theorem dL_law_1466 : gd cL_law 1466 (.iadd) 1 1467 := by decide +kernel
theorem dL_law_1467 : gd cL_law 1467 (.iaload) 1 1468 := by decide +kernel
theorem dL_law_1468 : gd cL_law 1468 (.invokevirtual 146) 3 1471 := by decide +kernel
theorem dL_law_1471 : gd cL_law 1471 (.aload_n 2) 1 1472 := by decide +kernel
theorem dL_law_1472 : gd cL_law 1472 (.aload_n 0) 1 1473 := by decide +kernel
theorem dL_law_1473 : gd cL_law 1473 (.iload 4) 2 1475 := by decide +kernel
theorem dL_law_1475 : decode cL_law 1475 = .ok (.iconst 1, 1) ∧ 1475 + 1 = 1476 ∧ Int32.ofInt (1) = (1) := by decide +kernel
theorem dL_law_1476 : gd cL_law 1476 (.iadd) 1 1477 := by decide +kernel
theorem dL_law_1477 : gd cL_law 1477 (.iaload) 1 1478 := by decide +kernel
theorem dL_law_1478 : gd cL_law 1478 (.invokevirtual 149) 3 1481 := by decide +kernel
theorem dL_law_1481 : gb cL_law 1481 (.if_icmp .eq 487) (487) 1484 1968 := by decide +kernel
theorem dL_law_1484 : decode cL_law 1484 = .ok (.iconst 0, 1) ∧ 1484 + 1 = 1485 ∧ Int32.ofInt (0) = (0) := by decide +kernel
theorem dL_law_1485 : gd cL_law 1485 (.ireturn) 1 1486 := by decide +kernel
theorem dL_law_1486 : gd cL_law 1486 (.aload_n 1) 1 1487 := by decide +kernel
theorem dL_law_1487 : gd cL_law 1487 (.aload_n 0) 1 1488 := by decide +kernel
theorem dL_law_1488 : gd cL_law 1488 (.iload 4) 2 1490 := by decide +kernel
theorem dL_law_1490 : decode cL_law 1490 = .ok (.iconst 1, 1) ∧ 1490 + 1 = 1491 ∧ Int32.ofInt (1) = (1) := by decide +kernel
theorem dL_law_1491 : gd cL_law 1491 (.iadd) 1 1492 := by decide +kernel
theorem dL_law_1492 : gd cL_law 1492 (.iaload) 1 1493 := by decide +kernel
theorem dL_law_1493 : gd cL_law 1493 (.invokevirtual 150) 3 1496 := by decide +kernel
theorem dL_law_1496 : gd cL_law 1496 (.aload_n 2) 1 1497 := by decide +kernel
theorem dL_law_1497 : gd cL_law 1497 (.aload_n 0) 1 1498 := by decide +kernel
theorem dL_law_1498 : gd cL_law 1498 (.iload 4) 2 1500 := by decide +kernel
theorem dL_law_1500 : decode cL_law 1500 = .ok (.iconst 1, 1) ∧ 1500 + 1 = 1501 ∧ Int32.ofInt (1) = (1) := by decide +kernel
theorem dL_law_1501 : gd cL_law 1501 (.iadd) 1 1502 := by decide +kernel
theorem dL_law_1502 : gd cL_law 1502 (.iaload) 1 1503 := by decide +kernel
theorem dL_law_1503 : gd cL_law 1503 (.invokevirtual 153) 3 1506 := by decide +kernel
theorem dL_law_1506 : gb cL_law 1506 (.if_icmp .eq 462) (462) 1509 1968 := by decide +kernel
theorem dL_law_1509 : decode cL_law 1509 = .ok (.iconst 0, 1) ∧ 1509 + 1 = 1510 ∧ Int32.ofInt (0) = (0) := by decide +kernel
theorem dL_law_1510 : gd cL_law 1510 (.ireturn) 1 1511 := by decide +kernel
theorem dL_law_1511 : gd cL_law 1511 (.aload_n 1) 1 1512 := by decide +kernel
theorem dL_law_1512 : gd cL_law 1512 (.aload_n 0) 1 1513 := by decide +kernel
theorem dL_law_1513 : gd cL_law 1513 (.iload 4) 2 1515 := by decide +kernel
theorem dL_law_1515 : decode cL_law 1515 = .ok (.iconst 1, 1) ∧ 1515 + 1 = 1516 ∧ Int32.ofInt (1) = (1) := by decide +kernel
theorem dL_law_1516 : gd cL_law 1516 (.iadd) 1 1517 := by decide +kernel
theorem dL_law_1517 : gd cL_law 1517 (.iaload) 1 1518 := by decide +kernel
theorem dL_law_1518 : gd cL_law 1518 (.invokevirtual 154) 3 1521 := by decide +kernel
theorem dL_law_1521 : gd cL_law 1521 (.aload_n 2) 1 1522 := by decide +kernel
theorem dL_law_1522 : gd cL_law 1522 (.aload_n 0) 1 1523 := by decide +kernel
theorem dL_law_1523 : gd cL_law 1523 (.iload 4) 2 1525 := by decide +kernel
theorem dL_law_1525 : decode cL_law 1525 = .ok (.iconst 1, 1) ∧ 1525 + 1 = 1526 ∧ Int32.ofInt (1) = (1) := by decide +kernel
theorem dL_law_1526 : gd cL_law 1526 (.iadd) 1 1527 := by decide +kernel
theorem dL_law_1527 : gd cL_law 1527 (.iaload) 1 1528 := by decide +kernel
theorem dL_law_1528 : gd cL_law 1528 (.invokevirtual 157) 3 1531 := by decide +kernel
theorem dL_law_1531 : gb cL_law 1531 (.if_icmp .eq 437) (437) 1534 1968 := by decide +kernel
theorem dL_law_1534 : decode cL_law 1534 = .ok (.iconst 0, 1) ∧ 1534 + 1 = 1535 ∧ Int32.ofInt (0) = (0) := by decide +kernel
theorem dL_law_1535 : gd cL_law 1535 (.ireturn) 1 1536 := by decide +kernel
theorem dL_law_1536 : gd cL_law 1536 (.aload_n 1) 1 1537 := by decide +kernel
theorem dL_law_1537 : gd cL_law 1537 (.aload_n 0) 1 1538 := by decide +kernel
theorem dL_law_1538 : gd cL_law 1538 (.iload 4) 2 1540 := by decide +kernel
theorem dL_law_1540 : decode cL_law 1540 = .ok (.iconst 1, 1) ∧ 1540 + 1 = 1541 ∧ Int32.ofInt (1) = (1) := by decide +kernel
theorem dL_law_1541 : gd cL_law 1541 (.iadd) 1 1542 := by decide +kernel
theorem dL_law_1542 : gd cL_law 1542 (.iaload) 1 1543 := by decide +kernel
theorem dL_law_1543 : gd cL_law 1543 (.invokevirtual 158) 3 1546 := by decide +kernel
theorem dL_law_1546 : gd cL_law 1546 (.aload_n 2) 1 1547 := by decide +kernel
theorem dL_law_1547 : gd cL_law 1547 (.aload_n 0) 1 1548 := by decide +kernel
theorem dL_law_1548 : gd cL_law 1548 (.iload 4) 2 1550 := by decide +kernel
theorem dL_law_1550 : decode cL_law 1550 = .ok (.iconst 1, 1) ∧ 1550 + 1 = 1551 ∧ Int32.ofInt (1) = (1) := by decide +kernel
theorem dL_law_1551 : gd cL_law 1551 (.iadd) 1 1552 := by decide +kernel
theorem dL_law_1552 : gd cL_law 1552 (.iaload) 1 1553 := by decide +kernel
theorem dL_law_1553 : gd cL_law 1553 (.invokevirtual 161) 3 1556 := by decide +kernel
theorem dL_law_1556 : gb cL_law 1556 (.if_icmp .eq 412) (412) 1559 1968 := by decide +kernel
theorem dL_law_1559 : decode cL_law 1559 = .ok (.iconst 0, 1) ∧ 1559 + 1 = 1560 ∧ Int32.ofInt (0) = (0) := by decide +kernel
theorem dL_law_1560 : gd cL_law 1560 (.ireturn) 1 1561 := by decide +kernel
theorem dL_law_1561 : gd cL_law 1561 (.aload_n 1) 1 1562 := by decide +kernel
theorem dL_law_1562 : gd cL_law 1562 (.invokevirtual 162) 3 1565 := by decide +kernel
theorem dL_law_1565 : gd cL_law 1565 (.aload_n 2) 1 1566 := by decide +kernel
theorem dL_law_1566 : gd cL_law 1566 (.invokevirtual 165) 3 1569 := by decide +kernel
theorem dL_law_1569 : gb cL_law 1569 (.if_icmp .eq 399) (399) 1572 1968 := by decide +kernel
theorem dL_law_1572 : decode cL_law 1572 = .ok (.iconst 0, 1) ∧ 1572 + 1 = 1573 ∧ Int32.ofInt (0) = (0) := by decide +kernel
theorem dL_law_1573 : gd cL_law 1573 (.ireturn) 1 1574 := by decide +kernel
theorem dL_law_1574 : gd cL_law 1574 (.aload_n 1) 1 1575 := by decide +kernel
theorem dL_law_1575 : gd cL_law 1575 (.invokevirtual 166) 3 1578 := by decide +kernel
theorem dL_law_1578 : gd cL_law 1578 (.aload_n 2) 1 1579 := by decide +kernel
theorem dL_law_1579 : gd cL_law 1579 (.invokevirtual 169) 3 1582 := by decide +kernel
theorem dL_law_1582 : gb cL_law 1582 (.if_icmp .eq 386) (386) 1585 1968 := by decide +kernel
theorem dL_law_1585 : decode cL_law 1585 = .ok (.iconst 0, 1) ∧ 1585 + 1 = 1586 ∧ Int32.ofInt (0) = (0) := by decide +kernel
theorem dL_law_1586 : gd cL_law 1586 (.ireturn) 1 1587 := by decide +kernel
theorem dL_law_1587 : gd cL_law 1587 (.aload_n 1) 1 1588 := by decide +kernel
theorem dL_law_1588 : gd cL_law 1588 (.aload_n 0) 1 1589 := by decide +kernel
theorem dL_law_1589 : gd cL_law 1589 (.iload 4) 2 1591 := by decide +kernel
theorem dL_law_1591 : decode cL_law 1591 = .ok (.iconst 1, 1) ∧ 1591 + 1 = 1592 ∧ Int32.ofInt (1) = (1) := by decide +kernel
theorem dL_law_1592 : gd cL_law 1592 (.iadd) 1 1593 := by decide +kernel
theorem dL_law_1593 : gd cL_law 1593 (.iaload) 1 1594 := by decide +kernel
theorem dL_law_1594 : gd cL_law 1594 (.aload_n 0) 1 1595 := by decide +kernel
theorem dL_law_1595 : gd cL_law 1595 (.iload 4) 2 1597 := by decide +kernel
theorem dL_law_1597 : decode cL_law 1597 = .ok (.iconst 2, 1) ∧ 1597 + 1 = 1598 ∧ Int32.ofInt (2) = (2) := by decide +kernel
theorem dL_law_1598 : gd cL_law 1598 (.iadd) 1 1599 := by decide +kernel
theorem dL_law_1599 : gd cL_law 1599 (.iaload) 1 1600 := by decide +kernel
theorem dL_law_1600 : gd cL_law 1600 (.invokevirtual 170) 3 1603 := by decide +kernel
theorem dL_law_1603 : gd cL_law 1603 (.aload_n 2) 1 1604 := by decide +kernel
theorem dL_law_1604 : gd cL_law 1604 (.aload_n 0) 1 1605 := by decide +kernel
theorem dL_law_1605 : gd cL_law 1605 (.iload 4) 2 1607 := by decide +kernel
theorem dL_law_1607 : decode cL_law 1607 = .ok (.iconst 1, 1) ∧ 1607 + 1 = 1608 ∧ Int32.ofInt (1) = (1) := by decide +kernel
theorem dL_law_1608 : gd cL_law 1608 (.iadd) 1 1609 := by decide +kernel
theorem dL_law_1609 : gd cL_law 1609 (.iaload) 1 1610 := by decide +kernel
theorem dL_law_1610 : gd cL_law 1610 (.aload_n 0) 1 1611 := by decide +kernel
theorem dL_law_1611 : gd cL_law 1611 (.iload 4) 2 1613 := by decide +kernel
theorem dL_law_1613 : decode cL_law 1613 = .ok (.iconst 2, 1) ∧ 1613 + 1 = 1614 ∧ Int32.ofInt (2) = (2) := by decide +kernel
theorem dL_law_1614 : gd cL_law 1614 (.iadd) 1 1615 := by decide +kernel
theorem dL_law_1615 : gd cL_law 1615 (.iaload) 1 1616 := by decide +kernel
theorem dL_law_1616 : gd cL_law 1616 (.invokevirtual 173) 3 1619 := by decide +kernel
theorem dL_law_1619 : gb cL_law 1619 (.if_icmp .eq 349) (349) 1622 1968 := by decide +kernel
theorem dL_law_1622 : decode cL_law 1622 = .ok (.iconst 0, 1) ∧ 1622 + 1 = 1623 ∧ Int32.ofInt (0) = (0) := by decide +kernel
theorem dL_law_1623 : gd cL_law 1623 (.ireturn) 1 1624 := by decide +kernel
theorem dL_law_1624 : gd cL_law 1624 (.aload_n 1) 1 1625 := by decide +kernel
theorem dL_law_1625 : gd cL_law 1625 (.invokevirtual 174) 3 1628 := by decide +kernel
theorem dL_law_1628 : gd cL_law 1628 (.aload_n 2) 1 1629 := by decide +kernel
theorem dL_law_1629 : gd cL_law 1629 (.invokevirtual 177) 3 1632 := by decide +kernel
theorem dL_law_1632 : gb cL_law 1632 (.if_icmp .eq 336) (336) 1635 1968 := by decide +kernel
theorem dL_law_1635 : decode cL_law 1635 = .ok (.iconst 0, 1) ∧ 1635 + 1 = 1636 ∧ Int32.ofInt (0) = (0) := by decide +kernel
theorem dL_law_1636 : gd cL_law 1636 (.ireturn) 1 1637 := by decide +kernel
theorem dL_law_1637 : gd cL_law 1637 (.aload_n 1) 1 1638 := by decide +kernel
theorem dL_law_1638 : gd cL_law 1638 (.invokevirtual 178) 3 1641 := by decide +kernel
theorem dL_law_1641 : gd cL_law 1641 (.aload_n 2) 1 1642 := by decide +kernel
theorem dL_law_1642 : gd cL_law 1642 (.invokevirtual 181) 3 1645 := by decide +kernel
theorem dL_law_1645 : gb cL_law 1645 (.if_icmp .eq 323) (323) 1648 1968 := by decide +kernel
theorem dL_law_1648 : decode cL_law 1648 = .ok (.iconst 0, 1) ∧ 1648 + 1 = 1649 ∧ Int32.ofInt (0) = (0) := by decide +kernel
theorem dL_law_1649 : gd cL_law 1649 (.ireturn) 1 1650 := by decide +kernel
theorem dL_law_1650 : gd cL_law 1650 (.aload_n 1) 1 1651 := by decide +kernel
theorem dL_law_1651 : gd cL_law 1651 (.aload_n 0) 1 1652 := by decide +kernel
theorem dL_law_1652 : gd cL_law 1652 (.iload 4) 2 1654 := by decide +kernel
theorem dL_law_1654 : decode cL_law 1654 = .ok (.iconst 1, 1) ∧ 1654 + 1 = 1655 ∧ Int32.ofInt (1) = (1) := by decide +kernel
theorem dL_law_1655 : gd cL_law 1655 (.iadd) 1 1656 := by decide +kernel
theorem dL_law_1656 : gd cL_law 1656 (.iaload) 1 1657 := by decide +kernel
theorem dL_law_1657 : gd cL_law 1657 (.aload_n 0) 1 1658 := by decide +kernel
theorem dL_law_1658 : gd cL_law 1658 (.iload 4) 2 1660 := by decide +kernel
theorem dL_law_1660 : decode cL_law 1660 = .ok (.iconst 2, 1) ∧ 1660 + 1 = 1661 ∧ Int32.ofInt (2) = (2) := by decide +kernel
theorem dL_law_1661 : gd cL_law 1661 (.iadd) 1 1662 := by decide +kernel
theorem dL_law_1662 : gd cL_law 1662 (.iaload) 1 1663 := by decide +kernel
theorem dL_law_1663 : gd cL_law 1663 (.invokevirtual 182) 3 1666 := by decide +kernel
