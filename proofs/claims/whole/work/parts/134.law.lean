theorem d_L_law_1323 : decode mL_law.2.1 1323 = .ok (.iconst 1, 1) := by decide +kernel
theorem d_L_law_1324 : decode mL_law.2.1 1324 = .ok (.iadd, 1) := by decide +kernel
theorem d_L_law_1325 : decode mL_law.2.1 1325 = .ok (.iaload, 1) := by decide +kernel
theorem d_L_law_1326 : decode mL_law.2.1 1326 = .ok (.aload_n 0, 1) := by decide +kernel
theorem d_L_law_1327 : decode mL_law.2.1 1327 = .ok (.iload 5, 2) := by decide +kernel
theorem d_L_law_1329 : decode mL_law.2.1 1329 = .ok (.iconst 2, 1) := by decide +kernel
theorem d_L_law_1330 : decode mL_law.2.1 1330 = .ok (.iadd, 1) := by decide +kernel
theorem d_L_law_1331 : decode mL_law.2.1 1331 = .ok (.iaload, 1) := by decide +kernel
theorem d_L_law_1332 : decode mL_law.2.1 1332 = .ok (.invokevirtual 191, 3) := by decide +kernel
theorem d_L_law_1335 : decode mL_law.2.1 1335 = .ok (.istore 7, 2) := by decide +kernel
theorem d_L_law_1337 : decode mL_law.2.1 1337 = .ok (.aload_n 2, 1) := by decide +kernel
theorem d_L_law_1338 : decode mL_law.2.1 1338 = .ok (.invokevirtual 140, 3) := by decide +kernel
theorem d_L_law_1341 : decode mL_law.2.1 1341 = .ok (.iload 6, 2) := by decide +kernel
theorem d_L_law_1343 : decode mL_law.2.1 1343 = .ok (.if_icmp .eq 5, 3) := by decide +kernel
theorem d_L_law_1346 : decode mL_law.2.1 1346 = .ok (.iconst 0, 1) := by decide +kernel
theorem d_L_law_1347 : decode mL_law.2.1 1347 = .ok (.ireturn, 1) := by decide +kernel
theorem d_L_law_1348 : decode mL_law.2.1 1348 = .ok (.iload 6, 2) := by decide +kernel
theorem d_L_law_1350 : decode mL_law.2.1 1350 = .ok (.ifCond .ne 15, 3) := by decide +kernel
theorem d_L_law_1353 : decode mL_law.2.1 1353 = .ok (.aload_n 3, 1) := by decide +kernel
theorem d_L_law_1354 : decode mL_law.2.1 1354 = .ok (.iconst 0, 1) := by decide +kernel
theorem d_L_law_1355 : decode mL_law.2.1 1355 = .ok (.laload, 1) := by decide +kernel
theorem d_L_law_1356 : decode mL_law.2.1 1356 = .ok (.iload 7, 2) := by decide +kernel
theorem d_L_law_1358 : decode mL_law.2.1 1358 = .ok (.i2l, 1) := by decide +kernel
theorem d_L_law_1359 : decode mL_law.2.1 1359 = .ok (.lcmp, 1) := by decide +kernel
theorem d_L_law_1360 : decode mL_law.2.1 1360 = .ok (.ifCond .eq 5, 3) := by decide +kernel
theorem d_L_law_1363 : decode mL_law.2.1 1363 = .ok (.iconst 0, 1) := by decide +kernel
theorem d_L_law_1364 : decode mL_law.2.1 1364 = .ok (.ireturn, 1) := by decide +kernel
theorem d_L_law_1365 : decode mL_law.2.1 1365 = .ok (.goto 1169, 3) := by decide +kernel
theorem d_L_law_1368 : decode mL_law.2.1 1368 = .ok (.aload_n 1, 1) := by decide +kernel
theorem d_L_law_1369 : decode mL_law.2.1 1369 = .ok (.aload_n 0, 1) := by decide +kernel
theorem d_L_law_1370 : decode mL_law.2.1 1370 = .ok (.iload 5, 2) := by decide +kernel
theorem d_L_law_1372 : decode mL_law.2.1 1372 = .ok (.iconst 1, 1) := by decide +kernel
theorem d_L_law_1373 : decode mL_law.2.1 1373 = .ok (.iadd, 1) := by decide +kernel
theorem d_L_law_1374 : decode mL_law.2.1 1374 = .ok (.iaload, 1) := by decide +kernel
theorem d_L_law_1375 : decode mL_law.2.1 1375 = .ok (.aload_n 3, 1) := by decide +kernel
theorem d_L_law_1376 : decode mL_law.2.1 1376 = .ok (.invokestatic 192, 3) := by decide +kernel
theorem d_L_law_1379 : decode mL_law.2.1 1379 = .ok (.istore 6, 2) := by decide +kernel
theorem d_L_law_1381 : decode mL_law.2.1 1381 = .ok (.aload_n 2, 1) := by decide +kernel
theorem d_L_law_1382 : decode mL_law.2.1 1382 = .ok (.aload_n 0, 1) := by decide +kernel
theorem d_L_law_1383 : decode mL_law.2.1 1383 = .ok (.iload 5, 2) := by decide +kernel
theorem d_L_law_1385 : decode mL_law.2.1 1385 = .ok (.iconst 1, 1) := by decide +kernel
theorem d_L_law_1386 : decode mL_law.2.1 1386 = .ok (.iadd, 1) := by decide +kernel
theorem d_L_law_1387 : decode mL_law.2.1 1387 = .ok (.iaload, 1) := by decide +kernel
theorem d_L_law_1388 : decode mL_law.2.1 1388 = .ok (.invokevirtual 194, 3) := by decide +kernel
theorem d_L_law_1391 : decode mL_law.2.1 1391 = .ok (.istore 7, 2) := by decide +kernel
theorem d_L_law_1393 : decode mL_law.2.1 1393 = .ok (.aload_n 2, 1) := by decide +kernel
theorem d_L_law_1394 : decode mL_law.2.1 1394 = .ok (.invokevirtual 140, 3) := by decide +kernel
theorem d_L_law_1397 : decode mL_law.2.1 1397 = .ok (.iload 6, 2) := by decide +kernel
theorem d_L_law_1399 : decode mL_law.2.1 1399 = .ok (.if_icmp .eq 5, 3) := by decide +kernel
theorem d_L_law_1402 : decode mL_law.2.1 1402 = .ok (.iconst 0, 1) := by decide +kernel
theorem d_L_law_1403 : decode mL_law.2.1 1403 = .ok (.ireturn, 1) := by decide +kernel
theorem d_L_law_1404 : decode mL_law.2.1 1404 = .ok (.iload 6, 2) := by decide +kernel
theorem d_L_law_1406 : decode mL_law.2.1 1406 = .ok (.ifCond .ne 15, 3) := by decide +kernel
theorem d_L_law_1409 : decode mL_law.2.1 1409 = .ok (.aload_n 3, 1) := by decide +kernel
theorem d_L_law_1410 : decode mL_law.2.1 1410 = .ok (.iconst 0, 1) := by decide +kernel
theorem d_L_law_1411 : decode mL_law.2.1 1411 = .ok (.laload, 1) := by decide +kernel
theorem d_L_law_1412 : decode mL_law.2.1 1412 = .ok (.iload 7, 2) := by decide +kernel
theorem d_L_law_1414 : decode mL_law.2.1 1414 = .ok (.i2l, 1) := by decide +kernel
theorem d_L_law_1415 : decode mL_law.2.1 1415 = .ok (.lcmp, 1) := by decide +kernel
theorem d_L_law_1416 : decode mL_law.2.1 1416 = .ok (.ifCond .eq 5, 3) := by decide +kernel
theorem d_L_law_1419 : decode mL_law.2.1 1419 = .ok (.iconst 0, 1) := by decide +kernel
theorem d_L_law_1420 : decode mL_law.2.1 1420 = .ok (.ireturn, 1) := by decide +kernel
theorem d_L_law_1421 : decode mL_law.2.1 1421 = .ok (.goto 1113, 3) := by decide +kernel
theorem d_L_law_1424 : decode mL_law.2.1 1424 = .ok (.aload_n 1, 1) := by decide +kernel
theorem d_L_law_1425 : decode mL_law.2.1 1425 = .ok (.aload_n 0, 1) := by decide +kernel
theorem d_L_law_1426 : decode mL_law.2.1 1426 = .ok (.iload 5, 2) := by decide +kernel
theorem d_L_law_1428 : decode mL_law.2.1 1428 = .ok (.iconst 1, 1) := by decide +kernel
theorem d_L_law_1429 : decode mL_law.2.1 1429 = .ok (.iadd, 1) := by decide +kernel
theorem d_L_law_1430 : decode mL_law.2.1 1430 = .ok (.iaload, 1) := by decide +kernel
theorem d_L_law_1431 : decode mL_law.2.1 1431 = .ok (.aload_n 0, 1) := by decide +kernel
theorem d_L_law_1432 : decode mL_law.2.1 1432 = .ok (.iload 5, 2) := by decide +kernel
theorem d_L_law_1434 : decode mL_law.2.1 1434 = .ok (.iconst 2, 1) := by decide +kernel
theorem d_L_law_1435 : decode mL_law.2.1 1435 = .ok (.iadd, 1) := by decide +kernel
theorem d_L_law_1436 : decode mL_law.2.1 1436 = .ok (.iaload, 1) := by decide +kernel
theorem d_L_law_1437 : decode mL_law.2.1 1437 = .ok (.aload_n 0, 1) := by decide +kernel
theorem d_L_law_1438 : decode mL_law.2.1 1438 = .ok (.iload 5, 2) := by decide +kernel
theorem d_L_law_1440 : decode mL_law.2.1 1440 = .ok (.iconst 3, 1) := by decide +kernel
theorem d_L_law_1441 : decode mL_law.2.1 1441 = .ok (.iadd, 1) := by decide +kernel
theorem d_L_law_1442 : decode mL_law.2.1 1442 = .ok (.iaload, 1) := by decide +kernel
theorem d_L_law_1443 : decode mL_law.2.1 1443 = .ok (.ifCond .eq 7, 3) := by decide +kernel
theorem d_L_law_1446 : decode mL_law.2.1 1446 = .ok (.iconst 1, 1) := by decide +kernel
theorem d_L_law_1447 : decode mL_law.2.1 1447 = .ok (.goto 4, 3) := by decide +kernel
theorem d_L_law_1450 : decode mL_law.2.1 1450 = .ok (.iconst 0, 1) := by decide +kernel
theorem d_L_law_1451 : decode mL_law.2.1 1451 = .ok (.aload_n 3, 1) := by decide +kernel
theorem d_L_law_1452 : decode mL_law.2.1 1452 = .ok (.invokestatic 195, 3) := by decide +kernel
theorem d_L_law_1455 : decode mL_law.2.1 1455 = .ok (.istore 6, 2) := by decide +kernel
theorem d_L_law_1457 : decode mL_law.2.1 1457 = .ok (.aload_n 2, 1) := by decide +kernel
theorem d_L_law_1458 : decode mL_law.2.1 1458 = .ok (.aload_n 0, 1) := by decide +kernel
theorem d_L_law_1459 : decode mL_law.2.1 1459 = .ok (.iload 5, 2) := by decide +kernel
theorem d_L_law_1461 : decode mL_law.2.1 1461 = .ok (.iconst 1, 1) := by decide +kernel
theorem d_L_law_1462 : decode mL_law.2.1 1462 = .ok (.iadd, 1) := by decide +kernel
theorem d_L_law_1463 : decode mL_law.2.1 1463 = .ok (.iaload, 1) := by decide +kernel
theorem d_L_law_1464 : decode mL_law.2.1 1464 = .ok (.aload_n 0, 1) := by decide +kernel
theorem d_L_law_1465 : decode mL_law.2.1 1465 = .ok (.iload 5, 2) := by decide +kernel
theorem d_L_law_1467 : decode mL_law.2.1 1467 = .ok (.iconst 2, 1) := by decide +kernel
theorem d_L_law_1468 : decode mL_law.2.1 1468 = .ok (.iadd, 1) := by decide +kernel
theorem d_L_law_1469 : decode mL_law.2.1 1469 = .ok (.iaload, 1) := by decide +kernel
theorem d_L_law_1470 : decode mL_law.2.1 1470 = .ok (.aload_n 0, 1) := by decide +kernel
theorem d_L_law_1471 : decode mL_law.2.1 1471 = .ok (.iload 5, 2) := by decide +kernel
theorem d_L_law_1473 : decode mL_law.2.1 1473 = .ok (.iconst 3, 1) := by decide +kernel
theorem d_L_law_1474 : decode mL_law.2.1 1474 = .ok (.iadd, 1) := by decide +kernel
theorem d_L_law_1475 : decode mL_law.2.1 1475 = .ok (.iaload, 1) := by decide +kernel
theorem d_L_law_1476 : decode mL_law.2.1 1476 = .ok (.ifCond .eq 7, 3) := by decide +kernel
theorem d_L_law_1479 : decode mL_law.2.1 1479 = .ok (.iconst 1, 1) := by decide +kernel
theorem d_L_law_1480 : decode mL_law.2.1 1480 = .ok (.goto 4, 3) := by decide +kernel
theorem d_L_law_1483 : decode mL_law.2.1 1483 = .ok (.iconst 0, 1) := by decide +kernel
theorem d_L_law_1484 : decode mL_law.2.1 1484 = .ok (.invokevirtual 197, 3) := by decide +kernel
theorem d_L_law_1487 : decode mL_law.2.1 1487 = .ok (.istore 7, 2) := by decide +kernel
theorem d_L_law_1489 : decode mL_law.2.1 1489 = .ok (.aload_n 2, 1) := by decide +kernel
theorem d_L_law_1490 : decode mL_law.2.1 1490 = .ok (.invokevirtual 140, 3) := by decide +kernel
theorem d_L_law_1493 : decode mL_law.2.1 1493 = .ok (.iload 6, 2) := by decide +kernel
theorem d_L_law_1495 : decode mL_law.2.1 1495 = .ok (.if_icmp .eq 5, 3) := by decide +kernel
theorem d_L_law_1498 : decode mL_law.2.1 1498 = .ok (.iconst 0, 1) := by decide +kernel
theorem d_L_law_1499 : decode mL_law.2.1 1499 = .ok (.ireturn, 1) := by decide +kernel
theorem d_L_law_1500 : decode mL_law.2.1 1500 = .ok (.iload 6, 2) := by decide +kernel
theorem d_L_law_1502 : decode mL_law.2.1 1502 = .ok (.ifCond .ne 15, 3) := by decide +kernel
theorem d_L_law_1505 : decode mL_law.2.1 1505 = .ok (.aload_n 3, 1) := by decide +kernel
theorem d_L_law_1506 : decode mL_law.2.1 1506 = .ok (.iconst 0, 1) := by decide +kernel
theorem d_L_law_1507 : decode mL_law.2.1 1507 = .ok (.laload, 1) := by decide +kernel
theorem d_L_law_1508 : decode mL_law.2.1 1508 = .ok (.iload 7, 2) := by decide +kernel
theorem d_L_law_1510 : decode mL_law.2.1 1510 = .ok (.i2l, 1) := by decide +kernel
theorem d_L_law_1511 : decode mL_law.2.1 1511 = .ok (.lcmp, 1) := by decide +kernel
theorem d_L_law_1512 : decode mL_law.2.1 1512 = .ok (.ifCond .eq 5, 3) := by decide +kernel
theorem d_L_law_1515 : decode mL_law.2.1 1515 = .ok (.iconst 0, 1) := by decide +kernel
theorem d_L_law_1516 : decode mL_law.2.1 1516 = .ok (.ireturn, 1) := by decide +kernel
theorem d_L_law_1517 : decode mL_law.2.1 1517 = .ok (.goto 1017, 3) := by decide +kernel
theorem d_L_law_1520 : decode mL_law.2.1 1520 = .ok (.aload_n 1, 1) := by decide +kernel
theorem d_L_law_1521 : decode mL_law.2.1 1521 = .ok (.aload_n 0, 1) := by decide +kernel
theorem d_L_law_1522 : decode mL_law.2.1 1522 = .ok (.iload 5, 2) := by decide +kernel
theorem d_L_law_1524 : decode mL_law.2.1 1524 = .ok (.iconst 1, 1) := by decide +kernel
theorem d_L_law_1525 : decode mL_law.2.1 1525 = .ok (.iadd, 1) := by decide +kernel
theorem d_L_law_1526 : decode mL_law.2.1 1526 = .ok (.iaload, 1) := by decide +kernel
theorem d_L_law_1527 : decode mL_law.2.1 1527 = .ok (.aload_n 3, 1) := by decide +kernel
theorem d_L_law_1528 : decode mL_law.2.1 1528 = .ok (.invokestatic 198, 3) := by decide +kernel
theorem d_L_law_1531 : decode mL_law.2.1 1531 = .ok (.istore 6, 2) := by decide +kernel
theorem d_L_law_1533 : decode mL_law.2.1 1533 = .ok (.aload_n 2, 1) := by decide +kernel
theorem d_L_law_1534 : decode mL_law.2.1 1534 = .ok (.aload_n 0, 1) := by decide +kernel
theorem d_L_law_1535 : decode mL_law.2.1 1535 = .ok (.iload 5, 2) := by decide +kernel
theorem d_L_law_1537 : decode mL_law.2.1 1537 = .ok (.iconst 1, 1) := by decide +kernel
theorem d_L_law_1538 : decode mL_law.2.1 1538 = .ok (.iadd, 1) := by decide +kernel
theorem d_L_law_1539 : decode mL_law.2.1 1539 = .ok (.iaload, 1) := by decide +kernel
theorem d_L_law_1540 : decode mL_law.2.1 1540 = .ok (.invokevirtual 200, 3) := by decide +kernel
theorem d_L_law_1543 : decode mL_law.2.1 1543 = .ok (.istore 7, 2) := by decide +kernel
theorem d_L_law_1545 : decode mL_law.2.1 1545 = .ok (.aload_n 2, 1) := by decide +kernel
theorem d_L_law_1546 : decode mL_law.2.1 1546 = .ok (.invokevirtual 140, 3) := by decide +kernel
theorem d_L_law_1549 : decode mL_law.2.1 1549 = .ok (.iload 6, 2) := by decide +kernel
theorem d_L_law_1551 : decode mL_law.2.1 1551 = .ok (.if_icmp .eq 5, 3) := by decide +kernel
theorem d_L_law_1554 : decode mL_law.2.1 1554 = .ok (.iconst 0, 1) := by decide +kernel
theorem d_L_law_1555 : decode mL_law.2.1 1555 = .ok (.ireturn, 1) := by decide +kernel
theorem d_L_law_1556 : decode mL_law.2.1 1556 = .ok (.iload 6, 2) := by decide +kernel
theorem d_L_law_1558 : decode mL_law.2.1 1558 = .ok (.ifCond .ne 15, 3) := by decide +kernel
theorem d_L_law_1561 : decode mL_law.2.1 1561 = .ok (.aload_n 3, 1) := by decide +kernel
theorem d_L_law_1562 : decode mL_law.2.1 1562 = .ok (.iconst 0, 1) := by decide +kernel
theorem d_L_law_1563 : decode mL_law.2.1 1563 = .ok (.laload, 1) := by decide +kernel
theorem d_L_law_1564 : decode mL_law.2.1 1564 = .ok (.iload 7, 2) := by decide +kernel
theorem d_L_law_1566 : decode mL_law.2.1 1566 = .ok (.i2l, 1) := by decide +kernel
theorem d_L_law_1567 : decode mL_law.2.1 1567 = .ok (.lcmp, 1) := by decide +kernel
theorem d_L_law_1568 : decode mL_law.2.1 1568 = .ok (.ifCond .eq 5, 3) := by decide +kernel
theorem d_L_law_1571 : decode mL_law.2.1 1571 = .ok (.iconst 0, 1) := by decide +kernel
theorem d_L_law_1572 : decode mL_law.2.1 1572 = .ok (.ireturn, 1) := by decide +kernel
theorem d_L_law_1573 : decode mL_law.2.1 1573 = .ok (.goto 961, 3) := by decide +kernel
theorem d_L_law_1576 : decode mL_law.2.1 1576 = .ok (.aload_n 1, 1) := by decide +kernel
theorem d_L_law_1577 : decode mL_law.2.1 1577 = .ok (.aload_n 0, 1) := by decide +kernel
theorem d_L_law_1578 : decode mL_law.2.1 1578 = .ok (.iload 5, 2) := by decide +kernel
theorem d_L_law_1580 : decode mL_law.2.1 1580 = .ok (.iconst 1, 1) := by decide +kernel
theorem d_L_law_1581 : decode mL_law.2.1 1581 = .ok (.iadd, 1) := by decide +kernel
theorem d_L_law_1582 : decode mL_law.2.1 1582 = .ok (.iaload, 1) := by decide +kernel
theorem d_L_law_1583 : decode mL_law.2.1 1583 = .ok (.aload_n 0, 1) := by decide +kernel
theorem d_L_law_1584 : decode mL_law.2.1 1584 = .ok (.iload 5, 2) := by decide +kernel
theorem d_L_law_1586 : decode mL_law.2.1 1586 = .ok (.iconst 2, 1) := by decide +kernel
theorem d_L_law_1587 : decode mL_law.2.1 1587 = .ok (.iadd, 1) := by decide +kernel
theorem d_L_law_1588 : decode mL_law.2.1 1588 = .ok (.iaload, 1) := by decide +kernel
theorem d_L_law_1589 : decode mL_law.2.1 1589 = .ok (.aload_n 0, 1) := by decide +kernel
theorem d_L_law_1590 : decode mL_law.2.1 1590 = .ok (.iload 5, 2) := by decide +kernel
theorem d_L_law_1592 : decode mL_law.2.1 1592 = .ok (.iconst 3, 1) := by decide +kernel
theorem d_L_law_1593 : decode mL_law.2.1 1593 = .ok (.iadd, 1) := by decide +kernel
theorem d_L_law_1594 : decode mL_law.2.1 1594 = .ok (.iaload, 1) := by decide +kernel
theorem d_L_law_1595 : decode mL_law.2.1 1595 = .ok (.aload_n 0, 1) := by decide +kernel
theorem d_L_law_1596 : decode mL_law.2.1 1596 = .ok (.iload 5, 2) := by decide +kernel
theorem d_L_law_1598 : decode mL_law.2.1 1598 = .ok (.iconst 4, 1) := by decide +kernel
theorem d_L_law_1599 : decode mL_law.2.1 1599 = .ok (.iadd, 1) := by decide +kernel
theorem d_L_law_1600 : decode mL_law.2.1 1600 = .ok (.iaload, 1) := by decide +kernel
theorem d_L_law_1601 : decode mL_law.2.1 1601 = .ok (.aload_n 0, 1) := by decide +kernel
theorem d_L_law_1602 : decode mL_law.2.1 1602 = .ok (.iload 5, 2) := by decide +kernel
theorem d_L_law_1604 : decode mL_law.2.1 1604 = .ok (.iconst 5, 1) := by decide +kernel
theorem d_L_law_1605 : decode mL_law.2.1 1605 = .ok (.iadd, 1) := by decide +kernel
theorem d_L_law_1606 : decode mL_law.2.1 1606 = .ok (.iaload, 1) := by decide +kernel
theorem d_L_law_1607 : decode mL_law.2.1 1607 = .ok (.aload_n 3, 1) := by decide +kernel
theorem d_L_law_1608 : decode mL_law.2.1 1608 = .ok (.invokestatic 201, 3) := by decide +kernel
theorem d_L_law_1611 : decode mL_law.2.1 1611 = .ok (.istore 6, 2) := by decide +kernel
theorem d_L_law_1613 : decode mL_law.2.1 1613 = .ok (.aload_n 2, 1) := by decide +kernel
theorem d_L_law_1614 : decode mL_law.2.1 1614 = .ok (.aload_n 0, 1) := by decide +kernel
theorem d_L_law_1615 : decode mL_law.2.1 1615 = .ok (.iload 5, 2) := by decide +kernel
theorem d_L_law_1617 : decode mL_law.2.1 1617 = .ok (.iconst 1, 1) := by decide +kernel
theorem d_L_law_1618 : decode mL_law.2.1 1618 = .ok (.iadd, 1) := by decide +kernel
theorem d_L_law_1619 : decode mL_law.2.1 1619 = .ok (.iaload, 1) := by decide +kernel
theorem d_L_law_1620 : decode mL_law.2.1 1620 = .ok (.aload_n 0, 1) := by decide +kernel
theorem d_L_law_1621 : decode mL_law.2.1 1621 = .ok (.iload 5, 2) := by decide +kernel
theorem d_L_law_1623 : decode mL_law.2.1 1623 = .ok (.iconst 2, 1) := by decide +kernel
theorem d_L_law_1624 : decode mL_law.2.1 1624 = .ok (.iadd, 1) := by decide +kernel
theorem d_L_law_1625 : decode mL_law.2.1 1625 = .ok (.iaload, 1) := by decide +kernel
theorem d_L_law_1626 : decode mL_law.2.1 1626 = .ok (.aload_n 0, 1) := by decide +kernel
theorem d_L_law_1627 : decode mL_law.2.1 1627 = .ok (.iload 5, 2) := by decide +kernel
theorem d_L_law_1629 : decode mL_law.2.1 1629 = .ok (.iconst 3, 1) := by decide +kernel
theorem d_L_law_1630 : decode mL_law.2.1 1630 = .ok (.iadd, 1) := by decide +kernel
theorem d_L_law_1631 : decode mL_law.2.1 1631 = .ok (.iaload, 1) := by decide +kernel
theorem d_L_law_1632 : decode mL_law.2.1 1632 = .ok (.aload_n 0, 1) := by decide +kernel
theorem d_L_law_1633 : decode mL_law.2.1 1633 = .ok (.iload 5, 2) := by decide +kernel
theorem d_L_law_1635 : decode mL_law.2.1 1635 = .ok (.iconst 4, 1) := by decide +kernel
theorem d_L_law_1636 : decode mL_law.2.1 1636 = .ok (.iadd, 1) := by decide +kernel
theorem d_L_law_1637 : decode mL_law.2.1 1637 = .ok (.iaload, 1) := by decide +kernel
theorem d_L_law_1638 : decode mL_law.2.1 1638 = .ok (.aload_n 0, 1) := by decide +kernel
theorem d_L_law_1639 : decode mL_law.2.1 1639 = .ok (.iload 5, 2) := by decide +kernel
theorem d_L_law_1641 : decode mL_law.2.1 1641 = .ok (.iconst 5, 1) := by decide +kernel
theorem d_L_law_1642 : decode mL_law.2.1 1642 = .ok (.iadd, 1) := by decide +kernel
theorem d_L_law_1643 : decode mL_law.2.1 1643 = .ok (.iaload, 1) := by decide +kernel
theorem d_L_law_1644 : decode mL_law.2.1 1644 = .ok (.invokevirtual 204, 3) := by decide +kernel
theorem d_L_law_1647 : decode mL_law.2.1 1647 = .ok (.istore 7, 2) := by decide +kernel
theorem d_L_law_1649 : decode mL_law.2.1 1649 = .ok (.aload_n 2, 1) := by decide +kernel
theorem d_L_law_1650 : decode mL_law.2.1 1650 = .ok (.invokevirtual 140, 3) := by decide +kernel
theorem d_L_law_1653 : decode mL_law.2.1 1653 = .ok (.iload 6, 2) := by decide +kernel
theorem d_L_law_1655 : decode mL_law.2.1 1655 = .ok (.if_icmp .eq 5, 3) := by decide +kernel
theorem d_L_law_1658 : decode mL_law.2.1 1658 = .ok (.iconst 0, 1) := by decide +kernel
theorem d_L_law_1659 : decode mL_law.2.1 1659 = .ok (.ireturn, 1) := by decide +kernel
theorem d_L_law_1660 : decode mL_law.2.1 1660 = .ok (.iload 6, 2) := by decide +kernel
theorem d_L_law_1662 : decode mL_law.2.1 1662 = .ok (.ifCond .ne 15, 3) := by decide +kernel
theorem d_L_law_1665 : decode mL_law.2.1 1665 = .ok (.aload_n 3, 1) := by decide +kernel
theorem d_L_law_1666 : decode mL_law.2.1 1666 = .ok (.iconst 0, 1) := by decide +kernel
theorem d_L_law_1667 : decode mL_law.2.1 1667 = .ok (.laload, 1) := by decide +kernel
theorem d_L_law_1668 : decode mL_law.2.1 1668 = .ok (.iload 7, 2) := by decide +kernel
theorem d_L_law_1670 : decode mL_law.2.1 1670 = .ok (.i2l, 1) := by decide +kernel
theorem d_L_law_1671 : decode mL_law.2.1 1671 = .ok (.lcmp, 1) := by decide +kernel
theorem d_L_law_1672 : decode mL_law.2.1 1672 = .ok (.ifCond .eq 5, 3) := by decide +kernel
theorem d_L_law_1675 : decode mL_law.2.1 1675 = .ok (.iconst 0, 1) := by decide +kernel
theorem d_L_law_1676 : decode mL_law.2.1 1676 = .ok (.ireturn, 1) := by decide +kernel
theorem d_L_law_1677 : decode mL_law.2.1 1677 = .ok (.goto 857, 3) := by decide +kernel
theorem d_L_law_1680 : decode mL_law.2.1 1680 = .ok (.aload_n 1, 1) := by decide +kernel
theorem d_L_law_1681 : decode mL_law.2.1 1681 = .ok (.aload_n 0, 1) := by decide +kernel
theorem d_L_law_1682 : decode mL_law.2.1 1682 = .ok (.iload 5, 2) := by decide +kernel
theorem d_L_law_1684 : decode mL_law.2.1 1684 = .ok (.iconst 1, 1) := by decide +kernel
theorem d_L_law_1685 : decode mL_law.2.1 1685 = .ok (.iadd, 1) := by decide +kernel
theorem d_L_law_1686 : decode mL_law.2.1 1686 = .ok (.iaload, 1) := by decide +kernel
theorem d_L_law_1687 : decode mL_law.2.1 1687 = .ok (.aload_n 3, 1) := by decide +kernel
theorem d_L_law_1688 : decode mL_law.2.1 1688 = .ok (.invokestatic 205, 3) := by decide +kernel
theorem d_L_law_1691 : decode mL_law.2.1 1691 = .ok (.istore 6, 2) := by decide +kernel
theorem d_L_law_1693 : decode mL_law.2.1 1693 = .ok (.aload_n 2, 1) := by decide +kernel
theorem d_L_law_1694 : decode mL_law.2.1 1694 = .ok (.aload_n 0, 1) := by decide +kernel
theorem d_L_law_1695 : decode mL_law.2.1 1695 = .ok (.iload 5, 2) := by decide +kernel
theorem d_L_law_1697 : decode mL_law.2.1 1697 = .ok (.iconst 1, 1) := by decide +kernel
theorem d_L_law_1698 : decode mL_law.2.1 1698 = .ok (.iadd, 1) := by decide +kernel
theorem d_L_law_1699 : decode mL_law.2.1 1699 = .ok (.iaload, 1) := by decide +kernel
theorem d_L_law_1700 : decode mL_law.2.1 1700 = .ok (.invokevirtual 207, 3) := by decide +kernel
theorem d_L_law_1703 : decode mL_law.2.1 1703 = .ok (.istore 7, 2) := by decide +kernel
theorem d_L_law_1705 : decode mL_law.2.1 1705 = .ok (.aload_n 2, 1) := by decide +kernel
theorem d_L_law_1706 : decode mL_law.2.1 1706 = .ok (.invokevirtual 140, 3) := by decide +kernel
theorem d_L_law_1709 : decode mL_law.2.1 1709 = .ok (.iload 6, 2) := by decide +kernel
theorem d_L_law_1711 : decode mL_law.2.1 1711 = .ok (.if_icmp .eq 5, 3) := by decide +kernel
theorem d_L_law_1714 : decode mL_law.2.1 1714 = .ok (.iconst 0, 1) := by decide +kernel
theorem d_L_law_1715 : decode mL_law.2.1 1715 = .ok (.ireturn, 1) := by decide +kernel
theorem d_L_law_1716 : decode mL_law.2.1 1716 = .ok (.iload 6, 2) := by decide +kernel
theorem d_L_law_1718 : decode mL_law.2.1 1718 = .ok (.ifCond .ne 15, 3) := by decide +kernel
theorem d_L_law_1721 : decode mL_law.2.1 1721 = .ok (.aload_n 3, 1) := by decide +kernel
theorem d_L_law_1722 : decode mL_law.2.1 1722 = .ok (.iconst 0, 1) := by decide +kernel
theorem d_L_law_1723 : decode mL_law.2.1 1723 = .ok (.laload, 1) := by decide +kernel
theorem d_L_law_1724 : decode mL_law.2.1 1724 = .ok (.iload 7, 2) := by decide +kernel
theorem d_L_law_1726 : decode mL_law.2.1 1726 = .ok (.i2l, 1) := by decide +kernel
theorem d_L_law_1727 : decode mL_law.2.1 1727 = .ok (.lcmp, 1) := by decide +kernel
theorem d_L_law_1728 : decode mL_law.2.1 1728 = .ok (.ifCond .eq 5, 3) := by decide +kernel
theorem d_L_law_1731 : decode mL_law.2.1 1731 = .ok (.iconst 0, 1) := by decide +kernel
theorem d_L_law_1732 : decode mL_law.2.1 1732 = .ok (.ireturn, 1) := by decide +kernel
theorem d_L_law_1733 : decode mL_law.2.1 1733 = .ok (.goto 801, 3) := by decide +kernel
theorem d_L_law_1736 : decode mL_law.2.1 1736 = .ok (.aload_n 1, 1) := by decide +kernel
theorem d_L_law_1737 : decode mL_law.2.1 1737 = .ok (.aload_n 0, 1) := by decide +kernel
theorem d_L_law_1738 : decode mL_law.2.1 1738 = .ok (.iload 5, 2) := by decide +kernel
theorem d_L_law_1740 : decode mL_law.2.1 1740 = .ok (.iconst 1, 1) := by decide +kernel
theorem d_L_law_1741 : decode mL_law.2.1 1741 = .ok (.iadd, 1) := by decide +kernel
theorem d_L_law_1742 : decode mL_law.2.1 1742 = .ok (.iaload, 1) := by decide +kernel
theorem d_L_law_1743 : decode mL_law.2.1 1743 = .ok (.aload_n 0, 1) := by decide +kernel
theorem d_L_law_1744 : decode mL_law.2.1 1744 = .ok (.iload 5, 2) := by decide +kernel
theorem d_L_law_1746 : decode mL_law.2.1 1746 = .ok (.iconst 2, 1) := by decide +kernel
theorem d_L_law_1747 : decode mL_law.2.1 1747 = .ok (.iadd, 1) := by decide +kernel
theorem d_L_law_1748 : decode mL_law.2.1 1748 = .ok (.iaload, 1) := by decide +kernel
theorem d_L_law_1749 : decode mL_law.2.1 1749 = .ok (.aload_n 3, 1) := by decide +kernel
theorem d_L_law_1750 : decode mL_law.2.1 1750 = .ok (.invokestatic 208, 3) := by decide +kernel
theorem d_L_law_1753 : decode mL_law.2.1 1753 = .ok (.istore 6, 2) := by decide +kernel
theorem d_L_law_1755 : decode mL_law.2.1 1755 = .ok (.aload_n 2, 1) := by decide +kernel
theorem d_L_law_1756 : decode mL_law.2.1 1756 = .ok (.aload_n 0, 1) := by decide +kernel
theorem d_L_law_1757 : decode mL_law.2.1 1757 = .ok (.iload 5, 2) := by decide +kernel
theorem d_L_law_1759 : decode mL_law.2.1 1759 = .ok (.iconst 1, 1) := by decide +kernel
theorem d_L_law_1760 : decode mL_law.2.1 1760 = .ok (.iadd, 1) := by decide +kernel
theorem d_L_law_1761 : decode mL_law.2.1 1761 = .ok (.iaload, 1) := by decide +kernel
theorem d_L_law_1762 : decode mL_law.2.1 1762 = .ok (.aload_n 0, 1) := by decide +kernel
theorem d_L_law_1763 : decode mL_law.2.1 1763 = .ok (.iload 5, 2) := by decide +kernel
theorem d_L_law_1765 : decode mL_law.2.1 1765 = .ok (.iconst 2, 1) := by decide +kernel
theorem d_L_law_1766 : decode mL_law.2.1 1766 = .ok (.iadd, 1) := by decide +kernel
theorem d_L_law_1767 : decode mL_law.2.1 1767 = .ok (.iaload, 1) := by decide +kernel
theorem d_L_law_1768 : decode mL_law.2.1 1768 = .ok (.invokevirtual 210, 3) := by decide +kernel
theorem d_L_law_1771 : decode mL_law.2.1 1771 = .ok (.istore 7, 2) := by decide +kernel
theorem d_L_law_1773 : decode mL_law.2.1 1773 = .ok (.aload_n 2, 1) := by decide +kernel
theorem d_L_law_1774 : decode mL_law.2.1 1774 = .ok (.invokevirtual 140, 3) := by decide +kernel
theorem d_L_law_1777 : decode mL_law.2.1 1777 = .ok (.iload 6, 2) := by decide +kernel
theorem d_L_law_1779 : decode mL_law.2.1 1779 = .ok (.if_icmp .eq 5, 3) := by decide +kernel
theorem d_L_law_1782 : decode mL_law.2.1 1782 = .ok (.iconst 0, 1) := by decide +kernel
theorem d_L_law_1783 : decode mL_law.2.1 1783 = .ok (.ireturn, 1) := by decide +kernel
theorem d_L_law_1784 : decode mL_law.2.1 1784 = .ok (.iload 6, 2) := by decide +kernel
theorem d_L_law_1786 : decode mL_law.2.1 1786 = .ok (.ifCond .ne 15, 3) := by decide +kernel
theorem d_L_law_1789 : decode mL_law.2.1 1789 = .ok (.aload_n 3, 1) := by decide +kernel
theorem d_L_law_1790 : decode mL_law.2.1 1790 = .ok (.iconst 0, 1) := by decide +kernel
theorem d_L_law_1791 : decode mL_law.2.1 1791 = .ok (.laload, 1) := by decide +kernel
theorem d_L_law_1792 : decode mL_law.2.1 1792 = .ok (.iload 7, 2) := by decide +kernel
theorem d_L_law_1794 : decode mL_law.2.1 1794 = .ok (.i2l, 1) := by decide +kernel
theorem d_L_law_1795 : decode mL_law.2.1 1795 = .ok (.lcmp, 1) := by decide +kernel
theorem d_L_law_1796 : decode mL_law.2.1 1796 = .ok (.ifCond .eq 5, 3) := by decide +kernel
theorem d_L_law_1799 : decode mL_law.2.1 1799 = .ok (.iconst 0, 1) := by decide +kernel
theorem d_L_law_1800 : decode mL_law.2.1 1800 = .ok (.ireturn, 1) := by decide +kernel
theorem d_L_law_1801 : decode mL_law.2.1 1801 = .ok (.goto 733, 3) := by decide +kernel
theorem d_L_law_1804 : decode mL_law.2.1 1804 = .ok (.aload_n 1, 1) := by decide +kernel
theorem d_L_law_1805 : decode mL_law.2.1 1805 = .ok (.aload_n 0, 1) := by decide +kernel
theorem d_L_law_1806 : decode mL_law.2.1 1806 = .ok (.iload 5, 2) := by decide +kernel
theorem d_L_law_1808 : decode mL_law.2.1 1808 = .ok (.iconst 1, 1) := by decide +kernel
theorem d_L_law_1809 : decode mL_law.2.1 1809 = .ok (.iadd, 1) := by decide +kernel
theorem d_L_law_1810 : decode mL_law.2.1 1810 = .ok (.iaload, 1) := by decide +kernel
theorem d_L_law_1811 : decode mL_law.2.1 1811 = .ok (.aload_n 0, 1) := by decide +kernel
theorem d_L_law_1812 : decode mL_law.2.1 1812 = .ok (.iload 5, 2) := by decide +kernel
theorem d_L_law_1814 : decode mL_law.2.1 1814 = .ok (.iconst 2, 1) := by decide +kernel
theorem d_L_law_1815 : decode mL_law.2.1 1815 = .ok (.iadd, 1) := by decide +kernel
theorem d_L_law_1816 : decode mL_law.2.1 1816 = .ok (.iaload, 1) := by decide +kernel
theorem d_L_law_1817 : decode mL_law.2.1 1817 = .ok (.aload_n 0, 1) := by decide +kernel
theorem d_L_law_1818 : decode mL_law.2.1 1818 = .ok (.iload 5, 2) := by decide +kernel
theorem d_L_law_1820 : decode mL_law.2.1 1820 = .ok (.iconst 3, 1) := by decide +kernel
theorem d_L_law_1821 : decode mL_law.2.1 1821 = .ok (.iadd, 1) := by decide +kernel
theorem d_L_law_1822 : decode mL_law.2.1 1822 = .ok (.iaload, 1) := by decide +kernel
theorem d_L_law_1823 : decode mL_law.2.1 1823 = .ok (.aload_n 0, 1) := by decide +kernel
theorem d_L_law_1824 : decode mL_law.2.1 1824 = .ok (.iload 5, 2) := by decide +kernel
theorem d_L_law_1826 : decode mL_law.2.1 1826 = .ok (.iconst 4, 1) := by decide +kernel
theorem d_L_law_1827 : decode mL_law.2.1 1827 = .ok (.iadd, 1) := by decide +kernel
theorem d_L_law_1828 : decode mL_law.2.1 1828 = .ok (.iaload, 1) := by decide +kernel
theorem d_L_law_1829 : decode mL_law.2.1 1829 = .ok (.aload_n 3, 1) := by decide +kernel
theorem d_L_law_1830 : decode mL_law.2.1 1830 = .ok (.invokestatic 211, 3) := by decide +kernel
theorem d_L_law_1833 : decode mL_law.2.1 1833 = .ok (.istore 6, 2) := by decide +kernel
theorem d_L_law_1835 : decode mL_law.2.1 1835 = .ok (.aload_n 2, 1) := by decide +kernel
theorem d_L_law_1836 : decode mL_law.2.1 1836 = .ok (.aload_n 0, 1) := by decide +kernel
theorem d_L_law_1837 : decode mL_law.2.1 1837 = .ok (.iload 5, 2) := by decide +kernel
theorem d_L_law_1839 : decode mL_law.2.1 1839 = .ok (.iconst 1, 1) := by decide +kernel
theorem d_L_law_1840 : decode mL_law.2.1 1840 = .ok (.iadd, 1) := by decide +kernel
theorem d_L_law_1841 : decode mL_law.2.1 1841 = .ok (.iaload, 1) := by decide +kernel
theorem d_L_law_1842 : decode mL_law.2.1 1842 = .ok (.aload_n 0, 1) := by decide +kernel
theorem d_L_law_1843 : decode mL_law.2.1 1843 = .ok (.iload 5, 2) := by decide +kernel
theorem d_L_law_1845 : decode mL_law.2.1 1845 = .ok (.iconst 2, 1) := by decide +kernel
theorem d_L_law_1846 : decode mL_law.2.1 1846 = .ok (.iadd, 1) := by decide +kernel
theorem d_L_law_1847 : decode mL_law.2.1 1847 = .ok (.iaload, 1) := by decide +kernel
theorem d_L_law_1848 : decode mL_law.2.1 1848 = .ok (.aload_n 0, 1) := by decide +kernel
theorem d_L_law_1849 : decode mL_law.2.1 1849 = .ok (.iload 5, 2) := by decide +kernel
theorem d_L_law_1851 : decode mL_law.2.1 1851 = .ok (.iconst 3, 1) := by decide +kernel
theorem d_L_law_1852 : decode mL_law.2.1 1852 = .ok (.iadd, 1) := by decide +kernel
theorem d_L_law_1853 : decode mL_law.2.1 1853 = .ok (.iaload, 1) := by decide +kernel
theorem d_L_law_1854 : decode mL_law.2.1 1854 = .ok (.aload_n 0, 1) := by decide +kernel
theorem d_L_law_1855 : decode mL_law.2.1 1855 = .ok (.iload 5, 2) := by decide +kernel
theorem d_L_law_1857 : decode mL_law.2.1 1857 = .ok (.iconst 4, 1) := by decide +kernel
theorem d_L_law_1858 : decode mL_law.2.1 1858 = .ok (.iadd, 1) := by decide +kernel
theorem d_L_law_1859 : decode mL_law.2.1 1859 = .ok (.iaload, 1) := by decide +kernel
theorem d_L_law_1860 : decode mL_law.2.1 1860 = .ok (.invokevirtual 213, 3) := by decide +kernel
theorem d_L_law_1863 : decode mL_law.2.1 1863 = .ok (.istore 7, 2) := by decide +kernel
theorem d_L_law_1865 : decode mL_law.2.1 1865 = .ok (.aload_n 2, 1) := by decide +kernel
theorem d_L_law_1866 : decode mL_law.2.1 1866 = .ok (.invokevirtual 140, 3) := by decide +kernel
theorem d_L_law_1869 : decode mL_law.2.1 1869 = .ok (.iload 6, 2) := by decide +kernel
theorem d_L_law_1871 : decode mL_law.2.1 1871 = .ok (.if_icmp .eq 5, 3) := by decide +kernel
theorem d_L_law_1874 : decode mL_law.2.1 1874 = .ok (.iconst 0, 1) := by decide +kernel
theorem d_L_law_1875 : decode mL_law.2.1 1875 = .ok (.ireturn, 1) := by decide +kernel
theorem d_L_law_1876 : decode mL_law.2.1 1876 = .ok (.iload 6, 2) := by decide +kernel
theorem d_L_law_1878 : decode mL_law.2.1 1878 = .ok (.ifCond .ne 15, 3) := by decide +kernel
theorem d_L_law_1881 : decode mL_law.2.1 1881 = .ok (.aload_n 3, 1) := by decide +kernel
theorem d_L_law_1882 : decode mL_law.2.1 1882 = .ok (.iconst 0, 1) := by decide +kernel
theorem d_L_law_1883 : decode mL_law.2.1 1883 = .ok (.laload, 1) := by decide +kernel
theorem d_L_law_1884 : decode mL_law.2.1 1884 = .ok (.iload 7, 2) := by decide +kernel
theorem d_L_law_1886 : decode mL_law.2.1 1886 = .ok (.i2l, 1) := by decide +kernel
theorem d_L_law_1887 : decode mL_law.2.1 1887 = .ok (.lcmp, 1) := by decide +kernel
theorem d_L_law_1888 : decode mL_law.2.1 1888 = .ok (.ifCond .eq 5, 3) := by decide +kernel
theorem d_L_law_1891 : decode mL_law.2.1 1891 = .ok (.iconst 0, 1) := by decide +kernel
theorem d_L_law_1892 : decode mL_law.2.1 1892 = .ok (.ireturn, 1) := by decide +kernel
theorem d_L_law_1893 : decode mL_law.2.1 1893 = .ok (.goto 641, 3) := by decide +kernel
theorem d_L_law_1896 : decode mL_law.2.1 1896 = .ok (.aload_n 1, 1) := by decide +kernel
theorem d_L_law_1897 : decode mL_law.2.1 1897 = .ok (.aload_n 0, 1) := by decide +kernel
theorem d_L_law_1898 : decode mL_law.2.1 1898 = .ok (.iload 5, 2) := by decide +kernel
theorem d_L_law_1900 : decode mL_law.2.1 1900 = .ok (.iconst 1, 1) := by decide +kernel
theorem d_L_law_1901 : decode mL_law.2.1 1901 = .ok (.iadd, 1) := by decide +kernel
theorem d_L_law_1902 : decode mL_law.2.1 1902 = .ok (.iaload, 1) := by decide +kernel
