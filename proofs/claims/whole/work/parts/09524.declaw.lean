theorem dL_law__1353 : decode cL_law_ 1353 = .ok (.istore 6, 2) := by decide +kernel
theorem dL_law__1355 : decode cL_law_ 1355 = .ok (.aload_n 2, 1) := by decide +kernel
theorem dL_law__1356 : decode cL_law_ 1356 = .ok (.invokevirtual 129, 3) := by decide +kernel
theorem dL_law__1359 : decode cL_law_ 1359 = .ok (.iload 5, 2) := by decide +kernel
theorem dL_law__1361 : decode cL_law_ 1361 = .ok (.if_icmp .eq 5, 3) := by decide +kernel
theorem dL_law__1364 : decode cL_law_ 1364 = .ok (.iconst 0, 1) := by decide +kernel
theorem dL_law__1365 : decode cL_law_ 1365 = .ok (.ireturn, 1) := by decide +kernel
theorem dL_law__1366 : decode cL_law_ 1366 = .ok (.iload 5, 2) := by decide +kernel
theorem dL_law__1368 : decode cL_law_ 1368 = .ok (.ifCond .ne 15, 3) := by decide +kernel
theorem dL_law__1371 : decode cL_law_ 1371 = .ok (.aload_n 3, 1) := by decide +kernel
theorem dL_law__1372 : decode cL_law_ 1372 = .ok (.iconst 0, 1) := by decide +kernel
theorem dL_law__1373 : decode cL_law_ 1373 = .ok (.laload, 1) := by decide +kernel
theorem dL_law__1374 : decode cL_law_ 1374 = .ok (.iload 6, 2) := by decide +kernel
theorem dL_law__1376 : decode cL_law_ 1376 = .ok (.i2l, 1) := by decide +kernel
theorem dL_law__1377 : decode cL_law_ 1377 = .ok (.lcmp, 1) := by decide +kernel
theorem dL_law__1378 : decode cL_law_ 1378 = .ok (.ifCond .eq 5, 3) := by decide +kernel
theorem dL_law__1381 : decode cL_law_ 1381 = .ok (.iconst 0, 1) := by decide +kernel
theorem dL_law__1382 : decode cL_law_ 1382 = .ok (.ireturn, 1) := by decide +kernel
theorem dL_law__1383 : decode cL_law_ 1383 = .ok (.goto 1188, 3) := by decide +kernel
theorem dL_law__1386 : decode cL_law_ 1386 = .ok (.aload_n 1, 1) := by decide +kernel
theorem dL_law__1387 : decode cL_law_ 1387 = .ok (.aload_n 0, 1) := by decide +kernel
theorem dL_law__1388 : decode cL_law_ 1388 = .ok (.iload 4, 2) := by decide +kernel
theorem dL_law__1390 : decode cL_law_ 1390 = .ok (.iconst 1, 1) := by decide +kernel
theorem dL_law__1391 : decode cL_law_ 1391 = .ok (.iadd, 1) := by decide +kernel
theorem dL_law__1392 : decode cL_law_ 1392 = .ok (.iaload, 1) := by decide +kernel
theorem dL_law__1393 : decode cL_law_ 1393 = .ok (.aload_n 0, 1) := by decide +kernel
theorem dL_law__1394 : decode cL_law_ 1394 = .ok (.iload 4, 2) := by decide +kernel
theorem dL_law__1396 : decode cL_law_ 1396 = .ok (.iconst 2, 1) := by decide +kernel
theorem dL_law__1397 : decode cL_law_ 1397 = .ok (.iadd, 1) := by decide +kernel
theorem dL_law__1398 : decode cL_law_ 1398 = .ok (.iaload, 1) := by decide +kernel
theorem dL_law__1399 : decode cL_law_ 1399 = .ok (.aload_n 0, 1) := by decide +kernel
theorem dL_law__1400 : decode cL_law_ 1400 = .ok (.iload 4, 2) := by decide +kernel
theorem dL_law__1402 : decode cL_law_ 1402 = .ok (.iconst 3, 1) := by decide +kernel
theorem dL_law__1403 : decode cL_law_ 1403 = .ok (.iadd, 1) := by decide +kernel
theorem dL_law__1404 : decode cL_law_ 1404 = .ok (.iaload, 1) := by decide +kernel
theorem dL_law__1405 : decode cL_law_ 1405 = .ok (.aload_n 3, 1) := by decide +kernel
theorem dL_law__1406 : decode cL_law_ 1406 = .ok (.invokestatic 185, 3) := by decide +kernel
theorem dL_law__1409 : decode cL_law_ 1409 = .ok (.istore 5, 2) := by decide +kernel
theorem dL_law__1411 : decode cL_law_ 1411 = .ok (.aload_n 2, 1) := by decide +kernel
theorem dL_law__1412 : decode cL_law_ 1412 = .ok (.aload_n 0, 1) := by decide +kernel
theorem dL_law__1413 : decode cL_law_ 1413 = .ok (.iload 4, 2) := by decide +kernel
theorem dL_law__1415 : decode cL_law_ 1415 = .ok (.iconst 1, 1) := by decide +kernel
theorem dL_law__1416 : decode cL_law_ 1416 = .ok (.iadd, 1) := by decide +kernel
theorem dL_law__1417 : decode cL_law_ 1417 = .ok (.iaload, 1) := by decide +kernel
theorem dL_law__1418 : decode cL_law_ 1418 = .ok (.aload_n 0, 1) := by decide +kernel
theorem dL_law__1419 : decode cL_law_ 1419 = .ok (.iload 4, 2) := by decide +kernel
theorem dL_law__1421 : decode cL_law_ 1421 = .ok (.iconst 2, 1) := by decide +kernel
theorem dL_law__1422 : decode cL_law_ 1422 = .ok (.iadd, 1) := by decide +kernel
theorem dL_law__1423 : decode cL_law_ 1423 = .ok (.iaload, 1) := by decide +kernel
theorem dL_law__1424 : decode cL_law_ 1424 = .ok (.aload_n 0, 1) := by decide +kernel
theorem dL_law__1425 : decode cL_law_ 1425 = .ok (.iload 4, 2) := by decide +kernel
theorem dL_law__1427 : decode cL_law_ 1427 = .ok (.iconst 3, 1) := by decide +kernel
theorem dL_law__1428 : decode cL_law_ 1428 = .ok (.iadd, 1) := by decide +kernel
theorem dL_law__1429 : decode cL_law_ 1429 = .ok (.iaload, 1) := by decide +kernel
theorem dL_law__1430 : decode cL_law_ 1430 = .ok (.invokevirtual 187, 3) := by decide +kernel
theorem dL_law__1433 : decode cL_law_ 1433 = .ok (.istore 6, 2) := by decide +kernel
theorem dL_law__1435 : decode cL_law_ 1435 = .ok (.aload_n 2, 1) := by decide +kernel
theorem dL_law__1436 : decode cL_law_ 1436 = .ok (.invokevirtual 129, 3) := by decide +kernel
theorem dL_law__1439 : decode cL_law_ 1439 = .ok (.iload 5, 2) := by decide +kernel
theorem dL_law__1441 : decode cL_law_ 1441 = .ok (.if_icmp .eq 5, 3) := by decide +kernel
theorem dL_law__1444 : decode cL_law_ 1444 = .ok (.iconst 0, 1) := by decide +kernel
theorem dL_law__1445 : decode cL_law_ 1445 = .ok (.ireturn, 1) := by decide +kernel
theorem dL_law__1446 : decode cL_law_ 1446 = .ok (.iload 5, 2) := by decide +kernel
theorem dL_law__1448 : decode cL_law_ 1448 = .ok (.ifCond .ne 15, 3) := by decide +kernel
theorem dL_law__1451 : decode cL_law_ 1451 = .ok (.aload_n 3, 1) := by decide +kernel
theorem dL_law__1452 : decode cL_law_ 1452 = .ok (.iconst 0, 1) := by decide +kernel
theorem dL_law__1453 : decode cL_law_ 1453 = .ok (.laload, 1) := by decide +kernel
theorem dL_law__1454 : decode cL_law_ 1454 = .ok (.iload 6, 2) := by decide +kernel
theorem dL_law__1456 : decode cL_law_ 1456 = .ok (.i2l, 1) := by decide +kernel
theorem dL_law__1457 : decode cL_law_ 1457 = .ok (.lcmp, 1) := by decide +kernel
theorem dL_law__1458 : decode cL_law_ 1458 = .ok (.ifCond .eq 5, 3) := by decide +kernel
theorem dL_law__1461 : decode cL_law_ 1461 = .ok (.iconst 0, 1) := by decide +kernel
theorem dL_law__1462 : decode cL_law_ 1462 = .ok (.ireturn, 1) := by decide +kernel
theorem dL_law__1463 : decode cL_law_ 1463 = .ok (.goto 1108, 3) := by decide +kernel
theorem dL_law__1466 : decode cL_law_ 1466 = .ok (.aload_n 1, 1) := by decide +kernel
theorem dL_law__1467 : decode cL_law_ 1467 = .ok (.aload_n 0, 1) := by decide +kernel
theorem dL_law__1468 : decode cL_law_ 1468 = .ok (.iload 4, 2) := by decide +kernel
theorem dL_law__1470 : decode cL_law_ 1470 = .ok (.iconst 1, 1) := by decide +kernel
theorem dL_law__1471 : decode cL_law_ 1471 = .ok (.iadd, 1) := by decide +kernel
theorem dL_law__1472 : decode cL_law_ 1472 = .ok (.iaload, 1) := by decide +kernel
theorem dL_law__1473 : decode cL_law_ 1473 = .ok (.aload_n 3, 1) := by decide +kernel
theorem dL_law__1474 : decode cL_law_ 1474 = .ok (.invokestatic 188, 3) := by decide +kernel
theorem dL_law__1477 : decode cL_law_ 1477 = .ok (.istore 5, 2) := by decide +kernel
theorem dL_law__1479 : decode cL_law_ 1479 = .ok (.aload_n 2, 1) := by decide +kernel
theorem dL_law__1480 : decode cL_law_ 1480 = .ok (.aload_n 0, 1) := by decide +kernel
theorem dL_law__1481 : decode cL_law_ 1481 = .ok (.iload 4, 2) := by decide +kernel
theorem dL_law__1483 : decode cL_law_ 1483 = .ok (.iconst 1, 1) := by decide +kernel
theorem dL_law__1484 : decode cL_law_ 1484 = .ok (.iadd, 1) := by decide +kernel
theorem dL_law__1485 : decode cL_law_ 1485 = .ok (.iaload, 1) := by decide +kernel
theorem dL_law__1486 : decode cL_law_ 1486 = .ok (.invokevirtual 190, 3) := by decide +kernel
theorem dL_law__1489 : decode cL_law_ 1489 = .ok (.istore 6, 2) := by decide +kernel
theorem dL_law__1491 : decode cL_law_ 1491 = .ok (.aload_n 2, 1) := by decide +kernel
theorem dL_law__1492 : decode cL_law_ 1492 = .ok (.invokevirtual 129, 3) := by decide +kernel
theorem dL_law__1495 : decode cL_law_ 1495 = .ok (.iload 5, 2) := by decide +kernel
theorem dL_law__1497 : decode cL_law_ 1497 = .ok (.if_icmp .eq 5, 3) := by decide +kernel
theorem dL_law__1500 : decode cL_law_ 1500 = .ok (.iconst 0, 1) := by decide +kernel
theorem dL_law__1501 : decode cL_law_ 1501 = .ok (.ireturn, 1) := by decide +kernel
theorem dL_law__1502 : decode cL_law_ 1502 = .ok (.iload 5, 2) := by decide +kernel
theorem dL_law__1504 : decode cL_law_ 1504 = .ok (.ifCond .ne 15, 3) := by decide +kernel
theorem dL_law__1507 : decode cL_law_ 1507 = .ok (.aload_n 3, 1) := by decide +kernel
theorem dL_law__1508 : decode cL_law_ 1508 = .ok (.iconst 0, 1) := by decide +kernel
theorem dL_law__1509 : decode cL_law_ 1509 = .ok (.laload, 1) := by decide +kernel
theorem dL_law__1510 : decode cL_law_ 1510 = .ok (.iload 6, 2) := by decide +kernel
theorem dL_law__1512 : decode cL_law_ 1512 = .ok (.i2l, 1) := by decide +kernel
theorem dL_law__1513 : decode cL_law_ 1513 = .ok (.lcmp, 1) := by decide +kernel
theorem dL_law__1514 : decode cL_law_ 1514 = .ok (.ifCond .eq 5, 3) := by decide +kernel
theorem dL_law__1517 : decode cL_law_ 1517 = .ok (.iconst 0, 1) := by decide +kernel
theorem dL_law__1518 : decode cL_law_ 1518 = .ok (.ireturn, 1) := by decide +kernel
theorem dL_law__1519 : decode cL_law_ 1519 = .ok (.goto 1052, 3) := by decide +kernel
theorem dL_law__1522 : decode cL_law_ 1522 = .ok (.aload_n 1, 1) := by decide +kernel
theorem dL_law__1523 : decode cL_law_ 1523 = .ok (.aload_n 0, 1) := by decide +kernel
theorem dL_law__1524 : decode cL_law_ 1524 = .ok (.iload 4, 2) := by decide +kernel
theorem dL_law__1526 : decode cL_law_ 1526 = .ok (.iconst 1, 1) := by decide +kernel
theorem dL_law__1527 : decode cL_law_ 1527 = .ok (.iadd, 1) := by decide +kernel
theorem dL_law__1528 : decode cL_law_ 1528 = .ok (.iaload, 1) := by decide +kernel
theorem dL_law__1529 : decode cL_law_ 1529 = .ok (.aload_n 0, 1) := by decide +kernel
theorem dL_law__1530 : decode cL_law_ 1530 = .ok (.iload 4, 2) := by decide +kernel
theorem dL_law__1532 : decode cL_law_ 1532 = .ok (.iconst 2, 1) := by decide +kernel
theorem dL_law__1533 : decode cL_law_ 1533 = .ok (.iadd, 1) := by decide +kernel
theorem dL_law__1534 : decode cL_law_ 1534 = .ok (.iaload, 1) := by decide +kernel
theorem dL_law__1535 : decode cL_law_ 1535 = .ok (.aload_n 3, 1) := by decide +kernel
theorem dL_law__1536 : decode cL_law_ 1536 = .ok (.invokestatic 191, 3) := by decide +kernel
theorem dL_law__1539 : decode cL_law_ 1539 = .ok (.istore 5, 2) := by decide +kernel
theorem dL_law__1541 : decode cL_law_ 1541 = .ok (.aload_n 2, 1) := by decide +kernel
theorem dL_law__1542 : decode cL_law_ 1542 = .ok (.aload_n 0, 1) := by decide +kernel
theorem dL_law__1543 : decode cL_law_ 1543 = .ok (.iload 4, 2) := by decide +kernel
theorem dL_law__1545 : decode cL_law_ 1545 = .ok (.iconst 1, 1) := by decide +kernel
theorem dL_law__1546 : decode cL_law_ 1546 = .ok (.iadd, 1) := by decide +kernel
theorem dL_law__1547 : decode cL_law_ 1547 = .ok (.iaload, 1) := by decide +kernel
theorem dL_law__1548 : decode cL_law_ 1548 = .ok (.aload_n 0, 1) := by decide +kernel
theorem dL_law__1549 : decode cL_law_ 1549 = .ok (.iload 4, 2) := by decide +kernel
theorem dL_law__1551 : decode cL_law_ 1551 = .ok (.iconst 2, 1) := by decide +kernel
theorem dL_law__1552 : decode cL_law_ 1552 = .ok (.iadd, 1) := by decide +kernel
theorem dL_law__1553 : decode cL_law_ 1553 = .ok (.iaload, 1) := by decide +kernel
theorem dL_law__1554 : decode cL_law_ 1554 = .ok (.invokevirtual 193, 3) := by decide +kernel
theorem dL_law__1557 : decode cL_law_ 1557 = .ok (.istore 6, 2) := by decide +kernel
theorem dL_law__1559 : decode cL_law_ 1559 = .ok (.aload_n 2, 1) := by decide +kernel
theorem dL_law__1560 : decode cL_law_ 1560 = .ok (.invokevirtual 129, 3) := by decide +kernel
theorem dL_law__1563 : decode cL_law_ 1563 = .ok (.iload 5, 2) := by decide +kernel
theorem dL_law__1565 : decode cL_law_ 1565 = .ok (.if_icmp .eq 5, 3) := by decide +kernel
theorem dL_law__1568 : decode cL_law_ 1568 = .ok (.iconst 0, 1) := by decide +kernel
theorem dL_law__1569 : decode cL_law_ 1569 = .ok (.ireturn, 1) := by decide +kernel
theorem dL_law__1570 : decode cL_law_ 1570 = .ok (.iload 5, 2) := by decide +kernel
theorem dL_law__1572 : decode cL_law_ 1572 = .ok (.ifCond .ne 15, 3) := by decide +kernel
theorem dL_law__1575 : decode cL_law_ 1575 = .ok (.aload_n 3, 1) := by decide +kernel
theorem dL_law__1576 : decode cL_law_ 1576 = .ok (.iconst 0, 1) := by decide +kernel
theorem dL_law__1577 : decode cL_law_ 1577 = .ok (.laload, 1) := by decide +kernel
theorem dL_law__1578 : decode cL_law_ 1578 = .ok (.iload 6, 2) := by decide +kernel
theorem dL_law__1580 : decode cL_law_ 1580 = .ok (.i2l, 1) := by decide +kernel
theorem dL_law__1581 : decode cL_law_ 1581 = .ok (.lcmp, 1) := by decide +kernel
theorem dL_law__1582 : decode cL_law_ 1582 = .ok (.ifCond .eq 5, 3) := by decide +kernel
theorem dL_law__1585 : decode cL_law_ 1585 = .ok (.iconst 0, 1) := by decide +kernel
theorem dL_law__1586 : decode cL_law_ 1586 = .ok (.ireturn, 1) := by decide +kernel
theorem dL_law__1587 : decode cL_law_ 1587 = .ok (.goto 984, 3) := by decide +kernel
theorem dL_law__1590 : decode cL_law_ 1590 = .ok (.aload_n 1, 1) := by decide +kernel
theorem dL_law__1591 : decode cL_law_ 1591 = .ok (.aload_n 0, 1) := by decide +kernel
theorem dL_law__1592 : decode cL_law_ 1592 = .ok (.iload 4, 2) := by decide +kernel
theorem dL_law__1594 : decode cL_law_ 1594 = .ok (.iconst 1, 1) := by decide +kernel
theorem dL_law__1595 : decode cL_law_ 1595 = .ok (.iadd, 1) := by decide +kernel
theorem dL_law__1596 : decode cL_law_ 1596 = .ok (.iaload, 1) := by decide +kernel
theorem dL_law__1597 : decode cL_law_ 1597 = .ok (.aload_n 0, 1) := by decide +kernel
theorem dL_law__1598 : decode cL_law_ 1598 = .ok (.iload 4, 2) := by decide +kernel
theorem dL_law__1600 : decode cL_law_ 1600 = .ok (.iconst 2, 1) := by decide +kernel
theorem dL_law__1601 : decode cL_law_ 1601 = .ok (.iadd, 1) := by decide +kernel
theorem dL_law__1602 : decode cL_law_ 1602 = .ok (.iaload, 1) := by decide +kernel
theorem dL_law__1603 : decode cL_law_ 1603 = .ok (.aload_n 3, 1) := by decide +kernel
theorem dL_law__1604 : decode cL_law_ 1604 = .ok (.invokestatic 194, 3) := by decide +kernel
theorem dL_law__1607 : decode cL_law_ 1607 = .ok (.istore 5, 2) := by decide +kernel
theorem dL_law__1609 : decode cL_law_ 1609 = .ok (.aload_n 2, 1) := by decide +kernel
theorem dL_law__1610 : decode cL_law_ 1610 = .ok (.aload_n 0, 1) := by decide +kernel
theorem dL_law__1611 : decode cL_law_ 1611 = .ok (.iload 4, 2) := by decide +kernel
theorem dL_law__1613 : decode cL_law_ 1613 = .ok (.iconst 1, 1) := by decide +kernel
theorem dL_law__1614 : decode cL_law_ 1614 = .ok (.iadd, 1) := by decide +kernel
theorem dL_law__1615 : decode cL_law_ 1615 = .ok (.iaload, 1) := by decide +kernel
theorem dL_law__1616 : decode cL_law_ 1616 = .ok (.aload_n 0, 1) := by decide +kernel
theorem dL_law__1617 : decode cL_law_ 1617 = .ok (.iload 4, 2) := by decide +kernel
theorem dL_law__1619 : decode cL_law_ 1619 = .ok (.iconst 2, 1) := by decide +kernel
theorem dL_law__1620 : decode cL_law_ 1620 = .ok (.iadd, 1) := by decide +kernel
theorem dL_law__1621 : decode cL_law_ 1621 = .ok (.iaload, 1) := by decide +kernel
theorem dL_law__1622 : decode cL_law_ 1622 = .ok (.invokevirtual 196, 3) := by decide +kernel
theorem dL_law__1625 : decode cL_law_ 1625 = .ok (.istore 6, 2) := by decide +kernel
theorem dL_law__1627 : decode cL_law_ 1627 = .ok (.aload_n 2, 1) := by decide +kernel
theorem dL_law__1628 : decode cL_law_ 1628 = .ok (.invokevirtual 129, 3) := by decide +kernel
theorem dL_law__1631 : decode cL_law_ 1631 = .ok (.iload 5, 2) := by decide +kernel
theorem dL_law__1633 : decode cL_law_ 1633 = .ok (.if_icmp .eq 5, 3) := by decide +kernel
theorem dL_law__1636 : decode cL_law_ 1636 = .ok (.iconst 0, 1) := by decide +kernel
theorem dL_law__1637 : decode cL_law_ 1637 = .ok (.ireturn, 1) := by decide +kernel
theorem dL_law__1638 : decode cL_law_ 1638 = .ok (.iload 5, 2) := by decide +kernel
theorem dL_law__1640 : decode cL_law_ 1640 = .ok (.ifCond .ne 15, 3) := by decide +kernel
theorem dL_law__1643 : decode cL_law_ 1643 = .ok (.aload_n 3, 1) := by decide +kernel
theorem dL_law__1644 : decode cL_law_ 1644 = .ok (.iconst 0, 1) := by decide +kernel
theorem dL_law__1645 : decode cL_law_ 1645 = .ok (.laload, 1) := by decide +kernel
theorem dL_law__1646 : decode cL_law_ 1646 = .ok (.iload 6, 2) := by decide +kernel
theorem dL_law__1648 : decode cL_law_ 1648 = .ok (.i2l, 1) := by decide +kernel
theorem dL_law__1649 : decode cL_law_ 1649 = .ok (.lcmp, 1) := by decide +kernel
theorem dL_law__1650 : decode cL_law_ 1650 = .ok (.ifCond .eq 5, 3) := by decide +kernel
theorem dL_law__1653 : decode cL_law_ 1653 = .ok (.iconst 0, 1) := by decide +kernel
theorem dL_law__1654 : decode cL_law_ 1654 = .ok (.ireturn, 1) := by decide +kernel
theorem dL_law__1655 : decode cL_law_ 1655 = .ok (.goto 916, 3) := by decide +kernel
theorem dL_law__1658 : decode cL_law_ 1658 = .ok (.aload_n 1, 1) := by decide +kernel
