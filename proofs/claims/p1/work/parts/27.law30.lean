theorem dL_law_1400 : decode cL_law 1400 = .ok (.aload_n 1, 1) := by decide +kernel
theorem dL_law_1401 : decode cL_law 1401 = .ok (.aload_n 0, 1) := by decide +kernel
theorem dL_law_1402 : decode cL_law 1402 = .ok (.iload_n 3, 1) := by decide +kernel
theorem dL_law_1403 : decode cL_law 1403 = .ok (.iconst 1, 1) := by decide +kernel
theorem dL_law_1404 : decode cL_law 1404 = .ok (.iadd, 1) := by decide +kernel
theorem dL_law_1405 : decode cL_law 1405 = .ok (.iaload, 1) := by decide +kernel
theorem dL_law_1406 : decode cL_law 1406 = .ok (.aload_n 0, 1) := by decide +kernel
theorem dL_law_1407 : decode cL_law 1407 = .ok (.iload_n 3, 1) := by decide +kernel
theorem dL_law_1408 : decode cL_law 1408 = .ok (.iconst 2, 1) := by decide +kernel
theorem dL_law_1409 : decode cL_law 1409 = .ok (.iadd, 1) := by decide +kernel
theorem dL_law_1410 : decode cL_law 1410 = .ok (.iaload, 1) := by decide +kernel
theorem dL_law_1411 : decode cL_law 1411 = .ok (.invokevirtual 143, 3) := by decide +kernel
theorem dL_law_1414 : decode cL_law 1414 = .ok (.aload_n 2, 1) := by decide +kernel
theorem dL_law_1415 : decode cL_law 1415 = .ok (.aload_n 0, 1) := by decide +kernel
theorem dL_law_1416 : decode cL_law 1416 = .ok (.iload_n 3, 1) := by decide +kernel
theorem dL_law_1417 : decode cL_law 1417 = .ok (.iconst 1, 1) := by decide +kernel
theorem dL_law_1418 : decode cL_law 1418 = .ok (.iadd, 1) := by decide +kernel
theorem dL_law_1419 : decode cL_law 1419 = .ok (.iaload, 1) := by decide +kernel
theorem dL_law_1420 : decode cL_law 1420 = .ok (.aload_n 0, 1) := by decide +kernel
theorem dL_law_1421 : decode cL_law 1421 = .ok (.iload_n 3, 1) := by decide +kernel
theorem dL_law_1422 : decode cL_law 1422 = .ok (.iconst 2, 1) := by decide +kernel
theorem dL_law_1423 : decode cL_law 1423 = .ok (.iadd, 1) := by decide +kernel
theorem dL_law_1424 : decode cL_law 1424 = .ok (.iaload, 1) := by decide +kernel
theorem dL_law_1425 : decode cL_law 1425 = .ok (.invokevirtual 146, 3) := by decide +kernel
theorem dL_law_1428 : decode cL_law 1428 = .ok (.if_icmp .eq 858, 3) := by decide +kernel
theorem dL_law_1433 : decode cL_law 1433 = .ok (.aload_n 1, 1) := by decide +kernel
theorem dL_law_1434 : decode cL_law 1434 = .ok (.aload_n 0, 1) := by decide +kernel
theorem dL_law_1435 : decode cL_law 1435 = .ok (.iload_n 3, 1) := by decide +kernel
theorem dL_law_1436 : decode cL_law 1436 = .ok (.iconst 1, 1) := by decide +kernel
theorem dL_law_1437 : decode cL_law 1437 = .ok (.iadd, 1) := by decide +kernel
theorem dL_law_1438 : decode cL_law 1438 = .ok (.iaload, 1) := by decide +kernel
theorem dL_law_1439 : decode cL_law 1439 = .ok (.aload_n 0, 1) := by decide +kernel
theorem dL_law_1440 : decode cL_law 1440 = .ok (.iload_n 3, 1) := by decide +kernel
theorem dL_law_1441 : decode cL_law 1441 = .ok (.iconst 2, 1) := by decide +kernel
theorem dL_law_1442 : decode cL_law 1442 = .ok (.iadd, 1) := by decide +kernel
theorem dL_law_1443 : decode cL_law 1443 = .ok (.iaload, 1) := by decide +kernel
theorem dL_law_1444 : decode cL_law 1444 = .ok (.aload_n 0, 1) := by decide +kernel
theorem dL_law_1445 : decode cL_law 1445 = .ok (.iload_n 3, 1) := by decide +kernel
theorem dL_law_1446 : decode cL_law 1446 = .ok (.iconst 3, 1) := by decide +kernel
theorem dL_law_1447 : decode cL_law 1447 = .ok (.iadd, 1) := by decide +kernel
theorem dL_law_1448 : decode cL_law 1448 = .ok (.iaload, 1) := by decide +kernel
theorem dL_law_1449 : decode cL_law 1449 = .ok (.aload_n 0, 1) := by decide +kernel
theorem dL_law_1450 : decode cL_law 1450 = .ok (.iload_n 3, 1) := by decide +kernel
theorem dL_law_1451 : decode cL_law 1451 = .ok (.iconst 4, 1) := by decide +kernel
theorem dL_law_1452 : decode cL_law 1452 = .ok (.iadd, 1) := by decide +kernel
theorem dL_law_1453 : decode cL_law 1453 = .ok (.iaload, 1) := by decide +kernel
theorem dL_law_1454 : decode cL_law 1454 = .ok (.invokevirtual 147, 3) := by decide +kernel
theorem dL_law_1457 : decode cL_law 1457 = .ok (.aload_n 2, 1) := by decide +kernel
theorem dL_law_1458 : decode cL_law 1458 = .ok (.aload_n 0, 1) := by decide +kernel
theorem dL_law_1459 : decode cL_law 1459 = .ok (.iload_n 3, 1) := by decide +kernel
theorem dL_law_1460 : decode cL_law 1460 = .ok (.iconst 1, 1) := by decide +kernel
theorem dL_law_1461 : decode cL_law 1461 = .ok (.iadd, 1) := by decide +kernel
theorem dL_law_1462 : decode cL_law 1462 = .ok (.iaload, 1) := by decide +kernel
theorem dL_law_1463 : decode cL_law 1463 = .ok (.aload_n 0, 1) := by decide +kernel
theorem dL_law_1464 : decode cL_law 1464 = .ok (.iload_n 3, 1) := by decide +kernel
theorem dL_law_1465 : decode cL_law 1465 = .ok (.iconst 2, 1) := by decide +kernel
theorem dL_law_1466 : decode cL_law 1466 = .ok (.iadd, 1) := by decide +kernel
theorem dL_law_1467 : decode cL_law 1467 = .ok (.iaload, 1) := by decide +kernel
theorem dL_law_1468 : decode cL_law 1468 = .ok (.aload_n 0, 1) := by decide +kernel
theorem dL_law_1469 : decode cL_law 1469 = .ok (.iload_n 3, 1) := by decide +kernel
theorem dL_law_1470 : decode cL_law 1470 = .ok (.iconst 3, 1) := by decide +kernel
theorem dL_law_1471 : decode cL_law 1471 = .ok (.iadd, 1) := by decide +kernel
theorem dL_law_1472 : decode cL_law 1472 = .ok (.iaload, 1) := by decide +kernel
theorem dL_law_1473 : decode cL_law 1473 = .ok (.aload_n 0, 1) := by decide +kernel
theorem dL_law_1474 : decode cL_law 1474 = .ok (.iload_n 3, 1) := by decide +kernel
theorem dL_law_1475 : decode cL_law 1475 = .ok (.iconst 4, 1) := by decide +kernel
theorem dL_law_1476 : decode cL_law 1476 = .ok (.iadd, 1) := by decide +kernel
theorem dL_law_1477 : decode cL_law 1477 = .ok (.iaload, 1) := by decide +kernel
theorem dL_law_1478 : decode cL_law 1478 = .ok (.invokevirtual 151, 3) := by decide +kernel
theorem dL_law_1481 : decode cL_law 1481 = .ok (.if_icmp .eq 805, 3) := by decide +kernel
theorem dL_law_1486 : decode cL_law 1486 = .ok (.aload_n 1, 1) := by decide +kernel
theorem dL_law_1487 : decode cL_law 1487 = .ok (.aload_n 0, 1) := by decide +kernel
theorem dL_law_1488 : decode cL_law 1488 = .ok (.iload_n 3, 1) := by decide +kernel
theorem dL_law_1489 : decode cL_law 1489 = .ok (.iconst 1, 1) := by decide +kernel
theorem dL_law_1490 : decode cL_law 1490 = .ok (.iadd, 1) := by decide +kernel
theorem dL_law_1491 : decode cL_law 1491 = .ok (.iaload, 1) := by decide +kernel
theorem dL_law_1492 : decode cL_law 1492 = .ok (.aload_n 0, 1) := by decide +kernel
theorem dL_law_1493 : decode cL_law 1493 = .ok (.iload_n 3, 1) := by decide +kernel
theorem dL_law_1494 : decode cL_law 1494 = .ok (.iconst 2, 1) := by decide +kernel
theorem dL_law_1495 : decode cL_law 1495 = .ok (.iadd, 1) := by decide +kernel
theorem dL_law_1496 : decode cL_law 1496 = .ok (.iaload, 1) := by decide +kernel
theorem dL_law_1497 : decode cL_law 1497 = .ok (.aload_n 0, 1) := by decide +kernel
theorem dL_law_1498 : decode cL_law 1498 = .ok (.iload_n 3, 1) := by decide +kernel
theorem dL_law_1499 : decode cL_law 1499 = .ok (.iconst 3, 1) := by decide +kernel
theorem dL_law_1500 : decode cL_law 1500 = .ok (.iadd, 1) := by decide +kernel
theorem dL_law_1501 : decode cL_law 1501 = .ok (.iaload, 1) := by decide +kernel
theorem dL_law_1502 : decode cL_law 1502 = .ok (.aload_n 0, 1) := by decide +kernel
theorem dL_law_1503 : decode cL_law 1503 = .ok (.iload_n 3, 1) := by decide +kernel
theorem dL_law_1504 : decode cL_law 1504 = .ok (.iconst 4, 1) := by decide +kernel
theorem dL_law_1505 : decode cL_law 1505 = .ok (.iadd, 1) := by decide +kernel
theorem dL_law_1506 : decode cL_law 1506 = .ok (.iaload, 1) := by decide +kernel
theorem dL_law_1507 : decode cL_law 1507 = .ok (.aload_n 0, 1) := by decide +kernel
theorem dL_law_1508 : decode cL_law 1508 = .ok (.iload_n 3, 1) := by decide +kernel
theorem dL_law_1509 : decode cL_law 1509 = .ok (.iconst 5, 1) := by decide +kernel
theorem dL_law_1510 : decode cL_law 1510 = .ok (.iadd, 1) := by decide +kernel
theorem dL_law_1511 : decode cL_law 1511 = .ok (.iaload, 1) := by decide +kernel
theorem dL_law_1512 : decode cL_law 1512 = .ok (.invokevirtual 152, 3) := by decide +kernel
theorem dL_law_1515 : decode cL_law 1515 = .ok (.aload_n 2, 1) := by decide +kernel
theorem dL_law_1516 : decode cL_law 1516 = .ok (.aload_n 0, 1) := by decide +kernel
theorem dL_law_1517 : decode cL_law 1517 = .ok (.iload_n 3, 1) := by decide +kernel
theorem dL_law_1518 : decode cL_law 1518 = .ok (.iconst 1, 1) := by decide +kernel
theorem dL_law_1519 : decode cL_law 1519 = .ok (.iadd, 1) := by decide +kernel
theorem dL_law_1520 : decode cL_law 1520 = .ok (.iaload, 1) := by decide +kernel
theorem dL_law_1521 : decode cL_law 1521 = .ok (.aload_n 0, 1) := by decide +kernel
theorem dL_law_1522 : decode cL_law 1522 = .ok (.iload_n 3, 1) := by decide +kernel
theorem dL_law_1523 : decode cL_law 1523 = .ok (.iconst 2, 1) := by decide +kernel
theorem dL_law_1524 : decode cL_law 1524 = .ok (.iadd, 1) := by decide +kernel
theorem dL_law_1525 : decode cL_law 1525 = .ok (.iaload, 1) := by decide +kernel
theorem dL_law_1526 : decode cL_law 1526 = .ok (.aload_n 0, 1) := by decide +kernel
theorem dL_law_1527 : decode cL_law 1527 = .ok (.iload_n 3, 1) := by decide +kernel
theorem dL_law_1528 : decode cL_law 1528 = .ok (.iconst 3, 1) := by decide +kernel
theorem dL_law_1529 : decode cL_law 1529 = .ok (.iadd, 1) := by decide +kernel
theorem dL_law_1530 : decode cL_law 1530 = .ok (.iaload, 1) := by decide +kernel
theorem dL_law_1531 : decode cL_law 1531 = .ok (.aload_n 0, 1) := by decide +kernel
theorem dL_law_1532 : decode cL_law 1532 = .ok (.iload_n 3, 1) := by decide +kernel
theorem dL_law_1533 : decode cL_law 1533 = .ok (.iconst 4, 1) := by decide +kernel
theorem dL_law_1534 : decode cL_law 1534 = .ok (.iadd, 1) := by decide +kernel
theorem dL_law_1535 : decode cL_law 1535 = .ok (.iaload, 1) := by decide +kernel
theorem dL_law_1536 : decode cL_law 1536 = .ok (.aload_n 0, 1) := by decide +kernel
theorem dL_law_1537 : decode cL_law 1537 = .ok (.iload_n 3, 1) := by decide +kernel
theorem dL_law_1538 : decode cL_law 1538 = .ok (.iconst 5, 1) := by decide +kernel
theorem dL_law_1539 : decode cL_law 1539 = .ok (.iadd, 1) := by decide +kernel
theorem dL_law_1540 : decode cL_law 1540 = .ok (.iaload, 1) := by decide +kernel
theorem dL_law_1541 : decode cL_law 1541 = .ok (.invokevirtual 155, 3) := by decide +kernel
theorem dL_law_1544 : decode cL_law 1544 = .ok (.if_icmp .eq 742, 3) := by decide +kernel
theorem dL_law_1549 : decode cL_law 1549 = .ok (.aload_n 1, 1) := by decide +kernel
theorem dL_law_1550 : decode cL_law 1550 = .ok (.aload_n 0, 1) := by decide +kernel
theorem dL_law_1551 : decode cL_law 1551 = .ok (.iload_n 3, 1) := by decide +kernel
theorem dL_law_1552 : decode cL_law 1552 = .ok (.iconst 1, 1) := by decide +kernel
theorem dL_law_1553 : decode cL_law 1553 = .ok (.iadd, 1) := by decide +kernel
theorem dL_law_1554 : decode cL_law 1554 = .ok (.iaload, 1) := by decide +kernel
theorem dL_law_1555 : decode cL_law 1555 = .ok (.aload_n 0, 1) := by decide +kernel
theorem dL_law_1556 : decode cL_law 1556 = .ok (.iload_n 3, 1) := by decide +kernel
theorem dL_law_1557 : decode cL_law 1557 = .ok (.iconst 2, 1) := by decide +kernel
theorem dL_law_1558 : decode cL_law 1558 = .ok (.iadd, 1) := by decide +kernel
theorem dL_law_1559 : decode cL_law 1559 = .ok (.iaload, 1) := by decide +kernel
theorem dL_law_1560 : decode cL_law 1560 = .ok (.aload_n 0, 1) := by decide +kernel
theorem dL_law_1561 : decode cL_law 1561 = .ok (.iload_n 3, 1) := by decide +kernel
theorem dL_law_1562 : decode cL_law 1562 = .ok (.iconst 3, 1) := by decide +kernel
theorem dL_law_1563 : decode cL_law 1563 = .ok (.iadd, 1) := by decide +kernel
theorem dL_law_1564 : decode cL_law 1564 = .ok (.iaload, 1) := by decide +kernel
theorem dL_law_1565 : decode cL_law 1565 = .ok (.aload_n 0, 1) := by decide +kernel
theorem dL_law_1566 : decode cL_law 1566 = .ok (.iload_n 3, 1) := by decide +kernel
theorem dL_law_1567 : decode cL_law 1567 = .ok (.iconst 4, 1) := by decide +kernel
theorem dL_law_1568 : decode cL_law 1568 = .ok (.iadd, 1) := by decide +kernel
theorem dL_law_1569 : decode cL_law 1569 = .ok (.iaload, 1) := by decide +kernel
theorem dL_law_1570 : decode cL_law 1570 = .ok (.aload_n 0, 1) := by decide +kernel
theorem dL_law_1571 : decode cL_law 1571 = .ok (.iload_n 3, 1) := by decide +kernel
theorem dL_law_1572 : decode cL_law 1572 = .ok (.iconst 5, 1) := by decide +kernel
theorem dL_law_1573 : decode cL_law 1573 = .ok (.iadd, 1) := by decide +kernel
theorem dL_law_1574 : decode cL_law 1574 = .ok (.iaload, 1) := by decide +kernel
theorem dL_law_1575 : decode cL_law 1575 = .ok (.invokevirtual 156, 3) := by decide +kernel
theorem dL_law_1578 : decode cL_law 1578 = .ok (.aload_n 2, 1) := by decide +kernel
theorem dL_law_1579 : decode cL_law 1579 = .ok (.aload_n 0, 1) := by decide +kernel
theorem dL_law_1580 : decode cL_law 1580 = .ok (.iload_n 3, 1) := by decide +kernel
theorem dL_law_1581 : decode cL_law 1581 = .ok (.iconst 1, 1) := by decide +kernel
theorem dL_law_1582 : decode cL_law 1582 = .ok (.iadd, 1) := by decide +kernel
theorem dL_law_1583 : decode cL_law 1583 = .ok (.iaload, 1) := by decide +kernel
theorem dL_law_1584 : decode cL_law 1584 = .ok (.aload_n 0, 1) := by decide +kernel
theorem dL_law_1585 : decode cL_law 1585 = .ok (.iload_n 3, 1) := by decide +kernel
theorem dL_law_1586 : decode cL_law 1586 = .ok (.iconst 2, 1) := by decide +kernel
theorem dL_law_1587 : decode cL_law 1587 = .ok (.iadd, 1) := by decide +kernel
theorem dL_law_1588 : decode cL_law 1588 = .ok (.iaload, 1) := by decide +kernel
theorem dL_law_1589 : decode cL_law 1589 = .ok (.aload_n 0, 1) := by decide +kernel
theorem dL_law_1590 : decode cL_law 1590 = .ok (.iload_n 3, 1) := by decide +kernel
theorem dL_law_1591 : decode cL_law 1591 = .ok (.iconst 3, 1) := by decide +kernel
theorem dL_law_1592 : decode cL_law 1592 = .ok (.iadd, 1) := by decide +kernel
theorem dL_law_1593 : decode cL_law 1593 = .ok (.iaload, 1) := by decide +kernel
theorem dL_law_1594 : decode cL_law 1594 = .ok (.aload_n 0, 1) := by decide +kernel
theorem dL_law_1595 : decode cL_law 1595 = .ok (.iload_n 3, 1) := by decide +kernel
theorem dL_law_1596 : decode cL_law 1596 = .ok (.iconst 4, 1) := by decide +kernel
theorem dL_law_1597 : decode cL_law 1597 = .ok (.iadd, 1) := by decide +kernel
theorem dL_law_1598 : decode cL_law 1598 = .ok (.iaload, 1) := by decide +kernel
theorem dL_law_1599 : decode cL_law 1599 = .ok (.aload_n 0, 1) := by decide +kernel
theorem dL_law_1600 : decode cL_law 1600 = .ok (.iload_n 3, 1) := by decide +kernel
theorem dL_law_1601 : decode cL_law 1601 = .ok (.iconst 5, 1) := by decide +kernel
theorem dL_law_1602 : decode cL_law 1602 = .ok (.iadd, 1) := by decide +kernel
theorem dL_law_1603 : decode cL_law 1603 = .ok (.iaload, 1) := by decide +kernel
theorem dL_law_1604 : decode cL_law 1604 = .ok (.invokevirtual 160, 3) := by decide +kernel
theorem dL_law_1607 : decode cL_law 1607 = .ok (.lcmp, 1) := by decide +kernel
theorem dL_law_1608 : decode cL_law 1608 = .ok (.ifCond .eq 678, 3) := by decide +kernel
theorem dL_law_1613 : decode cL_law 1613 = .ok (.aload_n 1, 1) := by decide +kernel
theorem dL_law_1614 : decode cL_law 1614 = .ok (.aload_n 0, 1) := by decide +kernel
theorem dL_law_1615 : decode cL_law 1615 = .ok (.iload_n 3, 1) := by decide +kernel
theorem dL_law_1616 : decode cL_law 1616 = .ok (.iconst 1, 1) := by decide +kernel
theorem dL_law_1617 : decode cL_law 1617 = .ok (.iadd, 1) := by decide +kernel
theorem dL_law_1618 : decode cL_law 1618 = .ok (.iaload, 1) := by decide +kernel
theorem dL_law_1619 : decode cL_law 1619 = .ok (.aload_n 0, 1) := by decide +kernel
theorem dL_law_1620 : decode cL_law 1620 = .ok (.iload_n 3, 1) := by decide +kernel
theorem dL_law_1621 : decode cL_law 1621 = .ok (.iconst 2, 1) := by decide +kernel
theorem dL_law_1622 : decode cL_law 1622 = .ok (.iadd, 1) := by decide +kernel
theorem dL_law_1623 : decode cL_law 1623 = .ok (.iaload, 1) := by decide +kernel
theorem dL_law_1624 : decode cL_law 1624 = .ok (.aload_n 0, 1) := by decide +kernel
theorem dL_law_1625 : decode cL_law 1625 = .ok (.iload_n 3, 1) := by decide +kernel
theorem dL_law_1626 : decode cL_law 1626 = .ok (.iconst 3, 1) := by decide +kernel
theorem dL_law_1627 : decode cL_law 1627 = .ok (.iadd, 1) := by decide +kernel
theorem dL_law_1628 : decode cL_law 1628 = .ok (.iaload, 1) := by decide +kernel
theorem dL_law_1629 : decode cL_law 1629 = .ok (.aload_n 0, 1) := by decide +kernel
theorem dL_law_1630 : decode cL_law 1630 = .ok (.iload_n 3, 1) := by decide +kernel
theorem dL_law_1631 : decode cL_law 1631 = .ok (.iconst 4, 1) := by decide +kernel
theorem dL_law_1632 : decode cL_law 1632 = .ok (.iadd, 1) := by decide +kernel
theorem dL_law_1633 : decode cL_law 1633 = .ok (.iaload, 1) := by decide +kernel
theorem dL_law_1634 : decode cL_law 1634 = .ok (.invokevirtual 161, 3) := by decide +kernel
theorem dL_law_1637 : decode cL_law 1637 = .ok (.aload_n 2, 1) := by decide +kernel
theorem dL_law_1638 : decode cL_law 1638 = .ok (.aload_n 0, 1) := by decide +kernel
theorem dL_law_1639 : decode cL_law 1639 = .ok (.iload_n 3, 1) := by decide +kernel
theorem dL_law_1640 : decode cL_law 1640 = .ok (.iconst 1, 1) := by decide +kernel
theorem dL_law_1641 : decode cL_law 1641 = .ok (.iadd, 1) := by decide +kernel
theorem dL_law_1642 : decode cL_law 1642 = .ok (.iaload, 1) := by decide +kernel
theorem dL_law_1643 : decode cL_law 1643 = .ok (.aload_n 0, 1) := by decide +kernel
theorem dL_law_1644 : decode cL_law 1644 = .ok (.iload_n 3, 1) := by decide +kernel
theorem dL_law_1645 : decode cL_law 1645 = .ok (.iconst 2, 1) := by decide +kernel
theorem dL_law_1646 : decode cL_law 1646 = .ok (.iadd, 1) := by decide +kernel
theorem dL_law_1647 : decode cL_law 1647 = .ok (.iaload, 1) := by decide +kernel
theorem dL_law_1648 : decode cL_law 1648 = .ok (.aload_n 0, 1) := by decide +kernel
theorem dL_law_1649 : decode cL_law 1649 = .ok (.iload_n 3, 1) := by decide +kernel
theorem dL_law_1650 : decode cL_law 1650 = .ok (.iconst 3, 1) := by decide +kernel
theorem dL_law_1651 : decode cL_law 1651 = .ok (.iadd, 1) := by decide +kernel
theorem dL_law_1652 : decode cL_law 1652 = .ok (.iaload, 1) := by decide +kernel
theorem dL_law_1653 : decode cL_law 1653 = .ok (.aload_n 0, 1) := by decide +kernel
theorem dL_law_1654 : decode cL_law 1654 = .ok (.iload_n 3, 1) := by decide +kernel
theorem dL_law_1655 : decode cL_law 1655 = .ok (.iconst 4, 1) := by decide +kernel
theorem dL_law_1656 : decode cL_law 1656 = .ok (.iadd, 1) := by decide +kernel
theorem dL_law_1657 : decode cL_law 1657 = .ok (.iaload, 1) := by decide +kernel
theorem dL_law_1658 : decode cL_law 1658 = .ok (.invokevirtual 164, 3) := by decide +kernel
theorem dL_law_1661 : decode cL_law 1661 = .ok (.lcmp, 1) := by decide +kernel
theorem dL_law_1662 : decode cL_law 1662 = .ok (.ifCond .eq 624, 3) := by decide +kernel
theorem sV_L_143 : SiteV RL 143 yX9_fed cX9_fed 7 (some .int) 2 := ⟨ml_L_143, im_X9_fed, se_X9_fed, ini_X9, co_X9_fed, by decide +kernel⟩
theorem sV_L_146 : SiteV RL 146 yX10_fed cX10_fed 8 (some .int) 2 := ⟨ml_L_146, im_X10_fed, se_X10_fed, ini_X10, co_X10_fed, by decide +kernel⟩
theorem sV_L_147 : SiteV RL 147 yX9_given cX9_given 6 (some .int) 4 := ⟨ml_L_147, im_X9_given, se_X9_given, ini_X9, co_X9_given, by decide +kernel⟩
theorem sV_L_151 : SiteV RL 151 yX10_given cX10_given 6 (some .int) 4 := ⟨ml_L_151, im_X10_given, se_X10_given, ini_X10, co_X10_given, by decide +kernel⟩
theorem sV_L_152 : SiteV RL 152 yX9_asks cX9_asks 7 (some .int) 5 := ⟨ml_L_152, im_X9_asks, se_X9_asks, ini_X9, co_X9_asks, by decide +kernel⟩
theorem sV_L_155 : SiteV RL 155 yX10_asks_ cX10_asks_ 7 (some .int) 5 := ⟨ml_L_155, im_X10_asks_, se_X10_asks_, ini_X10, co_X10_asks_, by decide +kernel⟩
theorem sV_L_156 : SiteV RL 156 yX9_pays cX9_pays 9 (some .long) 5 := ⟨ml_L_156, im_X9_pays, se_X9_pays, ini_X9, co_X9_pays, by decide +kernel⟩
theorem sV_L_160 : SiteV RL 160 yX10_pays cX10_pays 9 (some .long) 5 := ⟨ml_L_160, im_X10_pays, se_X10_pays, ini_X10, co_X10_pays, by decide +kernel⟩
theorem sV_L_161 : SiteV RL 161 yX9_burnt cX9_burnt 5 (some .long) 4 := ⟨ml_L_161, im_X9_burnt, se_X9_burnt, ini_X9, co_X9_burnt, by decide +kernel⟩
theorem sV_L_164 : SiteV RL 164 yX10_burnt cX10_burnt 5 (some .long) 4 := ⟨ml_L_164, im_X10_burnt, se_X10_burnt, ini_X10, co_X10_burnt, by decide +kernel⟩
set_option maxHeartbeats 4000000 in
set_option maxRecDepth 100000 in
theorem lc_30 {p : Program} {e : Env} {s : State} {m : MethodId} {below : List Frame} {meth : Method} {c : Code} {l : Launch} {b L : Nat} {xs : Nat → Int32} {A : Nat → Prop} (D : va_G) (cy : Nat → ClassId) (xa ma : Nat → Nat) (fw : Nat → Int32) (hw : ∀ k : Nat, k < 4 → fw k = -1) (hL7 : L = 7) (C0 : lw_At p s m meth c b L xs) (hK : KK D cy s) (hA : ∀ q : Nat, s.heap.size ≤ q → A q) (hA2 : ∀ q : Nat, A q → s.heap.size ≤ q) (hbA : ¬ A b) {H : Heap} {locs : List Loc} (hP : va_P D vwCl [((xa 0), .inr (9, [.ref (xa 1), .ref (xa 2), .ref (xa 3), .ref (xa 4), .ref (xa 5), .ref (xa 6), .ref (xa 7), .ref (xa 8), .ref (xa 9), .int 0, .ref (xa 11), .null, .int 0, .int (-1)])), ((xa 1), .inl (cy 0, 1600, .inl (fun _ => 0))), ((xa 2), .inr (4, [.int 0, .int (-1), .ref (xa 30), .int 0, .int 0, .int 0, .int 0, .int 0, .ref (xa 31), .int 0, .int 0, .int 0])), ((xa 8), .inl (cy 4, 4, .inr (.inr (.inr (.inr (fun _ => none)))))), ((xa 9), .inl (cy 5, 3, .inr (.inr (.inr (.inr (fun _ => none)))))), ((xa 11), .inr (2, [.int 0, .int 0, .int 0, .int 0, .int 0, .int 0, .int 0, .int 0, .int 1, .int 10, .int 0, .int 0, .int 0, .int 0, .ref (xa 20), .ref (xa 21), .ref (xa 22), .ref (xa 23), .ref (xa 24), .ref (xa 25), .ref (xa 26)])), ((ma 0), .inr (10, [.int 0, .ref (ma 1), .ref (ma 2), .ref (ma 3), .ref (ma 4), .ref (ma 5), .int 0, .int 0, .int 0, .int 0, .int 0, .long 0, .int 0, .int 0, .int 0, .int (-1), .ref (ma 16), .ref (ma 17), .ref (ma 18), .ref (ma 19), .ref (ma 20), .ref (ma 21), .ref (ma 22), .ref (ma 23), .ref (ma 24), .ref (ma 25), .ref (ma 26), .ref (ma 27), .ref (ma 28), .ref (ma 29), .ref (ma 30), .ref (ma 31), .ref (ma 32), .ref (ma 33), .ref (ma 34), .ref (ma 35), .ref (ma 36), .ref (ma 37), .ref (ma 38), .ref (ma 39), .ref (ma 40), .ref (ma 41), .long 0])), ((ma 1), .inl (cy 1, 4, .inl fw)), ((ma 2), .inl (cy 1, 4, .inl (fun _ => 0))), ((ma 3), .inl (cy 2, 240, .inr (.inl (fun _ => 0)))), ((ma 5), .inl (cy 0, 1600, .inl (fun _ => 0))), ((ma 16), .inl (cy 1, 5, .inl (fun _ => 0))), ((ma 17), .inl (cy 1, 20, .inl (fun _ => 0))), ((ma 18), .inl (cy 1, 5, .inl (fun _ => 0))), ((ma 19), .inl (cy 1, 45, .inl (fun _ => 0))), ((ma 20), .inl (cy 1, 5, .inl (fun _ => 0))), ((ma 21), .inl (cy 1, 150, .inl (fun _ => 0))), ((ma 22), .inl (cy 1, 5, .inl (fun _ => 0))), ((ma 23), .inl (cy 1, 120, .inl (fun _ => 0))), ((ma 24), .inl (cy 1, 30, .inl (fun _ => 0))), ((ma 25), .inl (cy 3, 15, .inl (fun _ => 0))), ((ma 26), .inl (cy 1, 5, .inl (fun _ => 0))), ((ma 27), .inl (cy 1, 30, .inl (fun _ => 0))), ((ma 28), .inl (cy 3, 3, .inl (fun _ => 0)))] H) (hD : va_D A [((xa 0), .inr (9, [.ref (xa 1), .ref (xa 2), .ref (xa 3), .ref (xa 4), .ref (xa 5), .ref (xa 6), .ref (xa 7), .ref (xa 8), .ref (xa 9), .int 0, .ref (xa 11), .null, .int 0, .int (-1)])), ((xa 1), .inl (cy 0, 1600, .inl (fun _ => 0))), ((xa 2), .inr (4, [.int 0, .int (-1), .ref (xa 30), .int 0, .int 0, .int 0, .int 0, .int 0, .ref (xa 31), .int 0, .int 0, .int 0])), ((xa 8), .inl (cy 4, 4, .inr (.inr (.inr (.inr (fun _ => none)))))), ((xa 9), .inl (cy 5, 3, .inr (.inr (.inr (.inr (fun _ => none)))))), ((xa 11), .inr (2, [.int 0, .int 0, .int 0, .int 0, .int 0, .int 0, .int 0, .int 0, .int 1, .int 10, .int 0, .int 0, .int 0, .int 0, .ref (xa 20), .ref (xa 21), .ref (xa 22), .ref (xa 23), .ref (xa 24), .ref (xa 25), .ref (xa 26)])), ((ma 0), .inr (10, [.int 0, .ref (ma 1), .ref (ma 2), .ref (ma 3), .ref (ma 4), .ref (ma 5), .int 0, .int 0, .int 0, .int 0, .int 0, .long 0, .int 0, .int 0, .int 0, .int (-1), .ref (ma 16), .ref (ma 17), .ref (ma 18), .ref (ma 19), .ref (ma 20), .ref (ma 21), .ref (ma 22), .ref (ma 23), .ref (ma 24), .ref (ma 25), .ref (ma 26), .ref (ma 27), .ref (ma 28), .ref (ma 29), .ref (ma 30), .ref (ma 31), .ref (ma 32), .ref (ma 33), .ref (ma 34), .ref (ma 35), .ref (ma 36), .ref (ma 37), .ref (ma 38), .ref (ma 39), .ref (ma 40), .ref (ma 41), .long 0])), ((ma 1), .inl (cy 1, 4, .inl fw)), ((ma 2), .inl (cy 1, 4, .inl (fun _ => 0))), ((ma 3), .inl (cy 2, 240, .inr (.inl (fun _ => 0)))), ((ma 5), .inl (cy 0, 1600, .inl (fun _ => 0))), ((ma 16), .inl (cy 1, 5, .inl (fun _ => 0))), ((ma 17), .inl (cy 1, 20, .inl (fun _ => 0))), ((ma 18), .inl (cy 1, 5, .inl (fun _ => 0))), ((ma 19), .inl (cy 1, 45, .inl (fun _ => 0))), ((ma 20), .inl (cy 1, 5, .inl (fun _ => 0))), ((ma 21), .inl (cy 1, 150, .inl (fun _ => 0))), ((ma 22), .inl (cy 1, 5, .inl (fun _ => 0))), ((ma 23), .inl (cy 1, 120, .inl (fun _ => 0))), ((ma 24), .inl (cy 1, 30, .inl (fun _ => 0))), ((ma 25), .inl (cy 3, 15, .inl (fun _ => 0))), ((ma 26), .inl (cy 1, 5, .inl (fun _ => 0))), ((ma 27), .inl (cy 1, 30, .inl (fun _ => 0))), ((ma 28), .inl (cy 3, 3, .inl (fun _ => 0)))]) (hS : va_S A s.heap H locs) {ls : Array Slot} (hl : lv_has ls 4 [(3, .int 0), (2, .ref (ma 0)), (1, .ref (xa 0)), (0, .ref b)]) : W p l e room_1 s m #[Value.ref b] below meth c H locs 82 108979 (lw_Z below #[Value.ref b] s) (F0 m 1400 ls []) := by
  obtain ⟨hx, hb, hr, hml, hown, hts, hX, hbl, hlocks, hgv⟩ := id C0
  have hown : s.vm.findClass RL = some m.cls := hown
  have hb : c.code = cL_law := hb
  have hts : ∀ w ∈ GW, w.before #[Value.ref b] s = true := fun w h => hts w (gw_tbl w h)
  refine lv_aload_n hx hb dL_law_1400 rfl (lv_at hl 2 rfl) ?_
  refine lv_aload_n hx hb dL_law_1401 rfl (lv_at hl 3 rfl) ?_
  refine lv_iload_n hx hb dL_law_1402 rfl (lv_at hl 0 rfl) ?_
  refine lv_iconst (v := 1) hx hb dL_law_1403 (by decide) ?_
  refine lv_iadd hx hb dL_law_1404 ?_
  refine lv_topi (fun z_1 ez_1 => ?_)
  have ez_1 : z_1 = 1 := ez_1.trans (by decide)
  subst ez_1
  refine va_sld (i := 1) hx hb hX hbl hbA hS (by subst hL7; exact vp_in_iff.mpr (by decide)) dL_law_1405 ?_
  refine W.eq (g2 := F0 m 1406 ls [.int (xs 1), .ref (xa 0)]) rfl ?_
  refine lv_aload_n hx hb dL_law_1406 rfl (lv_at hl 3 rfl) ?_
  refine lv_iload_n hx hb dL_law_1407 rfl (lv_at hl 0 rfl) ?_
  refine lv_iconst (v := 2) hx hb dL_law_1408 (by decide) ?_
  refine lv_iadd hx hb dL_law_1409 ?_
  refine lv_topi (fun z_2 ez_2 => ?_)
  have ez_2 : z_2 = 2 := ez_2.trans (by decide)
  subst ez_2
  refine va_sld (i := 2) hx hb hX hbl hbA hS (by subst hL7; exact vp_in_iff.mpr (by decide)) dL_law_1410 ?_
  refine W.eq (g2 := F0 m 1411 ls [.int (xs 2), .int (xs 1), .ref (xa 0)]) rfl ?_
  refine pu_calli (runV (As := [.int (xs 1), .int (xs 2)]) (rest := []) ⟨hx, hb, hml, hown, hts⟩ (f_X9_fed l D cy xa (xs 1) (xs 2) ) sV_L_143 hK (va_recv hK.1 hP (ci := 9) (q0 := 0) rfl rfl) (hP.sub (ws' := [((xa 0), .inr (9, [.ref (xa 1), .ref (xa 2), .ref (xa 3), .ref (xa 4), .ref (xa 5), .ref (xa 6), .ref (xa 7), .ref (xa 8), .ref (xa 9), .int 0, .ref (xa 11), .null, .int 0, .int (-1)])), ((xa 11), .inr (2, [.int 0, .int 0, .int 0, .int 0, .int 0, .int 0, .int 0, .int 0, .int 1, .int 10, .int 0, .int 0, .int 0, .int 0, .ref (xa 20), .ref (xa 21), .ref (xa 22), .ref (xa 23), .ref (xa 24), .ref (xa 25), .ref (xa 26)]))]) [0, 5] rfl) ⟨Nat.le_of_ble_eq_true rfl, Nat.le_of_ble_eq_true rfl⟩ rfl hl.1 rfl (Nat.le_of_ble_eq_true rfl) dL_law_1411 ⟨Nat.le_of_ble_eq_true rfl, Nat.le_of_ble_eq_true rfl⟩) (fun r_3 hr_3 => ?_)
  have er_3 := hr_3
  subst er_3
  refine W.eq (g2 := F0 m 1414 ls [.int (-2)]) rfl ?_
  refine lv_aload_n hx hb dL_law_1414 rfl (lv_at hl 1 rfl) ?_
  refine lv_aload_n hx hb dL_law_1415 rfl (lv_at hl 3 rfl) ?_
  refine lv_iload_n hx hb dL_law_1416 rfl (lv_at hl 0 rfl) ?_
  refine lv_iconst (v := 1) hx hb dL_law_1417 (by decide) ?_
  refine lv_iadd hx hb dL_law_1418 ?_
  refine lv_topi (fun z_4 ez_4 => ?_)
  have ez_4 : z_4 = 1 := ez_4.trans (by decide)
  subst ez_4
  refine va_sld (i := 1) hx hb hX hbl hbA hS (by subst hL7; exact vp_in_iff.mpr (by decide)) dL_law_1419 ?_
  refine W.eq (g2 := F0 m 1420 ls [.int (xs 1), .ref (ma 0), .int (-2)]) rfl ?_
  refine lv_aload_n hx hb dL_law_1420 rfl (lv_at hl 3 rfl) ?_
  refine lv_iload_n hx hb dL_law_1421 rfl (lv_at hl 0 rfl) ?_
  refine lv_iconst (v := 2) hx hb dL_law_1422 (by decide) ?_
  refine lv_iadd hx hb dL_law_1423 ?_
  refine lv_topi (fun z_5 ez_5 => ?_)
  have ez_5 : z_5 = 2 := ez_5.trans (by decide)
  subst ez_5
  refine va_sld (i := 2) hx hb hX hbl hbA hS (by subst hL7; exact vp_in_iff.mpr (by decide)) dL_law_1424 ?_
  refine W.eq (g2 := F0 m 1425 ls [.int (xs 2), .int (xs 1), .ref (ma 0), .int (-2)]) rfl ?_
  refine fw_call (wc := [((ma 0), .inr (10, [.int 0, .ref (ma 1), .ref (ma 2), .ref (ma 3), .ref (ma 4), .ref (ma 5), .int 0, .int 0, .int 0, .int 0, .int 0, .long 0, .int 0, .int 0, .int 0, .int (-1), .ref (ma 16), .ref (ma 17), .ref (ma 18), .ref (ma 19), .ref (ma 20), .ref (ma 21), .ref (ma 22), .ref (ma 23), .ref (ma 24), .ref (ma 25), .ref (ma 26), .ref (ma 27), .ref (ma 28), .ref (ma 29), .ref (ma 30), .ref (ma 31), .ref (ma 32), .ref (ma 33), .ref (ma 34), .ref (ma 35), .ref (ma 36), .ref (ma 37), .ref (ma 38), .ref (ma 39), .ref (ma 40), .ref (ma 41), .long 0])), ((ma 20), .inl (cy 1, 5, .inl (fun _ => 0))), ((ma 18), .inl (cy 1, 5, .inl (fun _ => 0))), ((ma 17), .inl (cy 1, 20, .inl (fun _ => 0)))]) (wr := [((xa 0), .inr (9, [.ref (xa 1), .ref (xa 2), .ref (xa 3), .ref (xa 4), .ref (xa 5), .ref (xa 6), .ref (xa 7), .ref (xa 8), .ref (xa 9), .int 0, .ref (xa 11), .null, .int 0, .int (-1)])), ((xa 1), .inl (cy 0, 1600, .inl (fun _ => 0))), ((xa 2), .inr (4, [.int 0, .int (-1), .ref (xa 30), .int 0, .int 0, .int 0, .int 0, .int 0, .ref (xa 31), .int 0, .int 0, .int 0])), ((xa 8), .inl (cy 4, 4, .inr (.inr (.inr (.inr (fun _ => none)))))), ((xa 9), .inl (cy 5, 3, .inr (.inr (.inr (.inr (fun _ => none)))))), ((xa 11), .inr (2, [.int 0, .int 0, .int 0, .int 0, .int 0, .int 0, .int 0, .int 0, .int 1, .int 10, .int 0, .int 0, .int 0, .int 0, .ref (xa 20), .ref (xa 21), .ref (xa 22), .ref (xa 23), .ref (xa 24), .ref (xa 25), .ref (xa 26)])), ((ma 1), .inl (cy 1, 4, .inl fw)), ((ma 2), .inl (cy 1, 4, .inl (fun _ => 0))), ((ma 3), .inl (cy 2, 240, .inr (.inl (fun _ => 0)))), ((ma 5), .inl (cy 0, 1600, .inl (fun _ => 0))), ((ma 16), .inl (cy 1, 5, .inl (fun _ => 0))), ((ma 19), .inl (cy 1, 45, .inl (fun _ => 0))), ((ma 21), .inl (cy 1, 150, .inl (fun _ => 0))), ((ma 22), .inl (cy 1, 5, .inl (fun _ => 0))), ((ma 23), .inl (cy 1, 120, .inl (fun _ => 0))), ((ma 24), .inl (cy 1, 30, .inl (fun _ => 0))), ((ma 25), .inl (cy 3, 15, .inl (fun _ => 0))), ((ma 26), .inl (cy 1, 5, .inl (fun _ => 0))), ((ma 27), .inl (cy 1, 30, .inl (fun _ => 0))), ((ma 28), .inl (cy 3, 3, .inl (fun _ => 0)))]) (runV (As := [.int (xs 1), .int (xs 2)]) (rest := [.int (-2)]) ⟨hx, hb, hml, hown, hts⟩ (g_X10_fed l D cy ma (xs 1) (xs 2)  H.size) sV_L_146 hK (va_recv hK.1 hP (ci := 10) (q0 := 6) rfl rfl) (PW.of hP hD [6, 15, 13, 12] (by decide) rfl rfl) ⟨Nat.le_of_ble_eq_true rfl, Nat.le_of_ble_eq_true rfl⟩ rfl hl.1 rfl (Nat.le_of_ble_eq_true rfl) dL_law_1425 ⟨Nat.le_of_ble_eq_true rfl, Nat.le_of_ble_eq_true rfl⟩) hP hD hS hA [6, 15, 13, 12] [0, 1, 2, 3, 4, 5, 7, 8, 9, 10, 11, 14, 16, 17, 18, 19, 20, 21, 22, 23] rfl rfl (by decide) (by decide) (fun v u_6 H locs hv hP hD hS => ?_)
  have hP : va_P D vwCl [((xa 0), .inr (9, [.ref (xa 1), .ref (xa 2), .ref (xa 3), .ref (xa 4), .ref (xa 5), .ref (xa 6), .ref (xa 7), .ref (xa 8), .ref (xa 9), .int 0, .ref (xa 11), .null, .int 0, .int (-1)])), ((xa 1), .inl (cy 0, 1600, .inl (fun _ => 0))), ((xa 2), .inr (4, [.int 0, .int (-1), .ref (xa 30), .int 0, .int 0, .int 0, .int 0, .int 0, .ref (xa 31), .int 0, .int 0, .int 0])), ((xa 8), .inl (cy 4, 4, .inr (.inr (.inr (.inr (fun _ => none)))))), ((xa 9), .inl (cy 5, 3, .inr (.inr (.inr (.inr (fun _ => none)))))), ((xa 11), .inr (2, [.int 0, .int 0, .int 0, .int 0, .int 0, .int 0, .int 0, .int 0, .int 1, .int 10, .int 0, .int 0, .int 0, .int 0, .ref (xa 20), .ref (xa 21), .ref (xa 22), .ref (xa 23), .ref (xa 24), .ref (xa 25), .ref (xa 26)])), ((ma 1), .inl (cy 1, 4, .inl fw)), ((ma 2), .inl (cy 1, 4, .inl (fun _ => 0))), ((ma 3), .inl (cy 2, 240, .inr (.inl (fun _ => 0)))), ((ma 5), .inl (cy 0, 1600, .inl (fun _ => 0))), ((ma 16), .inl (cy 1, 5, .inl (fun _ => 0))), ((ma 19), .inl (cy 1, 45, .inl (fun _ => 0))), ((ma 21), .inl (cy 1, 150, .inl (fun _ => 0))), ((ma 22), .inl (cy 1, 5, .inl (fun _ => 0))), ((ma 23), .inl (cy 1, 120, .inl (fun _ => 0))), ((ma 24), .inl (cy 1, 30, .inl (fun _ => 0))), ((ma 25), .inl (cy 3, 15, .inl (fun _ => 0))), ((ma 26), .inl (cy 1, 5, .inl (fun _ => 0))), ((ma 27), .inl (cy 1, 30, .inl (fun _ => 0))), ((ma 28), .inl (cy 3, 3, .inl (fun _ => 0)))] H := hP
  have hD : va_D A [((xa 0), .inr (9, [.ref (xa 1), .ref (xa 2), .ref (xa 3), .ref (xa 4), .ref (xa 5), .ref (xa 6), .ref (xa 7), .ref (xa 8), .ref (xa 9), .int 0, .ref (xa 11), .null, .int 0, .int (-1)])), ((xa 1), .inl (cy 0, 1600, .inl (fun _ => 0))), ((xa 2), .inr (4, [.int 0, .int (-1), .ref (xa 30), .int 0, .int 0, .int 0, .int 0, .int 0, .ref (xa 31), .int 0, .int 0, .int 0])), ((xa 8), .inl (cy 4, 4, .inr (.inr (.inr (.inr (fun _ => none)))))), ((xa 9), .inl (cy 5, 3, .inr (.inr (.inr (.inr (fun _ => none)))))), ((xa 11), .inr (2, [.int 0, .int 0, .int 0, .int 0, .int 0, .int 0, .int 0, .int 0, .int 1, .int 10, .int 0, .int 0, .int 0, .int 0, .ref (xa 20), .ref (xa 21), .ref (xa 22), .ref (xa 23), .ref (xa 24), .ref (xa 25), .ref (xa 26)])), ((ma 1), .inl (cy 1, 4, .inl fw)), ((ma 2), .inl (cy 1, 4, .inl (fun _ => 0))), ((ma 3), .inl (cy 2, 240, .inr (.inl (fun _ => 0)))), ((ma 5), .inl (cy 0, 1600, .inl (fun _ => 0))), ((ma 16), .inl (cy 1, 5, .inl (fun _ => 0))), ((ma 19), .inl (cy 1, 45, .inl (fun _ => 0))), ((ma 21), .inl (cy 1, 150, .inl (fun _ => 0))), ((ma 22), .inl (cy 1, 5, .inl (fun _ => 0))), ((ma 23), .inl (cy 1, 120, .inl (fun _ => 0))), ((ma 24), .inl (cy 1, 30, .inl (fun _ => 0))), ((ma 25), .inl (cy 3, 15, .inl (fun _ => 0))), ((ma 26), .inl (cy 1, 5, .inl (fun _ => 0))), ((ma 27), .inl (cy 1, 30, .inl (fun _ => 0))), ((ma 28), .inl (cy 3, 3, .inl (fun _ => 0)))] := hD
  obtain ⟨r_7, rfl, hr_7⟩ := hv
  have er_7 := hr_7
  subst er_7
  refine W.eq (g2 := F0 m 1428 ls [.int (-2), .int (-2)]) rfl ?_
  refine lv_icmp_eq (tgt := 2286) hx hb dL_law_1428 (by decide) (fun _ => ?_) (fun c_8 => absurd (by decide) c_8)
  exact law_end C0 hL7 hA2 hbA hS (lv_sub hl [0, 1, 2, 3] rfl) (Nat.le_of_ble_eq_true rfl) (Nat.le_of_ble_eq_true rfl)
set_option maxHeartbeats 4000000 in
set_option maxRecDepth 100000 in
theorem lc_31 {p : Program} {e : Env} {s : State} {m : MethodId} {below : List Frame} {meth : Method} {c : Code} {l : Launch} {b L : Nat} {xs : Nat → Int32} {A : Nat → Prop} (D : va_G) (cy : Nat → ClassId) (xa ma : Nat → Nat) (fw : Nat → Int32) (hw : ∀ k : Nat, k < 4 → fw k = -1) (hL7 : L = 7) (C0 : lw_At p s m meth c b L xs) (hK : KK D cy s) (hA : ∀ q : Nat, s.heap.size ≤ q → A q) (hA2 : ∀ q : Nat, A q → s.heap.size ≤ q) (hbA : ¬ A b) {H : Heap} {locs : List Loc} (hP : va_P D vwCl [((xa 0), .inr (9, [.ref (xa 1), .ref (xa 2), .ref (xa 3), .ref (xa 4), .ref (xa 5), .ref (xa 6), .ref (xa 7), .ref (xa 8), .ref (xa 9), .int 0, .ref (xa 11), .null, .int 0, .int (-1)])), ((xa 1), .inl (cy 0, 1600, .inl (fun _ => 0))), ((xa 2), .inr (4, [.int 0, .int (-1), .ref (xa 30), .int 0, .int 0, .int 0, .int 0, .int 0, .ref (xa 31), .int 0, .int 0, .int 0])), ((xa 8), .inl (cy 4, 4, .inr (.inr (.inr (.inr (fun _ => none)))))), ((xa 9), .inl (cy 5, 3, .inr (.inr (.inr (.inr (fun _ => none)))))), ((xa 11), .inr (2, [.int 0, .int 0, .int 0, .int 0, .int 0, .int 0, .int 0, .int 0, .int 1, .int 10, .int 0, .int 0, .int 0, .int 0, .ref (xa 20), .ref (xa 21), .ref (xa 22), .ref (xa 23), .ref (xa 24), .ref (xa 25), .ref (xa 26)])), ((ma 0), .inr (10, [.int 0, .ref (ma 1), .ref (ma 2), .ref (ma 3), .ref (ma 4), .ref (ma 5), .int 0, .int 0, .int 0, .int 0, .int 0, .long 0, .int 0, .int 0, .int 0, .int (-1), .ref (ma 16), .ref (ma 17), .ref (ma 18), .ref (ma 19), .ref (ma 20), .ref (ma 21), .ref (ma 22), .ref (ma 23), .ref (ma 24), .ref (ma 25), .ref (ma 26), .ref (ma 27), .ref (ma 28), .ref (ma 29), .ref (ma 30), .ref (ma 31), .ref (ma 32), .ref (ma 33), .ref (ma 34), .ref (ma 35), .ref (ma 36), .ref (ma 37), .ref (ma 38), .ref (ma 39), .ref (ma 40), .ref (ma 41), .long 0])), ((ma 1), .inl (cy 1, 4, .inl fw)), ((ma 2), .inl (cy 1, 4, .inl (fun _ => 0))), ((ma 3), .inl (cy 2, 240, .inr (.inl (fun _ => 0)))), ((ma 5), .inl (cy 0, 1600, .inl (fun _ => 0))), ((ma 16), .inl (cy 1, 5, .inl (fun _ => 0))), ((ma 17), .inl (cy 1, 20, .inl (fun _ => 0))), ((ma 18), .inl (cy 1, 5, .inl (fun _ => 0))), ((ma 19), .inl (cy 1, 45, .inl (fun _ => 0))), ((ma 20), .inl (cy 1, 5, .inl (fun _ => 0))), ((ma 21), .inl (cy 1, 150, .inl (fun _ => 0))), ((ma 22), .inl (cy 1, 5, .inl (fun _ => 0))), ((ma 23), .inl (cy 1, 120, .inl (fun _ => 0))), ((ma 24), .inl (cy 1, 30, .inl (fun _ => 0))), ((ma 25), .inl (cy 3, 15, .inl (fun _ => 0))), ((ma 26), .inl (cy 1, 5, .inl (fun _ => 0))), ((ma 27), .inl (cy 1, 30, .inl (fun _ => 0))), ((ma 28), .inl (cy 3, 3, .inl (fun _ => 0)))] H) (hD : va_D A [((xa 0), .inr (9, [.ref (xa 1), .ref (xa 2), .ref (xa 3), .ref (xa 4), .ref (xa 5), .ref (xa 6), .ref (xa 7), .ref (xa 8), .ref (xa 9), .int 0, .ref (xa 11), .null, .int 0, .int (-1)])), ((xa 1), .inl (cy 0, 1600, .inl (fun _ => 0))), ((xa 2), .inr (4, [.int 0, .int (-1), .ref (xa 30), .int 0, .int 0, .int 0, .int 0, .int 0, .ref (xa 31), .int 0, .int 0, .int 0])), ((xa 8), .inl (cy 4, 4, .inr (.inr (.inr (.inr (fun _ => none)))))), ((xa 9), .inl (cy 5, 3, .inr (.inr (.inr (.inr (fun _ => none)))))), ((xa 11), .inr (2, [.int 0, .int 0, .int 0, .int 0, .int 0, .int 0, .int 0, .int 0, .int 1, .int 10, .int 0, .int 0, .int 0, .int 0, .ref (xa 20), .ref (xa 21), .ref (xa 22), .ref (xa 23), .ref (xa 24), .ref (xa 25), .ref (xa 26)])), ((ma 0), .inr (10, [.int 0, .ref (ma 1), .ref (ma 2), .ref (ma 3), .ref (ma 4), .ref (ma 5), .int 0, .int 0, .int 0, .int 0, .int 0, .long 0, .int 0, .int 0, .int 0, .int (-1), .ref (ma 16), .ref (ma 17), .ref (ma 18), .ref (ma 19), .ref (ma 20), .ref (ma 21), .ref (ma 22), .ref (ma 23), .ref (ma 24), .ref (ma 25), .ref (ma 26), .ref (ma 27), .ref (ma 28), .ref (ma 29), .ref (ma 30), .ref (ma 31), .ref (ma 32), .ref (ma 33), .ref (ma 34), .ref (ma 35), .ref (ma 36), .ref (ma 37), .ref (ma 38), .ref (ma 39), .ref (ma 40), .ref (ma 41), .long 0])), ((ma 1), .inl (cy 1, 4, .inl fw)), ((ma 2), .inl (cy 1, 4, .inl (fun _ => 0))), ((ma 3), .inl (cy 2, 240, .inr (.inl (fun _ => 0)))), ((ma 5), .inl (cy 0, 1600, .inl (fun _ => 0))), ((ma 16), .inl (cy 1, 5, .inl (fun _ => 0))), ((ma 17), .inl (cy 1, 20, .inl (fun _ => 0))), ((ma 18), .inl (cy 1, 5, .inl (fun _ => 0))), ((ma 19), .inl (cy 1, 45, .inl (fun _ => 0))), ((ma 20), .inl (cy 1, 5, .inl (fun _ => 0))), ((ma 21), .inl (cy 1, 150, .inl (fun _ => 0))), ((ma 22), .inl (cy 1, 5, .inl (fun _ => 0))), ((ma 23), .inl (cy 1, 120, .inl (fun _ => 0))), ((ma 24), .inl (cy 1, 30, .inl (fun _ => 0))), ((ma 25), .inl (cy 3, 15, .inl (fun _ => 0))), ((ma 26), .inl (cy 1, 5, .inl (fun _ => 0))), ((ma 27), .inl (cy 1, 30, .inl (fun _ => 0))), ((ma 28), .inl (cy 3, 3, .inl (fun _ => 0)))]) (hS : va_S A s.heap H locs) {ls : Array Slot} (hl : lv_has ls 4 [(3, .int 0), (2, .ref (ma 0)), (1, .ref (xa 0)), (0, .ref b)]) : W p l e room_1 s m #[Value.ref b] below meth c H locs 82 108979 (lw_Z below #[Value.ref b] s) (F0 m 1433 ls []) := by
  obtain ⟨hx, hb, hr, hml, hown, hts, hX, hbl, hlocks, hgv⟩ := id C0
  have hown : s.vm.findClass RL = some m.cls := hown
  have hb : c.code = cL_law := hb
  have hts : ∀ w ∈ GW, w.before #[Value.ref b] s = true := fun w h => hts w (gw_tbl w h)
  refine lv_aload_n hx hb dL_law_1433 rfl (lv_at hl 2 rfl) ?_
  refine lv_aload_n hx hb dL_law_1434 rfl (lv_at hl 3 rfl) ?_
  refine lv_iload_n hx hb dL_law_1435 rfl (lv_at hl 0 rfl) ?_
  refine lv_iconst (v := 1) hx hb dL_law_1436 (by decide) ?_
  refine lv_iadd hx hb dL_law_1437 ?_
  refine lv_topi (fun z_1 ez_1 => ?_)
  have ez_1 : z_1 = 1 := ez_1.trans (by decide)
  subst ez_1
  refine va_sld (i := 1) hx hb hX hbl hbA hS (by subst hL7; exact vp_in_iff.mpr (by decide)) dL_law_1438 ?_
  refine W.eq (g2 := F0 m 1439 ls [.int (xs 1), .ref (xa 0)]) rfl ?_
  refine lv_aload_n hx hb dL_law_1439 rfl (lv_at hl 3 rfl) ?_
  refine lv_iload_n hx hb dL_law_1440 rfl (lv_at hl 0 rfl) ?_
  refine lv_iconst (v := 2) hx hb dL_law_1441 (by decide) ?_
  refine lv_iadd hx hb dL_law_1442 ?_
  refine lv_topi (fun z_2 ez_2 => ?_)
  have ez_2 : z_2 = 2 := ez_2.trans (by decide)
  subst ez_2
  refine va_sld (i := 2) hx hb hX hbl hbA hS (by subst hL7; exact vp_in_iff.mpr (by decide)) dL_law_1443 ?_
  refine W.eq (g2 := F0 m 1444 ls [.int (xs 2), .int (xs 1), .ref (xa 0)]) rfl ?_
  refine lv_aload_n hx hb dL_law_1444 rfl (lv_at hl 3 rfl) ?_
  refine lv_iload_n hx hb dL_law_1445 rfl (lv_at hl 0 rfl) ?_
  refine lv_iconst (v := 3) hx hb dL_law_1446 (by decide) ?_
  refine lv_iadd hx hb dL_law_1447 ?_
  refine lv_topi (fun z_3 ez_3 => ?_)
  have ez_3 : z_3 = 3 := ez_3.trans (by decide)
  subst ez_3
  refine va_sld (i := 3) hx hb hX hbl hbA hS (by subst hL7; exact vp_in_iff.mpr (by decide)) dL_law_1448 ?_
  refine W.eq (g2 := F0 m 1449 ls [.int (xs 3), .int (xs 2), .int (xs 1), .ref (xa 0)]) rfl ?_
  refine lv_aload_n hx hb dL_law_1449 rfl (lv_at hl 3 rfl) ?_
  refine lv_iload_n hx hb dL_law_1450 rfl (lv_at hl 0 rfl) ?_
  refine lv_iconst (v := 4) hx hb dL_law_1451 (by decide) ?_
  refine lv_iadd hx hb dL_law_1452 ?_
  refine lv_topi (fun z_4 ez_4 => ?_)
  have ez_4 : z_4 = 4 := ez_4.trans (by decide)
  subst ez_4
  refine va_sld (i := 4) hx hb hX hbl hbA hS (by subst hL7; exact vp_in_iff.mpr (by decide)) dL_law_1453 ?_
  refine W.eq (g2 := F0 m 1454 ls [.int (xs 4), .int (xs 3), .int (xs 2), .int (xs 1), .ref (xa 0)]) rfl ?_
  refine pu_calli (runV (As := [.int (xs 1), .int (xs 2), .int (xs 3), .int (xs 4)]) (rest := []) ⟨hx, hb, hml, hown, hts⟩ (f_X9_given l D cy xa (xs 1) (xs 2) (xs 3) (xs 4) ) sV_L_147 hK (va_recv hK.1 hP (ci := 9) (q0 := 0) rfl rfl) (hP.sub (ws' := [((xa 0), .inr (9, [.ref (xa 1), .ref (xa 2), .ref (xa 3), .ref (xa 4), .ref (xa 5), .ref (xa 6), .ref (xa 7), .ref (xa 8), .ref (xa 9), .int 0, .ref (xa 11), .null, .int 0, .int (-1)])), ((xa 11), .inr (2, [.int 0, .int 0, .int 0, .int 0, .int 0, .int 0, .int 0, .int 0, .int 1, .int 10, .int 0, .int 0, .int 0, .int 0, .ref (xa 20), .ref (xa 21), .ref (xa 22), .ref (xa 23), .ref (xa 24), .ref (xa 25), .ref (xa 26)]))]) [0, 5] rfl) ⟨Nat.le_of_ble_eq_true rfl, Nat.le_of_ble_eq_true rfl⟩ rfl hl.1 rfl (Nat.le_of_ble_eq_true rfl) dL_law_1454 ⟨Nat.le_of_ble_eq_true rfl, Nat.le_of_ble_eq_true rfl⟩) (fun r_5 hr_5 => ?_)
  have er_5 := hr_5
  subst er_5
  refine W.eq (g2 := F0 m 1457 ls [.int (-2)]) rfl ?_
  refine lv_aload_n hx hb dL_law_1457 rfl (lv_at hl 1 rfl) ?_
  refine lv_aload_n hx hb dL_law_1458 rfl (lv_at hl 3 rfl) ?_
  refine lv_iload_n hx hb dL_law_1459 rfl (lv_at hl 0 rfl) ?_
  refine lv_iconst (v := 1) hx hb dL_law_1460 (by decide) ?_
  refine lv_iadd hx hb dL_law_1461 ?_
  refine lv_topi (fun z_6 ez_6 => ?_)
  have ez_6 : z_6 = 1 := ez_6.trans (by decide)
  subst ez_6
  refine va_sld (i := 1) hx hb hX hbl hbA hS (by subst hL7; exact vp_in_iff.mpr (by decide)) dL_law_1462 ?_
  refine W.eq (g2 := F0 m 1463 ls [.int (xs 1), .ref (ma 0), .int (-2)]) rfl ?_
  refine lv_aload_n hx hb dL_law_1463 rfl (lv_at hl 3 rfl) ?_
  refine lv_iload_n hx hb dL_law_1464 rfl (lv_at hl 0 rfl) ?_
  refine lv_iconst (v := 2) hx hb dL_law_1465 (by decide) ?_
  refine lv_iadd hx hb dL_law_1466 ?_
  refine lv_topi (fun z_7 ez_7 => ?_)
  have ez_7 : z_7 = 2 := ez_7.trans (by decide)
  subst ez_7
  refine va_sld (i := 2) hx hb hX hbl hbA hS (by subst hL7; exact vp_in_iff.mpr (by decide)) dL_law_1467 ?_
  refine W.eq (g2 := F0 m 1468 ls [.int (xs 2), .int (xs 1), .ref (ma 0), .int (-2)]) rfl ?_
  refine lv_aload_n hx hb dL_law_1468 rfl (lv_at hl 3 rfl) ?_
  refine lv_iload_n hx hb dL_law_1469 rfl (lv_at hl 0 rfl) ?_
  refine lv_iconst (v := 3) hx hb dL_law_1470 (by decide) ?_
  refine lv_iadd hx hb dL_law_1471 ?_
  refine lv_topi (fun z_8 ez_8 => ?_)
  have ez_8 : z_8 = 3 := ez_8.trans (by decide)
  subst ez_8
  refine va_sld (i := 3) hx hb hX hbl hbA hS (by subst hL7; exact vp_in_iff.mpr (by decide)) dL_law_1472 ?_
  refine W.eq (g2 := F0 m 1473 ls [.int (xs 3), .int (xs 2), .int (xs 1), .ref (ma 0), .int (-2)]) rfl ?_
  refine lv_aload_n hx hb dL_law_1473 rfl (lv_at hl 3 rfl) ?_
  refine lv_iload_n hx hb dL_law_1474 rfl (lv_at hl 0 rfl) ?_
  refine lv_iconst (v := 4) hx hb dL_law_1475 (by decide) ?_
  refine lv_iadd hx hb dL_law_1476 ?_
  refine lv_topi (fun z_9 ez_9 => ?_)
  have ez_9 : z_9 = 4 := ez_9.trans (by decide)
  subst ez_9
  refine va_sld (i := 4) hx hb hX hbl hbA hS (by subst hL7; exact vp_in_iff.mpr (by decide)) dL_law_1477 ?_
  refine W.eq (g2 := F0 m 1478 ls [.int (xs 4), .int (xs 3), .int (xs 2), .int (xs 1), .ref (ma 0), .int (-2)]) rfl ?_
  refine fw_call (wc := [((ma 0), .inr (10, [.int 0, .ref (ma 1), .ref (ma 2), .ref (ma 3), .ref (ma 4), .ref (ma 5), .int 0, .int 0, .int 0, .int 0, .int 0, .long 0, .int 0, .int 0, .int 0, .int (-1), .ref (ma 16), .ref (ma 17), .ref (ma 18), .ref (ma 19), .ref (ma 20), .ref (ma 21), .ref (ma 22), .ref (ma 23), .ref (ma 24), .ref (ma 25), .ref (ma 26), .ref (ma 27), .ref (ma 28), .ref (ma 29), .ref (ma 30), .ref (ma 31), .ref (ma 32), .ref (ma 33), .ref (ma 34), .ref (ma 35), .ref (ma 36), .ref (ma 37), .ref (ma 38), .ref (ma 39), .ref (ma 40), .ref (ma 41), .long 0])), ((ma 20), .inl (cy 1, 5, .inl (fun _ => 0))), ((ma 18), .inl (cy 1, 5, .inl (fun _ => 0))), ((ma 17), .inl (cy 1, 20, .inl (fun _ => 0)))]) (wr := [((xa 0), .inr (9, [.ref (xa 1), .ref (xa 2), .ref (xa 3), .ref (xa 4), .ref (xa 5), .ref (xa 6), .ref (xa 7), .ref (xa 8), .ref (xa 9), .int 0, .ref (xa 11), .null, .int 0, .int (-1)])), ((xa 1), .inl (cy 0, 1600, .inl (fun _ => 0))), ((xa 2), .inr (4, [.int 0, .int (-1), .ref (xa 30), .int 0, .int 0, .int 0, .int 0, .int 0, .ref (xa 31), .int 0, .int 0, .int 0])), ((xa 8), .inl (cy 4, 4, .inr (.inr (.inr (.inr (fun _ => none)))))), ((xa 9), .inl (cy 5, 3, .inr (.inr (.inr (.inr (fun _ => none)))))), ((xa 11), .inr (2, [.int 0, .int 0, .int 0, .int 0, .int 0, .int 0, .int 0, .int 0, .int 1, .int 10, .int 0, .int 0, .int 0, .int 0, .ref (xa 20), .ref (xa 21), .ref (xa 22), .ref (xa 23), .ref (xa 24), .ref (xa 25), .ref (xa 26)])), ((ma 1), .inl (cy 1, 4, .inl fw)), ((ma 2), .inl (cy 1, 4, .inl (fun _ => 0))), ((ma 3), .inl (cy 2, 240, .inr (.inl (fun _ => 0)))), ((ma 5), .inl (cy 0, 1600, .inl (fun _ => 0))), ((ma 16), .inl (cy 1, 5, .inl (fun _ => 0))), ((ma 19), .inl (cy 1, 45, .inl (fun _ => 0))), ((ma 21), .inl (cy 1, 150, .inl (fun _ => 0))), ((ma 22), .inl (cy 1, 5, .inl (fun _ => 0))), ((ma 23), .inl (cy 1, 120, .inl (fun _ => 0))), ((ma 24), .inl (cy 1, 30, .inl (fun _ => 0))), ((ma 25), .inl (cy 3, 15, .inl (fun _ => 0))), ((ma 26), .inl (cy 1, 5, .inl (fun _ => 0))), ((ma 27), .inl (cy 1, 30, .inl (fun _ => 0))), ((ma 28), .inl (cy 3, 3, .inl (fun _ => 0)))]) (runV (As := [.int (xs 1), .int (xs 2), .int (xs 3), .int (xs 4)]) (rest := [.int (-2)]) ⟨hx, hb, hml, hown, hts⟩ (g_X10_given l D cy ma (xs 1) (xs 2) (xs 3) (xs 4)  H.size) sV_L_151 hK (va_recv hK.1 hP (ci := 10) (q0 := 6) rfl rfl) (PW.of hP hD [6, 15, 13, 12] (by decide) rfl rfl) ⟨Nat.le_of_ble_eq_true rfl, Nat.le_of_ble_eq_true rfl⟩ rfl hl.1 rfl (Nat.le_of_ble_eq_true rfl) dL_law_1478 ⟨Nat.le_of_ble_eq_true rfl, Nat.le_of_ble_eq_true rfl⟩) hP hD hS hA [6, 15, 13, 12] [0, 1, 2, 3, 4, 5, 7, 8, 9, 10, 11, 14, 16, 17, 18, 19, 20, 21, 22, 23] rfl rfl (by decide) (by decide) (fun v u_10 H locs hv hP hD hS => ?_)
  have hP : va_P D vwCl [((xa 0), .inr (9, [.ref (xa 1), .ref (xa 2), .ref (xa 3), .ref (xa 4), .ref (xa 5), .ref (xa 6), .ref (xa 7), .ref (xa 8), .ref (xa 9), .int 0, .ref (xa 11), .null, .int 0, .int (-1)])), ((xa 1), .inl (cy 0, 1600, .inl (fun _ => 0))), ((xa 2), .inr (4, [.int 0, .int (-1), .ref (xa 30), .int 0, .int 0, .int 0, .int 0, .int 0, .ref (xa 31), .int 0, .int 0, .int 0])), ((xa 8), .inl (cy 4, 4, .inr (.inr (.inr (.inr (fun _ => none)))))), ((xa 9), .inl (cy 5, 3, .inr (.inr (.inr (.inr (fun _ => none)))))), ((xa 11), .inr (2, [.int 0, .int 0, .int 0, .int 0, .int 0, .int 0, .int 0, .int 0, .int 1, .int 10, .int 0, .int 0, .int 0, .int 0, .ref (xa 20), .ref (xa 21), .ref (xa 22), .ref (xa 23), .ref (xa 24), .ref (xa 25), .ref (xa 26)])), ((ma 1), .inl (cy 1, 4, .inl fw)), ((ma 2), .inl (cy 1, 4, .inl (fun _ => 0))), ((ma 3), .inl (cy 2, 240, .inr (.inl (fun _ => 0)))), ((ma 5), .inl (cy 0, 1600, .inl (fun _ => 0))), ((ma 16), .inl (cy 1, 5, .inl (fun _ => 0))), ((ma 19), .inl (cy 1, 45, .inl (fun _ => 0))), ((ma 21), .inl (cy 1, 150, .inl (fun _ => 0))), ((ma 22), .inl (cy 1, 5, .inl (fun _ => 0))), ((ma 23), .inl (cy 1, 120, .inl (fun _ => 0))), ((ma 24), .inl (cy 1, 30, .inl (fun _ => 0))), ((ma 25), .inl (cy 3, 15, .inl (fun _ => 0))), ((ma 26), .inl (cy 1, 5, .inl (fun _ => 0))), ((ma 27), .inl (cy 1, 30, .inl (fun _ => 0))), ((ma 28), .inl (cy 3, 3, .inl (fun _ => 0)))] H := hP
  have hD : va_D A [((xa 0), .inr (9, [.ref (xa 1), .ref (xa 2), .ref (xa 3), .ref (xa 4), .ref (xa 5), .ref (xa 6), .ref (xa 7), .ref (xa 8), .ref (xa 9), .int 0, .ref (xa 11), .null, .int 0, .int (-1)])), ((xa 1), .inl (cy 0, 1600, .inl (fun _ => 0))), ((xa 2), .inr (4, [.int 0, .int (-1), .ref (xa 30), .int 0, .int 0, .int 0, .int 0, .int 0, .ref (xa 31), .int 0, .int 0, .int 0])), ((xa 8), .inl (cy 4, 4, .inr (.inr (.inr (.inr (fun _ => none)))))), ((xa 9), .inl (cy 5, 3, .inr (.inr (.inr (.inr (fun _ => none)))))), ((xa 11), .inr (2, [.int 0, .int 0, .int 0, .int 0, .int 0, .int 0, .int 0, .int 0, .int 1, .int 10, .int 0, .int 0, .int 0, .int 0, .ref (xa 20), .ref (xa 21), .ref (xa 22), .ref (xa 23), .ref (xa 24), .ref (xa 25), .ref (xa 26)])), ((ma 1), .inl (cy 1, 4, .inl fw)), ((ma 2), .inl (cy 1, 4, .inl (fun _ => 0))), ((ma 3), .inl (cy 2, 240, .inr (.inl (fun _ => 0)))), ((ma 5), .inl (cy 0, 1600, .inl (fun _ => 0))), ((ma 16), .inl (cy 1, 5, .inl (fun _ => 0))), ((ma 19), .inl (cy 1, 45, .inl (fun _ => 0))), ((ma 21), .inl (cy 1, 150, .inl (fun _ => 0))), ((ma 22), .inl (cy 1, 5, .inl (fun _ => 0))), ((ma 23), .inl (cy 1, 120, .inl (fun _ => 0))), ((ma 24), .inl (cy 1, 30, .inl (fun _ => 0))), ((ma 25), .inl (cy 3, 15, .inl (fun _ => 0))), ((ma 26), .inl (cy 1, 5, .inl (fun _ => 0))), ((ma 27), .inl (cy 1, 30, .inl (fun _ => 0))), ((ma 28), .inl (cy 3, 3, .inl (fun _ => 0)))] := hD
  obtain ⟨r_11, rfl, hr_11⟩ := hv
  have er_11 := hr_11
  subst er_11
  refine W.eq (g2 := F0 m 1481 ls [.int (-2), .int (-2)]) rfl ?_
  refine lv_icmp_eq (tgt := 2286) hx hb dL_law_1481 (by decide) (fun _ => ?_) (fun c_12 => absurd (by decide) c_12)
  exact law_end C0 hL7 hA2 hbA hS (lv_sub hl [0, 1, 2, 3] rfl) (Nat.le_of_ble_eq_true rfl) (Nat.le_of_ble_eq_true rfl)
set_option maxHeartbeats 4000000 in
set_option maxRecDepth 100000 in
theorem lc_32 {p : Program} {e : Env} {s : State} {m : MethodId} {below : List Frame} {meth : Method} {c : Code} {l : Launch} {b L : Nat} {xs : Nat → Int32} {A : Nat → Prop} (D : va_G) (cy : Nat → ClassId) (xa ma : Nat → Nat) (fw : Nat → Int32) (hw : ∀ k : Nat, k < 4 → fw k = -1) (hL7 : L = 7) (C0 : lw_At p s m meth c b L xs) (hK : KK D cy s) (hA : ∀ q : Nat, s.heap.size ≤ q → A q) (hA2 : ∀ q : Nat, A q → s.heap.size ≤ q) (hbA : ¬ A b) {H : Heap} {locs : List Loc} (hP : va_P D vwCl [((xa 0), .inr (9, [.ref (xa 1), .ref (xa 2), .ref (xa 3), .ref (xa 4), .ref (xa 5), .ref (xa 6), .ref (xa 7), .ref (xa 8), .ref (xa 9), .int 0, .ref (xa 11), .null, .int 0, .int (-1)])), ((xa 1), .inl (cy 0, 1600, .inl (fun _ => 0))), ((xa 2), .inr (4, [.int 0, .int (-1), .ref (xa 30), .int 0, .int 0, .int 0, .int 0, .int 0, .ref (xa 31), .int 0, .int 0, .int 0])), ((xa 8), .inl (cy 4, 4, .inr (.inr (.inr (.inr (fun _ => none)))))), ((xa 9), .inl (cy 5, 3, .inr (.inr (.inr (.inr (fun _ => none)))))), ((xa 11), .inr (2, [.int 0, .int 0, .int 0, .int 0, .int 0, .int 0, .int 0, .int 0, .int 1, .int 10, .int 0, .int 0, .int 0, .int 0, .ref (xa 20), .ref (xa 21), .ref (xa 22), .ref (xa 23), .ref (xa 24), .ref (xa 25), .ref (xa 26)])), ((ma 0), .inr (10, [.int 0, .ref (ma 1), .ref (ma 2), .ref (ma 3), .ref (ma 4), .ref (ma 5), .int 0, .int 0, .int 0, .int 0, .int 0, .long 0, .int 0, .int 0, .int 0, .int (-1), .ref (ma 16), .ref (ma 17), .ref (ma 18), .ref (ma 19), .ref (ma 20), .ref (ma 21), .ref (ma 22), .ref (ma 23), .ref (ma 24), .ref (ma 25), .ref (ma 26), .ref (ma 27), .ref (ma 28), .ref (ma 29), .ref (ma 30), .ref (ma 31), .ref (ma 32), .ref (ma 33), .ref (ma 34), .ref (ma 35), .ref (ma 36), .ref (ma 37), .ref (ma 38), .ref (ma 39), .ref (ma 40), .ref (ma 41), .long 0])), ((ma 1), .inl (cy 1, 4, .inl fw)), ((ma 2), .inl (cy 1, 4, .inl (fun _ => 0))), ((ma 3), .inl (cy 2, 240, .inr (.inl (fun _ => 0)))), ((ma 5), .inl (cy 0, 1600, .inl (fun _ => 0))), ((ma 16), .inl (cy 1, 5, .inl (fun _ => 0))), ((ma 17), .inl (cy 1, 20, .inl (fun _ => 0))), ((ma 18), .inl (cy 1, 5, .inl (fun _ => 0))), ((ma 19), .inl (cy 1, 45, .inl (fun _ => 0))), ((ma 20), .inl (cy 1, 5, .inl (fun _ => 0))), ((ma 21), .inl (cy 1, 150, .inl (fun _ => 0))), ((ma 22), .inl (cy 1, 5, .inl (fun _ => 0))), ((ma 23), .inl (cy 1, 120, .inl (fun _ => 0))), ((ma 24), .inl (cy 1, 30, .inl (fun _ => 0))), ((ma 25), .inl (cy 3, 15, .inl (fun _ => 0))), ((ma 26), .inl (cy 1, 5, .inl (fun _ => 0))), ((ma 27), .inl (cy 1, 30, .inl (fun _ => 0))), ((ma 28), .inl (cy 3, 3, .inl (fun _ => 0)))] H) (hD : va_D A [((xa 0), .inr (9, [.ref (xa 1), .ref (xa 2), .ref (xa 3), .ref (xa 4), .ref (xa 5), .ref (xa 6), .ref (xa 7), .ref (xa 8), .ref (xa 9), .int 0, .ref (xa 11), .null, .int 0, .int (-1)])), ((xa 1), .inl (cy 0, 1600, .inl (fun _ => 0))), ((xa 2), .inr (4, [.int 0, .int (-1), .ref (xa 30), .int 0, .int 0, .int 0, .int 0, .int 0, .ref (xa 31), .int 0, .int 0, .int 0])), ((xa 8), .inl (cy 4, 4, .inr (.inr (.inr (.inr (fun _ => none)))))), ((xa 9), .inl (cy 5, 3, .inr (.inr (.inr (.inr (fun _ => none)))))), ((xa 11), .inr (2, [.int 0, .int 0, .int 0, .int 0, .int 0, .int 0, .int 0, .int 0, .int 1, .int 10, .int 0, .int 0, .int 0, .int 0, .ref (xa 20), .ref (xa 21), .ref (xa 22), .ref (xa 23), .ref (xa 24), .ref (xa 25), .ref (xa 26)])), ((ma 0), .inr (10, [.int 0, .ref (ma 1), .ref (ma 2), .ref (ma 3), .ref (ma 4), .ref (ma 5), .int 0, .int 0, .int 0, .int 0, .int 0, .long 0, .int 0, .int 0, .int 0, .int (-1), .ref (ma 16), .ref (ma 17), .ref (ma 18), .ref (ma 19), .ref (ma 20), .ref (ma 21), .ref (ma 22), .ref (ma 23), .ref (ma 24), .ref (ma 25), .ref (ma 26), .ref (ma 27), .ref (ma 28), .ref (ma 29), .ref (ma 30), .ref (ma 31), .ref (ma 32), .ref (ma 33), .ref (ma 34), .ref (ma 35), .ref (ma 36), .ref (ma 37), .ref (ma 38), .ref (ma 39), .ref (ma 40), .ref (ma 41), .long 0])), ((ma 1), .inl (cy 1, 4, .inl fw)), ((ma 2), .inl (cy 1, 4, .inl (fun _ => 0))), ((ma 3), .inl (cy 2, 240, .inr (.inl (fun _ => 0)))), ((ma 5), .inl (cy 0, 1600, .inl (fun _ => 0))), ((ma 16), .inl (cy 1, 5, .inl (fun _ => 0))), ((ma 17), .inl (cy 1, 20, .inl (fun _ => 0))), ((ma 18), .inl (cy 1, 5, .inl (fun _ => 0))), ((ma 19), .inl (cy 1, 45, .inl (fun _ => 0))), ((ma 20), .inl (cy 1, 5, .inl (fun _ => 0))), ((ma 21), .inl (cy 1, 150, .inl (fun _ => 0))), ((ma 22), .inl (cy 1, 5, .inl (fun _ => 0))), ((ma 23), .inl (cy 1, 120, .inl (fun _ => 0))), ((ma 24), .inl (cy 1, 30, .inl (fun _ => 0))), ((ma 25), .inl (cy 3, 15, .inl (fun _ => 0))), ((ma 26), .inl (cy 1, 5, .inl (fun _ => 0))), ((ma 27), .inl (cy 1, 30, .inl (fun _ => 0))), ((ma 28), .inl (cy 3, 3, .inl (fun _ => 0)))]) (hS : va_S A s.heap H locs) {ls : Array Slot} (hl : lv_has ls 4 [(3, .int 0), (2, .ref (ma 0)), (1, .ref (xa 0)), (0, .ref b)]) : W p l e room_1 s m #[Value.ref b] below meth c H locs 82 108979 (lw_Z below #[Value.ref b] s) (F0 m 1486 ls []) := by
  obtain ⟨hx, hb, hr, hml, hown, hts, hX, hbl, hlocks, hgv⟩ := id C0
  have hown : s.vm.findClass RL = some m.cls := hown
  have hb : c.code = cL_law := hb
  have hts : ∀ w ∈ GW, w.before #[Value.ref b] s = true := fun w h => hts w (gw_tbl w h)
  refine lv_aload_n hx hb dL_law_1486 rfl (lv_at hl 2 rfl) ?_
  refine lv_aload_n hx hb dL_law_1487 rfl (lv_at hl 3 rfl) ?_
  refine lv_iload_n hx hb dL_law_1488 rfl (lv_at hl 0 rfl) ?_
  refine lv_iconst (v := 1) hx hb dL_law_1489 (by decide) ?_
  refine lv_iadd hx hb dL_law_1490 ?_
  refine lv_topi (fun z_1 ez_1 => ?_)
  have ez_1 : z_1 = 1 := ez_1.trans (by decide)
  subst ez_1
  refine va_sld (i := 1) hx hb hX hbl hbA hS (by subst hL7; exact vp_in_iff.mpr (by decide)) dL_law_1491 ?_
  refine W.eq (g2 := F0 m 1492 ls [.int (xs 1), .ref (xa 0)]) rfl ?_
  refine lv_aload_n hx hb dL_law_1492 rfl (lv_at hl 3 rfl) ?_
  refine lv_iload_n hx hb dL_law_1493 rfl (lv_at hl 0 rfl) ?_
  refine lv_iconst (v := 2) hx hb dL_law_1494 (by decide) ?_
  refine lv_iadd hx hb dL_law_1495 ?_
  refine lv_topi (fun z_2 ez_2 => ?_)
  have ez_2 : z_2 = 2 := ez_2.trans (by decide)
  subst ez_2
  refine va_sld (i := 2) hx hb hX hbl hbA hS (by subst hL7; exact vp_in_iff.mpr (by decide)) dL_law_1496 ?_
  refine W.eq (g2 := F0 m 1497 ls [.int (xs 2), .int (xs 1), .ref (xa 0)]) rfl ?_
  refine lv_aload_n hx hb dL_law_1497 rfl (lv_at hl 3 rfl) ?_
  refine lv_iload_n hx hb dL_law_1498 rfl (lv_at hl 0 rfl) ?_
  refine lv_iconst (v := 3) hx hb dL_law_1499 (by decide) ?_
  refine lv_iadd hx hb dL_law_1500 ?_
  refine lv_topi (fun z_3 ez_3 => ?_)
  have ez_3 : z_3 = 3 := ez_3.trans (by decide)
  subst ez_3
  refine va_sld (i := 3) hx hb hX hbl hbA hS (by subst hL7; exact vp_in_iff.mpr (by decide)) dL_law_1501 ?_
  refine W.eq (g2 := F0 m 1502 ls [.int (xs 3), .int (xs 2), .int (xs 1), .ref (xa 0)]) rfl ?_
  refine lv_aload_n hx hb dL_law_1502 rfl (lv_at hl 3 rfl) ?_
  refine lv_iload_n hx hb dL_law_1503 rfl (lv_at hl 0 rfl) ?_
  refine lv_iconst (v := 4) hx hb dL_law_1504 (by decide) ?_
  refine lv_iadd hx hb dL_law_1505 ?_
  refine lv_topi (fun z_4 ez_4 => ?_)
  have ez_4 : z_4 = 4 := ez_4.trans (by decide)
  subst ez_4
  refine va_sld (i := 4) hx hb hX hbl hbA hS (by subst hL7; exact vp_in_iff.mpr (by decide)) dL_law_1506 ?_
  refine W.eq (g2 := F0 m 1507 ls [.int (xs 4), .int (xs 3), .int (xs 2), .int (xs 1), .ref (xa 0)]) rfl ?_
  refine lv_aload_n hx hb dL_law_1507 rfl (lv_at hl 3 rfl) ?_
  refine lv_iload_n hx hb dL_law_1508 rfl (lv_at hl 0 rfl) ?_
  refine lv_iconst (v := 5) hx hb dL_law_1509 (by decide) ?_
  refine lv_iadd hx hb dL_law_1510 ?_
  refine lv_topi (fun z_5 ez_5 => ?_)
  have ez_5 : z_5 = 5 := ez_5.trans (by decide)
  subst ez_5
  refine va_sld (i := 5) hx hb hX hbl hbA hS (by subst hL7; exact vp_in_iff.mpr (by decide)) dL_law_1511 ?_
  refine W.eq (g2 := F0 m 1512 ls [.int (xs 5), .int (xs 4), .int (xs 3), .int (xs 2), .int (xs 1), .ref (xa 0)]) rfl ?_
  refine pu_calli (runV (As := [.int (xs 1), .int (xs 2), .int (xs 3), .int (xs 4), .int (xs 5)]) (rest := []) ⟨hx, hb, hml, hown, hts⟩ (f_X9_asks l D cy xa (xs 1) (xs 2) (xs 3) (xs 4) (xs 5) ) sV_L_152 hK (va_recv hK.1 hP (ci := 9) (q0 := 0) rfl rfl) (hP.sub (ws' := [((xa 0), .inr (9, [.ref (xa 1), .ref (xa 2), .ref (xa 3), .ref (xa 4), .ref (xa 5), .ref (xa 6), .ref (xa 7), .ref (xa 8), .ref (xa 9), .int 0, .ref (xa 11), .null, .int 0, .int (-1)])), ((xa 11), .inr (2, [.int 0, .int 0, .int 0, .int 0, .int 0, .int 0, .int 0, .int 0, .int 1, .int 10, .int 0, .int 0, .int 0, .int 0, .ref (xa 20), .ref (xa 21), .ref (xa 22), .ref (xa 23), .ref (xa 24), .ref (xa 25), .ref (xa 26)]))]) [0, 5] rfl) ⟨Nat.le_of_ble_eq_true rfl, Nat.le_of_ble_eq_true rfl⟩ rfl hl.1 rfl (Nat.le_of_ble_eq_true rfl) dL_law_1512 ⟨Nat.le_of_ble_eq_true rfl, Nat.le_of_ble_eq_true rfl⟩) (fun r_6 hr_6 => ?_)
  have er_6 := hr_6
  subst er_6
  refine W.eq (g2 := F0 m 1515 ls [.int (-2)]) rfl ?_
  refine lv_aload_n hx hb dL_law_1515 rfl (lv_at hl 1 rfl) ?_
  refine lv_aload_n hx hb dL_law_1516 rfl (lv_at hl 3 rfl) ?_
  refine lv_iload_n hx hb dL_law_1517 rfl (lv_at hl 0 rfl) ?_
  refine lv_iconst (v := 1) hx hb dL_law_1518 (by decide) ?_
  refine lv_iadd hx hb dL_law_1519 ?_
  refine lv_topi (fun z_7 ez_7 => ?_)
  have ez_7 : z_7 = 1 := ez_7.trans (by decide)
  subst ez_7
  refine va_sld (i := 1) hx hb hX hbl hbA hS (by subst hL7; exact vp_in_iff.mpr (by decide)) dL_law_1520 ?_
  refine W.eq (g2 := F0 m 1521 ls [.int (xs 1), .ref (ma 0), .int (-2)]) rfl ?_
  refine lv_aload_n hx hb dL_law_1521 rfl (lv_at hl 3 rfl) ?_
  refine lv_iload_n hx hb dL_law_1522 rfl (lv_at hl 0 rfl) ?_
  refine lv_iconst (v := 2) hx hb dL_law_1523 (by decide) ?_
  refine lv_iadd hx hb dL_law_1524 ?_
  refine lv_topi (fun z_8 ez_8 => ?_)
  have ez_8 : z_8 = 2 := ez_8.trans (by decide)
  subst ez_8
  refine va_sld (i := 2) hx hb hX hbl hbA hS (by subst hL7; exact vp_in_iff.mpr (by decide)) dL_law_1525 ?_
  refine W.eq (g2 := F0 m 1526 ls [.int (xs 2), .int (xs 1), .ref (ma 0), .int (-2)]) rfl ?_
  refine lv_aload_n hx hb dL_law_1526 rfl (lv_at hl 3 rfl) ?_
  refine lv_iload_n hx hb dL_law_1527 rfl (lv_at hl 0 rfl) ?_
  refine lv_iconst (v := 3) hx hb dL_law_1528 (by decide) ?_
  refine lv_iadd hx hb dL_law_1529 ?_
  refine lv_topi (fun z_9 ez_9 => ?_)
  have ez_9 : z_9 = 3 := ez_9.trans (by decide)
  subst ez_9
  refine va_sld (i := 3) hx hb hX hbl hbA hS (by subst hL7; exact vp_in_iff.mpr (by decide)) dL_law_1530 ?_
  refine W.eq (g2 := F0 m 1531 ls [.int (xs 3), .int (xs 2), .int (xs 1), .ref (ma 0), .int (-2)]) rfl ?_
  refine lv_aload_n hx hb dL_law_1531 rfl (lv_at hl 3 rfl) ?_
  refine lv_iload_n hx hb dL_law_1532 rfl (lv_at hl 0 rfl) ?_
  refine lv_iconst (v := 4) hx hb dL_law_1533 (by decide) ?_
  refine lv_iadd hx hb dL_law_1534 ?_
  refine lv_topi (fun z_10 ez_10 => ?_)
  have ez_10 : z_10 = 4 := ez_10.trans (by decide)
  subst ez_10
  refine va_sld (i := 4) hx hb hX hbl hbA hS (by subst hL7; exact vp_in_iff.mpr (by decide)) dL_law_1535 ?_
  refine W.eq (g2 := F0 m 1536 ls [.int (xs 4), .int (xs 3), .int (xs 2), .int (xs 1), .ref (ma 0), .int (-2)]) rfl ?_
  refine lv_aload_n hx hb dL_law_1536 rfl (lv_at hl 3 rfl) ?_
  refine lv_iload_n hx hb dL_law_1537 rfl (lv_at hl 0 rfl) ?_
  refine lv_iconst (v := 5) hx hb dL_law_1538 (by decide) ?_
  refine lv_iadd hx hb dL_law_1539 ?_
  refine lv_topi (fun z_11 ez_11 => ?_)
  have ez_11 : z_11 = 5 := ez_11.trans (by decide)
  subst ez_11
  refine va_sld (i := 5) hx hb hX hbl hbA hS (by subst hL7; exact vp_in_iff.mpr (by decide)) dL_law_1540 ?_
  refine W.eq (g2 := F0 m 1541 ls [.int (xs 5), .int (xs 4), .int (xs 3), .int (xs 2), .int (xs 1), .ref (ma 0), .int (-2)]) rfl ?_
  refine fw_call (wc := [((ma 0), .inr (10, [.int 0, .ref (ma 1), .ref (ma 2), .ref (ma 3), .ref (ma 4), .ref (ma 5), .int 0, .int 0, .int 0, .int 0, .int 0, .long 0, .int 0, .int 0, .int 0, .int (-1), .ref (ma 16), .ref (ma 17), .ref (ma 18), .ref (ma 19), .ref (ma 20), .ref (ma 21), .ref (ma 22), .ref (ma 23), .ref (ma 24), .ref (ma 25), .ref (ma 26), .ref (ma 27), .ref (ma 28), .ref (ma 29), .ref (ma 30), .ref (ma 31), .ref (ma 32), .ref (ma 33), .ref (ma 34), .ref (ma 35), .ref (ma 36), .ref (ma 37), .ref (ma 38), .ref (ma 39), .ref (ma 40), .ref (ma 41), .long 0])), ((ma 20), .inl (cy 1, 5, .inl (fun _ => 0))), ((ma 18), .inl (cy 1, 5, .inl (fun _ => 0))), ((ma 17), .inl (cy 1, 20, .inl (fun _ => 0)))]) (wr := [((xa 0), .inr (9, [.ref (xa 1), .ref (xa 2), .ref (xa 3), .ref (xa 4), .ref (xa 5), .ref (xa 6), .ref (xa 7), .ref (xa 8), .ref (xa 9), .int 0, .ref (xa 11), .null, .int 0, .int (-1)])), ((xa 1), .inl (cy 0, 1600, .inl (fun _ => 0))), ((xa 2), .inr (4, [.int 0, .int (-1), .ref (xa 30), .int 0, .int 0, .int 0, .int 0, .int 0, .ref (xa 31), .int 0, .int 0, .int 0])), ((xa 8), .inl (cy 4, 4, .inr (.inr (.inr (.inr (fun _ => none)))))), ((xa 9), .inl (cy 5, 3, .inr (.inr (.inr (.inr (fun _ => none)))))), ((xa 11), .inr (2, [.int 0, .int 0, .int 0, .int 0, .int 0, .int 0, .int 0, .int 0, .int 1, .int 10, .int 0, .int 0, .int 0, .int 0, .ref (xa 20), .ref (xa 21), .ref (xa 22), .ref (xa 23), .ref (xa 24), .ref (xa 25), .ref (xa 26)])), ((ma 1), .inl (cy 1, 4, .inl fw)), ((ma 2), .inl (cy 1, 4, .inl (fun _ => 0))), ((ma 3), .inl (cy 2, 240, .inr (.inl (fun _ => 0)))), ((ma 5), .inl (cy 0, 1600, .inl (fun _ => 0))), ((ma 16), .inl (cy 1, 5, .inl (fun _ => 0))), ((ma 19), .inl (cy 1, 45, .inl (fun _ => 0))), ((ma 21), .inl (cy 1, 150, .inl (fun _ => 0))), ((ma 22), .inl (cy 1, 5, .inl (fun _ => 0))), ((ma 23), .inl (cy 1, 120, .inl (fun _ => 0))), ((ma 24), .inl (cy 1, 30, .inl (fun _ => 0))), ((ma 25), .inl (cy 3, 15, .inl (fun _ => 0))), ((ma 26), .inl (cy 1, 5, .inl (fun _ => 0))), ((ma 27), .inl (cy 1, 30, .inl (fun _ => 0))), ((ma 28), .inl (cy 3, 3, .inl (fun _ => 0)))]) (runV (As := [.int (xs 1), .int (xs 2), .int (xs 3), .int (xs 4), .int (xs 5)]) (rest := [.int (-2)]) ⟨hx, hb, hml, hown, hts⟩ (g_X10_asks_ l D cy ma (xs 1) (xs 2) (xs 3) (xs 4) (xs 5)  H.size) sV_L_155 hK (va_recv hK.1 hP (ci := 10) (q0 := 6) rfl rfl) (PW.of hP hD [6, 15, 13, 12] (by decide) rfl rfl) ⟨Nat.le_of_ble_eq_true rfl, Nat.le_of_ble_eq_true rfl⟩ rfl hl.1 rfl (Nat.le_of_ble_eq_true rfl) dL_law_1541 ⟨Nat.le_of_ble_eq_true rfl, Nat.le_of_ble_eq_true rfl⟩) hP hD hS hA [6, 15, 13, 12] [0, 1, 2, 3, 4, 5, 7, 8, 9, 10, 11, 14, 16, 17, 18, 19, 20, 21, 22, 23] rfl rfl (by decide) (by decide) (fun v u_12 H locs hv hP hD hS => ?_)
  have hP : va_P D vwCl [((xa 0), .inr (9, [.ref (xa 1), .ref (xa 2), .ref (xa 3), .ref (xa 4), .ref (xa 5), .ref (xa 6), .ref (xa 7), .ref (xa 8), .ref (xa 9), .int 0, .ref (xa 11), .null, .int 0, .int (-1)])), ((xa 1), .inl (cy 0, 1600, .inl (fun _ => 0))), ((xa 2), .inr (4, [.int 0, .int (-1), .ref (xa 30), .int 0, .int 0, .int 0, .int 0, .int 0, .ref (xa 31), .int 0, .int 0, .int 0])), ((xa 8), .inl (cy 4, 4, .inr (.inr (.inr (.inr (fun _ => none)))))), ((xa 9), .inl (cy 5, 3, .inr (.inr (.inr (.inr (fun _ => none)))))), ((xa 11), .inr (2, [.int 0, .int 0, .int 0, .int 0, .int 0, .int 0, .int 0, .int 0, .int 1, .int 10, .int 0, .int 0, .int 0, .int 0, .ref (xa 20), .ref (xa 21), .ref (xa 22), .ref (xa 23), .ref (xa 24), .ref (xa 25), .ref (xa 26)])), ((ma 1), .inl (cy 1, 4, .inl fw)), ((ma 2), .inl (cy 1, 4, .inl (fun _ => 0))), ((ma 3), .inl (cy 2, 240, .inr (.inl (fun _ => 0)))), ((ma 5), .inl (cy 0, 1600, .inl (fun _ => 0))), ((ma 16), .inl (cy 1, 5, .inl (fun _ => 0))), ((ma 19), .inl (cy 1, 45, .inl (fun _ => 0))), ((ma 21), .inl (cy 1, 150, .inl (fun _ => 0))), ((ma 22), .inl (cy 1, 5, .inl (fun _ => 0))), ((ma 23), .inl (cy 1, 120, .inl (fun _ => 0))), ((ma 24), .inl (cy 1, 30, .inl (fun _ => 0))), ((ma 25), .inl (cy 3, 15, .inl (fun _ => 0))), ((ma 26), .inl (cy 1, 5, .inl (fun _ => 0))), ((ma 27), .inl (cy 1, 30, .inl (fun _ => 0))), ((ma 28), .inl (cy 3, 3, .inl (fun _ => 0)))] H := hP
  have hD : va_D A [((xa 0), .inr (9, [.ref (xa 1), .ref (xa 2), .ref (xa 3), .ref (xa 4), .ref (xa 5), .ref (xa 6), .ref (xa 7), .ref (xa 8), .ref (xa 9), .int 0, .ref (xa 11), .null, .int 0, .int (-1)])), ((xa 1), .inl (cy 0, 1600, .inl (fun _ => 0))), ((xa 2), .inr (4, [.int 0, .int (-1), .ref (xa 30), .int 0, .int 0, .int 0, .int 0, .int 0, .ref (xa 31), .int 0, .int 0, .int 0])), ((xa 8), .inl (cy 4, 4, .inr (.inr (.inr (.inr (fun _ => none)))))), ((xa 9), .inl (cy 5, 3, .inr (.inr (.inr (.inr (fun _ => none)))))), ((xa 11), .inr (2, [.int 0, .int 0, .int 0, .int 0, .int 0, .int 0, .int 0, .int 0, .int 1, .int 10, .int 0, .int 0, .int 0, .int 0, .ref (xa 20), .ref (xa 21), .ref (xa 22), .ref (xa 23), .ref (xa 24), .ref (xa 25), .ref (xa 26)])), ((ma 1), .inl (cy 1, 4, .inl fw)), ((ma 2), .inl (cy 1, 4, .inl (fun _ => 0))), ((ma 3), .inl (cy 2, 240, .inr (.inl (fun _ => 0)))), ((ma 5), .inl (cy 0, 1600, .inl (fun _ => 0))), ((ma 16), .inl (cy 1, 5, .inl (fun _ => 0))), ((ma 19), .inl (cy 1, 45, .inl (fun _ => 0))), ((ma 21), .inl (cy 1, 150, .inl (fun _ => 0))), ((ma 22), .inl (cy 1, 5, .inl (fun _ => 0))), ((ma 23), .inl (cy 1, 120, .inl (fun _ => 0))), ((ma 24), .inl (cy 1, 30, .inl (fun _ => 0))), ((ma 25), .inl (cy 3, 15, .inl (fun _ => 0))), ((ma 26), .inl (cy 1, 5, .inl (fun _ => 0))), ((ma 27), .inl (cy 1, 30, .inl (fun _ => 0))), ((ma 28), .inl (cy 3, 3, .inl (fun _ => 0)))] := hD
  obtain ⟨r_13, rfl, hr_13⟩ := hv
  have er_13 := hr_13
  subst er_13
  refine W.eq (g2 := F0 m 1544 ls [.int (-2), .int (-2)]) rfl ?_
  refine lv_icmp_eq (tgt := 2286) hx hb dL_law_1544 (by decide) (fun _ => ?_) (fun c_14 => absurd (by decide) c_14)
  exact law_end C0 hL7 hA2 hbA hS (lv_sub hl [0, 1, 2, 3] rfl) (Nat.le_of_ble_eq_true rfl) (Nat.le_of_ble_eq_true rfl)
set_option maxHeartbeats 4000000 in
set_option maxRecDepth 100000 in
theorem lc_33 {p : Program} {e : Env} {s : State} {m : MethodId} {below : List Frame} {meth : Method} {c : Code} {l : Launch} {b L : Nat} {xs : Nat → Int32} {A : Nat → Prop} (D : va_G) (cy : Nat → ClassId) (xa ma : Nat → Nat) (fw : Nat → Int32) (hw : ∀ k : Nat, k < 4 → fw k = -1) (hL7 : L = 7) (C0 : lw_At p s m meth c b L xs) (hK : KK D cy s) (hA : ∀ q : Nat, s.heap.size ≤ q → A q) (hA2 : ∀ q : Nat, A q → s.heap.size ≤ q) (hbA : ¬ A b) {H : Heap} {locs : List Loc} (hP : va_P D vwCl [((xa 0), .inr (9, [.ref (xa 1), .ref (xa 2), .ref (xa 3), .ref (xa 4), .ref (xa 5), .ref (xa 6), .ref (xa 7), .ref (xa 8), .ref (xa 9), .int 0, .ref (xa 11), .null, .int 0, .int (-1)])), ((xa 1), .inl (cy 0, 1600, .inl (fun _ => 0))), ((xa 2), .inr (4, [.int 0, .int (-1), .ref (xa 30), .int 0, .int 0, .int 0, .int 0, .int 0, .ref (xa 31), .int 0, .int 0, .int 0])), ((xa 8), .inl (cy 4, 4, .inr (.inr (.inr (.inr (fun _ => none)))))), ((xa 9), .inl (cy 5, 3, .inr (.inr (.inr (.inr (fun _ => none)))))), ((xa 11), .inr (2, [.int 0, .int 0, .int 0, .int 0, .int 0, .int 0, .int 0, .int 0, .int 1, .int 10, .int 0, .int 0, .int 0, .int 0, .ref (xa 20), .ref (xa 21), .ref (xa 22), .ref (xa 23), .ref (xa 24), .ref (xa 25), .ref (xa 26)])), ((ma 0), .inr (10, [.int 0, .ref (ma 1), .ref (ma 2), .ref (ma 3), .ref (ma 4), .ref (ma 5), .int 0, .int 0, .int 0, .int 0, .int 0, .long 0, .int 0, .int 0, .int 0, .int (-1), .ref (ma 16), .ref (ma 17), .ref (ma 18), .ref (ma 19), .ref (ma 20), .ref (ma 21), .ref (ma 22), .ref (ma 23), .ref (ma 24), .ref (ma 25), .ref (ma 26), .ref (ma 27), .ref (ma 28), .ref (ma 29), .ref (ma 30), .ref (ma 31), .ref (ma 32), .ref (ma 33), .ref (ma 34), .ref (ma 35), .ref (ma 36), .ref (ma 37), .ref (ma 38), .ref (ma 39), .ref (ma 40), .ref (ma 41), .long 0])), ((ma 1), .inl (cy 1, 4, .inl fw)), ((ma 2), .inl (cy 1, 4, .inl (fun _ => 0))), ((ma 3), .inl (cy 2, 240, .inr (.inl (fun _ => 0)))), ((ma 5), .inl (cy 0, 1600, .inl (fun _ => 0))), ((ma 16), .inl (cy 1, 5, .inl (fun _ => 0))), ((ma 17), .inl (cy 1, 20, .inl (fun _ => 0))), ((ma 18), .inl (cy 1, 5, .inl (fun _ => 0))), ((ma 19), .inl (cy 1, 45, .inl (fun _ => 0))), ((ma 20), .inl (cy 1, 5, .inl (fun _ => 0))), ((ma 21), .inl (cy 1, 150, .inl (fun _ => 0))), ((ma 22), .inl (cy 1, 5, .inl (fun _ => 0))), ((ma 23), .inl (cy 1, 120, .inl (fun _ => 0))), ((ma 24), .inl (cy 1, 30, .inl (fun _ => 0))), ((ma 25), .inl (cy 3, 15, .inl (fun _ => 0))), ((ma 26), .inl (cy 1, 5, .inl (fun _ => 0))), ((ma 27), .inl (cy 1, 30, .inl (fun _ => 0))), ((ma 28), .inl (cy 3, 3, .inl (fun _ => 0)))] H) (hD : va_D A [((xa 0), .inr (9, [.ref (xa 1), .ref (xa 2), .ref (xa 3), .ref (xa 4), .ref (xa 5), .ref (xa 6), .ref (xa 7), .ref (xa 8), .ref (xa 9), .int 0, .ref (xa 11), .null, .int 0, .int (-1)])), ((xa 1), .inl (cy 0, 1600, .inl (fun _ => 0))), ((xa 2), .inr (4, [.int 0, .int (-1), .ref (xa 30), .int 0, .int 0, .int 0, .int 0, .int 0, .ref (xa 31), .int 0, .int 0, .int 0])), ((xa 8), .inl (cy 4, 4, .inr (.inr (.inr (.inr (fun _ => none)))))), ((xa 9), .inl (cy 5, 3, .inr (.inr (.inr (.inr (fun _ => none)))))), ((xa 11), .inr (2, [.int 0, .int 0, .int 0, .int 0, .int 0, .int 0, .int 0, .int 0, .int 1, .int 10, .int 0, .int 0, .int 0, .int 0, .ref (xa 20), .ref (xa 21), .ref (xa 22), .ref (xa 23), .ref (xa 24), .ref (xa 25), .ref (xa 26)])), ((ma 0), .inr (10, [.int 0, .ref (ma 1), .ref (ma 2), .ref (ma 3), .ref (ma 4), .ref (ma 5), .int 0, .int 0, .int 0, .int 0, .int 0, .long 0, .int 0, .int 0, .int 0, .int (-1), .ref (ma 16), .ref (ma 17), .ref (ma 18), .ref (ma 19), .ref (ma 20), .ref (ma 21), .ref (ma 22), .ref (ma 23), .ref (ma 24), .ref (ma 25), .ref (ma 26), .ref (ma 27), .ref (ma 28), .ref (ma 29), .ref (ma 30), .ref (ma 31), .ref (ma 32), .ref (ma 33), .ref (ma 34), .ref (ma 35), .ref (ma 36), .ref (ma 37), .ref (ma 38), .ref (ma 39), .ref (ma 40), .ref (ma 41), .long 0])), ((ma 1), .inl (cy 1, 4, .inl fw)), ((ma 2), .inl (cy 1, 4, .inl (fun _ => 0))), ((ma 3), .inl (cy 2, 240, .inr (.inl (fun _ => 0)))), ((ma 5), .inl (cy 0, 1600, .inl (fun _ => 0))), ((ma 16), .inl (cy 1, 5, .inl (fun _ => 0))), ((ma 17), .inl (cy 1, 20, .inl (fun _ => 0))), ((ma 18), .inl (cy 1, 5, .inl (fun _ => 0))), ((ma 19), .inl (cy 1, 45, .inl (fun _ => 0))), ((ma 20), .inl (cy 1, 5, .inl (fun _ => 0))), ((ma 21), .inl (cy 1, 150, .inl (fun _ => 0))), ((ma 22), .inl (cy 1, 5, .inl (fun _ => 0))), ((ma 23), .inl (cy 1, 120, .inl (fun _ => 0))), ((ma 24), .inl (cy 1, 30, .inl (fun _ => 0))), ((ma 25), .inl (cy 3, 15, .inl (fun _ => 0))), ((ma 26), .inl (cy 1, 5, .inl (fun _ => 0))), ((ma 27), .inl (cy 1, 30, .inl (fun _ => 0))), ((ma 28), .inl (cy 3, 3, .inl (fun _ => 0)))]) (hS : va_S A s.heap H locs) {ls : Array Slot} (hl : lv_has ls 4 [(3, .int 0), (2, .ref (ma 0)), (1, .ref (xa 0)), (0, .ref b)]) : W p l e room_1 s m #[Value.ref b] below meth c H locs 82 108979 (lw_Z below #[Value.ref b] s) (F0 m 1549 ls []) := by
  obtain ⟨hx, hb, hr, hml, hown, hts, hX, hbl, hlocks, hgv⟩ := id C0
  have hown : s.vm.findClass RL = some m.cls := hown
  have hb : c.code = cL_law := hb
  have hts : ∀ w ∈ GW, w.before #[Value.ref b] s = true := fun w h => hts w (gw_tbl w h)
  refine lv_aload_n hx hb dL_law_1549 rfl (lv_at hl 2 rfl) ?_
  refine lv_aload_n hx hb dL_law_1550 rfl (lv_at hl 3 rfl) ?_
  refine lv_iload_n hx hb dL_law_1551 rfl (lv_at hl 0 rfl) ?_
  refine lv_iconst (v := 1) hx hb dL_law_1552 (by decide) ?_
  refine lv_iadd hx hb dL_law_1553 ?_
  refine lv_topi (fun z_1 ez_1 => ?_)
  have ez_1 : z_1 = 1 := ez_1.trans (by decide)
  subst ez_1
  refine va_sld (i := 1) hx hb hX hbl hbA hS (by subst hL7; exact vp_in_iff.mpr (by decide)) dL_law_1554 ?_
  refine W.eq (g2 := F0 m 1555 ls [.int (xs 1), .ref (xa 0)]) rfl ?_
  refine lv_aload_n hx hb dL_law_1555 rfl (lv_at hl 3 rfl) ?_
  refine lv_iload_n hx hb dL_law_1556 rfl (lv_at hl 0 rfl) ?_
  refine lv_iconst (v := 2) hx hb dL_law_1557 (by decide) ?_
  refine lv_iadd hx hb dL_law_1558 ?_
  refine lv_topi (fun z_2 ez_2 => ?_)
  have ez_2 : z_2 = 2 := ez_2.trans (by decide)
  subst ez_2
  refine va_sld (i := 2) hx hb hX hbl hbA hS (by subst hL7; exact vp_in_iff.mpr (by decide)) dL_law_1559 ?_
  refine W.eq (g2 := F0 m 1560 ls [.int (xs 2), .int (xs 1), .ref (xa 0)]) rfl ?_
  refine lv_aload_n hx hb dL_law_1560 rfl (lv_at hl 3 rfl) ?_
  refine lv_iload_n hx hb dL_law_1561 rfl (lv_at hl 0 rfl) ?_
  refine lv_iconst (v := 3) hx hb dL_law_1562 (by decide) ?_
  refine lv_iadd hx hb dL_law_1563 ?_
  refine lv_topi (fun z_3 ez_3 => ?_)
  have ez_3 : z_3 = 3 := ez_3.trans (by decide)
  subst ez_3
  refine va_sld (i := 3) hx hb hX hbl hbA hS (by subst hL7; exact vp_in_iff.mpr (by decide)) dL_law_1564 ?_
  refine W.eq (g2 := F0 m 1565 ls [.int (xs 3), .int (xs 2), .int (xs 1), .ref (xa 0)]) rfl ?_
  refine lv_aload_n hx hb dL_law_1565 rfl (lv_at hl 3 rfl) ?_
  refine lv_iload_n hx hb dL_law_1566 rfl (lv_at hl 0 rfl) ?_
  refine lv_iconst (v := 4) hx hb dL_law_1567 (by decide) ?_
  refine lv_iadd hx hb dL_law_1568 ?_
  refine lv_topi (fun z_4 ez_4 => ?_)
  have ez_4 : z_4 = 4 := ez_4.trans (by decide)
  subst ez_4
  refine va_sld (i := 4) hx hb hX hbl hbA hS (by subst hL7; exact vp_in_iff.mpr (by decide)) dL_law_1569 ?_
  refine W.eq (g2 := F0 m 1570 ls [.int (xs 4), .int (xs 3), .int (xs 2), .int (xs 1), .ref (xa 0)]) rfl ?_
  refine lv_aload_n hx hb dL_law_1570 rfl (lv_at hl 3 rfl) ?_
  refine lv_iload_n hx hb dL_law_1571 rfl (lv_at hl 0 rfl) ?_
  refine lv_iconst (v := 5) hx hb dL_law_1572 (by decide) ?_
  refine lv_iadd hx hb dL_law_1573 ?_
  refine lv_topi (fun z_5 ez_5 => ?_)
  have ez_5 : z_5 = 5 := ez_5.trans (by decide)
  subst ez_5
  refine va_sld (i := 5) hx hb hX hbl hbA hS (by subst hL7; exact vp_in_iff.mpr (by decide)) dL_law_1574 ?_
  refine W.eq (g2 := F0 m 1575 ls [.int (xs 5), .int (xs 4), .int (xs 3), .int (xs 2), .int (xs 1), .ref (xa 0)]) rfl ?_
  refine pu_calll (runV (As := [.int (xs 1), .int (xs 2), .int (xs 3), .int (xs 4), .int (xs 5)]) (rest := []) ⟨hx, hb, hml, hown, hts⟩ (f_X9_pays l D cy xa (xs 1) (xs 2) (xs 3) (xs 4) (xs 5) ) sV_L_156 hK (va_recv hK.1 hP (ci := 9) (q0 := 0) rfl rfl) (hP.sub (ws' := [((xa 0), .inr (9, [.ref (xa 1), .ref (xa 2), .ref (xa 3), .ref (xa 4), .ref (xa 5), .ref (xa 6), .ref (xa 7), .ref (xa 8), .ref (xa 9), .int 0, .ref (xa 11), .null, .int 0, .int (-1)])), ((xa 11), .inr (2, [.int 0, .int 0, .int 0, .int 0, .int 0, .int 0, .int 0, .int 0, .int 1, .int 10, .int 0, .int 0, .int 0, .int 0, .ref (xa 20), .ref (xa 21), .ref (xa 22), .ref (xa 23), .ref (xa 24), .ref (xa 25), .ref (xa 26)]))]) [0, 5] rfl) ⟨Nat.le_of_ble_eq_true rfl, Nat.le_of_ble_eq_true rfl⟩ rfl hl.1 rfl (Nat.le_of_ble_eq_true rfl) dL_law_1575 ⟨Nat.le_of_ble_eq_true rfl, Nat.le_of_ble_eq_true rfl⟩) (fun r_6 hr_6 => ?_)
  have er_6 := hr_6
  subst er_6
  refine W.eq (g2 := F0 m 1578 ls [.long (-2)]) rfl ?_
  refine lv_aload_n hx hb dL_law_1578 rfl (lv_at hl 1 rfl) ?_
  refine lv_aload_n hx hb dL_law_1579 rfl (lv_at hl 3 rfl) ?_
  refine lv_iload_n hx hb dL_law_1580 rfl (lv_at hl 0 rfl) ?_
  refine lv_iconst (v := 1) hx hb dL_law_1581 (by decide) ?_
  refine lv_iadd hx hb dL_law_1582 ?_
  refine lv_topi (fun z_7 ez_7 => ?_)
  have ez_7 : z_7 = 1 := ez_7.trans (by decide)
  subst ez_7
  refine va_sld (i := 1) hx hb hX hbl hbA hS (by subst hL7; exact vp_in_iff.mpr (by decide)) dL_law_1583 ?_
  refine W.eq (g2 := F0 m 1584 ls [.int (xs 1), .ref (ma 0), .long (-2)]) rfl ?_
  refine lv_aload_n hx hb dL_law_1584 rfl (lv_at hl 3 rfl) ?_
  refine lv_iload_n hx hb dL_law_1585 rfl (lv_at hl 0 rfl) ?_
  refine lv_iconst (v := 2) hx hb dL_law_1586 (by decide) ?_
  refine lv_iadd hx hb dL_law_1587 ?_
  refine lv_topi (fun z_8 ez_8 => ?_)
  have ez_8 : z_8 = 2 := ez_8.trans (by decide)
  subst ez_8
  refine va_sld (i := 2) hx hb hX hbl hbA hS (by subst hL7; exact vp_in_iff.mpr (by decide)) dL_law_1588 ?_
  refine W.eq (g2 := F0 m 1589 ls [.int (xs 2), .int (xs 1), .ref (ma 0), .long (-2)]) rfl ?_
  refine lv_aload_n hx hb dL_law_1589 rfl (lv_at hl 3 rfl) ?_
  refine lv_iload_n hx hb dL_law_1590 rfl (lv_at hl 0 rfl) ?_
  refine lv_iconst (v := 3) hx hb dL_law_1591 (by decide) ?_
  refine lv_iadd hx hb dL_law_1592 ?_
  refine lv_topi (fun z_9 ez_9 => ?_)
  have ez_9 : z_9 = 3 := ez_9.trans (by decide)
  subst ez_9
  refine va_sld (i := 3) hx hb hX hbl hbA hS (by subst hL7; exact vp_in_iff.mpr (by decide)) dL_law_1593 ?_
  refine W.eq (g2 := F0 m 1594 ls [.int (xs 3), .int (xs 2), .int (xs 1), .ref (ma 0), .long (-2)]) rfl ?_
  refine lv_aload_n hx hb dL_law_1594 rfl (lv_at hl 3 rfl) ?_
  refine lv_iload_n hx hb dL_law_1595 rfl (lv_at hl 0 rfl) ?_
  refine lv_iconst (v := 4) hx hb dL_law_1596 (by decide) ?_
  refine lv_iadd hx hb dL_law_1597 ?_
  refine lv_topi (fun z_10 ez_10 => ?_)
  have ez_10 : z_10 = 4 := ez_10.trans (by decide)
  subst ez_10
  refine va_sld (i := 4) hx hb hX hbl hbA hS (by subst hL7; exact vp_in_iff.mpr (by decide)) dL_law_1598 ?_
  refine W.eq (g2 := F0 m 1599 ls [.int (xs 4), .int (xs 3), .int (xs 2), .int (xs 1), .ref (ma 0), .long (-2)]) rfl ?_
  refine lv_aload_n hx hb dL_law_1599 rfl (lv_at hl 3 rfl) ?_
  refine lv_iload_n hx hb dL_law_1600 rfl (lv_at hl 0 rfl) ?_
  refine lv_iconst (v := 5) hx hb dL_law_1601 (by decide) ?_
  refine lv_iadd hx hb dL_law_1602 ?_
  refine lv_topi (fun z_11 ez_11 => ?_)
  have ez_11 : z_11 = 5 := ez_11.trans (by decide)
  subst ez_11
  refine va_sld (i := 5) hx hb hX hbl hbA hS (by subst hL7; exact vp_in_iff.mpr (by decide)) dL_law_1603 ?_
  refine W.eq (g2 := F0 m 1604 ls [.int (xs 5), .int (xs 4), .int (xs 3), .int (xs 2), .int (xs 1), .ref (ma 0), .long (-2)]) rfl ?_
  refine fw_call (wc := [((ma 0), .inr (10, [.int 0, .ref (ma 1), .ref (ma 2), .ref (ma 3), .ref (ma 4), .ref (ma 5), .int 0, .int 0, .int 0, .int 0, .int 0, .long 0, .int 0, .int 0, .int 0, .int (-1), .ref (ma 16), .ref (ma 17), .ref (ma 18), .ref (ma 19), .ref (ma 20), .ref (ma 21), .ref (ma 22), .ref (ma 23), .ref (ma 24), .ref (ma 25), .ref (ma 26), .ref (ma 27), .ref (ma 28), .ref (ma 29), .ref (ma 30), .ref (ma 31), .ref (ma 32), .ref (ma 33), .ref (ma 34), .ref (ma 35), .ref (ma 36), .ref (ma 37), .ref (ma 38), .ref (ma 39), .ref (ma 40), .ref (ma 41), .long 0])), ((ma 20), .inl (cy 1, 5, .inl (fun _ => 0))), ((ma 18), .inl (cy 1, 5, .inl (fun _ => 0))), ((ma 17), .inl (cy 1, 20, .inl (fun _ => 0)))]) (wr := [((xa 0), .inr (9, [.ref (xa 1), .ref (xa 2), .ref (xa 3), .ref (xa 4), .ref (xa 5), .ref (xa 6), .ref (xa 7), .ref (xa 8), .ref (xa 9), .int 0, .ref (xa 11), .null, .int 0, .int (-1)])), ((xa 1), .inl (cy 0, 1600, .inl (fun _ => 0))), ((xa 2), .inr (4, [.int 0, .int (-1), .ref (xa 30), .int 0, .int 0, .int 0, .int 0, .int 0, .ref (xa 31), .int 0, .int 0, .int 0])), ((xa 8), .inl (cy 4, 4, .inr (.inr (.inr (.inr (fun _ => none)))))), ((xa 9), .inl (cy 5, 3, .inr (.inr (.inr (.inr (fun _ => none)))))), ((xa 11), .inr (2, [.int 0, .int 0, .int 0, .int 0, .int 0, .int 0, .int 0, .int 0, .int 1, .int 10, .int 0, .int 0, .int 0, .int 0, .ref (xa 20), .ref (xa 21), .ref (xa 22), .ref (xa 23), .ref (xa 24), .ref (xa 25), .ref (xa 26)])), ((ma 1), .inl (cy 1, 4, .inl fw)), ((ma 2), .inl (cy 1, 4, .inl (fun _ => 0))), ((ma 3), .inl (cy 2, 240, .inr (.inl (fun _ => 0)))), ((ma 5), .inl (cy 0, 1600, .inl (fun _ => 0))), ((ma 16), .inl (cy 1, 5, .inl (fun _ => 0))), ((ma 19), .inl (cy 1, 45, .inl (fun _ => 0))), ((ma 21), .inl (cy 1, 150, .inl (fun _ => 0))), ((ma 22), .inl (cy 1, 5, .inl (fun _ => 0))), ((ma 23), .inl (cy 1, 120, .inl (fun _ => 0))), ((ma 24), .inl (cy 1, 30, .inl (fun _ => 0))), ((ma 25), .inl (cy 3, 15, .inl (fun _ => 0))), ((ma 26), .inl (cy 1, 5, .inl (fun _ => 0))), ((ma 27), .inl (cy 1, 30, .inl (fun _ => 0))), ((ma 28), .inl (cy 3, 3, .inl (fun _ => 0)))]) (runV (As := [.int (xs 1), .int (xs 2), .int (xs 3), .int (xs 4), .int (xs 5)]) (rest := [.long (-2)]) ⟨hx, hb, hml, hown, hts⟩ (g_X10_pays l D cy ma (xs 1) (xs 2) (xs 3) (xs 4) (xs 5)  H.size) sV_L_160 hK (va_recv hK.1 hP (ci := 10) (q0 := 6) rfl rfl) (PW.of hP hD [6, 15, 13, 12] (by decide) rfl rfl) ⟨Nat.le_of_ble_eq_true rfl, Nat.le_of_ble_eq_true rfl⟩ rfl hl.1 rfl (Nat.le_of_ble_eq_true rfl) dL_law_1604 ⟨Nat.le_of_ble_eq_true rfl, Nat.le_of_ble_eq_true rfl⟩) hP hD hS hA [6, 15, 13, 12] [0, 1, 2, 3, 4, 5, 7, 8, 9, 10, 11, 14, 16, 17, 18, 19, 20, 21, 22, 23] rfl rfl (by decide) (by decide) (fun v u_12 H locs hv hP hD hS => ?_)
  have hP : va_P D vwCl [((xa 0), .inr (9, [.ref (xa 1), .ref (xa 2), .ref (xa 3), .ref (xa 4), .ref (xa 5), .ref (xa 6), .ref (xa 7), .ref (xa 8), .ref (xa 9), .int 0, .ref (xa 11), .null, .int 0, .int (-1)])), ((xa 1), .inl (cy 0, 1600, .inl (fun _ => 0))), ((xa 2), .inr (4, [.int 0, .int (-1), .ref (xa 30), .int 0, .int 0, .int 0, .int 0, .int 0, .ref (xa 31), .int 0, .int 0, .int 0])), ((xa 8), .inl (cy 4, 4, .inr (.inr (.inr (.inr (fun _ => none)))))), ((xa 9), .inl (cy 5, 3, .inr (.inr (.inr (.inr (fun _ => none)))))), ((xa 11), .inr (2, [.int 0, .int 0, .int 0, .int 0, .int 0, .int 0, .int 0, .int 0, .int 1, .int 10, .int 0, .int 0, .int 0, .int 0, .ref (xa 20), .ref (xa 21), .ref (xa 22), .ref (xa 23), .ref (xa 24), .ref (xa 25), .ref (xa 26)])), ((ma 1), .inl (cy 1, 4, .inl fw)), ((ma 2), .inl (cy 1, 4, .inl (fun _ => 0))), ((ma 3), .inl (cy 2, 240, .inr (.inl (fun _ => 0)))), ((ma 5), .inl (cy 0, 1600, .inl (fun _ => 0))), ((ma 16), .inl (cy 1, 5, .inl (fun _ => 0))), ((ma 19), .inl (cy 1, 45, .inl (fun _ => 0))), ((ma 21), .inl (cy 1, 150, .inl (fun _ => 0))), ((ma 22), .inl (cy 1, 5, .inl (fun _ => 0))), ((ma 23), .inl (cy 1, 120, .inl (fun _ => 0))), ((ma 24), .inl (cy 1, 30, .inl (fun _ => 0))), ((ma 25), .inl (cy 3, 15, .inl (fun _ => 0))), ((ma 26), .inl (cy 1, 5, .inl (fun _ => 0))), ((ma 27), .inl (cy 1, 30, .inl (fun _ => 0))), ((ma 28), .inl (cy 3, 3, .inl (fun _ => 0)))] H := hP
  have hD : va_D A [((xa 0), .inr (9, [.ref (xa 1), .ref (xa 2), .ref (xa 3), .ref (xa 4), .ref (xa 5), .ref (xa 6), .ref (xa 7), .ref (xa 8), .ref (xa 9), .int 0, .ref (xa 11), .null, .int 0, .int (-1)])), ((xa 1), .inl (cy 0, 1600, .inl (fun _ => 0))), ((xa 2), .inr (4, [.int 0, .int (-1), .ref (xa 30), .int 0, .int 0, .int 0, .int 0, .int 0, .ref (xa 31), .int 0, .int 0, .int 0])), ((xa 8), .inl (cy 4, 4, .inr (.inr (.inr (.inr (fun _ => none)))))), ((xa 9), .inl (cy 5, 3, .inr (.inr (.inr (.inr (fun _ => none)))))), ((xa 11), .inr (2, [.int 0, .int 0, .int 0, .int 0, .int 0, .int 0, .int 0, .int 0, .int 1, .int 10, .int 0, .int 0, .int 0, .int 0, .ref (xa 20), .ref (xa 21), .ref (xa 22), .ref (xa 23), .ref (xa 24), .ref (xa 25), .ref (xa 26)])), ((ma 1), .inl (cy 1, 4, .inl fw)), ((ma 2), .inl (cy 1, 4, .inl (fun _ => 0))), ((ma 3), .inl (cy 2, 240, .inr (.inl (fun _ => 0)))), ((ma 5), .inl (cy 0, 1600, .inl (fun _ => 0))), ((ma 16), .inl (cy 1, 5, .inl (fun _ => 0))), ((ma 19), .inl (cy 1, 45, .inl (fun _ => 0))), ((ma 21), .inl (cy 1, 150, .inl (fun _ => 0))), ((ma 22), .inl (cy 1, 5, .inl (fun _ => 0))), ((ma 23), .inl (cy 1, 120, .inl (fun _ => 0))), ((ma 24), .inl (cy 1, 30, .inl (fun _ => 0))), ((ma 25), .inl (cy 3, 15, .inl (fun _ => 0))), ((ma 26), .inl (cy 1, 5, .inl (fun _ => 0))), ((ma 27), .inl (cy 1, 30, .inl (fun _ => 0))), ((ma 28), .inl (cy 3, 3, .inl (fun _ => 0)))] := hD
  obtain ⟨r_13, rfl, hr_13⟩ := hv
  have er_13 := hr_13
  subst er_13
  refine W.eq (g2 := F0 m 1607 ls [.long (-2), .long (-2)]) rfl ?_
  refine W.lcmp hx hb dL_law_1607 ?_
  refine lv_topi (fun z_14 ez_14 => ?_)
  have ez_14 : z_14 = 0 := ez_14.trans (by decide)
  subst ez_14
  refine lv_if_eq (tgt := 2286) hx hb dL_law_1608 (by decide) (fun _ => ?_) (fun c_15 => absurd (by decide) c_15)
  exact law_end C0 hL7 hA2 hbA hS (lv_sub hl [0, 1, 2, 3] rfl) (Nat.le_of_ble_eq_true rfl) (Nat.le_of_ble_eq_true rfl)
set_option maxHeartbeats 4000000 in
set_option maxRecDepth 100000 in
theorem lc_34 {p : Program} {e : Env} {s : State} {m : MethodId} {below : List Frame} {meth : Method} {c : Code} {l : Launch} {b L : Nat} {xs : Nat → Int32} {A : Nat → Prop} (D : va_G) (cy : Nat → ClassId) (xa ma : Nat → Nat) (fw : Nat → Int32) (hw : ∀ k : Nat, k < 4 → fw k = -1) (hL7 : L = 7) (C0 : lw_At p s m meth c b L xs) (hK : KK D cy s) (hA : ∀ q : Nat, s.heap.size ≤ q → A q) (hA2 : ∀ q : Nat, A q → s.heap.size ≤ q) (hbA : ¬ A b) {H : Heap} {locs : List Loc} (hP : va_P D vwCl [((xa 0), .inr (9, [.ref (xa 1), .ref (xa 2), .ref (xa 3), .ref (xa 4), .ref (xa 5), .ref (xa 6), .ref (xa 7), .ref (xa 8), .ref (xa 9), .int 0, .ref (xa 11), .null, .int 0, .int (-1)])), ((xa 1), .inl (cy 0, 1600, .inl (fun _ => 0))), ((xa 2), .inr (4, [.int 0, .int (-1), .ref (xa 30), .int 0, .int 0, .int 0, .int 0, .int 0, .ref (xa 31), .int 0, .int 0, .int 0])), ((xa 8), .inl (cy 4, 4, .inr (.inr (.inr (.inr (fun _ => none)))))), ((xa 9), .inl (cy 5, 3, .inr (.inr (.inr (.inr (fun _ => none)))))), ((xa 11), .inr (2, [.int 0, .int 0, .int 0, .int 0, .int 0, .int 0, .int 0, .int 0, .int 1, .int 10, .int 0, .int 0, .int 0, .int 0, .ref (xa 20), .ref (xa 21), .ref (xa 22), .ref (xa 23), .ref (xa 24), .ref (xa 25), .ref (xa 26)])), ((ma 0), .inr (10, [.int 0, .ref (ma 1), .ref (ma 2), .ref (ma 3), .ref (ma 4), .ref (ma 5), .int 0, .int 0, .int 0, .int 0, .int 0, .long 0, .int 0, .int 0, .int 0, .int (-1), .ref (ma 16), .ref (ma 17), .ref (ma 18), .ref (ma 19), .ref (ma 20), .ref (ma 21), .ref (ma 22), .ref (ma 23), .ref (ma 24), .ref (ma 25), .ref (ma 26), .ref (ma 27), .ref (ma 28), .ref (ma 29), .ref (ma 30), .ref (ma 31), .ref (ma 32), .ref (ma 33), .ref (ma 34), .ref (ma 35), .ref (ma 36), .ref (ma 37), .ref (ma 38), .ref (ma 39), .ref (ma 40), .ref (ma 41), .long 0])), ((ma 1), .inl (cy 1, 4, .inl fw)), ((ma 2), .inl (cy 1, 4, .inl (fun _ => 0))), ((ma 3), .inl (cy 2, 240, .inr (.inl (fun _ => 0)))), ((ma 5), .inl (cy 0, 1600, .inl (fun _ => 0))), ((ma 16), .inl (cy 1, 5, .inl (fun _ => 0))), ((ma 17), .inl (cy 1, 20, .inl (fun _ => 0))), ((ma 18), .inl (cy 1, 5, .inl (fun _ => 0))), ((ma 19), .inl (cy 1, 45, .inl (fun _ => 0))), ((ma 20), .inl (cy 1, 5, .inl (fun _ => 0))), ((ma 21), .inl (cy 1, 150, .inl (fun _ => 0))), ((ma 22), .inl (cy 1, 5, .inl (fun _ => 0))), ((ma 23), .inl (cy 1, 120, .inl (fun _ => 0))), ((ma 24), .inl (cy 1, 30, .inl (fun _ => 0))), ((ma 25), .inl (cy 3, 15, .inl (fun _ => 0))), ((ma 26), .inl (cy 1, 5, .inl (fun _ => 0))), ((ma 27), .inl (cy 1, 30, .inl (fun _ => 0))), ((ma 28), .inl (cy 3, 3, .inl (fun _ => 0)))] H) (hD : va_D A [((xa 0), .inr (9, [.ref (xa 1), .ref (xa 2), .ref (xa 3), .ref (xa 4), .ref (xa 5), .ref (xa 6), .ref (xa 7), .ref (xa 8), .ref (xa 9), .int 0, .ref (xa 11), .null, .int 0, .int (-1)])), ((xa 1), .inl (cy 0, 1600, .inl (fun _ => 0))), ((xa 2), .inr (4, [.int 0, .int (-1), .ref (xa 30), .int 0, .int 0, .int 0, .int 0, .int 0, .ref (xa 31), .int 0, .int 0, .int 0])), ((xa 8), .inl (cy 4, 4, .inr (.inr (.inr (.inr (fun _ => none)))))), ((xa 9), .inl (cy 5, 3, .inr (.inr (.inr (.inr (fun _ => none)))))), ((xa 11), .inr (2, [.int 0, .int 0, .int 0, .int 0, .int 0, .int 0, .int 0, .int 0, .int 1, .int 10, .int 0, .int 0, .int 0, .int 0, .ref (xa 20), .ref (xa 21), .ref (xa 22), .ref (xa 23), .ref (xa 24), .ref (xa 25), .ref (xa 26)])), ((ma 0), .inr (10, [.int 0, .ref (ma 1), .ref (ma 2), .ref (ma 3), .ref (ma 4), .ref (ma 5), .int 0, .int 0, .int 0, .int 0, .int 0, .long 0, .int 0, .int 0, .int 0, .int (-1), .ref (ma 16), .ref (ma 17), .ref (ma 18), .ref (ma 19), .ref (ma 20), .ref (ma 21), .ref (ma 22), .ref (ma 23), .ref (ma 24), .ref (ma 25), .ref (ma 26), .ref (ma 27), .ref (ma 28), .ref (ma 29), .ref (ma 30), .ref (ma 31), .ref (ma 32), .ref (ma 33), .ref (ma 34), .ref (ma 35), .ref (ma 36), .ref (ma 37), .ref (ma 38), .ref (ma 39), .ref (ma 40), .ref (ma 41), .long 0])), ((ma 1), .inl (cy 1, 4, .inl fw)), ((ma 2), .inl (cy 1, 4, .inl (fun _ => 0))), ((ma 3), .inl (cy 2, 240, .inr (.inl (fun _ => 0)))), ((ma 5), .inl (cy 0, 1600, .inl (fun _ => 0))), ((ma 16), .inl (cy 1, 5, .inl (fun _ => 0))), ((ma 17), .inl (cy 1, 20, .inl (fun _ => 0))), ((ma 18), .inl (cy 1, 5, .inl (fun _ => 0))), ((ma 19), .inl (cy 1, 45, .inl (fun _ => 0))), ((ma 20), .inl (cy 1, 5, .inl (fun _ => 0))), ((ma 21), .inl (cy 1, 150, .inl (fun _ => 0))), ((ma 22), .inl (cy 1, 5, .inl (fun _ => 0))), ((ma 23), .inl (cy 1, 120, .inl (fun _ => 0))), ((ma 24), .inl (cy 1, 30, .inl (fun _ => 0))), ((ma 25), .inl (cy 3, 15, .inl (fun _ => 0))), ((ma 26), .inl (cy 1, 5, .inl (fun _ => 0))), ((ma 27), .inl (cy 1, 30, .inl (fun _ => 0))), ((ma 28), .inl (cy 3, 3, .inl (fun _ => 0)))]) (hS : va_S A s.heap H locs) {ls : Array Slot} (hl : lv_has ls 4 [(3, .int 0), (2, .ref (ma 0)), (1, .ref (xa 0)), (0, .ref b)]) : W p l e room_1 s m #[Value.ref b] below meth c H locs 82 108979 (lw_Z below #[Value.ref b] s) (F0 m 1613 ls []) := by
  obtain ⟨hx, hb, hr, hml, hown, hts, hX, hbl, hlocks, hgv⟩ := id C0
  have hown : s.vm.findClass RL = some m.cls := hown
  have hb : c.code = cL_law := hb
  have hts : ∀ w ∈ GW, w.before #[Value.ref b] s = true := fun w h => hts w (gw_tbl w h)
  refine lv_aload_n hx hb dL_law_1613 rfl (lv_at hl 2 rfl) ?_
  refine lv_aload_n hx hb dL_law_1614 rfl (lv_at hl 3 rfl) ?_
  refine lv_iload_n hx hb dL_law_1615 rfl (lv_at hl 0 rfl) ?_
  refine lv_iconst (v := 1) hx hb dL_law_1616 (by decide) ?_
  refine lv_iadd hx hb dL_law_1617 ?_
  refine lv_topi (fun z_1 ez_1 => ?_)
  have ez_1 : z_1 = 1 := ez_1.trans (by decide)
  subst ez_1
  refine va_sld (i := 1) hx hb hX hbl hbA hS (by subst hL7; exact vp_in_iff.mpr (by decide)) dL_law_1618 ?_
  refine W.eq (g2 := F0 m 1619 ls [.int (xs 1), .ref (xa 0)]) rfl ?_
  refine lv_aload_n hx hb dL_law_1619 rfl (lv_at hl 3 rfl) ?_
  refine lv_iload_n hx hb dL_law_1620 rfl (lv_at hl 0 rfl) ?_
  refine lv_iconst (v := 2) hx hb dL_law_1621 (by decide) ?_
  refine lv_iadd hx hb dL_law_1622 ?_
  refine lv_topi (fun z_2 ez_2 => ?_)
  have ez_2 : z_2 = 2 := ez_2.trans (by decide)
  subst ez_2
  refine va_sld (i := 2) hx hb hX hbl hbA hS (by subst hL7; exact vp_in_iff.mpr (by decide)) dL_law_1623 ?_
  refine W.eq (g2 := F0 m 1624 ls [.int (xs 2), .int (xs 1), .ref (xa 0)]) rfl ?_
  refine lv_aload_n hx hb dL_law_1624 rfl (lv_at hl 3 rfl) ?_
  refine lv_iload_n hx hb dL_law_1625 rfl (lv_at hl 0 rfl) ?_
  refine lv_iconst (v := 3) hx hb dL_law_1626 (by decide) ?_
  refine lv_iadd hx hb dL_law_1627 ?_
  refine lv_topi (fun z_3 ez_3 => ?_)
  have ez_3 : z_3 = 3 := ez_3.trans (by decide)
  subst ez_3
  refine va_sld (i := 3) hx hb hX hbl hbA hS (by subst hL7; exact vp_in_iff.mpr (by decide)) dL_law_1628 ?_
  refine W.eq (g2 := F0 m 1629 ls [.int (xs 3), .int (xs 2), .int (xs 1), .ref (xa 0)]) rfl ?_
  refine lv_aload_n hx hb dL_law_1629 rfl (lv_at hl 3 rfl) ?_
  refine lv_iload_n hx hb dL_law_1630 rfl (lv_at hl 0 rfl) ?_
  refine lv_iconst (v := 4) hx hb dL_law_1631 (by decide) ?_
  refine lv_iadd hx hb dL_law_1632 ?_
  refine lv_topi (fun z_4 ez_4 => ?_)
  have ez_4 : z_4 = 4 := ez_4.trans (by decide)
  subst ez_4
  refine va_sld (i := 4) hx hb hX hbl hbA hS (by subst hL7; exact vp_in_iff.mpr (by decide)) dL_law_1633 ?_
  refine W.eq (g2 := F0 m 1634 ls [.int (xs 4), .int (xs 3), .int (xs 2), .int (xs 1), .ref (xa 0)]) rfl ?_
  refine pu_calll (runV (As := [.int (xs 1), .int (xs 2), .int (xs 3), .int (xs 4)]) (rest := []) ⟨hx, hb, hml, hown, hts⟩ (f_X9_burnt l D cy xa (xs 1) (xs 2) (xs 3) (xs 4) ) sV_L_161 hK (va_recv hK.1 hP (ci := 9) (q0 := 0) rfl rfl) (hP.sub (ws' := [((xa 0), .inr (9, [.ref (xa 1), .ref (xa 2), .ref (xa 3), .ref (xa 4), .ref (xa 5), .ref (xa 6), .ref (xa 7), .ref (xa 8), .ref (xa 9), .int 0, .ref (xa 11), .null, .int 0, .int (-1)])), ((xa 11), .inr (2, [.int 0, .int 0, .int 0, .int 0, .int 0, .int 0, .int 0, .int 0, .int 1, .int 10, .int 0, .int 0, .int 0, .int 0, .ref (xa 20), .ref (xa 21), .ref (xa 22), .ref (xa 23), .ref (xa 24), .ref (xa 25), .ref (xa 26)]))]) [0, 5] rfl) ⟨Nat.le_of_ble_eq_true rfl, Nat.le_of_ble_eq_true rfl⟩ rfl hl.1 rfl (Nat.le_of_ble_eq_true rfl) dL_law_1634 ⟨Nat.le_of_ble_eq_true rfl, Nat.le_of_ble_eq_true rfl⟩) (fun r_5 hr_5 => ?_)
  have er_5 := hr_5
  subst er_5
  refine W.eq (g2 := F0 m 1637 ls [.long (-2)]) rfl ?_
  refine lv_aload_n hx hb dL_law_1637 rfl (lv_at hl 1 rfl) ?_
  refine lv_aload_n hx hb dL_law_1638 rfl (lv_at hl 3 rfl) ?_
  refine lv_iload_n hx hb dL_law_1639 rfl (lv_at hl 0 rfl) ?_
  refine lv_iconst (v := 1) hx hb dL_law_1640 (by decide) ?_
  refine lv_iadd hx hb dL_law_1641 ?_
  refine lv_topi (fun z_6 ez_6 => ?_)
  have ez_6 : z_6 = 1 := ez_6.trans (by decide)
  subst ez_6
  refine va_sld (i := 1) hx hb hX hbl hbA hS (by subst hL7; exact vp_in_iff.mpr (by decide)) dL_law_1642 ?_
  refine W.eq (g2 := F0 m 1643 ls [.int (xs 1), .ref (ma 0), .long (-2)]) rfl ?_
  refine lv_aload_n hx hb dL_law_1643 rfl (lv_at hl 3 rfl) ?_
  refine lv_iload_n hx hb dL_law_1644 rfl (lv_at hl 0 rfl) ?_
  refine lv_iconst (v := 2) hx hb dL_law_1645 (by decide) ?_
  refine lv_iadd hx hb dL_law_1646 ?_
  refine lv_topi (fun z_7 ez_7 => ?_)
  have ez_7 : z_7 = 2 := ez_7.trans (by decide)
  subst ez_7
  refine va_sld (i := 2) hx hb hX hbl hbA hS (by subst hL7; exact vp_in_iff.mpr (by decide)) dL_law_1647 ?_
  refine W.eq (g2 := F0 m 1648 ls [.int (xs 2), .int (xs 1), .ref (ma 0), .long (-2)]) rfl ?_
  refine lv_aload_n hx hb dL_law_1648 rfl (lv_at hl 3 rfl) ?_
  refine lv_iload_n hx hb dL_law_1649 rfl (lv_at hl 0 rfl) ?_
  refine lv_iconst (v := 3) hx hb dL_law_1650 (by decide) ?_
  refine lv_iadd hx hb dL_law_1651 ?_
  refine lv_topi (fun z_8 ez_8 => ?_)
  have ez_8 : z_8 = 3 := ez_8.trans (by decide)
  subst ez_8
  refine va_sld (i := 3) hx hb hX hbl hbA hS (by subst hL7; exact vp_in_iff.mpr (by decide)) dL_law_1652 ?_
  refine W.eq (g2 := F0 m 1653 ls [.int (xs 3), .int (xs 2), .int (xs 1), .ref (ma 0), .long (-2)]) rfl ?_
  refine lv_aload_n hx hb dL_law_1653 rfl (lv_at hl 3 rfl) ?_
  refine lv_iload_n hx hb dL_law_1654 rfl (lv_at hl 0 rfl) ?_
  refine lv_iconst (v := 4) hx hb dL_law_1655 (by decide) ?_
  refine lv_iadd hx hb dL_law_1656 ?_
  refine lv_topi (fun z_9 ez_9 => ?_)
  have ez_9 : z_9 = 4 := ez_9.trans (by decide)
  subst ez_9
  refine va_sld (i := 4) hx hb hX hbl hbA hS (by subst hL7; exact vp_in_iff.mpr (by decide)) dL_law_1657 ?_
  refine W.eq (g2 := F0 m 1658 ls [.int (xs 4), .int (xs 3), .int (xs 2), .int (xs 1), .ref (ma 0), .long (-2)]) rfl ?_
  refine fw_call (wc := [((ma 0), .inr (10, [.int 0, .ref (ma 1), .ref (ma 2), .ref (ma 3), .ref (ma 4), .ref (ma 5), .int 0, .int 0, .int 0, .int 0, .int 0, .long 0, .int 0, .int 0, .int 0, .int (-1), .ref (ma 16), .ref (ma 17), .ref (ma 18), .ref (ma 19), .ref (ma 20), .ref (ma 21), .ref (ma 22), .ref (ma 23), .ref (ma 24), .ref (ma 25), .ref (ma 26), .ref (ma 27), .ref (ma 28), .ref (ma 29), .ref (ma 30), .ref (ma 31), .ref (ma 32), .ref (ma 33), .ref (ma 34), .ref (ma 35), .ref (ma 36), .ref (ma 37), .ref (ma 38), .ref (ma 39), .ref (ma 40), .ref (ma 41), .long 0])), ((ma 20), .inl (cy 1, 5, .inl (fun _ => 0))), ((ma 18), .inl (cy 1, 5, .inl (fun _ => 0))), ((ma 17), .inl (cy 1, 20, .inl (fun _ => 0)))]) (wr := [((xa 0), .inr (9, [.ref (xa 1), .ref (xa 2), .ref (xa 3), .ref (xa 4), .ref (xa 5), .ref (xa 6), .ref (xa 7), .ref (xa 8), .ref (xa 9), .int 0, .ref (xa 11), .null, .int 0, .int (-1)])), ((xa 1), .inl (cy 0, 1600, .inl (fun _ => 0))), ((xa 2), .inr (4, [.int 0, .int (-1), .ref (xa 30), .int 0, .int 0, .int 0, .int 0, .int 0, .ref (xa 31), .int 0, .int 0, .int 0])), ((xa 8), .inl (cy 4, 4, .inr (.inr (.inr (.inr (fun _ => none)))))), ((xa 9), .inl (cy 5, 3, .inr (.inr (.inr (.inr (fun _ => none)))))), ((xa 11), .inr (2, [.int 0, .int 0, .int 0, .int 0, .int 0, .int 0, .int 0, .int 0, .int 1, .int 10, .int 0, .int 0, .int 0, .int 0, .ref (xa 20), .ref (xa 21), .ref (xa 22), .ref (xa 23), .ref (xa 24), .ref (xa 25), .ref (xa 26)])), ((ma 1), .inl (cy 1, 4, .inl fw)), ((ma 2), .inl (cy 1, 4, .inl (fun _ => 0))), ((ma 3), .inl (cy 2, 240, .inr (.inl (fun _ => 0)))), ((ma 5), .inl (cy 0, 1600, .inl (fun _ => 0))), ((ma 16), .inl (cy 1, 5, .inl (fun _ => 0))), ((ma 19), .inl (cy 1, 45, .inl (fun _ => 0))), ((ma 21), .inl (cy 1, 150, .inl (fun _ => 0))), ((ma 22), .inl (cy 1, 5, .inl (fun _ => 0))), ((ma 23), .inl (cy 1, 120, .inl (fun _ => 0))), ((ma 24), .inl (cy 1, 30, .inl (fun _ => 0))), ((ma 25), .inl (cy 3, 15, .inl (fun _ => 0))), ((ma 26), .inl (cy 1, 5, .inl (fun _ => 0))), ((ma 27), .inl (cy 1, 30, .inl (fun _ => 0))), ((ma 28), .inl (cy 3, 3, .inl (fun _ => 0)))]) (runV (As := [.int (xs 1), .int (xs 2), .int (xs 3), .int (xs 4)]) (rest := [.long (-2)]) ⟨hx, hb, hml, hown, hts⟩ (g_X10_burnt l D cy ma (xs 1) (xs 2) (xs 3) (xs 4)  H.size) sV_L_164 hK (va_recv hK.1 hP (ci := 10) (q0 := 6) rfl rfl) (PW.of hP hD [6, 15, 13, 12] (by decide) rfl rfl) ⟨Nat.le_of_ble_eq_true rfl, Nat.le_of_ble_eq_true rfl⟩ rfl hl.1 rfl (Nat.le_of_ble_eq_true rfl) dL_law_1658 ⟨Nat.le_of_ble_eq_true rfl, Nat.le_of_ble_eq_true rfl⟩) hP hD hS hA [6, 15, 13, 12] [0, 1, 2, 3, 4, 5, 7, 8, 9, 10, 11, 14, 16, 17, 18, 19, 20, 21, 22, 23] rfl rfl (by decide) (by decide) (fun v u_10 H locs hv hP hD hS => ?_)
  have hP : va_P D vwCl [((xa 0), .inr (9, [.ref (xa 1), .ref (xa 2), .ref (xa 3), .ref (xa 4), .ref (xa 5), .ref (xa 6), .ref (xa 7), .ref (xa 8), .ref (xa 9), .int 0, .ref (xa 11), .null, .int 0, .int (-1)])), ((xa 1), .inl (cy 0, 1600, .inl (fun _ => 0))), ((xa 2), .inr (4, [.int 0, .int (-1), .ref (xa 30), .int 0, .int 0, .int 0, .int 0, .int 0, .ref (xa 31), .int 0, .int 0, .int 0])), ((xa 8), .inl (cy 4, 4, .inr (.inr (.inr (.inr (fun _ => none)))))), ((xa 9), .inl (cy 5, 3, .inr (.inr (.inr (.inr (fun _ => none)))))), ((xa 11), .inr (2, [.int 0, .int 0, .int 0, .int 0, .int 0, .int 0, .int 0, .int 0, .int 1, .int 10, .int 0, .int 0, .int 0, .int 0, .ref (xa 20), .ref (xa 21), .ref (xa 22), .ref (xa 23), .ref (xa 24), .ref (xa 25), .ref (xa 26)])), ((ma 1), .inl (cy 1, 4, .inl fw)), ((ma 2), .inl (cy 1, 4, .inl (fun _ => 0))), ((ma 3), .inl (cy 2, 240, .inr (.inl (fun _ => 0)))), ((ma 5), .inl (cy 0, 1600, .inl (fun _ => 0))), ((ma 16), .inl (cy 1, 5, .inl (fun _ => 0))), ((ma 19), .inl (cy 1, 45, .inl (fun _ => 0))), ((ma 21), .inl (cy 1, 150, .inl (fun _ => 0))), ((ma 22), .inl (cy 1, 5, .inl (fun _ => 0))), ((ma 23), .inl (cy 1, 120, .inl (fun _ => 0))), ((ma 24), .inl (cy 1, 30, .inl (fun _ => 0))), ((ma 25), .inl (cy 3, 15, .inl (fun _ => 0))), ((ma 26), .inl (cy 1, 5, .inl (fun _ => 0))), ((ma 27), .inl (cy 1, 30, .inl (fun _ => 0))), ((ma 28), .inl (cy 3, 3, .inl (fun _ => 0)))] H := hP
  have hD : va_D A [((xa 0), .inr (9, [.ref (xa 1), .ref (xa 2), .ref (xa 3), .ref (xa 4), .ref (xa 5), .ref (xa 6), .ref (xa 7), .ref (xa 8), .ref (xa 9), .int 0, .ref (xa 11), .null, .int 0, .int (-1)])), ((xa 1), .inl (cy 0, 1600, .inl (fun _ => 0))), ((xa 2), .inr (4, [.int 0, .int (-1), .ref (xa 30), .int 0, .int 0, .int 0, .int 0, .int 0, .ref (xa 31), .int 0, .int 0, .int 0])), ((xa 8), .inl (cy 4, 4, .inr (.inr (.inr (.inr (fun _ => none)))))), ((xa 9), .inl (cy 5, 3, .inr (.inr (.inr (.inr (fun _ => none)))))), ((xa 11), .inr (2, [.int 0, .int 0, .int 0, .int 0, .int 0, .int 0, .int 0, .int 0, .int 1, .int 10, .int 0, .int 0, .int 0, .int 0, .ref (xa 20), .ref (xa 21), .ref (xa 22), .ref (xa 23), .ref (xa 24), .ref (xa 25), .ref (xa 26)])), ((ma 1), .inl (cy 1, 4, .inl fw)), ((ma 2), .inl (cy 1, 4, .inl (fun _ => 0))), ((ma 3), .inl (cy 2, 240, .inr (.inl (fun _ => 0)))), ((ma 5), .inl (cy 0, 1600, .inl (fun _ => 0))), ((ma 16), .inl (cy 1, 5, .inl (fun _ => 0))), ((ma 19), .inl (cy 1, 45, .inl (fun _ => 0))), ((ma 21), .inl (cy 1, 150, .inl (fun _ => 0))), ((ma 22), .inl (cy 1, 5, .inl (fun _ => 0))), ((ma 23), .inl (cy 1, 120, .inl (fun _ => 0))), ((ma 24), .inl (cy 1, 30, .inl (fun _ => 0))), ((ma 25), .inl (cy 3, 15, .inl (fun _ => 0))), ((ma 26), .inl (cy 1, 5, .inl (fun _ => 0))), ((ma 27), .inl (cy 1, 30, .inl (fun _ => 0))), ((ma 28), .inl (cy 3, 3, .inl (fun _ => 0)))] := hD
  obtain ⟨r_11, rfl, hr_11⟩ := hv
  have er_11 := hr_11
  subst er_11
  refine W.eq (g2 := F0 m 1661 ls [.long (-2), .long (-2)]) rfl ?_
  refine W.lcmp hx hb dL_law_1661 ?_
  refine lv_topi (fun z_12 ez_12 => ?_)
  have ez_12 : z_12 = 0 := ez_12.trans (by decide)
  subst ez_12
  refine lv_if_eq (tgt := 2286) hx hb dL_law_1662 (by decide) (fun _ => ?_) (fun c_13 => absurd (by decide) c_13)
  exact law_end C0 hL7 hA2 hbA hS (lv_sub hl [0, 1, 2, 3] rfl) (Nat.le_of_ble_eq_true rfl) (Nat.le_of_ble_eq_true rfl)
