theorem dL_law_1384 : decode cL_law 1384 = .ok (.aload_n 1, 1) := by decide +kernel
theorem dL_law_1385 : decode cL_law 1385 = .ok (.aload_n 0, 1) := by decide +kernel
theorem dL_law_1386 : decode cL_law 1386 = .ok (.iload_n 3, 1) := by decide +kernel
theorem dL_law_1387 : decode cL_law 1387 = .ok (.iconst 1, 1) := by decide +kernel
theorem dL_law_1388 : decode cL_law 1388 = .ok (.iadd, 1) := by decide +kernel
theorem dL_law_1389 : decode cL_law 1389 = .ok (.iaload, 1) := by decide +kernel
theorem dL_law_1390 : decode cL_law 1390 = .ok (.aload_n 0, 1) := by decide +kernel
theorem dL_law_1391 : decode cL_law 1391 = .ok (.iload_n 3, 1) := by decide +kernel
theorem dL_law_1392 : decode cL_law 1392 = .ok (.iconst 2, 1) := by decide +kernel
theorem dL_law_1393 : decode cL_law 1393 = .ok (.iadd, 1) := by decide +kernel
theorem dL_law_1394 : decode cL_law 1394 = .ok (.iaload, 1) := by decide +kernel
theorem dL_law_1395 : decode cL_law 1395 = .ok (.invokevirtual 143, 3) := by decide +kernel
theorem dL_law_1398 : decode cL_law 1398 = .ok (.pop, 1) := by decide +kernel
theorem dL_law_1399 : decode cL_law 1399 = .ok (.aload_n 2, 1) := by decide +kernel
theorem dL_law_1400 : decode cL_law 1400 = .ok (.aload_n 0, 1) := by decide +kernel
theorem dL_law_1401 : decode cL_law 1401 = .ok (.iload_n 3, 1) := by decide +kernel
theorem dL_law_1402 : decode cL_law 1402 = .ok (.iconst 1, 1) := by decide +kernel
theorem dL_law_1403 : decode cL_law 1403 = .ok (.iadd, 1) := by decide +kernel
theorem dL_law_1404 : decode cL_law 1404 = .ok (.iaload, 1) := by decide +kernel
theorem dL_law_1405 : decode cL_law 1405 = .ok (.aload_n 0, 1) := by decide +kernel
theorem dL_law_1406 : decode cL_law 1406 = .ok (.iload_n 3, 1) := by decide +kernel
theorem dL_law_1407 : decode cL_law 1407 = .ok (.iconst 2, 1) := by decide +kernel
theorem dL_law_1408 : decode cL_law 1408 = .ok (.iadd, 1) := by decide +kernel
theorem dL_law_1409 : decode cL_law 1409 = .ok (.iaload, 1) := by decide +kernel
theorem dL_law_1410 : decode cL_law 1410 = .ok (.invokevirtual 146, 3) := by decide +kernel
theorem dL_law_1413 : decode cL_law 1413 = .ok (.pop, 1) := by decide +kernel
theorem dL_law_1414 : decode cL_law 1414 = .ok (.goto 852, 3) := by decide +kernel
theorem dL_law_1417 : decode cL_law 1417 = .ok (.aload_n 1, 1) := by decide +kernel
theorem dL_law_1418 : decode cL_law 1418 = .ok (.aload_n 0, 1) := by decide +kernel
theorem dL_law_1419 : decode cL_law 1419 = .ok (.iload_n 3, 1) := by decide +kernel
theorem dL_law_1420 : decode cL_law 1420 = .ok (.iconst 1, 1) := by decide +kernel
theorem dL_law_1421 : decode cL_law 1421 = .ok (.iadd, 1) := by decide +kernel
theorem dL_law_1422 : decode cL_law 1422 = .ok (.iaload, 1) := by decide +kernel
theorem dL_law_1423 : decode cL_law 1423 = .ok (.aload_n 0, 1) := by decide +kernel
theorem dL_law_1424 : decode cL_law 1424 = .ok (.iload_n 3, 1) := by decide +kernel
theorem dL_law_1425 : decode cL_law 1425 = .ok (.iconst 2, 1) := by decide +kernel
theorem dL_law_1426 : decode cL_law 1426 = .ok (.iadd, 1) := by decide +kernel
theorem dL_law_1427 : decode cL_law 1427 = .ok (.iaload, 1) := by decide +kernel
theorem dL_law_1428 : decode cL_law 1428 = .ok (.aload_n 0, 1) := by decide +kernel
theorem dL_law_1429 : decode cL_law 1429 = .ok (.iload_n 3, 1) := by decide +kernel
theorem dL_law_1430 : decode cL_law 1430 = .ok (.iconst 3, 1) := by decide +kernel
theorem dL_law_1431 : decode cL_law 1431 = .ok (.iadd, 1) := by decide +kernel
theorem dL_law_1432 : decode cL_law 1432 = .ok (.iaload, 1) := by decide +kernel
theorem dL_law_1433 : decode cL_law 1433 = .ok (.aload_n 0, 1) := by decide +kernel
theorem dL_law_1434 : decode cL_law 1434 = .ok (.iload_n 3, 1) := by decide +kernel
theorem dL_law_1435 : decode cL_law 1435 = .ok (.iconst 4, 1) := by decide +kernel
theorem dL_law_1436 : decode cL_law 1436 = .ok (.iadd, 1) := by decide +kernel
theorem dL_law_1437 : decode cL_law 1437 = .ok (.iaload, 1) := by decide +kernel
theorem dL_law_1438 : decode cL_law 1438 = .ok (.invokevirtual 147, 3) := by decide +kernel
theorem dL_law_1441 : decode cL_law 1441 = .ok (.pop, 1) := by decide +kernel
theorem dL_law_1442 : decode cL_law 1442 = .ok (.aload_n 2, 1) := by decide +kernel
theorem dL_law_1443 : decode cL_law 1443 = .ok (.aload_n 0, 1) := by decide +kernel
theorem dL_law_1444 : decode cL_law 1444 = .ok (.iload_n 3, 1) := by decide +kernel
theorem dL_law_1445 : decode cL_law 1445 = .ok (.iconst 1, 1) := by decide +kernel
theorem dL_law_1446 : decode cL_law 1446 = .ok (.iadd, 1) := by decide +kernel
theorem dL_law_1447 : decode cL_law 1447 = .ok (.iaload, 1) := by decide +kernel
theorem dL_law_1448 : decode cL_law 1448 = .ok (.aload_n 0, 1) := by decide +kernel
theorem dL_law_1449 : decode cL_law 1449 = .ok (.iload_n 3, 1) := by decide +kernel
theorem dL_law_1450 : decode cL_law 1450 = .ok (.iconst 2, 1) := by decide +kernel
theorem dL_law_1451 : decode cL_law 1451 = .ok (.iadd, 1) := by decide +kernel
theorem dL_law_1452 : decode cL_law 1452 = .ok (.iaload, 1) := by decide +kernel
theorem dL_law_1453 : decode cL_law 1453 = .ok (.aload_n 0, 1) := by decide +kernel
theorem dL_law_1454 : decode cL_law 1454 = .ok (.iload_n 3, 1) := by decide +kernel
theorem dL_law_1455 : decode cL_law 1455 = .ok (.iconst 3, 1) := by decide +kernel
theorem dL_law_1456 : decode cL_law 1456 = .ok (.iadd, 1) := by decide +kernel
theorem dL_law_1457 : decode cL_law 1457 = .ok (.iaload, 1) := by decide +kernel
theorem dL_law_1458 : decode cL_law 1458 = .ok (.aload_n 0, 1) := by decide +kernel
theorem dL_law_1459 : decode cL_law 1459 = .ok (.iload_n 3, 1) := by decide +kernel
theorem dL_law_1460 : decode cL_law 1460 = .ok (.iconst 4, 1) := by decide +kernel
theorem dL_law_1461 : decode cL_law 1461 = .ok (.iadd, 1) := by decide +kernel
theorem dL_law_1462 : decode cL_law 1462 = .ok (.iaload, 1) := by decide +kernel
theorem dL_law_1463 : decode cL_law 1463 = .ok (.invokevirtual 151, 3) := by decide +kernel
theorem dL_law_1466 : decode cL_law 1466 = .ok (.pop, 1) := by decide +kernel
theorem dL_law_1467 : decode cL_law 1467 = .ok (.goto 799, 3) := by decide +kernel
theorem dL_law_1470 : decode cL_law 1470 = .ok (.aload_n 1, 1) := by decide +kernel
theorem dL_law_1471 : decode cL_law 1471 = .ok (.aload_n 0, 1) := by decide +kernel
theorem dL_law_1472 : decode cL_law 1472 = .ok (.iload_n 3, 1) := by decide +kernel
theorem dL_law_1473 : decode cL_law 1473 = .ok (.iconst 1, 1) := by decide +kernel
theorem dL_law_1474 : decode cL_law 1474 = .ok (.iadd, 1) := by decide +kernel
theorem dL_law_1475 : decode cL_law 1475 = .ok (.iaload, 1) := by decide +kernel
theorem dL_law_1476 : decode cL_law 1476 = .ok (.aload_n 0, 1) := by decide +kernel
theorem dL_law_1477 : decode cL_law 1477 = .ok (.iload_n 3, 1) := by decide +kernel
theorem dL_law_1478 : decode cL_law 1478 = .ok (.iconst 2, 1) := by decide +kernel
theorem dL_law_1479 : decode cL_law 1479 = .ok (.iadd, 1) := by decide +kernel
theorem dL_law_1480 : decode cL_law 1480 = .ok (.iaload, 1) := by decide +kernel
theorem dL_law_1481 : decode cL_law 1481 = .ok (.aload_n 0, 1) := by decide +kernel
theorem dL_law_1482 : decode cL_law 1482 = .ok (.iload_n 3, 1) := by decide +kernel
theorem dL_law_1483 : decode cL_law 1483 = .ok (.iconst 3, 1) := by decide +kernel
theorem dL_law_1484 : decode cL_law 1484 = .ok (.iadd, 1) := by decide +kernel
theorem dL_law_1485 : decode cL_law 1485 = .ok (.iaload, 1) := by decide +kernel
theorem dL_law_1486 : decode cL_law 1486 = .ok (.aload_n 0, 1) := by decide +kernel
theorem dL_law_1487 : decode cL_law 1487 = .ok (.iload_n 3, 1) := by decide +kernel
theorem dL_law_1488 : decode cL_law 1488 = .ok (.iconst 4, 1) := by decide +kernel
theorem dL_law_1489 : decode cL_law 1489 = .ok (.iadd, 1) := by decide +kernel
theorem dL_law_1490 : decode cL_law 1490 = .ok (.iaload, 1) := by decide +kernel
theorem dL_law_1491 : decode cL_law 1491 = .ok (.aload_n 0, 1) := by decide +kernel
theorem dL_law_1492 : decode cL_law 1492 = .ok (.iload_n 3, 1) := by decide +kernel
theorem dL_law_1493 : decode cL_law 1493 = .ok (.iconst 5, 1) := by decide +kernel
theorem dL_law_1494 : decode cL_law 1494 = .ok (.iadd, 1) := by decide +kernel
theorem dL_law_1495 : decode cL_law 1495 = .ok (.iaload, 1) := by decide +kernel
theorem dL_law_1496 : decode cL_law 1496 = .ok (.invokevirtual 152, 3) := by decide +kernel
theorem dL_law_1499 : decode cL_law 1499 = .ok (.pop, 1) := by decide +kernel
theorem dL_law_1500 : decode cL_law 1500 = .ok (.aload_n 2, 1) := by decide +kernel
theorem dL_law_1501 : decode cL_law 1501 = .ok (.aload_n 0, 1) := by decide +kernel
theorem dL_law_1502 : decode cL_law 1502 = .ok (.iload_n 3, 1) := by decide +kernel
theorem dL_law_1503 : decode cL_law 1503 = .ok (.iconst 1, 1) := by decide +kernel
theorem dL_law_1504 : decode cL_law 1504 = .ok (.iadd, 1) := by decide +kernel
theorem dL_law_1505 : decode cL_law 1505 = .ok (.iaload, 1) := by decide +kernel
theorem dL_law_1506 : decode cL_law 1506 = .ok (.aload_n 0, 1) := by decide +kernel
theorem dL_law_1507 : decode cL_law 1507 = .ok (.iload_n 3, 1) := by decide +kernel
theorem dL_law_1508 : decode cL_law 1508 = .ok (.iconst 2, 1) := by decide +kernel
theorem dL_law_1509 : decode cL_law 1509 = .ok (.iadd, 1) := by decide +kernel
theorem dL_law_1510 : decode cL_law 1510 = .ok (.iaload, 1) := by decide +kernel
theorem dL_law_1511 : decode cL_law 1511 = .ok (.aload_n 0, 1) := by decide +kernel
theorem dL_law_1512 : decode cL_law 1512 = .ok (.iload_n 3, 1) := by decide +kernel
theorem dL_law_1513 : decode cL_law 1513 = .ok (.iconst 3, 1) := by decide +kernel
theorem dL_law_1514 : decode cL_law 1514 = .ok (.iadd, 1) := by decide +kernel
theorem dL_law_1515 : decode cL_law 1515 = .ok (.iaload, 1) := by decide +kernel
theorem dL_law_1516 : decode cL_law 1516 = .ok (.aload_n 0, 1) := by decide +kernel
theorem dL_law_1517 : decode cL_law 1517 = .ok (.iload_n 3, 1) := by decide +kernel
theorem dL_law_1518 : decode cL_law 1518 = .ok (.iconst 4, 1) := by decide +kernel
theorem dL_law_1519 : decode cL_law 1519 = .ok (.iadd, 1) := by decide +kernel
theorem dL_law_1520 : decode cL_law 1520 = .ok (.iaload, 1) := by decide +kernel
theorem dL_law_1521 : decode cL_law 1521 = .ok (.aload_n 0, 1) := by decide +kernel
theorem dL_law_1522 : decode cL_law 1522 = .ok (.iload_n 3, 1) := by decide +kernel
theorem dL_law_1523 : decode cL_law 1523 = .ok (.iconst 5, 1) := by decide +kernel
theorem dL_law_1524 : decode cL_law 1524 = .ok (.iadd, 1) := by decide +kernel
theorem dL_law_1525 : decode cL_law 1525 = .ok (.iaload, 1) := by decide +kernel
theorem dL_law_1526 : decode cL_law 1526 = .ok (.invokevirtual 155, 3) := by decide +kernel
theorem dL_law_1529 : decode cL_law 1529 = .ok (.pop, 1) := by decide +kernel
theorem dL_law_1530 : decode cL_law 1530 = .ok (.goto 736, 3) := by decide +kernel
theorem dL_law_1533 : decode cL_law 1533 = .ok (.aload_n 1, 1) := by decide +kernel
theorem dL_law_1534 : decode cL_law 1534 = .ok (.aload_n 0, 1) := by decide +kernel
theorem dL_law_1535 : decode cL_law 1535 = .ok (.iload_n 3, 1) := by decide +kernel
theorem dL_law_1536 : decode cL_law 1536 = .ok (.iconst 1, 1) := by decide +kernel
theorem dL_law_1537 : decode cL_law 1537 = .ok (.iadd, 1) := by decide +kernel
theorem dL_law_1538 : decode cL_law 1538 = .ok (.iaload, 1) := by decide +kernel
theorem dL_law_1539 : decode cL_law 1539 = .ok (.aload_n 0, 1) := by decide +kernel
theorem dL_law_1540 : decode cL_law 1540 = .ok (.iload_n 3, 1) := by decide +kernel
theorem dL_law_1541 : decode cL_law 1541 = .ok (.iconst 2, 1) := by decide +kernel
theorem dL_law_1542 : decode cL_law 1542 = .ok (.iadd, 1) := by decide +kernel
theorem dL_law_1543 : decode cL_law 1543 = .ok (.iaload, 1) := by decide +kernel
theorem dL_law_1544 : decode cL_law 1544 = .ok (.aload_n 0, 1) := by decide +kernel
theorem dL_law_1545 : decode cL_law 1545 = .ok (.iload_n 3, 1) := by decide +kernel
theorem dL_law_1546 : decode cL_law 1546 = .ok (.iconst 3, 1) := by decide +kernel
theorem dL_law_1547 : decode cL_law 1547 = .ok (.iadd, 1) := by decide +kernel
theorem dL_law_1548 : decode cL_law 1548 = .ok (.iaload, 1) := by decide +kernel
theorem dL_law_1549 : decode cL_law 1549 = .ok (.aload_n 0, 1) := by decide +kernel
theorem dL_law_1550 : decode cL_law 1550 = .ok (.iload_n 3, 1) := by decide +kernel
theorem dL_law_1551 : decode cL_law 1551 = .ok (.iconst 4, 1) := by decide +kernel
theorem dL_law_1552 : decode cL_law 1552 = .ok (.iadd, 1) := by decide +kernel
theorem dL_law_1553 : decode cL_law 1553 = .ok (.iaload, 1) := by decide +kernel
theorem dL_law_1554 : decode cL_law 1554 = .ok (.aload_n 0, 1) := by decide +kernel
theorem dL_law_1555 : decode cL_law 1555 = .ok (.iload_n 3, 1) := by decide +kernel
theorem dL_law_1556 : decode cL_law 1556 = .ok (.iconst 5, 1) := by decide +kernel
theorem dL_law_1557 : decode cL_law 1557 = .ok (.iadd, 1) := by decide +kernel
theorem dL_law_1558 : decode cL_law 1558 = .ok (.iaload, 1) := by decide +kernel
theorem dL_law_1559 : decode cL_law 1559 = .ok (.invokevirtual 156, 3) := by decide +kernel
theorem dL_law_1562 : decode cL_law 1562 = .ok (.pop2, 1) := by decide +kernel
theorem dL_law_1563 : decode cL_law 1563 = .ok (.aload_n 2, 1) := by decide +kernel
theorem dL_law_1564 : decode cL_law 1564 = .ok (.aload_n 0, 1) := by decide +kernel
theorem dL_law_1565 : decode cL_law 1565 = .ok (.iload_n 3, 1) := by decide +kernel
theorem dL_law_1566 : decode cL_law 1566 = .ok (.iconst 1, 1) := by decide +kernel
theorem dL_law_1567 : decode cL_law 1567 = .ok (.iadd, 1) := by decide +kernel
theorem dL_law_1568 : decode cL_law 1568 = .ok (.iaload, 1) := by decide +kernel
theorem dL_law_1569 : decode cL_law 1569 = .ok (.aload_n 0, 1) := by decide +kernel
theorem dL_law_1570 : decode cL_law 1570 = .ok (.iload_n 3, 1) := by decide +kernel
theorem dL_law_1571 : decode cL_law 1571 = .ok (.iconst 2, 1) := by decide +kernel
theorem dL_law_1572 : decode cL_law 1572 = .ok (.iadd, 1) := by decide +kernel
theorem dL_law_1573 : decode cL_law 1573 = .ok (.iaload, 1) := by decide +kernel
theorem dL_law_1574 : decode cL_law 1574 = .ok (.aload_n 0, 1) := by decide +kernel
theorem dL_law_1575 : decode cL_law 1575 = .ok (.iload_n 3, 1) := by decide +kernel
theorem dL_law_1576 : decode cL_law 1576 = .ok (.iconst 3, 1) := by decide +kernel
theorem dL_law_1577 : decode cL_law 1577 = .ok (.iadd, 1) := by decide +kernel
theorem dL_law_1578 : decode cL_law 1578 = .ok (.iaload, 1) := by decide +kernel
theorem dL_law_1579 : decode cL_law 1579 = .ok (.aload_n 0, 1) := by decide +kernel
theorem dL_law_1580 : decode cL_law 1580 = .ok (.iload_n 3, 1) := by decide +kernel
theorem dL_law_1581 : decode cL_law 1581 = .ok (.iconst 4, 1) := by decide +kernel
theorem dL_law_1582 : decode cL_law 1582 = .ok (.iadd, 1) := by decide +kernel
theorem dL_law_1583 : decode cL_law 1583 = .ok (.iaload, 1) := by decide +kernel
theorem dL_law_1584 : decode cL_law 1584 = .ok (.aload_n 0, 1) := by decide +kernel
theorem dL_law_1585 : decode cL_law 1585 = .ok (.iload_n 3, 1) := by decide +kernel
theorem dL_law_1586 : decode cL_law 1586 = .ok (.iconst 5, 1) := by decide +kernel
theorem dL_law_1587 : decode cL_law 1587 = .ok (.iadd, 1) := by decide +kernel
theorem dL_law_1588 : decode cL_law 1588 = .ok (.iaload, 1) := by decide +kernel
theorem dL_law_1589 : decode cL_law 1589 = .ok (.invokevirtual 160, 3) := by decide +kernel
theorem dL_law_1592 : decode cL_law 1592 = .ok (.pop2, 1) := by decide +kernel
theorem dL_law_1593 : decode cL_law 1593 = .ok (.goto 673, 3) := by decide +kernel
theorem dL_law_1596 : decode cL_law 1596 = .ok (.aload_n 1, 1) := by decide +kernel
theorem dL_law_1597 : decode cL_law 1597 = .ok (.aload_n 0, 1) := by decide +kernel
theorem dL_law_1598 : decode cL_law 1598 = .ok (.iload_n 3, 1) := by decide +kernel
theorem dL_law_1599 : decode cL_law 1599 = .ok (.iconst 1, 1) := by decide +kernel
theorem dL_law_1600 : decode cL_law 1600 = .ok (.iadd, 1) := by decide +kernel
theorem dL_law_1601 : decode cL_law 1601 = .ok (.iaload, 1) := by decide +kernel
theorem dL_law_1602 : decode cL_law 1602 = .ok (.aload_n 0, 1) := by decide +kernel
theorem dL_law_1603 : decode cL_law 1603 = .ok (.iload_n 3, 1) := by decide +kernel
theorem dL_law_1604 : decode cL_law 1604 = .ok (.iconst 2, 1) := by decide +kernel
theorem dL_law_1605 : decode cL_law 1605 = .ok (.iadd, 1) := by decide +kernel
theorem dL_law_1606 : decode cL_law 1606 = .ok (.iaload, 1) := by decide +kernel
theorem dL_law_1607 : decode cL_law 1607 = .ok (.aload_n 0, 1) := by decide +kernel
theorem dL_law_1608 : decode cL_law 1608 = .ok (.iload_n 3, 1) := by decide +kernel
theorem dL_law_1609 : decode cL_law 1609 = .ok (.iconst 3, 1) := by decide +kernel
theorem dL_law_1610 : decode cL_law 1610 = .ok (.iadd, 1) := by decide +kernel
theorem dL_law_1611 : decode cL_law 1611 = .ok (.iaload, 1) := by decide +kernel
theorem dL_law_1612 : decode cL_law 1612 = .ok (.aload_n 0, 1) := by decide +kernel
theorem dL_law_1613 : decode cL_law 1613 = .ok (.iload_n 3, 1) := by decide +kernel
theorem dL_law_1614 : decode cL_law 1614 = .ok (.iconst 4, 1) := by decide +kernel
theorem dL_law_1615 : decode cL_law 1615 = .ok (.iadd, 1) := by decide +kernel
theorem dL_law_1616 : decode cL_law 1616 = .ok (.iaload, 1) := by decide +kernel
theorem dL_law_1617 : decode cL_law 1617 = .ok (.invokevirtual 161, 3) := by decide +kernel
theorem dL_law_1620 : decode cL_law 1620 = .ok (.pop2, 1) := by decide +kernel
theorem dL_law_1621 : decode cL_law 1621 = .ok (.aload_n 2, 1) := by decide +kernel
theorem dL_law_1622 : decode cL_law 1622 = .ok (.aload_n 0, 1) := by decide +kernel
theorem dL_law_1623 : decode cL_law 1623 = .ok (.iload_n 3, 1) := by decide +kernel
theorem dL_law_1624 : decode cL_law 1624 = .ok (.iconst 1, 1) := by decide +kernel
theorem dL_law_1625 : decode cL_law 1625 = .ok (.iadd, 1) := by decide +kernel
theorem dL_law_1626 : decode cL_law 1626 = .ok (.iaload, 1) := by decide +kernel
theorem dL_law_1627 : decode cL_law 1627 = .ok (.aload_n 0, 1) := by decide +kernel
theorem dL_law_1628 : decode cL_law 1628 = .ok (.iload_n 3, 1) := by decide +kernel
theorem dL_law_1629 : decode cL_law 1629 = .ok (.iconst 2, 1) := by decide +kernel
theorem dL_law_1630 : decode cL_law 1630 = .ok (.iadd, 1) := by decide +kernel
theorem dL_law_1631 : decode cL_law 1631 = .ok (.iaload, 1) := by decide +kernel
theorem dL_law_1632 : decode cL_law 1632 = .ok (.aload_n 0, 1) := by decide +kernel
theorem dL_law_1633 : decode cL_law 1633 = .ok (.iload_n 3, 1) := by decide +kernel
theorem dL_law_1634 : decode cL_law 1634 = .ok (.iconst 3, 1) := by decide +kernel
theorem dL_law_1635 : decode cL_law 1635 = .ok (.iadd, 1) := by decide +kernel
theorem dL_law_1636 : decode cL_law 1636 = .ok (.iaload, 1) := by decide +kernel
theorem dL_law_1637 : decode cL_law 1637 = .ok (.aload_n 0, 1) := by decide +kernel
theorem dL_law_1638 : decode cL_law 1638 = .ok (.iload_n 3, 1) := by decide +kernel
theorem dL_law_1639 : decode cL_law 1639 = .ok (.iconst 4, 1) := by decide +kernel
theorem dL_law_1640 : decode cL_law 1640 = .ok (.iadd, 1) := by decide +kernel
theorem dL_law_1641 : decode cL_law 1641 = .ok (.iaload, 1) := by decide +kernel
theorem dL_law_1642 : decode cL_law 1642 = .ok (.invokevirtual 164, 3) := by decide +kernel
theorem dL_law_1645 : decode cL_law 1645 = .ok (.pop2, 1) := by decide +kernel
theorem dL_law_1646 : decode cL_law 1646 = .ok (.goto 620, 3) := by decide +kernel
theorem dL_law_1649 : decode cL_law 1649 = .ok (.aload_n 1, 1) := by decide +kernel
theorem dL_law_1650 : decode cL_law 1650 = .ok (.aload_n 0, 1) := by decide +kernel
theorem dL_law_1651 : decode cL_law 1651 = .ok (.iload_n 3, 1) := by decide +kernel
theorem dL_law_1652 : decode cL_law 1652 = .ok (.iconst 1, 1) := by decide +kernel
theorem dL_law_1653 : decode cL_law 1653 = .ok (.iadd, 1) := by decide +kernel
theorem dL_law_1654 : decode cL_law 1654 = .ok (.iaload, 1) := by decide +kernel
theorem dL_law_1655 : decode cL_law 1655 = .ok (.aload_n 0, 1) := by decide +kernel
theorem dL_law_1656 : decode cL_law 1656 = .ok (.iload_n 3, 1) := by decide +kernel
theorem dL_law_1657 : decode cL_law 1657 = .ok (.iconst 2, 1) := by decide +kernel
theorem dL_law_1658 : decode cL_law 1658 = .ok (.iadd, 1) := by decide +kernel
theorem dL_law_1659 : decode cL_law 1659 = .ok (.iaload, 1) := by decide +kernel
theorem dL_law_1660 : decode cL_law 1660 = .ok (.aload_n 0, 1) := by decide +kernel
theorem dL_law_1661 : decode cL_law 1661 = .ok (.iload_n 3, 1) := by decide +kernel
theorem dL_law_1662 : decode cL_law 1662 = .ok (.iconst 3, 1) := by decide +kernel
theorem dL_law_1663 : decode cL_law 1663 = .ok (.iadd, 1) := by decide +kernel
theorem dL_law_1664 : decode cL_law 1664 = .ok (.iaload, 1) := by decide +kernel
theorem dL_law_1665 : decode cL_law 1665 = .ok (.aload_n 0, 1) := by decide +kernel
theorem dL_law_1666 : decode cL_law 1666 = .ok (.iload_n 3, 1) := by decide +kernel
theorem dL_law_1667 : decode cL_law 1667 = .ok (.iconst 4, 1) := by decide +kernel
theorem dL_law_1668 : decode cL_law 1668 = .ok (.iadd, 1) := by decide +kernel
theorem dL_law_1669 : decode cL_law 1669 = .ok (.iaload, 1) := by decide +kernel
theorem dL_law_1670 : decode cL_law 1670 = .ok (.invokevirtual 165, 3) := by decide +kernel
theorem dL_law_1673 : decode cL_law 1673 = .ok (.pop2, 1) := by decide +kernel
theorem dL_law_1674 : decode cL_law 1674 = .ok (.aload_n 2, 1) := by decide +kernel
theorem dL_law_1675 : decode cL_law 1675 = .ok (.aload_n 0, 1) := by decide +kernel
theorem dL_law_1676 : decode cL_law 1676 = .ok (.iload_n 3, 1) := by decide +kernel
theorem dL_law_1677 : decode cL_law 1677 = .ok (.iconst 1, 1) := by decide +kernel
theorem dL_law_1678 : decode cL_law 1678 = .ok (.iadd, 1) := by decide +kernel
theorem dL_law_1679 : decode cL_law 1679 = .ok (.iaload, 1) := by decide +kernel
theorem dL_law_1680 : decode cL_law 1680 = .ok (.aload_n 0, 1) := by decide +kernel
theorem dL_law_1681 : decode cL_law 1681 = .ok (.iload_n 3, 1) := by decide +kernel
theorem dL_law_1682 : decode cL_law 1682 = .ok (.iconst 2, 1) := by decide +kernel
theorem dL_law_1683 : decode cL_law 1683 = .ok (.iadd, 1) := by decide +kernel
theorem dL_law_1684 : decode cL_law 1684 = .ok (.iaload, 1) := by decide +kernel
theorem dL_law_1685 : decode cL_law 1685 = .ok (.aload_n 0, 1) := by decide +kernel
theorem dL_law_1686 : decode cL_law 1686 = .ok (.iload_n 3, 1) := by decide +kernel
theorem dL_law_1687 : decode cL_law 1687 = .ok (.iconst 3, 1) := by decide +kernel
theorem dL_law_1688 : decode cL_law 1688 = .ok (.iadd, 1) := by decide +kernel
theorem dL_law_1689 : decode cL_law 1689 = .ok (.iaload, 1) := by decide +kernel
theorem dL_law_1690 : decode cL_law 1690 = .ok (.aload_n 0, 1) := by decide +kernel
theorem dL_law_1691 : decode cL_law 1691 = .ok (.iload_n 3, 1) := by decide +kernel
theorem dL_law_1692 : decode cL_law 1692 = .ok (.iconst 4, 1) := by decide +kernel
theorem dL_law_1693 : decode cL_law 1693 = .ok (.iadd, 1) := by decide +kernel
theorem dL_law_1694 : decode cL_law 1694 = .ok (.iaload, 1) := by decide +kernel
theorem dL_law_1695 : decode cL_law 1695 = .ok (.invokevirtual 168, 3) := by decide +kernel
theorem dL_law_1698 : decode cL_law 1698 = .ok (.pop2, 1) := by decide +kernel
theorem dL_law_1699 : decode cL_law 1699 = .ok (.goto 567, 3) := by decide +kernel
theorem dL_law_1702 : decode cL_law 1702 = .ok (.aload_n 1, 1) := by decide +kernel
theorem dL_law_1703 : decode cL_law 1703 = .ok (.aload_n 0, 1) := by decide +kernel
theorem dL_law_1704 : decode cL_law 1704 = .ok (.iload_n 3, 1) := by decide +kernel
theorem dL_law_1705 : decode cL_law 1705 = .ok (.iconst 1, 1) := by decide +kernel
theorem dL_law_1706 : decode cL_law 1706 = .ok (.iadd, 1) := by decide +kernel
theorem dL_law_1707 : decode cL_law 1707 = .ok (.iaload, 1) := by decide +kernel
theorem dL_law_1708 : decode cL_law 1708 = .ok (.aload_n 0, 1) := by decide +kernel
theorem dL_law_1709 : decode cL_law 1709 = .ok (.iload_n 3, 1) := by decide +kernel
theorem dL_law_1710 : decode cL_law 1710 = .ok (.iconst 2, 1) := by decide +kernel
theorem dL_law_1711 : decode cL_law 1711 = .ok (.iadd, 1) := by decide +kernel
theorem dL_law_1712 : decode cL_law 1712 = .ok (.iaload, 1) := by decide +kernel
theorem dL_law_1713 : decode cL_law 1713 = .ok (.aload_n 0, 1) := by decide +kernel
theorem dL_law_1714 : decode cL_law 1714 = .ok (.iload_n 3, 1) := by decide +kernel
theorem dL_law_1715 : decode cL_law 1715 = .ok (.iconst 3, 1) := by decide +kernel
theorem dL_law_1716 : decode cL_law 1716 = .ok (.iadd, 1) := by decide +kernel
theorem dL_law_1717 : decode cL_law 1717 = .ok (.iaload, 1) := by decide +kernel
theorem dL_law_1718 : decode cL_law 1718 = .ok (.invokevirtual 169, 3) := by decide +kernel
theorem dL_law_1721 : decode cL_law 1721 = .ok (.pop, 1) := by decide +kernel
theorem dL_law_1722 : decode cL_law 1722 = .ok (.aload_n 2, 1) := by decide +kernel
theorem dL_law_1723 : decode cL_law 1723 = .ok (.aload_n 0, 1) := by decide +kernel
theorem dL_law_1724 : decode cL_law 1724 = .ok (.iload_n 3, 1) := by decide +kernel
theorem dL_law_1725 : decode cL_law 1725 = .ok (.iconst 1, 1) := by decide +kernel
theorem dL_law_1726 : decode cL_law 1726 = .ok (.iadd, 1) := by decide +kernel
theorem dL_law_1727 : decode cL_law 1727 = .ok (.iaload, 1) := by decide +kernel
theorem dL_law_1728 : decode cL_law 1728 = .ok (.aload_n 0, 1) := by decide +kernel
theorem dL_law_1729 : decode cL_law 1729 = .ok (.iload_n 3, 1) := by decide +kernel
theorem dL_law_1730 : decode cL_law 1730 = .ok (.iconst 2, 1) := by decide +kernel
theorem dL_law_1731 : decode cL_law 1731 = .ok (.iadd, 1) := by decide +kernel
theorem dL_law_1732 : decode cL_law 1732 = .ok (.iaload, 1) := by decide +kernel
theorem dL_law_1733 : decode cL_law 1733 = .ok (.aload_n 0, 1) := by decide +kernel
theorem dL_law_1734 : decode cL_law 1734 = .ok (.iload_n 3, 1) := by decide +kernel
theorem dL_law_1735 : decode cL_law 1735 = .ok (.iconst 3, 1) := by decide +kernel
theorem dL_law_1736 : decode cL_law 1736 = .ok (.iadd, 1) := by decide +kernel
theorem dL_law_1737 : decode cL_law 1737 = .ok (.iaload, 1) := by decide +kernel
theorem dL_law_1738 : decode cL_law 1738 = .ok (.invokevirtual 172, 3) := by decide +kernel
theorem dL_law_1741 : decode cL_law 1741 = .ok (.pop, 1) := by decide +kernel
theorem dL_law_1742 : decode cL_law 1742 = .ok (.goto 524, 3) := by decide +kernel
theorem dL_law_1745 : decode cL_law 1745 = .ok (.aload_n 1, 1) := by decide +kernel
theorem dL_law_1746 : decode cL_law 1746 = .ok (.aload_n 0, 1) := by decide +kernel
theorem dL_law_1747 : decode cL_law 1747 = .ok (.iload_n 3, 1) := by decide +kernel
theorem dL_law_1748 : decode cL_law 1748 = .ok (.iconst 1, 1) := by decide +kernel
theorem dL_law_1749 : decode cL_law 1749 = .ok (.iadd, 1) := by decide +kernel
theorem dL_law_1750 : decode cL_law 1750 = .ok (.iaload, 1) := by decide +kernel
theorem dL_law_1751 : decode cL_law 1751 = .ok (.invokevirtual 173, 3) := by decide +kernel
theorem dL_law_1754 : decode cL_law 1754 = .ok (.pop, 1) := by decide +kernel
theorem dL_law_1755 : decode cL_law 1755 = .ok (.aload_n 2, 1) := by decide +kernel
theorem dL_law_1756 : decode cL_law 1756 = .ok (.aload_n 0, 1) := by decide +kernel
theorem dL_law_1757 : decode cL_law 1757 = .ok (.iload_n 3, 1) := by decide +kernel
theorem dL_law_1758 : decode cL_law 1758 = .ok (.iconst 1, 1) := by decide +kernel
theorem dL_law_1759 : decode cL_law 1759 = .ok (.iadd, 1) := by decide +kernel
theorem dL_law_1760 : decode cL_law 1760 = .ok (.iaload, 1) := by decide +kernel
theorem dL_law_1761 : decode cL_law 1761 = .ok (.invokevirtual 176, 3) := by decide +kernel
theorem dL_law_1764 : decode cL_law 1764 = .ok (.pop, 1) := by decide +kernel
theorem dL_law_1765 : decode cL_law 1765 = .ok (.goto 501, 3) := by decide +kernel
theorem dL_law_1768 : decode cL_law 1768 = .ok (.aload_n 1, 1) := by decide +kernel
theorem dL_law_1769 : decode cL_law 1769 = .ok (.aload_n 0, 1) := by decide +kernel
theorem dL_law_1770 : decode cL_law 1770 = .ok (.iload_n 3, 1) := by decide +kernel
theorem dL_law_1771 : decode cL_law 1771 = .ok (.iconst 1, 1) := by decide +kernel
theorem dL_law_1772 : decode cL_law 1772 = .ok (.iadd, 1) := by decide +kernel
theorem dL_law_1773 : decode cL_law 1773 = .ok (.iaload, 1) := by decide +kernel
theorem dL_law_1774 : decode cL_law 1774 = .ok (.invokevirtual 177, 3) := by decide +kernel
theorem dL_law_1777 : decode cL_law 1777 = .ok (.pop, 1) := by decide +kernel
theorem dL_law_1778 : decode cL_law 1778 = .ok (.aload_n 2, 1) := by decide +kernel
theorem dL_law_1779 : decode cL_law 1779 = .ok (.aload_n 0, 1) := by decide +kernel
theorem dL_law_1780 : decode cL_law 1780 = .ok (.iload_n 3, 1) := by decide +kernel
theorem dL_law_1781 : decode cL_law 1781 = .ok (.iconst 1, 1) := by decide +kernel
theorem dL_law_1782 : decode cL_law 1782 = .ok (.iadd, 1) := by decide +kernel
theorem dL_law_1783 : decode cL_law 1783 = .ok (.iaload, 1) := by decide +kernel
theorem dL_law_1784 : decode cL_law 1784 = .ok (.invokevirtual 180, 3) := by decide +kernel
theorem dL_law_1787 : decode cL_law 1787 = .ok (.pop, 1) := by decide +kernel
theorem dL_law_1788 : decode cL_law 1788 = .ok (.goto 478, 3) := by decide +kernel
theorem dL_law_1791 : decode cL_law 1791 = .ok (.aload_n 1, 1) := by decide +kernel
theorem dL_law_1792 : decode cL_law 1792 = .ok (.aload_n 0, 1) := by decide +kernel
theorem dL_law_1793 : decode cL_law 1793 = .ok (.iload_n 3, 1) := by decide +kernel
theorem dL_law_1794 : decode cL_law 1794 = .ok (.iconst 1, 1) := by decide +kernel
theorem dL_law_1795 : decode cL_law 1795 = .ok (.iadd, 1) := by decide +kernel
theorem dL_law_1796 : decode cL_law 1796 = .ok (.iaload, 1) := by decide +kernel
theorem dL_law_1797 : decode cL_law 1797 = .ok (.invokevirtual 181, 3) := by decide +kernel
theorem dL_law_1800 : decode cL_law 1800 = .ok (.pop, 1) := by decide +kernel
theorem dL_law_1801 : decode cL_law 1801 = .ok (.aload_n 2, 1) := by decide +kernel
theorem dL_law_1802 : decode cL_law 1802 = .ok (.aload_n 0, 1) := by decide +kernel
theorem dL_law_1803 : decode cL_law 1803 = .ok (.iload_n 3, 1) := by decide +kernel
theorem dL_law_1804 : decode cL_law 1804 = .ok (.iconst 1, 1) := by decide +kernel
theorem dL_law_1805 : decode cL_law 1805 = .ok (.iadd, 1) := by decide +kernel
theorem dL_law_1806 : decode cL_law 1806 = .ok (.iaload, 1) := by decide +kernel
theorem dL_law_1807 : decode cL_law 1807 = .ok (.invokevirtual 184, 3) := by decide +kernel
theorem dL_law_1810 : decode cL_law 1810 = .ok (.pop, 1) := by decide +kernel
theorem dL_law_1811 : decode cL_law 1811 = .ok (.goto 455, 3) := by decide +kernel
theorem sV_L_143 : SiteV RL 143 yX9_fed cX9_fed 7 (some .int) 2 := ⟨ml_L_143, im_X9_fed, se_X9_fed, ini_X9, co_X9_fed, by decide +kernel⟩
theorem sV_L_146 : SiteV RL 146 yX10_fed cX10_fed 8 (some .int) 2 := ⟨ml_L_146, im_X10_fed, se_X10_fed, ini_X10, co_X10_fed, by decide +kernel⟩
theorem sV_L_147 : SiteV RL 147 yX9_given cX9_given 6 (some .int) 4 := ⟨ml_L_147, im_X9_given, se_X9_given, ini_X9, co_X9_given, by decide +kernel⟩
theorem sV_L_151 : SiteV RL 151 yX10_given cX10_given 6 (some .int) 4 := ⟨ml_L_151, im_X10_given, se_X10_given, ini_X10, co_X10_given, by decide +kernel⟩
theorem sV_L_152 : SiteV RL 152 yX9_asks cX9_asks 7 (some .int) 5 := ⟨ml_L_152, im_X9_asks, se_X9_asks, ini_X9, co_X9_asks, by decide +kernel⟩
theorem sV_L_155 : SiteV RL 155 yX10_asks_ cX10_asks_ 7 (some .int) 5 := ⟨ml_L_155, im_X10_asks_, se_X10_asks_, ini_X10, co_X10_asks_, by decide +kernel⟩
theorem sV_L_156 : SiteV RL 156 yX9_pays cX9_pays 9 (some .long) 5 := ⟨ml_L_156, im_X9_pays, se_X9_pays, ini_X9, co_X9_pays, by decide +kernel⟩
theorem sV_L_160 : SiteV RL 160 yX10_pays cX10_pays 9 (some .long) 5 := ⟨ml_L_160, im_X10_pays, se_X10_pays, ini_X10, co_X10_pays, by decide +kernel⟩
theorem sV_L_161 : SiteV RL 161 yX9_burnt cX9_burnt 5 (some .long) 4 := ⟨ml_L_161, im_X9_burnt, se_X9_burnt, ini_X9, co_X9_burnt, by decide +kernel⟩
theorem sV_L_164 : SiteV RL 164 yX10_burnt cX10_burnt 5 (some .long) 4 := ⟨ml_L_164, im_X10_burnt, se_X10_burnt, ini_X10, co_X10_burnt, by decide +kernel⟩
theorem sV_L_165 : SiteV RL 165 yX9_spread cX9_spread 5 (some .long) 4 := ⟨ml_L_165, im_X9_spread, se_X9_spread, ini_X9, co_X9_spread, by decide +kernel⟩
theorem sV_L_168 : SiteV RL 168 yX10_spread cX10_spread 5 (some .long) 4 := ⟨ml_L_168, im_X10_spread, se_X10_spread, ini_X10, co_X10_spread, by decide +kernel⟩
theorem sV_L_169 : SiteV RL 169 yX9_bear cX9_bear 10 (some .int) 3 := ⟨ml_L_169, im_X9_bear, se_X9_bear, ini_X9, co_X9_bear, by decide +kernel⟩
theorem sV_L_172 : SiteV RL 172 yX10_bear cX10_bear 10 (some .int) 3 := ⟨ml_L_172, im_X10_bear, se_X10_bear, ini_X10, co_X10_bear, by decide +kernel⟩
theorem sV_L_173 : SiteV RL 173 yX9_run cX9_run 3 (some .int) 1 := ⟨ml_L_173, im_X9_run, se_X9_run, ini_X9, co_X9_run, by decide +kernel⟩
theorem sV_L_176 : SiteV RL 176 yX10_run cX10_run 3 (some .int) 1 := ⟨ml_L_176, im_X10_run, se_X10_run, ini_X10, co_X10_run, by decide +kernel⟩
theorem sV_L_177 : SiteV RL 177 yX9_told cX9_told 3 (some .int) 1 := ⟨ml_L_177, im_X9_told, se_X9_told, ini_X9, co_X9_told, by decide +kernel⟩
theorem sV_L_180 : SiteV RL 180 yX10_told cX10_told 5 (some .int) 1 := ⟨ml_L_180, im_X10_told, se_X10_told, ini_X10, co_X10_told, by decide +kernel⟩
theorem sV_L_181 : SiteV RL 181 yX9_shut cX9_shut 2 (some .int) 1 := ⟨ml_L_181, im_X9_shut, se_X9_shut, ini_X9, co_X9_shut, by decide +kernel⟩
theorem sV_L_184 : SiteV RL 184 yX10_shut cX10_shut 2 (some .int) 1 := ⟨ml_L_184, im_X10_shut, se_X10_shut, ini_X10, co_X10_shut, by decide +kernel⟩
set_option maxHeartbeats 4000000 in
set_option maxRecDepth 100000 in
theorem lc_30 {p : Program} {e : Env} {s : State} {m : MethodId} {below : List Frame} {meth : Method} {c : Code} {l : Launch} {b L : Nat} {xs : Nat → Int32} (D : va_G) (cy : Nat → ClassId) (adK adV : Nat → Nat) (base xo mo : Nat) (C0 : lw_At p s m meth c b L xs) (hK : KK D cy s) (hSS : SS adK adV base s s.heap) (hZ : base ≤ s.heap.size) (hZ2 : s.heap.size ≤ base) (hbA : ¬ RA base b) (hLs : L ≤ 3584) (τ : Nat → Nat) (G : Gh) (i : Int32) (hi0 : 0 ≤ i.toInt) (hi7 : i.toInt + 7 ≤ L) (hLI : LI τ G xo mo) {H : Heap} {locs : List Loc} (hT : TY D cy base τ G H) (hS : va_S (RA base) s.heap H locs) {ls : Array Slot} (hl : lv_has ls 4 [(3, .int i), (2, .ref mo), (1, .ref xo), (0, .ref b)]) {cells slots : Nat} (hroom : cells + 100 ≤ room_1.cells ∧ slots + 1000 ≤ room_1.slots) (kk : ∀ (τ1 : Nat → Nat) (G1 : Gh) (H1 : Heap) (locs1 : List Loc) (ls1 : Array Slot), LI τ1 G1 xo mo → TY D cy base τ1 G1 H1 → va_S (RA base) s.heap H1 locs1 → lv_has ls1 4 [(3, .int i), (2, .ref mo), (1, .ref xo), (0, .ref b)] → W p l e room_1 s m #[Value.ref b] below meth c H1 locs1 (cells + 10) (slots + 200) (lw_Z below #[Value.ref b] s) (F0 m 2266 ls1 [])) : W p l e room_1 s m #[Value.ref b] below meth c H locs cells slots (lw_Z below #[Value.ref b] s) (F0 m 1384 ls []) := by
  obtain ⟨hx, hb, hr, hml, hown, hts, hX, hbl, hlocks, hgv⟩ := id C0
  have hown : s.vm.findClass RL = some m.cls := hown
  have hb : c.code = cL_law := hb
  have hts : ∀ w ∈ GW, w.before #[Value.ref b] s = true := fun w h => hts w (gw_tbl w h)
  have h_xo := hLI.1
  have h_mo := hLI.2.1
  have hF : Fr τ [1, 2, 3, 4, 6, 7, 11, 20, 25, 26, 27, 28, 29, 30, 31, 32, 33, 34, 35, 36, 37, 38, 39, 40, 51, 52, 53, 54, 55, 66, 67, 68, 69, 70, 71, 72, 73, 74, 75, 76, 77, 78, 79, 80, 81, 82, 83, 84, 85, 86, 87, 88, 89, 90, 91, 1001, 1002, 1004, 1023, 1024] G G := Fr.rf
  obtain ⟨w1, ew1⟩ : ∃ y : Int32, y = xs (i.toInt.toNat + 1) := ⟨_, rfl⟩
  obtain ⟨w2, ew2⟩ : ∃ y : Int32, y = xs (i.toInt.toNat + 2) := ⟨_, rfl⟩
  refine lv_aload_n hx hb dL_law_1384 rfl (lv_at hl 2 rfl) ?_
  refine lv_aload_n hx hb dL_law_1385 rfl (lv_at hl 3 rfl) ?_
  refine lv_iload_n hx hb dL_law_1386 rfl (lv_at hl 0 rfl) ?_
  refine lv_iconst (v := 1) hx hb dL_law_1387 (by decide) ?_
  refine lv_iadd hx hb dL_law_1388 ?_
  refine lv_topi (fun z_1 ez_1 => ?_)
  have tz_1 : z_1.toInt = i.toInt + 1 := add_t ez_1 (show -2147483648 ≤ i.toInt + 1 by omega) (show i.toInt + 1 < 2147483648 by omega)
  refine va_sld (i := z_1) hx hb hX hbl hbA hS (vp_in_iff.mpr ⟨by omega, by omega⟩) dL_law_1389 ?_
  refine W.eq (g2 := F0 m 1390 ls [.int w1, .ref xo]) (by rw [ew1, show z_1.toNatClampNeg = i.toInt.toNat + 1 from (show z_1.toInt.toNat = _ by omega)]) ?_
  refine lv_aload_n hx hb dL_law_1390 rfl (lv_at hl 3 rfl) ?_
  refine lv_iload_n hx hb dL_law_1391 rfl (lv_at hl 0 rfl) ?_
  refine lv_iconst (v := 2) hx hb dL_law_1392 (by decide) ?_
  refine lv_iadd hx hb dL_law_1393 ?_
  refine lv_topi (fun z_2 ez_2 => ?_)
  have tz_2 : z_2.toInt = i.toInt + 2 := add_t ez_2 (show -2147483648 ≤ i.toInt + 2 by omega) (show i.toInt + 2 < 2147483648 by omega)
  refine va_sld (i := z_2) hx hb hX hbl hbA hS (vp_in_iff.mpr ⟨by omega, by omega⟩) dL_law_1394 ?_
  refine W.eq (g2 := F0 m 1395 ls [.int w2, .int w1, .ref xo]) (by rw [ew2, show z_2.toNatClampNeg = i.toInt.toNat + 2 from (show z_2.toInt.toNat = _ by omega)]) ?_
  refine t_calli (runV (As := [.int w1, .int w2]) (rest := []) ⟨hx, hb, hml, hown, hts⟩ (t_X9_fed l D cy base τ G xo h_xo w1 w2) sV_L_143 hK (t_recv cf_1 hK hT h_xo) ⟨Nat.le_trans hZ hS.1, hT⟩ ⟨Nat.le_of_ble_eq_true rfl, Nat.le_of_ble_eq_true rfl⟩ rfl hl.1 rfl (Nat.le_of_ble_eq_true rfl) dL_law_1395 ⟨by have q9 := hroom.1; omega, by have q9 := hroom.2; omega⟩) hS (fun r_3 G_3 H locs hF_3 hr_3 hT hS => ?_)
  have hF := hF.tr hF_3 rfl
  have hLI := hLI.fr EX.rf hF_3 rfl
  refine lv_pop hx hb dL_law_1398 rfl ?_
  refine lv_aload_n hx hb dL_law_1399 rfl (lv_at hl 1 rfl) ?_
  refine lv_aload_n hx hb dL_law_1400 rfl (lv_at hl 3 rfl) ?_
  refine lv_iload_n hx hb dL_law_1401 rfl (lv_at hl 0 rfl) ?_
  refine lv_iconst (v := 1) hx hb dL_law_1402 (by decide) ?_
  refine lv_iadd hx hb dL_law_1403 ?_
  refine lv_topi (fun z_4 ez_4 => ?_)
  have w_5 : z_1 = z_4 := ez_1.trans ez_4.symm
  subst w_5
  refine va_sld (i := z_1) hx hb hX hbl hbA hS (vp_in_iff.mpr ⟨by omega, by omega⟩) dL_law_1404 ?_
  refine W.eq (g2 := F0 m 1405 ls [.int w1, .ref mo]) (by rw [ew1, show z_1.toNatClampNeg = i.toInt.toNat + 1 from (show z_1.toInt.toNat = _ by omega)]) ?_
  refine lv_aload_n hx hb dL_law_1405 rfl (lv_at hl 3 rfl) ?_
  refine lv_iload_n hx hb dL_law_1406 rfl (lv_at hl 0 rfl) ?_
  refine lv_iconst (v := 2) hx hb dL_law_1407 (by decide) ?_
  refine lv_iadd hx hb dL_law_1408 ?_
  refine lv_topi (fun z_6 ez_6 => ?_)
  have w_7 : z_2 = z_6 := ez_2.trans ez_6.symm
  subst w_7
  refine va_sld (i := z_2) hx hb hX hbl hbA hS (vp_in_iff.mpr ⟨by omega, by omega⟩) dL_law_1409 ?_
  refine W.eq (g2 := F0 m 1410 ls [.int w2, .int w1, .ref mo]) (by rw [ew2, show z_2.toNatClampNeg = i.toInt.toNat + 2 from (show z_2.toInt.toNat = _ by omega)]) ?_
  refine t_calli (runV (As := [.int w1, .int w2]) (rest := []) ⟨hx, hb, hml, hown, hts⟩ (t_X10_fed l D cy base τ G_3 mo h_mo w1 w2) sV_L_146 hK (t_recv cf_11 hK hT h_mo) ⟨Nat.le_trans hZ hS.1, hT⟩ ⟨Nat.le_of_ble_eq_true rfl, Nat.le_of_ble_eq_true rfl⟩ rfl hl.1 rfl (Nat.le_of_ble_eq_true rfl) dL_law_1410 ⟨by have q9 := hroom.1; omega, by have q9 := hroom.2; omega⟩) hS (fun r_8 G_8 H locs hF_8 hr_8 hT hS => ?_)
  have hF := hF.tr hF_8 rfl
  have hLI := hLI.fr EX.rf hF_8 rfl
  refine lv_pop hx hb dL_law_1413 rfl ?_
  refine lv_goto (tgt := 2266) hx hb dL_law_1414 (by decide) ?_
  exact W.widen (k := cells + 10) (n := slots + 200) (by omega) (by omega) (kk τ G_8 H locs ls hLI hT hS (lv_sub hl [0, 1, 2, 3] rfl))
set_option maxHeartbeats 4000000 in
set_option maxRecDepth 100000 in
theorem lc_31 {p : Program} {e : Env} {s : State} {m : MethodId} {below : List Frame} {meth : Method} {c : Code} {l : Launch} {b L : Nat} {xs : Nat → Int32} (D : va_G) (cy : Nat → ClassId) (adK adV : Nat → Nat) (base xo mo : Nat) (C0 : lw_At p s m meth c b L xs) (hK : KK D cy s) (hSS : SS adK adV base s s.heap) (hZ : base ≤ s.heap.size) (hZ2 : s.heap.size ≤ base) (hbA : ¬ RA base b) (hLs : L ≤ 3584) (τ : Nat → Nat) (G : Gh) (i : Int32) (hi0 : 0 ≤ i.toInt) (hi7 : i.toInt + 7 ≤ L) (hLI : LI τ G xo mo) {H : Heap} {locs : List Loc} (hT : TY D cy base τ G H) (hS : va_S (RA base) s.heap H locs) {ls : Array Slot} (hl : lv_has ls 4 [(3, .int i), (2, .ref mo), (1, .ref xo), (0, .ref b)]) {cells slots : Nat} (hroom : cells + 100 ≤ room_1.cells ∧ slots + 1000 ≤ room_1.slots) (kk : ∀ (τ1 : Nat → Nat) (G1 : Gh) (H1 : Heap) (locs1 : List Loc) (ls1 : Array Slot), LI τ1 G1 xo mo → TY D cy base τ1 G1 H1 → va_S (RA base) s.heap H1 locs1 → lv_has ls1 4 [(3, .int i), (2, .ref mo), (1, .ref xo), (0, .ref b)] → W p l e room_1 s m #[Value.ref b] below meth c H1 locs1 (cells + 10) (slots + 200) (lw_Z below #[Value.ref b] s) (F0 m 2266 ls1 [])) : W p l e room_1 s m #[Value.ref b] below meth c H locs cells slots (lw_Z below #[Value.ref b] s) (F0 m 1417 ls []) := by
  obtain ⟨hx, hb, hr, hml, hown, hts, hX, hbl, hlocks, hgv⟩ := id C0
  have hown : s.vm.findClass RL = some m.cls := hown
  have hb : c.code = cL_law := hb
  have hts : ∀ w ∈ GW, w.before #[Value.ref b] s = true := fun w h => hts w (gw_tbl w h)
  have h_xo := hLI.1
  have h_mo := hLI.2.1
  have hF : Fr τ [1, 2, 3, 4, 6, 7, 11, 20, 25, 26, 27, 28, 29, 30, 31, 32, 33, 34, 35, 36, 37, 38, 39, 40, 51, 52, 53, 54, 55, 66, 67, 68, 69, 70, 71, 72, 73, 74, 75, 76, 77, 78, 79, 80, 81, 82, 83, 84, 85, 86, 87, 88, 89, 90, 91, 1001, 1002, 1004, 1023, 1024] G G := Fr.rf
  obtain ⟨w1, ew1⟩ : ∃ y : Int32, y = xs (i.toInt.toNat + 1) := ⟨_, rfl⟩
  obtain ⟨w2, ew2⟩ : ∃ y : Int32, y = xs (i.toInt.toNat + 2) := ⟨_, rfl⟩
  obtain ⟨w3, ew3⟩ : ∃ y : Int32, y = xs (i.toInt.toNat + 3) := ⟨_, rfl⟩
  obtain ⟨w4, ew4⟩ : ∃ y : Int32, y = xs (i.toInt.toNat + 4) := ⟨_, rfl⟩
  refine lv_aload_n hx hb dL_law_1417 rfl (lv_at hl 2 rfl) ?_
  refine lv_aload_n hx hb dL_law_1418 rfl (lv_at hl 3 rfl) ?_
  refine lv_iload_n hx hb dL_law_1419 rfl (lv_at hl 0 rfl) ?_
  refine lv_iconst (v := 1) hx hb dL_law_1420 (by decide) ?_
  refine lv_iadd hx hb dL_law_1421 ?_
  refine lv_topi (fun z_1 ez_1 => ?_)
  have tz_1 : z_1.toInt = i.toInt + 1 := add_t ez_1 (show -2147483648 ≤ i.toInt + 1 by omega) (show i.toInt + 1 < 2147483648 by omega)
  refine va_sld (i := z_1) hx hb hX hbl hbA hS (vp_in_iff.mpr ⟨by omega, by omega⟩) dL_law_1422 ?_
  refine W.eq (g2 := F0 m 1423 ls [.int w1, .ref xo]) (by rw [ew1, show z_1.toNatClampNeg = i.toInt.toNat + 1 from (show z_1.toInt.toNat = _ by omega)]) ?_
  refine lv_aload_n hx hb dL_law_1423 rfl (lv_at hl 3 rfl) ?_
  refine lv_iload_n hx hb dL_law_1424 rfl (lv_at hl 0 rfl) ?_
  refine lv_iconst (v := 2) hx hb dL_law_1425 (by decide) ?_
  refine lv_iadd hx hb dL_law_1426 ?_
  refine lv_topi (fun z_2 ez_2 => ?_)
  have tz_2 : z_2.toInt = i.toInt + 2 := add_t ez_2 (show -2147483648 ≤ i.toInt + 2 by omega) (show i.toInt + 2 < 2147483648 by omega)
  refine va_sld (i := z_2) hx hb hX hbl hbA hS (vp_in_iff.mpr ⟨by omega, by omega⟩) dL_law_1427 ?_
  refine W.eq (g2 := F0 m 1428 ls [.int w2, .int w1, .ref xo]) (by rw [ew2, show z_2.toNatClampNeg = i.toInt.toNat + 2 from (show z_2.toInt.toNat = _ by omega)]) ?_
  refine lv_aload_n hx hb dL_law_1428 rfl (lv_at hl 3 rfl) ?_
  refine lv_iload_n hx hb dL_law_1429 rfl (lv_at hl 0 rfl) ?_
  refine lv_iconst (v := 3) hx hb dL_law_1430 (by decide) ?_
  refine lv_iadd hx hb dL_law_1431 ?_
  refine lv_topi (fun z_3 ez_3 => ?_)
  have tz_3 : z_3.toInt = i.toInt + 3 := add_t ez_3 (show -2147483648 ≤ i.toInt + 3 by omega) (show i.toInt + 3 < 2147483648 by omega)
  refine va_sld (i := z_3) hx hb hX hbl hbA hS (vp_in_iff.mpr ⟨by omega, by omega⟩) dL_law_1432 ?_
  refine W.eq (g2 := F0 m 1433 ls [.int w3, .int w2, .int w1, .ref xo]) (by rw [ew3, show z_3.toNatClampNeg = i.toInt.toNat + 3 from (show z_3.toInt.toNat = _ by omega)]) ?_
  refine lv_aload_n hx hb dL_law_1433 rfl (lv_at hl 3 rfl) ?_
  refine lv_iload_n hx hb dL_law_1434 rfl (lv_at hl 0 rfl) ?_
  refine lv_iconst (v := 4) hx hb dL_law_1435 (by decide) ?_
  refine lv_iadd hx hb dL_law_1436 ?_
  refine lv_topi (fun z_4 ez_4 => ?_)
  have tz_4 : z_4.toInt = i.toInt + 4 := add_t ez_4 (show -2147483648 ≤ i.toInt + 4 by omega) (show i.toInt + 4 < 2147483648 by omega)
  refine va_sld (i := z_4) hx hb hX hbl hbA hS (vp_in_iff.mpr ⟨by omega, by omega⟩) dL_law_1437 ?_
  refine W.eq (g2 := F0 m 1438 ls [.int w4, .int w3, .int w2, .int w1, .ref xo]) (by rw [ew4, show z_4.toNatClampNeg = i.toInt.toNat + 4 from (show z_4.toInt.toNat = _ by omega)]) ?_
  refine t_calli (runV (As := [.int w1, .int w2, .int w3, .int w4]) (rest := []) ⟨hx, hb, hml, hown, hts⟩ (t_X9_given l D cy base τ G xo h_xo w1 w2 w3 w4) sV_L_147 hK (t_recv cf_1 hK hT h_xo) ⟨Nat.le_trans hZ hS.1, hT⟩ ⟨Nat.le_of_ble_eq_true rfl, Nat.le_of_ble_eq_true rfl⟩ rfl hl.1 rfl (Nat.le_of_ble_eq_true rfl) dL_law_1438 ⟨by have q9 := hroom.1; omega, by have q9 := hroom.2; omega⟩) hS (fun r_5 G_5 H locs hF_5 hr_5 hT hS => ?_)
  have hF := hF.tr hF_5 rfl
  have hLI := hLI.fr EX.rf hF_5 rfl
  refine lv_pop hx hb dL_law_1441 rfl ?_
  refine lv_aload_n hx hb dL_law_1442 rfl (lv_at hl 1 rfl) ?_
  refine lv_aload_n hx hb dL_law_1443 rfl (lv_at hl 3 rfl) ?_
  refine lv_iload_n hx hb dL_law_1444 rfl (lv_at hl 0 rfl) ?_
  refine lv_iconst (v := 1) hx hb dL_law_1445 (by decide) ?_
  refine lv_iadd hx hb dL_law_1446 ?_
  refine lv_topi (fun z_6 ez_6 => ?_)
  have w_7 : z_1 = z_6 := ez_1.trans ez_6.symm
  subst w_7
  refine va_sld (i := z_1) hx hb hX hbl hbA hS (vp_in_iff.mpr ⟨by omega, by omega⟩) dL_law_1447 ?_
  refine W.eq (g2 := F0 m 1448 ls [.int w1, .ref mo]) (by rw [ew1, show z_1.toNatClampNeg = i.toInt.toNat + 1 from (show z_1.toInt.toNat = _ by omega)]) ?_
  refine lv_aload_n hx hb dL_law_1448 rfl (lv_at hl 3 rfl) ?_
  refine lv_iload_n hx hb dL_law_1449 rfl (lv_at hl 0 rfl) ?_
  refine lv_iconst (v := 2) hx hb dL_law_1450 (by decide) ?_
  refine lv_iadd hx hb dL_law_1451 ?_
  refine lv_topi (fun z_8 ez_8 => ?_)
  have w_9 : z_2 = z_8 := ez_2.trans ez_8.symm
  subst w_9
  refine va_sld (i := z_2) hx hb hX hbl hbA hS (vp_in_iff.mpr ⟨by omega, by omega⟩) dL_law_1452 ?_
  refine W.eq (g2 := F0 m 1453 ls [.int w2, .int w1, .ref mo]) (by rw [ew2, show z_2.toNatClampNeg = i.toInt.toNat + 2 from (show z_2.toInt.toNat = _ by omega)]) ?_
  refine lv_aload_n hx hb dL_law_1453 rfl (lv_at hl 3 rfl) ?_
  refine lv_iload_n hx hb dL_law_1454 rfl (lv_at hl 0 rfl) ?_
  refine lv_iconst (v := 3) hx hb dL_law_1455 (by decide) ?_
  refine lv_iadd hx hb dL_law_1456 ?_
  refine lv_topi (fun z_10 ez_10 => ?_)
  have w_11 : z_3 = z_10 := ez_3.trans ez_10.symm
  subst w_11
  refine va_sld (i := z_3) hx hb hX hbl hbA hS (vp_in_iff.mpr ⟨by omega, by omega⟩) dL_law_1457 ?_
  refine W.eq (g2 := F0 m 1458 ls [.int w3, .int w2, .int w1, .ref mo]) (by rw [ew3, show z_3.toNatClampNeg = i.toInt.toNat + 3 from (show z_3.toInt.toNat = _ by omega)]) ?_
  refine lv_aload_n hx hb dL_law_1458 rfl (lv_at hl 3 rfl) ?_
  refine lv_iload_n hx hb dL_law_1459 rfl (lv_at hl 0 rfl) ?_
  refine lv_iconst (v := 4) hx hb dL_law_1460 (by decide) ?_
  refine lv_iadd hx hb dL_law_1461 ?_
  refine lv_topi (fun z_12 ez_12 => ?_)
  have w_13 : z_4 = z_12 := ez_4.trans ez_12.symm
  subst w_13
  refine va_sld (i := z_4) hx hb hX hbl hbA hS (vp_in_iff.mpr ⟨by omega, by omega⟩) dL_law_1462 ?_
  refine W.eq (g2 := F0 m 1463 ls [.int w4, .int w3, .int w2, .int w1, .ref mo]) (by rw [ew4, show z_4.toNatClampNeg = i.toInt.toNat + 4 from (show z_4.toInt.toNat = _ by omega)]) ?_
  refine t_calli (runV (As := [.int w1, .int w2, .int w3, .int w4]) (rest := []) ⟨hx, hb, hml, hown, hts⟩ (t_X10_given l D cy base τ G_5 mo h_mo w1 w2 w3 w4) sV_L_151 hK (t_recv cf_11 hK hT h_mo) ⟨Nat.le_trans hZ hS.1, hT⟩ ⟨Nat.le_of_ble_eq_true rfl, Nat.le_of_ble_eq_true rfl⟩ rfl hl.1 rfl (Nat.le_of_ble_eq_true rfl) dL_law_1463 ⟨by have q9 := hroom.1; omega, by have q9 := hroom.2; omega⟩) hS (fun r_14 G_14 H locs hF_14 hr_14 hT hS => ?_)
  have hF := hF.tr hF_14 rfl
  have hLI := hLI.fr EX.rf hF_14 rfl
  refine lv_pop hx hb dL_law_1466 rfl ?_
  refine lv_goto (tgt := 2266) hx hb dL_law_1467 (by decide) ?_
  exact W.widen (k := cells + 10) (n := slots + 200) (by omega) (by omega) (kk τ G_14 H locs ls hLI hT hS (lv_sub hl [0, 1, 2, 3] rfl))
set_option maxHeartbeats 4000000 in
set_option maxRecDepth 100000 in
theorem lc_32 {p : Program} {e : Env} {s : State} {m : MethodId} {below : List Frame} {meth : Method} {c : Code} {l : Launch} {b L : Nat} {xs : Nat → Int32} (D : va_G) (cy : Nat → ClassId) (adK adV : Nat → Nat) (base xo mo : Nat) (C0 : lw_At p s m meth c b L xs) (hK : KK D cy s) (hSS : SS adK adV base s s.heap) (hZ : base ≤ s.heap.size) (hZ2 : s.heap.size ≤ base) (hbA : ¬ RA base b) (hLs : L ≤ 3584) (τ : Nat → Nat) (G : Gh) (i : Int32) (hi0 : 0 ≤ i.toInt) (hi7 : i.toInt + 7 ≤ L) (hLI : LI τ G xo mo) {H : Heap} {locs : List Loc} (hT : TY D cy base τ G H) (hS : va_S (RA base) s.heap H locs) {ls : Array Slot} (hl : lv_has ls 4 [(3, .int i), (2, .ref mo), (1, .ref xo), (0, .ref b)]) {cells slots : Nat} (hroom : cells + 100 ≤ room_1.cells ∧ slots + 1000 ≤ room_1.slots) (kk : ∀ (τ1 : Nat → Nat) (G1 : Gh) (H1 : Heap) (locs1 : List Loc) (ls1 : Array Slot), LI τ1 G1 xo mo → TY D cy base τ1 G1 H1 → va_S (RA base) s.heap H1 locs1 → lv_has ls1 4 [(3, .int i), (2, .ref mo), (1, .ref xo), (0, .ref b)] → W p l e room_1 s m #[Value.ref b] below meth c H1 locs1 (cells + 10) (slots + 200) (lw_Z below #[Value.ref b] s) (F0 m 2266 ls1 [])) : W p l e room_1 s m #[Value.ref b] below meth c H locs cells slots (lw_Z below #[Value.ref b] s) (F0 m 1470 ls []) := by
  obtain ⟨hx, hb, hr, hml, hown, hts, hX, hbl, hlocks, hgv⟩ := id C0
  have hown : s.vm.findClass RL = some m.cls := hown
  have hb : c.code = cL_law := hb
  have hts : ∀ w ∈ GW, w.before #[Value.ref b] s = true := fun w h => hts w (gw_tbl w h)
  have h_xo := hLI.1
  have h_mo := hLI.2.1
  have hF : Fr τ [1, 2, 3, 4, 6, 7, 11, 20, 25, 26, 27, 28, 29, 30, 31, 32, 33, 34, 35, 36, 37, 38, 39, 40, 51, 52, 53, 54, 55, 66, 67, 68, 69, 70, 71, 72, 73, 74, 75, 76, 77, 78, 79, 80, 81, 82, 83, 84, 85, 86, 87, 88, 89, 90, 91, 1001, 1002, 1004, 1023, 1024] G G := Fr.rf
  obtain ⟨w1, ew1⟩ : ∃ y : Int32, y = xs (i.toInt.toNat + 1) := ⟨_, rfl⟩
  obtain ⟨w2, ew2⟩ : ∃ y : Int32, y = xs (i.toInt.toNat + 2) := ⟨_, rfl⟩
  obtain ⟨w3, ew3⟩ : ∃ y : Int32, y = xs (i.toInt.toNat + 3) := ⟨_, rfl⟩
  obtain ⟨w4, ew4⟩ : ∃ y : Int32, y = xs (i.toInt.toNat + 4) := ⟨_, rfl⟩
  obtain ⟨w5, ew5⟩ : ∃ y : Int32, y = xs (i.toInt.toNat + 5) := ⟨_, rfl⟩
  refine lv_aload_n hx hb dL_law_1470 rfl (lv_at hl 2 rfl) ?_
  refine lv_aload_n hx hb dL_law_1471 rfl (lv_at hl 3 rfl) ?_
  refine lv_iload_n hx hb dL_law_1472 rfl (lv_at hl 0 rfl) ?_
  refine lv_iconst (v := 1) hx hb dL_law_1473 (by decide) ?_
  refine lv_iadd hx hb dL_law_1474 ?_
  refine lv_topi (fun z_1 ez_1 => ?_)
  have tz_1 : z_1.toInt = i.toInt + 1 := add_t ez_1 (show -2147483648 ≤ i.toInt + 1 by omega) (show i.toInt + 1 < 2147483648 by omega)
  refine va_sld (i := z_1) hx hb hX hbl hbA hS (vp_in_iff.mpr ⟨by omega, by omega⟩) dL_law_1475 ?_
  refine W.eq (g2 := F0 m 1476 ls [.int w1, .ref xo]) (by rw [ew1, show z_1.toNatClampNeg = i.toInt.toNat + 1 from (show z_1.toInt.toNat = _ by omega)]) ?_
  refine lv_aload_n hx hb dL_law_1476 rfl (lv_at hl 3 rfl) ?_
  refine lv_iload_n hx hb dL_law_1477 rfl (lv_at hl 0 rfl) ?_
  refine lv_iconst (v := 2) hx hb dL_law_1478 (by decide) ?_
  refine lv_iadd hx hb dL_law_1479 ?_
  refine lv_topi (fun z_2 ez_2 => ?_)
  have tz_2 : z_2.toInt = i.toInt + 2 := add_t ez_2 (show -2147483648 ≤ i.toInt + 2 by omega) (show i.toInt + 2 < 2147483648 by omega)
  refine va_sld (i := z_2) hx hb hX hbl hbA hS (vp_in_iff.mpr ⟨by omega, by omega⟩) dL_law_1480 ?_
  refine W.eq (g2 := F0 m 1481 ls [.int w2, .int w1, .ref xo]) (by rw [ew2, show z_2.toNatClampNeg = i.toInt.toNat + 2 from (show z_2.toInt.toNat = _ by omega)]) ?_
  refine lv_aload_n hx hb dL_law_1481 rfl (lv_at hl 3 rfl) ?_
  refine lv_iload_n hx hb dL_law_1482 rfl (lv_at hl 0 rfl) ?_
  refine lv_iconst (v := 3) hx hb dL_law_1483 (by decide) ?_
  refine lv_iadd hx hb dL_law_1484 ?_
  refine lv_topi (fun z_3 ez_3 => ?_)
  have tz_3 : z_3.toInt = i.toInt + 3 := add_t ez_3 (show -2147483648 ≤ i.toInt + 3 by omega) (show i.toInt + 3 < 2147483648 by omega)
  refine va_sld (i := z_3) hx hb hX hbl hbA hS (vp_in_iff.mpr ⟨by omega, by omega⟩) dL_law_1485 ?_
  refine W.eq (g2 := F0 m 1486 ls [.int w3, .int w2, .int w1, .ref xo]) (by rw [ew3, show z_3.toNatClampNeg = i.toInt.toNat + 3 from (show z_3.toInt.toNat = _ by omega)]) ?_
  refine lv_aload_n hx hb dL_law_1486 rfl (lv_at hl 3 rfl) ?_
  refine lv_iload_n hx hb dL_law_1487 rfl (lv_at hl 0 rfl) ?_
  refine lv_iconst (v := 4) hx hb dL_law_1488 (by decide) ?_
  refine lv_iadd hx hb dL_law_1489 ?_
  refine lv_topi (fun z_4 ez_4 => ?_)
  have tz_4 : z_4.toInt = i.toInt + 4 := add_t ez_4 (show -2147483648 ≤ i.toInt + 4 by omega) (show i.toInt + 4 < 2147483648 by omega)
  refine va_sld (i := z_4) hx hb hX hbl hbA hS (vp_in_iff.mpr ⟨by omega, by omega⟩) dL_law_1490 ?_
  refine W.eq (g2 := F0 m 1491 ls [.int w4, .int w3, .int w2, .int w1, .ref xo]) (by rw [ew4, show z_4.toNatClampNeg = i.toInt.toNat + 4 from (show z_4.toInt.toNat = _ by omega)]) ?_
  refine lv_aload_n hx hb dL_law_1491 rfl (lv_at hl 3 rfl) ?_
  refine lv_iload_n hx hb dL_law_1492 rfl (lv_at hl 0 rfl) ?_
  refine lv_iconst (v := 5) hx hb dL_law_1493 (by decide) ?_
  refine lv_iadd hx hb dL_law_1494 ?_
  refine lv_topi (fun z_5 ez_5 => ?_)
  have tz_5 : z_5.toInt = i.toInt + 5 := add_t ez_5 (show -2147483648 ≤ i.toInt + 5 by omega) (show i.toInt + 5 < 2147483648 by omega)
  refine va_sld (i := z_5) hx hb hX hbl hbA hS (vp_in_iff.mpr ⟨by omega, by omega⟩) dL_law_1495 ?_
  refine W.eq (g2 := F0 m 1496 ls [.int w5, .int w4, .int w3, .int w2, .int w1, .ref xo]) (by rw [ew5, show z_5.toNatClampNeg = i.toInt.toNat + 5 from (show z_5.toInt.toNat = _ by omega)]) ?_
  refine t_calli (runV (As := [.int w1, .int w2, .int w3, .int w4, .int w5]) (rest := []) ⟨hx, hb, hml, hown, hts⟩ (t_X9_asks l D cy base τ G xo h_xo w1 w2 w3 w4 w5) sV_L_152 hK (t_recv cf_1 hK hT h_xo) ⟨Nat.le_trans hZ hS.1, hT⟩ ⟨Nat.le_of_ble_eq_true rfl, Nat.le_of_ble_eq_true rfl⟩ rfl hl.1 rfl (Nat.le_of_ble_eq_true rfl) dL_law_1496 ⟨by have q9 := hroom.1; omega, by have q9 := hroom.2; omega⟩) hS (fun r_6 G_6 H locs hF_6 hr_6 hT hS => ?_)
  have hF := hF.tr hF_6 rfl
  have hLI := hLI.fr EX.rf hF_6 rfl
  refine lv_pop hx hb dL_law_1499 rfl ?_
  refine lv_aload_n hx hb dL_law_1500 rfl (lv_at hl 1 rfl) ?_
  refine lv_aload_n hx hb dL_law_1501 rfl (lv_at hl 3 rfl) ?_
  refine lv_iload_n hx hb dL_law_1502 rfl (lv_at hl 0 rfl) ?_
  refine lv_iconst (v := 1) hx hb dL_law_1503 (by decide) ?_
  refine lv_iadd hx hb dL_law_1504 ?_
  refine lv_topi (fun z_7 ez_7 => ?_)
  have w_8 : z_1 = z_7 := ez_1.trans ez_7.symm
  subst w_8
  refine va_sld (i := z_1) hx hb hX hbl hbA hS (vp_in_iff.mpr ⟨by omega, by omega⟩) dL_law_1505 ?_
  refine W.eq (g2 := F0 m 1506 ls [.int w1, .ref mo]) (by rw [ew1, show z_1.toNatClampNeg = i.toInt.toNat + 1 from (show z_1.toInt.toNat = _ by omega)]) ?_
  refine lv_aload_n hx hb dL_law_1506 rfl (lv_at hl 3 rfl) ?_
  refine lv_iload_n hx hb dL_law_1507 rfl (lv_at hl 0 rfl) ?_
  refine lv_iconst (v := 2) hx hb dL_law_1508 (by decide) ?_
  refine lv_iadd hx hb dL_law_1509 ?_
  refine lv_topi (fun z_9 ez_9 => ?_)
  have w_10 : z_2 = z_9 := ez_2.trans ez_9.symm
  subst w_10
  refine va_sld (i := z_2) hx hb hX hbl hbA hS (vp_in_iff.mpr ⟨by omega, by omega⟩) dL_law_1510 ?_
  refine W.eq (g2 := F0 m 1511 ls [.int w2, .int w1, .ref mo]) (by rw [ew2, show z_2.toNatClampNeg = i.toInt.toNat + 2 from (show z_2.toInt.toNat = _ by omega)]) ?_
  refine lv_aload_n hx hb dL_law_1511 rfl (lv_at hl 3 rfl) ?_
  refine lv_iload_n hx hb dL_law_1512 rfl (lv_at hl 0 rfl) ?_
  refine lv_iconst (v := 3) hx hb dL_law_1513 (by decide) ?_
  refine lv_iadd hx hb dL_law_1514 ?_
  refine lv_topi (fun z_11 ez_11 => ?_)
  have w_12 : z_3 = z_11 := ez_3.trans ez_11.symm
  subst w_12
  refine va_sld (i := z_3) hx hb hX hbl hbA hS (vp_in_iff.mpr ⟨by omega, by omega⟩) dL_law_1515 ?_
  refine W.eq (g2 := F0 m 1516 ls [.int w3, .int w2, .int w1, .ref mo]) (by rw [ew3, show z_3.toNatClampNeg = i.toInt.toNat + 3 from (show z_3.toInt.toNat = _ by omega)]) ?_
  refine lv_aload_n hx hb dL_law_1516 rfl (lv_at hl 3 rfl) ?_
  refine lv_iload_n hx hb dL_law_1517 rfl (lv_at hl 0 rfl) ?_
  refine lv_iconst (v := 4) hx hb dL_law_1518 (by decide) ?_
  refine lv_iadd hx hb dL_law_1519 ?_
  refine lv_topi (fun z_13 ez_13 => ?_)
  have w_14 : z_4 = z_13 := ez_4.trans ez_13.symm
  subst w_14
  refine va_sld (i := z_4) hx hb hX hbl hbA hS (vp_in_iff.mpr ⟨by omega, by omega⟩) dL_law_1520 ?_
  refine W.eq (g2 := F0 m 1521 ls [.int w4, .int w3, .int w2, .int w1, .ref mo]) (by rw [ew4, show z_4.toNatClampNeg = i.toInt.toNat + 4 from (show z_4.toInt.toNat = _ by omega)]) ?_
  refine lv_aload_n hx hb dL_law_1521 rfl (lv_at hl 3 rfl) ?_
  refine lv_iload_n hx hb dL_law_1522 rfl (lv_at hl 0 rfl) ?_
  refine lv_iconst (v := 5) hx hb dL_law_1523 (by decide) ?_
  refine lv_iadd hx hb dL_law_1524 ?_
  refine lv_topi (fun z_15 ez_15 => ?_)
  have w_16 : z_5 = z_15 := ez_5.trans ez_15.symm
  subst w_16
  refine va_sld (i := z_5) hx hb hX hbl hbA hS (vp_in_iff.mpr ⟨by omega, by omega⟩) dL_law_1525 ?_
  refine W.eq (g2 := F0 m 1526 ls [.int w5, .int w4, .int w3, .int w2, .int w1, .ref mo]) (by rw [ew5, show z_5.toNatClampNeg = i.toInt.toNat + 5 from (show z_5.toInt.toNat = _ by omega)]) ?_
  refine t_calli (runV (As := [.int w1, .int w2, .int w3, .int w4, .int w5]) (rest := []) ⟨hx, hb, hml, hown, hts⟩ (t_X10_asks_ l D cy base τ G_6 mo h_mo w1 w2 w3 w4 w5) sV_L_155 hK (t_recv cf_11 hK hT h_mo) ⟨Nat.le_trans hZ hS.1, hT⟩ ⟨Nat.le_of_ble_eq_true rfl, Nat.le_of_ble_eq_true rfl⟩ rfl hl.1 rfl (Nat.le_of_ble_eq_true rfl) dL_law_1526 ⟨by have q9 := hroom.1; omega, by have q9 := hroom.2; omega⟩) hS (fun r_17 G_17 H locs hF_17 hr_17 hT hS => ?_)
  have hF := hF.tr hF_17 rfl
  have hLI := hLI.fr EX.rf hF_17 rfl
  refine lv_pop hx hb dL_law_1529 rfl ?_
  refine lv_goto (tgt := 2266) hx hb dL_law_1530 (by decide) ?_
  exact W.widen (k := cells + 10) (n := slots + 200) (by omega) (by omega) (kk τ G_17 H locs ls hLI hT hS (lv_sub hl [0, 1, 2, 3] rfl))
set_option maxHeartbeats 4000000 in
set_option maxRecDepth 100000 in
theorem lc_33 {p : Program} {e : Env} {s : State} {m : MethodId} {below : List Frame} {meth : Method} {c : Code} {l : Launch} {b L : Nat} {xs : Nat → Int32} (D : va_G) (cy : Nat → ClassId) (adK adV : Nat → Nat) (base xo mo : Nat) (C0 : lw_At p s m meth c b L xs) (hK : KK D cy s) (hSS : SS adK adV base s s.heap) (hZ : base ≤ s.heap.size) (hZ2 : s.heap.size ≤ base) (hbA : ¬ RA base b) (hLs : L ≤ 3584) (τ : Nat → Nat) (G : Gh) (i : Int32) (hi0 : 0 ≤ i.toInt) (hi7 : i.toInt + 7 ≤ L) (hLI : LI τ G xo mo) {H : Heap} {locs : List Loc} (hT : TY D cy base τ G H) (hS : va_S (RA base) s.heap H locs) {ls : Array Slot} (hl : lv_has ls 4 [(3, .int i), (2, .ref mo), (1, .ref xo), (0, .ref b)]) {cells slots : Nat} (hroom : cells + 100 ≤ room_1.cells ∧ slots + 1000 ≤ room_1.slots) (kk : ∀ (τ1 : Nat → Nat) (G1 : Gh) (H1 : Heap) (locs1 : List Loc) (ls1 : Array Slot), LI τ1 G1 xo mo → TY D cy base τ1 G1 H1 → va_S (RA base) s.heap H1 locs1 → lv_has ls1 4 [(3, .int i), (2, .ref mo), (1, .ref xo), (0, .ref b)] → W p l e room_1 s m #[Value.ref b] below meth c H1 locs1 (cells + 10) (slots + 200) (lw_Z below #[Value.ref b] s) (F0 m 2266 ls1 [])) : W p l e room_1 s m #[Value.ref b] below meth c H locs cells slots (lw_Z below #[Value.ref b] s) (F0 m 1533 ls []) := by
  obtain ⟨hx, hb, hr, hml, hown, hts, hX, hbl, hlocks, hgv⟩ := id C0
  have hown : s.vm.findClass RL = some m.cls := hown
  have hb : c.code = cL_law := hb
  have hts : ∀ w ∈ GW, w.before #[Value.ref b] s = true := fun w h => hts w (gw_tbl w h)
  have h_xo := hLI.1
  have h_mo := hLI.2.1
  have hF : Fr τ [1, 2, 3, 4, 6, 7, 11, 20, 25, 26, 27, 28, 29, 30, 31, 32, 33, 34, 35, 36, 37, 38, 39, 40, 51, 52, 53, 54, 55, 66, 67, 68, 69, 70, 71, 72, 73, 74, 75, 76, 77, 78, 79, 80, 81, 82, 83, 84, 85, 86, 87, 88, 89, 90, 91, 1001, 1002, 1004, 1023, 1024] G G := Fr.rf
  obtain ⟨w1, ew1⟩ : ∃ y : Int32, y = xs (i.toInt.toNat + 1) := ⟨_, rfl⟩
  obtain ⟨w2, ew2⟩ : ∃ y : Int32, y = xs (i.toInt.toNat + 2) := ⟨_, rfl⟩
  obtain ⟨w3, ew3⟩ : ∃ y : Int32, y = xs (i.toInt.toNat + 3) := ⟨_, rfl⟩
  obtain ⟨w4, ew4⟩ : ∃ y : Int32, y = xs (i.toInt.toNat + 4) := ⟨_, rfl⟩
  obtain ⟨w5, ew5⟩ : ∃ y : Int32, y = xs (i.toInt.toNat + 5) := ⟨_, rfl⟩
  refine lv_aload_n hx hb dL_law_1533 rfl (lv_at hl 2 rfl) ?_
  refine lv_aload_n hx hb dL_law_1534 rfl (lv_at hl 3 rfl) ?_
  refine lv_iload_n hx hb dL_law_1535 rfl (lv_at hl 0 rfl) ?_
  refine lv_iconst (v := 1) hx hb dL_law_1536 (by decide) ?_
  refine lv_iadd hx hb dL_law_1537 ?_
  refine lv_topi (fun z_1 ez_1 => ?_)
  have tz_1 : z_1.toInt = i.toInt + 1 := add_t ez_1 (show -2147483648 ≤ i.toInt + 1 by omega) (show i.toInt + 1 < 2147483648 by omega)
  refine va_sld (i := z_1) hx hb hX hbl hbA hS (vp_in_iff.mpr ⟨by omega, by omega⟩) dL_law_1538 ?_
  refine W.eq (g2 := F0 m 1539 ls [.int w1, .ref xo]) (by rw [ew1, show z_1.toNatClampNeg = i.toInt.toNat + 1 from (show z_1.toInt.toNat = _ by omega)]) ?_
  refine lv_aload_n hx hb dL_law_1539 rfl (lv_at hl 3 rfl) ?_
  refine lv_iload_n hx hb dL_law_1540 rfl (lv_at hl 0 rfl) ?_
  refine lv_iconst (v := 2) hx hb dL_law_1541 (by decide) ?_
  refine lv_iadd hx hb dL_law_1542 ?_
  refine lv_topi (fun z_2 ez_2 => ?_)
  have tz_2 : z_2.toInt = i.toInt + 2 := add_t ez_2 (show -2147483648 ≤ i.toInt + 2 by omega) (show i.toInt + 2 < 2147483648 by omega)
  refine va_sld (i := z_2) hx hb hX hbl hbA hS (vp_in_iff.mpr ⟨by omega, by omega⟩) dL_law_1543 ?_
  refine W.eq (g2 := F0 m 1544 ls [.int w2, .int w1, .ref xo]) (by rw [ew2, show z_2.toNatClampNeg = i.toInt.toNat + 2 from (show z_2.toInt.toNat = _ by omega)]) ?_
  refine lv_aload_n hx hb dL_law_1544 rfl (lv_at hl 3 rfl) ?_
  refine lv_iload_n hx hb dL_law_1545 rfl (lv_at hl 0 rfl) ?_
  refine lv_iconst (v := 3) hx hb dL_law_1546 (by decide) ?_
  refine lv_iadd hx hb dL_law_1547 ?_
  refine lv_topi (fun z_3 ez_3 => ?_)
  have tz_3 : z_3.toInt = i.toInt + 3 := add_t ez_3 (show -2147483648 ≤ i.toInt + 3 by omega) (show i.toInt + 3 < 2147483648 by omega)
  refine va_sld (i := z_3) hx hb hX hbl hbA hS (vp_in_iff.mpr ⟨by omega, by omega⟩) dL_law_1548 ?_
  refine W.eq (g2 := F0 m 1549 ls [.int w3, .int w2, .int w1, .ref xo]) (by rw [ew3, show z_3.toNatClampNeg = i.toInt.toNat + 3 from (show z_3.toInt.toNat = _ by omega)]) ?_
  refine lv_aload_n hx hb dL_law_1549 rfl (lv_at hl 3 rfl) ?_
  refine lv_iload_n hx hb dL_law_1550 rfl (lv_at hl 0 rfl) ?_
  refine lv_iconst (v := 4) hx hb dL_law_1551 (by decide) ?_
  refine lv_iadd hx hb dL_law_1552 ?_
  refine lv_topi (fun z_4 ez_4 => ?_)
  have tz_4 : z_4.toInt = i.toInt + 4 := add_t ez_4 (show -2147483648 ≤ i.toInt + 4 by omega) (show i.toInt + 4 < 2147483648 by omega)
  refine va_sld (i := z_4) hx hb hX hbl hbA hS (vp_in_iff.mpr ⟨by omega, by omega⟩) dL_law_1553 ?_
  refine W.eq (g2 := F0 m 1554 ls [.int w4, .int w3, .int w2, .int w1, .ref xo]) (by rw [ew4, show z_4.toNatClampNeg = i.toInt.toNat + 4 from (show z_4.toInt.toNat = _ by omega)]) ?_
  refine lv_aload_n hx hb dL_law_1554 rfl (lv_at hl 3 rfl) ?_
  refine lv_iload_n hx hb dL_law_1555 rfl (lv_at hl 0 rfl) ?_
  refine lv_iconst (v := 5) hx hb dL_law_1556 (by decide) ?_
  refine lv_iadd hx hb dL_law_1557 ?_
  refine lv_topi (fun z_5 ez_5 => ?_)
  have tz_5 : z_5.toInt = i.toInt + 5 := add_t ez_5 (show -2147483648 ≤ i.toInt + 5 by omega) (show i.toInt + 5 < 2147483648 by omega)
  refine va_sld (i := z_5) hx hb hX hbl hbA hS (vp_in_iff.mpr ⟨by omega, by omega⟩) dL_law_1558 ?_
  refine W.eq (g2 := F0 m 1559 ls [.int w5, .int w4, .int w3, .int w2, .int w1, .ref xo]) (by rw [ew5, show z_5.toNatClampNeg = i.toInt.toNat + 5 from (show z_5.toInt.toNat = _ by omega)]) ?_
  refine t_calll (runV (As := [.int w1, .int w2, .int w3, .int w4, .int w5]) (rest := []) ⟨hx, hb, hml, hown, hts⟩ (t_X9_pays l D cy base τ G xo h_xo w1 w2 w3 w4 w5) sV_L_156 hK (t_recv cf_1 hK hT h_xo) ⟨Nat.le_trans hZ hS.1, hT⟩ ⟨Nat.le_of_ble_eq_true rfl, Nat.le_of_ble_eq_true rfl⟩ rfl hl.1 rfl (Nat.le_of_ble_eq_true rfl) dL_law_1559 ⟨by have q9 := hroom.1; omega, by have q9 := hroom.2; omega⟩) hS (fun r_6 G_6 H locs hF_6 hr_6 hT hS => ?_)
  have hF := hF.tr hF_6 rfl
  have hLI := hLI.fr EX.rf hF_6 rfl
  refine lv_pop2_2 hx hb dL_law_1562 rfl ?_
  refine lv_aload_n hx hb dL_law_1563 rfl (lv_at hl 1 rfl) ?_
  refine lv_aload_n hx hb dL_law_1564 rfl (lv_at hl 3 rfl) ?_
  refine lv_iload_n hx hb dL_law_1565 rfl (lv_at hl 0 rfl) ?_
  refine lv_iconst (v := 1) hx hb dL_law_1566 (by decide) ?_
  refine lv_iadd hx hb dL_law_1567 ?_
  refine lv_topi (fun z_7 ez_7 => ?_)
  have w_8 : z_1 = z_7 := ez_1.trans ez_7.symm
  subst w_8
  refine va_sld (i := z_1) hx hb hX hbl hbA hS (vp_in_iff.mpr ⟨by omega, by omega⟩) dL_law_1568 ?_
  refine W.eq (g2 := F0 m 1569 ls [.int w1, .ref mo]) (by rw [ew1, show z_1.toNatClampNeg = i.toInt.toNat + 1 from (show z_1.toInt.toNat = _ by omega)]) ?_
  refine lv_aload_n hx hb dL_law_1569 rfl (lv_at hl 3 rfl) ?_
  refine lv_iload_n hx hb dL_law_1570 rfl (lv_at hl 0 rfl) ?_
  refine lv_iconst (v := 2) hx hb dL_law_1571 (by decide) ?_
  refine lv_iadd hx hb dL_law_1572 ?_
  refine lv_topi (fun z_9 ez_9 => ?_)
  have w_10 : z_2 = z_9 := ez_2.trans ez_9.symm
  subst w_10
  refine va_sld (i := z_2) hx hb hX hbl hbA hS (vp_in_iff.mpr ⟨by omega, by omega⟩) dL_law_1573 ?_
  refine W.eq (g2 := F0 m 1574 ls [.int w2, .int w1, .ref mo]) (by rw [ew2, show z_2.toNatClampNeg = i.toInt.toNat + 2 from (show z_2.toInt.toNat = _ by omega)]) ?_
  refine lv_aload_n hx hb dL_law_1574 rfl (lv_at hl 3 rfl) ?_
  refine lv_iload_n hx hb dL_law_1575 rfl (lv_at hl 0 rfl) ?_
  refine lv_iconst (v := 3) hx hb dL_law_1576 (by decide) ?_
  refine lv_iadd hx hb dL_law_1577 ?_
  refine lv_topi (fun z_11 ez_11 => ?_)
  have w_12 : z_3 = z_11 := ez_3.trans ez_11.symm
  subst w_12
  refine va_sld (i := z_3) hx hb hX hbl hbA hS (vp_in_iff.mpr ⟨by omega, by omega⟩) dL_law_1578 ?_
  refine W.eq (g2 := F0 m 1579 ls [.int w3, .int w2, .int w1, .ref mo]) (by rw [ew3, show z_3.toNatClampNeg = i.toInt.toNat + 3 from (show z_3.toInt.toNat = _ by omega)]) ?_
  refine lv_aload_n hx hb dL_law_1579 rfl (lv_at hl 3 rfl) ?_
  refine lv_iload_n hx hb dL_law_1580 rfl (lv_at hl 0 rfl) ?_
  refine lv_iconst (v := 4) hx hb dL_law_1581 (by decide) ?_
  refine lv_iadd hx hb dL_law_1582 ?_
  refine lv_topi (fun z_13 ez_13 => ?_)
  have w_14 : z_4 = z_13 := ez_4.trans ez_13.symm
  subst w_14
  refine va_sld (i := z_4) hx hb hX hbl hbA hS (vp_in_iff.mpr ⟨by omega, by omega⟩) dL_law_1583 ?_
  refine W.eq (g2 := F0 m 1584 ls [.int w4, .int w3, .int w2, .int w1, .ref mo]) (by rw [ew4, show z_4.toNatClampNeg = i.toInt.toNat + 4 from (show z_4.toInt.toNat = _ by omega)]) ?_
  refine lv_aload_n hx hb dL_law_1584 rfl (lv_at hl 3 rfl) ?_
  refine lv_iload_n hx hb dL_law_1585 rfl (lv_at hl 0 rfl) ?_
  refine lv_iconst (v := 5) hx hb dL_law_1586 (by decide) ?_
  refine lv_iadd hx hb dL_law_1587 ?_
  refine lv_topi (fun z_15 ez_15 => ?_)
  have w_16 : z_5 = z_15 := ez_5.trans ez_15.symm
  subst w_16
  refine va_sld (i := z_5) hx hb hX hbl hbA hS (vp_in_iff.mpr ⟨by omega, by omega⟩) dL_law_1588 ?_
  refine W.eq (g2 := F0 m 1589 ls [.int w5, .int w4, .int w3, .int w2, .int w1, .ref mo]) (by rw [ew5, show z_5.toNatClampNeg = i.toInt.toNat + 5 from (show z_5.toInt.toNat = _ by omega)]) ?_
  refine t_calll (runV (As := [.int w1, .int w2, .int w3, .int w4, .int w5]) (rest := []) ⟨hx, hb, hml, hown, hts⟩ (t_X10_pays l D cy base τ G_6 mo h_mo w1 w2 w3 w4 w5) sV_L_160 hK (t_recv cf_11 hK hT h_mo) ⟨Nat.le_trans hZ hS.1, hT⟩ ⟨Nat.le_of_ble_eq_true rfl, Nat.le_of_ble_eq_true rfl⟩ rfl hl.1 rfl (Nat.le_of_ble_eq_true rfl) dL_law_1589 ⟨by have q9 := hroom.1; omega, by have q9 := hroom.2; omega⟩) hS (fun r_17 G_17 H locs hF_17 hr_17 hT hS => ?_)
  have hF := hF.tr hF_17 rfl
  have hLI := hLI.fr EX.rf hF_17 rfl
  refine lv_pop2_2 hx hb dL_law_1592 rfl ?_
  refine lv_goto (tgt := 2266) hx hb dL_law_1593 (by decide) ?_
  exact W.widen (k := cells + 10) (n := slots + 200) (by omega) (by omega) (kk τ G_17 H locs ls hLI hT hS (lv_sub hl [0, 1, 2, 3] rfl))
set_option maxHeartbeats 4000000 in
set_option maxRecDepth 100000 in
theorem lc_34 {p : Program} {e : Env} {s : State} {m : MethodId} {below : List Frame} {meth : Method} {c : Code} {l : Launch} {b L : Nat} {xs : Nat → Int32} (D : va_G) (cy : Nat → ClassId) (adK adV : Nat → Nat) (base xo mo : Nat) (C0 : lw_At p s m meth c b L xs) (hK : KK D cy s) (hSS : SS adK adV base s s.heap) (hZ : base ≤ s.heap.size) (hZ2 : s.heap.size ≤ base) (hbA : ¬ RA base b) (hLs : L ≤ 3584) (τ : Nat → Nat) (G : Gh) (i : Int32) (hi0 : 0 ≤ i.toInt) (hi7 : i.toInt + 7 ≤ L) (hLI : LI τ G xo mo) {H : Heap} {locs : List Loc} (hT : TY D cy base τ G H) (hS : va_S (RA base) s.heap H locs) {ls : Array Slot} (hl : lv_has ls 4 [(3, .int i), (2, .ref mo), (1, .ref xo), (0, .ref b)]) {cells slots : Nat} (hroom : cells + 100 ≤ room_1.cells ∧ slots + 1000 ≤ room_1.slots) (kk : ∀ (τ1 : Nat → Nat) (G1 : Gh) (H1 : Heap) (locs1 : List Loc) (ls1 : Array Slot), LI τ1 G1 xo mo → TY D cy base τ1 G1 H1 → va_S (RA base) s.heap H1 locs1 → lv_has ls1 4 [(3, .int i), (2, .ref mo), (1, .ref xo), (0, .ref b)] → W p l e room_1 s m #[Value.ref b] below meth c H1 locs1 (cells + 10) (slots + 200) (lw_Z below #[Value.ref b] s) (F0 m 2266 ls1 [])) : W p l e room_1 s m #[Value.ref b] below meth c H locs cells slots (lw_Z below #[Value.ref b] s) (F0 m 1596 ls []) := by
  obtain ⟨hx, hb, hr, hml, hown, hts, hX, hbl, hlocks, hgv⟩ := id C0
  have hown : s.vm.findClass RL = some m.cls := hown
  have hb : c.code = cL_law := hb
  have hts : ∀ w ∈ GW, w.before #[Value.ref b] s = true := fun w h => hts w (gw_tbl w h)
  have h_xo := hLI.1
  have h_mo := hLI.2.1
  have hF : Fr τ [1, 2, 3, 4, 6, 7, 11, 20, 25, 26, 27, 28, 29, 30, 31, 32, 33, 34, 35, 36, 37, 38, 39, 40, 51, 52, 53, 54, 55, 66, 67, 68, 69, 70, 71, 72, 73, 74, 75, 76, 77, 78, 79, 80, 81, 82, 83, 84, 85, 86, 87, 88, 89, 90, 91, 1001, 1002, 1004, 1023, 1024] G G := Fr.rf
  obtain ⟨w1, ew1⟩ : ∃ y : Int32, y = xs (i.toInt.toNat + 1) := ⟨_, rfl⟩
  obtain ⟨w2, ew2⟩ : ∃ y : Int32, y = xs (i.toInt.toNat + 2) := ⟨_, rfl⟩
  obtain ⟨w3, ew3⟩ : ∃ y : Int32, y = xs (i.toInt.toNat + 3) := ⟨_, rfl⟩
  obtain ⟨w4, ew4⟩ : ∃ y : Int32, y = xs (i.toInt.toNat + 4) := ⟨_, rfl⟩
  refine lv_aload_n hx hb dL_law_1596 rfl (lv_at hl 2 rfl) ?_
  refine lv_aload_n hx hb dL_law_1597 rfl (lv_at hl 3 rfl) ?_
  refine lv_iload_n hx hb dL_law_1598 rfl (lv_at hl 0 rfl) ?_
  refine lv_iconst (v := 1) hx hb dL_law_1599 (by decide) ?_
  refine lv_iadd hx hb dL_law_1600 ?_
  refine lv_topi (fun z_1 ez_1 => ?_)
  have tz_1 : z_1.toInt = i.toInt + 1 := add_t ez_1 (show -2147483648 ≤ i.toInt + 1 by omega) (show i.toInt + 1 < 2147483648 by omega)
  refine va_sld (i := z_1) hx hb hX hbl hbA hS (vp_in_iff.mpr ⟨by omega, by omega⟩) dL_law_1601 ?_
  refine W.eq (g2 := F0 m 1602 ls [.int w1, .ref xo]) (by rw [ew1, show z_1.toNatClampNeg = i.toInt.toNat + 1 from (show z_1.toInt.toNat = _ by omega)]) ?_
  refine lv_aload_n hx hb dL_law_1602 rfl (lv_at hl 3 rfl) ?_
  refine lv_iload_n hx hb dL_law_1603 rfl (lv_at hl 0 rfl) ?_
  refine lv_iconst (v := 2) hx hb dL_law_1604 (by decide) ?_
  refine lv_iadd hx hb dL_law_1605 ?_
  refine lv_topi (fun z_2 ez_2 => ?_)
  have tz_2 : z_2.toInt = i.toInt + 2 := add_t ez_2 (show -2147483648 ≤ i.toInt + 2 by omega) (show i.toInt + 2 < 2147483648 by omega)
  refine va_sld (i := z_2) hx hb hX hbl hbA hS (vp_in_iff.mpr ⟨by omega, by omega⟩) dL_law_1606 ?_
  refine W.eq (g2 := F0 m 1607 ls [.int w2, .int w1, .ref xo]) (by rw [ew2, show z_2.toNatClampNeg = i.toInt.toNat + 2 from (show z_2.toInt.toNat = _ by omega)]) ?_
  refine lv_aload_n hx hb dL_law_1607 rfl (lv_at hl 3 rfl) ?_
  refine lv_iload_n hx hb dL_law_1608 rfl (lv_at hl 0 rfl) ?_
  refine lv_iconst (v := 3) hx hb dL_law_1609 (by decide) ?_
  refine lv_iadd hx hb dL_law_1610 ?_
  refine lv_topi (fun z_3 ez_3 => ?_)
  have tz_3 : z_3.toInt = i.toInt + 3 := add_t ez_3 (show -2147483648 ≤ i.toInt + 3 by omega) (show i.toInt + 3 < 2147483648 by omega)
  refine va_sld (i := z_3) hx hb hX hbl hbA hS (vp_in_iff.mpr ⟨by omega, by omega⟩) dL_law_1611 ?_
  refine W.eq (g2 := F0 m 1612 ls [.int w3, .int w2, .int w1, .ref xo]) (by rw [ew3, show z_3.toNatClampNeg = i.toInt.toNat + 3 from (show z_3.toInt.toNat = _ by omega)]) ?_
  refine lv_aload_n hx hb dL_law_1612 rfl (lv_at hl 3 rfl) ?_
  refine lv_iload_n hx hb dL_law_1613 rfl (lv_at hl 0 rfl) ?_
  refine lv_iconst (v := 4) hx hb dL_law_1614 (by decide) ?_
  refine lv_iadd hx hb dL_law_1615 ?_
  refine lv_topi (fun z_4 ez_4 => ?_)
  have tz_4 : z_4.toInt = i.toInt + 4 := add_t ez_4 (show -2147483648 ≤ i.toInt + 4 by omega) (show i.toInt + 4 < 2147483648 by omega)
  refine va_sld (i := z_4) hx hb hX hbl hbA hS (vp_in_iff.mpr ⟨by omega, by omega⟩) dL_law_1616 ?_
  refine W.eq (g2 := F0 m 1617 ls [.int w4, .int w3, .int w2, .int w1, .ref xo]) (by rw [ew4, show z_4.toNatClampNeg = i.toInt.toNat + 4 from (show z_4.toInt.toNat = _ by omega)]) ?_
  refine t_calll (runV (As := [.int w1, .int w2, .int w3, .int w4]) (rest := []) ⟨hx, hb, hml, hown, hts⟩ (t_X9_burnt l D cy base τ G xo h_xo w1 w2 w3 w4) sV_L_161 hK (t_recv cf_1 hK hT h_xo) ⟨Nat.le_trans hZ hS.1, hT⟩ ⟨Nat.le_of_ble_eq_true rfl, Nat.le_of_ble_eq_true rfl⟩ rfl hl.1 rfl (Nat.le_of_ble_eq_true rfl) dL_law_1617 ⟨by have q9 := hroom.1; omega, by have q9 := hroom.2; omega⟩) hS (fun r_5 G_5 H locs hF_5 hr_5 hT hS => ?_)
  have hF := hF.tr hF_5 rfl
  have hLI := hLI.fr EX.rf hF_5 rfl
  refine lv_pop2_2 hx hb dL_law_1620 rfl ?_
  refine lv_aload_n hx hb dL_law_1621 rfl (lv_at hl 1 rfl) ?_
  refine lv_aload_n hx hb dL_law_1622 rfl (lv_at hl 3 rfl) ?_
  refine lv_iload_n hx hb dL_law_1623 rfl (lv_at hl 0 rfl) ?_
  refine lv_iconst (v := 1) hx hb dL_law_1624 (by decide) ?_
  refine lv_iadd hx hb dL_law_1625 ?_
  refine lv_topi (fun z_6 ez_6 => ?_)
  have w_7 : z_1 = z_6 := ez_1.trans ez_6.symm
  subst w_7
  refine va_sld (i := z_1) hx hb hX hbl hbA hS (vp_in_iff.mpr ⟨by omega, by omega⟩) dL_law_1626 ?_
  refine W.eq (g2 := F0 m 1627 ls [.int w1, .ref mo]) (by rw [ew1, show z_1.toNatClampNeg = i.toInt.toNat + 1 from (show z_1.toInt.toNat = _ by omega)]) ?_
  refine lv_aload_n hx hb dL_law_1627 rfl (lv_at hl 3 rfl) ?_
  refine lv_iload_n hx hb dL_law_1628 rfl (lv_at hl 0 rfl) ?_
  refine lv_iconst (v := 2) hx hb dL_law_1629 (by decide) ?_
  refine lv_iadd hx hb dL_law_1630 ?_
  refine lv_topi (fun z_8 ez_8 => ?_)
  have w_9 : z_2 = z_8 := ez_2.trans ez_8.symm
  subst w_9
  refine va_sld (i := z_2) hx hb hX hbl hbA hS (vp_in_iff.mpr ⟨by omega, by omega⟩) dL_law_1631 ?_
  refine W.eq (g2 := F0 m 1632 ls [.int w2, .int w1, .ref mo]) (by rw [ew2, show z_2.toNatClampNeg = i.toInt.toNat + 2 from (show z_2.toInt.toNat = _ by omega)]) ?_
  refine lv_aload_n hx hb dL_law_1632 rfl (lv_at hl 3 rfl) ?_
  refine lv_iload_n hx hb dL_law_1633 rfl (lv_at hl 0 rfl) ?_
  refine lv_iconst (v := 3) hx hb dL_law_1634 (by decide) ?_
  refine lv_iadd hx hb dL_law_1635 ?_
  refine lv_topi (fun z_10 ez_10 => ?_)
  have w_11 : z_3 = z_10 := ez_3.trans ez_10.symm
  subst w_11
  refine va_sld (i := z_3) hx hb hX hbl hbA hS (vp_in_iff.mpr ⟨by omega, by omega⟩) dL_law_1636 ?_
  refine W.eq (g2 := F0 m 1637 ls [.int w3, .int w2, .int w1, .ref mo]) (by rw [ew3, show z_3.toNatClampNeg = i.toInt.toNat + 3 from (show z_3.toInt.toNat = _ by omega)]) ?_
  refine lv_aload_n hx hb dL_law_1637 rfl (lv_at hl 3 rfl) ?_
  refine lv_iload_n hx hb dL_law_1638 rfl (lv_at hl 0 rfl) ?_
  refine lv_iconst (v := 4) hx hb dL_law_1639 (by decide) ?_
  refine lv_iadd hx hb dL_law_1640 ?_
  refine lv_topi (fun z_12 ez_12 => ?_)
  have w_13 : z_4 = z_12 := ez_4.trans ez_12.symm
  subst w_13
  refine va_sld (i := z_4) hx hb hX hbl hbA hS (vp_in_iff.mpr ⟨by omega, by omega⟩) dL_law_1641 ?_
  refine W.eq (g2 := F0 m 1642 ls [.int w4, .int w3, .int w2, .int w1, .ref mo]) (by rw [ew4, show z_4.toNatClampNeg = i.toInt.toNat + 4 from (show z_4.toInt.toNat = _ by omega)]) ?_
  refine t_calll (runV (As := [.int w1, .int w2, .int w3, .int w4]) (rest := []) ⟨hx, hb, hml, hown, hts⟩ (t_X10_burnt l D cy base τ G_5 mo h_mo w1 w2 w3 w4) sV_L_164 hK (t_recv cf_11 hK hT h_mo) ⟨Nat.le_trans hZ hS.1, hT⟩ ⟨Nat.le_of_ble_eq_true rfl, Nat.le_of_ble_eq_true rfl⟩ rfl hl.1 rfl (Nat.le_of_ble_eq_true rfl) dL_law_1642 ⟨by have q9 := hroom.1; omega, by have q9 := hroom.2; omega⟩) hS (fun r_14 G_14 H locs hF_14 hr_14 hT hS => ?_)
  have hF := hF.tr hF_14 rfl
  have hLI := hLI.fr EX.rf hF_14 rfl
  refine lv_pop2_2 hx hb dL_law_1645 rfl ?_
  refine lv_goto (tgt := 2266) hx hb dL_law_1646 (by decide) ?_
  exact W.widen (k := cells + 10) (n := slots + 200) (by omega) (by omega) (kk τ G_14 H locs ls hLI hT hS (lv_sub hl [0, 1, 2, 3] rfl))
set_option maxHeartbeats 4000000 in
set_option maxRecDepth 100000 in
theorem lc_35 {p : Program} {e : Env} {s : State} {m : MethodId} {below : List Frame} {meth : Method} {c : Code} {l : Launch} {b L : Nat} {xs : Nat → Int32} (D : va_G) (cy : Nat → ClassId) (adK adV : Nat → Nat) (base xo mo : Nat) (C0 : lw_At p s m meth c b L xs) (hK : KK D cy s) (hSS : SS adK adV base s s.heap) (hZ : base ≤ s.heap.size) (hZ2 : s.heap.size ≤ base) (hbA : ¬ RA base b) (hLs : L ≤ 3584) (τ : Nat → Nat) (G : Gh) (i : Int32) (hi0 : 0 ≤ i.toInt) (hi7 : i.toInt + 7 ≤ L) (hLI : LI τ G xo mo) {H : Heap} {locs : List Loc} (hT : TY D cy base τ G H) (hS : va_S (RA base) s.heap H locs) {ls : Array Slot} (hl : lv_has ls 4 [(3, .int i), (2, .ref mo), (1, .ref xo), (0, .ref b)]) {cells slots : Nat} (hroom : cells + 100 ≤ room_1.cells ∧ slots + 1000 ≤ room_1.slots) (kk : ∀ (τ1 : Nat → Nat) (G1 : Gh) (H1 : Heap) (locs1 : List Loc) (ls1 : Array Slot), LI τ1 G1 xo mo → TY D cy base τ1 G1 H1 → va_S (RA base) s.heap H1 locs1 → lv_has ls1 4 [(3, .int i), (2, .ref mo), (1, .ref xo), (0, .ref b)] → W p l e room_1 s m #[Value.ref b] below meth c H1 locs1 (cells + 10) (slots + 200) (lw_Z below #[Value.ref b] s) (F0 m 2266 ls1 [])) : W p l e room_1 s m #[Value.ref b] below meth c H locs cells slots (lw_Z below #[Value.ref b] s) (F0 m 1649 ls []) := by
  obtain ⟨hx, hb, hr, hml, hown, hts, hX, hbl, hlocks, hgv⟩ := id C0
  have hown : s.vm.findClass RL = some m.cls := hown
  have hb : c.code = cL_law := hb
  have hts : ∀ w ∈ GW, w.before #[Value.ref b] s = true := fun w h => hts w (gw_tbl w h)
  have h_xo := hLI.1
  have h_mo := hLI.2.1
  have hF : Fr τ [1, 2, 3, 4, 6, 7, 11, 20, 25, 26, 27, 28, 29, 30, 31, 32, 33, 34, 35, 36, 37, 38, 39, 40, 51, 52, 53, 54, 55, 66, 67, 68, 69, 70, 71, 72, 73, 74, 75, 76, 77, 78, 79, 80, 81, 82, 83, 84, 85, 86, 87, 88, 89, 90, 91, 1001, 1002, 1004, 1023, 1024] G G := Fr.rf
  obtain ⟨w1, ew1⟩ : ∃ y : Int32, y = xs (i.toInt.toNat + 1) := ⟨_, rfl⟩
  obtain ⟨w2, ew2⟩ : ∃ y : Int32, y = xs (i.toInt.toNat + 2) := ⟨_, rfl⟩
  obtain ⟨w3, ew3⟩ : ∃ y : Int32, y = xs (i.toInt.toNat + 3) := ⟨_, rfl⟩
  obtain ⟨w4, ew4⟩ : ∃ y : Int32, y = xs (i.toInt.toNat + 4) := ⟨_, rfl⟩
  refine lv_aload_n hx hb dL_law_1649 rfl (lv_at hl 2 rfl) ?_
  refine lv_aload_n hx hb dL_law_1650 rfl (lv_at hl 3 rfl) ?_
  refine lv_iload_n hx hb dL_law_1651 rfl (lv_at hl 0 rfl) ?_
  refine lv_iconst (v := 1) hx hb dL_law_1652 (by decide) ?_
  refine lv_iadd hx hb dL_law_1653 ?_
  refine lv_topi (fun z_1 ez_1 => ?_)
  have tz_1 : z_1.toInt = i.toInt + 1 := add_t ez_1 (show -2147483648 ≤ i.toInt + 1 by omega) (show i.toInt + 1 < 2147483648 by omega)
  refine va_sld (i := z_1) hx hb hX hbl hbA hS (vp_in_iff.mpr ⟨by omega, by omega⟩) dL_law_1654 ?_
  refine W.eq (g2 := F0 m 1655 ls [.int w1, .ref xo]) (by rw [ew1, show z_1.toNatClampNeg = i.toInt.toNat + 1 from (show z_1.toInt.toNat = _ by omega)]) ?_
  refine lv_aload_n hx hb dL_law_1655 rfl (lv_at hl 3 rfl) ?_
  refine lv_iload_n hx hb dL_law_1656 rfl (lv_at hl 0 rfl) ?_
  refine lv_iconst (v := 2) hx hb dL_law_1657 (by decide) ?_
  refine lv_iadd hx hb dL_law_1658 ?_
  refine lv_topi (fun z_2 ez_2 => ?_)
  have tz_2 : z_2.toInt = i.toInt + 2 := add_t ez_2 (show -2147483648 ≤ i.toInt + 2 by omega) (show i.toInt + 2 < 2147483648 by omega)
  refine va_sld (i := z_2) hx hb hX hbl hbA hS (vp_in_iff.mpr ⟨by omega, by omega⟩) dL_law_1659 ?_
  refine W.eq (g2 := F0 m 1660 ls [.int w2, .int w1, .ref xo]) (by rw [ew2, show z_2.toNatClampNeg = i.toInt.toNat + 2 from (show z_2.toInt.toNat = _ by omega)]) ?_
  refine lv_aload_n hx hb dL_law_1660 rfl (lv_at hl 3 rfl) ?_
  refine lv_iload_n hx hb dL_law_1661 rfl (lv_at hl 0 rfl) ?_
  refine lv_iconst (v := 3) hx hb dL_law_1662 (by decide) ?_
  refine lv_iadd hx hb dL_law_1663 ?_
  refine lv_topi (fun z_3 ez_3 => ?_)
  have tz_3 : z_3.toInt = i.toInt + 3 := add_t ez_3 (show -2147483648 ≤ i.toInt + 3 by omega) (show i.toInt + 3 < 2147483648 by omega)
  refine va_sld (i := z_3) hx hb hX hbl hbA hS (vp_in_iff.mpr ⟨by omega, by omega⟩) dL_law_1664 ?_
  refine W.eq (g2 := F0 m 1665 ls [.int w3, .int w2, .int w1, .ref xo]) (by rw [ew3, show z_3.toNatClampNeg = i.toInt.toNat + 3 from (show z_3.toInt.toNat = _ by omega)]) ?_
  refine lv_aload_n hx hb dL_law_1665 rfl (lv_at hl 3 rfl) ?_
  refine lv_iload_n hx hb dL_law_1666 rfl (lv_at hl 0 rfl) ?_
  refine lv_iconst (v := 4) hx hb dL_law_1667 (by decide) ?_
  refine lv_iadd hx hb dL_law_1668 ?_
  refine lv_topi (fun z_4 ez_4 => ?_)
  have tz_4 : z_4.toInt = i.toInt + 4 := add_t ez_4 (show -2147483648 ≤ i.toInt + 4 by omega) (show i.toInt + 4 < 2147483648 by omega)
  refine va_sld (i := z_4) hx hb hX hbl hbA hS (vp_in_iff.mpr ⟨by omega, by omega⟩) dL_law_1669 ?_
  refine W.eq (g2 := F0 m 1670 ls [.int w4, .int w3, .int w2, .int w1, .ref xo]) (by rw [ew4, show z_4.toNatClampNeg = i.toInt.toNat + 4 from (show z_4.toInt.toNat = _ by omega)]) ?_
  refine t_calll (runV (As := [.int w1, .int w2, .int w3, .int w4]) (rest := []) ⟨hx, hb, hml, hown, hts⟩ (t_X9_spread l D cy base τ G xo h_xo w1 w2 w3 w4) sV_L_165 hK (t_recv cf_1 hK hT h_xo) ⟨Nat.le_trans hZ hS.1, hT⟩ ⟨Nat.le_of_ble_eq_true rfl, Nat.le_of_ble_eq_true rfl⟩ rfl hl.1 rfl (Nat.le_of_ble_eq_true rfl) dL_law_1670 ⟨by have q9 := hroom.1; omega, by have q9 := hroom.2; omega⟩) hS (fun r_5 G_5 H locs hF_5 hr_5 hT hS => ?_)
  have hF := hF.tr hF_5 rfl
  have hLI := hLI.fr EX.rf hF_5 rfl
  refine lv_pop2_2 hx hb dL_law_1673 rfl ?_
  refine lv_aload_n hx hb dL_law_1674 rfl (lv_at hl 1 rfl) ?_
  refine lv_aload_n hx hb dL_law_1675 rfl (lv_at hl 3 rfl) ?_
  refine lv_iload_n hx hb dL_law_1676 rfl (lv_at hl 0 rfl) ?_
  refine lv_iconst (v := 1) hx hb dL_law_1677 (by decide) ?_
  refine lv_iadd hx hb dL_law_1678 ?_
  refine lv_topi (fun z_6 ez_6 => ?_)
  have w_7 : z_1 = z_6 := ez_1.trans ez_6.symm
  subst w_7
  refine va_sld (i := z_1) hx hb hX hbl hbA hS (vp_in_iff.mpr ⟨by omega, by omega⟩) dL_law_1679 ?_
  refine W.eq (g2 := F0 m 1680 ls [.int w1, .ref mo]) (by rw [ew1, show z_1.toNatClampNeg = i.toInt.toNat + 1 from (show z_1.toInt.toNat = _ by omega)]) ?_
  refine lv_aload_n hx hb dL_law_1680 rfl (lv_at hl 3 rfl) ?_
  refine lv_iload_n hx hb dL_law_1681 rfl (lv_at hl 0 rfl) ?_
  refine lv_iconst (v := 2) hx hb dL_law_1682 (by decide) ?_
  refine lv_iadd hx hb dL_law_1683 ?_
  refine lv_topi (fun z_8 ez_8 => ?_)
  have w_9 : z_2 = z_8 := ez_2.trans ez_8.symm
  subst w_9
  refine va_sld (i := z_2) hx hb hX hbl hbA hS (vp_in_iff.mpr ⟨by omega, by omega⟩) dL_law_1684 ?_
  refine W.eq (g2 := F0 m 1685 ls [.int w2, .int w1, .ref mo]) (by rw [ew2, show z_2.toNatClampNeg = i.toInt.toNat + 2 from (show z_2.toInt.toNat = _ by omega)]) ?_
  refine lv_aload_n hx hb dL_law_1685 rfl (lv_at hl 3 rfl) ?_
  refine lv_iload_n hx hb dL_law_1686 rfl (lv_at hl 0 rfl) ?_
  refine lv_iconst (v := 3) hx hb dL_law_1687 (by decide) ?_
  refine lv_iadd hx hb dL_law_1688 ?_
  refine lv_topi (fun z_10 ez_10 => ?_)
  have w_11 : z_3 = z_10 := ez_3.trans ez_10.symm
  subst w_11
  refine va_sld (i := z_3) hx hb hX hbl hbA hS (vp_in_iff.mpr ⟨by omega, by omega⟩) dL_law_1689 ?_
  refine W.eq (g2 := F0 m 1690 ls [.int w3, .int w2, .int w1, .ref mo]) (by rw [ew3, show z_3.toNatClampNeg = i.toInt.toNat + 3 from (show z_3.toInt.toNat = _ by omega)]) ?_
  refine lv_aload_n hx hb dL_law_1690 rfl (lv_at hl 3 rfl) ?_
  refine lv_iload_n hx hb dL_law_1691 rfl (lv_at hl 0 rfl) ?_
  refine lv_iconst (v := 4) hx hb dL_law_1692 (by decide) ?_
  refine lv_iadd hx hb dL_law_1693 ?_
  refine lv_topi (fun z_12 ez_12 => ?_)
  have w_13 : z_4 = z_12 := ez_4.trans ez_12.symm
  subst w_13
  refine va_sld (i := z_4) hx hb hX hbl hbA hS (vp_in_iff.mpr ⟨by omega, by omega⟩) dL_law_1694 ?_
  refine W.eq (g2 := F0 m 1695 ls [.int w4, .int w3, .int w2, .int w1, .ref mo]) (by rw [ew4, show z_4.toNatClampNeg = i.toInt.toNat + 4 from (show z_4.toInt.toNat = _ by omega)]) ?_
  refine t_calll (runV (As := [.int w1, .int w2, .int w3, .int w4]) (rest := []) ⟨hx, hb, hml, hown, hts⟩ (t_X10_spread l D cy base τ G_5 mo h_mo w1 w2 w3 w4) sV_L_168 hK (t_recv cf_11 hK hT h_mo) ⟨Nat.le_trans hZ hS.1, hT⟩ ⟨Nat.le_of_ble_eq_true rfl, Nat.le_of_ble_eq_true rfl⟩ rfl hl.1 rfl (Nat.le_of_ble_eq_true rfl) dL_law_1695 ⟨by have q9 := hroom.1; omega, by have q9 := hroom.2; omega⟩) hS (fun r_14 G_14 H locs hF_14 hr_14 hT hS => ?_)
  have hF := hF.tr hF_14 rfl
  have hLI := hLI.fr EX.rf hF_14 rfl
  refine lv_pop2_2 hx hb dL_law_1698 rfl ?_
  refine lv_goto (tgt := 2266) hx hb dL_law_1699 (by decide) ?_
  exact W.widen (k := cells + 10) (n := slots + 200) (by omega) (by omega) (kk τ G_14 H locs ls hLI hT hS (lv_sub hl [0, 1, 2, 3] rfl))
set_option maxHeartbeats 4000000 in
set_option maxRecDepth 100000 in
theorem lc_36 {p : Program} {e : Env} {s : State} {m : MethodId} {below : List Frame} {meth : Method} {c : Code} {l : Launch} {b L : Nat} {xs : Nat → Int32} (D : va_G) (cy : Nat → ClassId) (adK adV : Nat → Nat) (base xo mo : Nat) (C0 : lw_At p s m meth c b L xs) (hK : KK D cy s) (hSS : SS adK adV base s s.heap) (hZ : base ≤ s.heap.size) (hZ2 : s.heap.size ≤ base) (hbA : ¬ RA base b) (hLs : L ≤ 3584) (τ : Nat → Nat) (G : Gh) (i : Int32) (hi0 : 0 ≤ i.toInt) (hi7 : i.toInt + 7 ≤ L) (hLI : LI τ G xo mo) {H : Heap} {locs : List Loc} (hT : TY D cy base τ G H) (hS : va_S (RA base) s.heap H locs) {ls : Array Slot} (hl : lv_has ls 4 [(3, .int i), (2, .ref mo), (1, .ref xo), (0, .ref b)]) {cells slots : Nat} (hroom : cells + 100 ≤ room_1.cells ∧ slots + 1000 ≤ room_1.slots) (kk : ∀ (τ1 : Nat → Nat) (G1 : Gh) (H1 : Heap) (locs1 : List Loc) (ls1 : Array Slot), LI τ1 G1 xo mo → TY D cy base τ1 G1 H1 → va_S (RA base) s.heap H1 locs1 → lv_has ls1 4 [(3, .int i), (2, .ref mo), (1, .ref xo), (0, .ref b)] → W p l e room_1 s m #[Value.ref b] below meth c H1 locs1 (cells + 10) (slots + 200) (lw_Z below #[Value.ref b] s) (F0 m 2266 ls1 [])) : W p l e room_1 s m #[Value.ref b] below meth c H locs cells slots (lw_Z below #[Value.ref b] s) (F0 m 1702 ls []) := by
  obtain ⟨hx, hb, hr, hml, hown, hts, hX, hbl, hlocks, hgv⟩ := id C0
  have hown : s.vm.findClass RL = some m.cls := hown
  have hb : c.code = cL_law := hb
  have hts : ∀ w ∈ GW, w.before #[Value.ref b] s = true := fun w h => hts w (gw_tbl w h)
  have h_xo := hLI.1
  have h_mo := hLI.2.1
  have hF : Fr τ [1, 2, 3, 4, 6, 7, 11, 20, 25, 26, 27, 28, 29, 30, 31, 32, 33, 34, 35, 36, 37, 38, 39, 40, 51, 52, 53, 54, 55, 66, 67, 68, 69, 70, 71, 72, 73, 74, 75, 76, 77, 78, 79, 80, 81, 82, 83, 84, 85, 86, 87, 88, 89, 90, 91, 1001, 1002, 1004, 1023, 1024] G G := Fr.rf
  obtain ⟨w1, ew1⟩ : ∃ y : Int32, y = xs (i.toInt.toNat + 1) := ⟨_, rfl⟩
  obtain ⟨w2, ew2⟩ : ∃ y : Int32, y = xs (i.toInt.toNat + 2) := ⟨_, rfl⟩
  obtain ⟨w3, ew3⟩ : ∃ y : Int32, y = xs (i.toInt.toNat + 3) := ⟨_, rfl⟩
  refine lv_aload_n hx hb dL_law_1702 rfl (lv_at hl 2 rfl) ?_
  refine lv_aload_n hx hb dL_law_1703 rfl (lv_at hl 3 rfl) ?_
  refine lv_iload_n hx hb dL_law_1704 rfl (lv_at hl 0 rfl) ?_
  refine lv_iconst (v := 1) hx hb dL_law_1705 (by decide) ?_
  refine lv_iadd hx hb dL_law_1706 ?_
  refine lv_topi (fun z_1 ez_1 => ?_)
  have tz_1 : z_1.toInt = i.toInt + 1 := add_t ez_1 (show -2147483648 ≤ i.toInt + 1 by omega) (show i.toInt + 1 < 2147483648 by omega)
  refine va_sld (i := z_1) hx hb hX hbl hbA hS (vp_in_iff.mpr ⟨by omega, by omega⟩) dL_law_1707 ?_
  refine W.eq (g2 := F0 m 1708 ls [.int w1, .ref xo]) (by rw [ew1, show z_1.toNatClampNeg = i.toInt.toNat + 1 from (show z_1.toInt.toNat = _ by omega)]) ?_
  refine lv_aload_n hx hb dL_law_1708 rfl (lv_at hl 3 rfl) ?_
  refine lv_iload_n hx hb dL_law_1709 rfl (lv_at hl 0 rfl) ?_
  refine lv_iconst (v := 2) hx hb dL_law_1710 (by decide) ?_
  refine lv_iadd hx hb dL_law_1711 ?_
  refine lv_topi (fun z_2 ez_2 => ?_)
  have tz_2 : z_2.toInt = i.toInt + 2 := add_t ez_2 (show -2147483648 ≤ i.toInt + 2 by omega) (show i.toInt + 2 < 2147483648 by omega)
  refine va_sld (i := z_2) hx hb hX hbl hbA hS (vp_in_iff.mpr ⟨by omega, by omega⟩) dL_law_1712 ?_
  refine W.eq (g2 := F0 m 1713 ls [.int w2, .int w1, .ref xo]) (by rw [ew2, show z_2.toNatClampNeg = i.toInt.toNat + 2 from (show z_2.toInt.toNat = _ by omega)]) ?_
  refine lv_aload_n hx hb dL_law_1713 rfl (lv_at hl 3 rfl) ?_
  refine lv_iload_n hx hb dL_law_1714 rfl (lv_at hl 0 rfl) ?_
  refine lv_iconst (v := 3) hx hb dL_law_1715 (by decide) ?_
  refine lv_iadd hx hb dL_law_1716 ?_
  refine lv_topi (fun z_3 ez_3 => ?_)
  have tz_3 : z_3.toInt = i.toInt + 3 := add_t ez_3 (show -2147483648 ≤ i.toInt + 3 by omega) (show i.toInt + 3 < 2147483648 by omega)
  refine va_sld (i := z_3) hx hb hX hbl hbA hS (vp_in_iff.mpr ⟨by omega, by omega⟩) dL_law_1717 ?_
  refine W.eq (g2 := F0 m 1718 ls [.int w3, .int w2, .int w1, .ref xo]) (by rw [ew3, show z_3.toNatClampNeg = i.toInt.toNat + 3 from (show z_3.toInt.toNat = _ by omega)]) ?_
  refine t_calli (runV (As := [.int w1, .int w2, .int w3]) (rest := []) ⟨hx, hb, hml, hown, hts⟩ (t_X9_bear l D cy base τ G xo h_xo w1 w2 w3) sV_L_169 hK (t_recv cf_1 hK hT h_xo) ⟨Nat.le_trans hZ hS.1, hT⟩ ⟨Nat.le_of_ble_eq_true rfl, Nat.le_of_ble_eq_true rfl⟩ rfl hl.1 rfl (Nat.le_of_ble_eq_true rfl) dL_law_1718 ⟨by have q9 := hroom.1; omega, by have q9 := hroom.2; omega⟩) hS (fun r_4 G_4 H locs hF_4 hr_4 hT hS => ?_)
  have hF := hF.tr hF_4 rfl
  have hLI := hLI.fr EX.rf hF_4 rfl
  refine lv_pop hx hb dL_law_1721 rfl ?_
  refine lv_aload_n hx hb dL_law_1722 rfl (lv_at hl 1 rfl) ?_
  refine lv_aload_n hx hb dL_law_1723 rfl (lv_at hl 3 rfl) ?_
  refine lv_iload_n hx hb dL_law_1724 rfl (lv_at hl 0 rfl) ?_
  refine lv_iconst (v := 1) hx hb dL_law_1725 (by decide) ?_
  refine lv_iadd hx hb dL_law_1726 ?_
  refine lv_topi (fun z_5 ez_5 => ?_)
  have w_6 : z_1 = z_5 := ez_1.trans ez_5.symm
  subst w_6
  refine va_sld (i := z_1) hx hb hX hbl hbA hS (vp_in_iff.mpr ⟨by omega, by omega⟩) dL_law_1727 ?_
  refine W.eq (g2 := F0 m 1728 ls [.int w1, .ref mo]) (by rw [ew1, show z_1.toNatClampNeg = i.toInt.toNat + 1 from (show z_1.toInt.toNat = _ by omega)]) ?_
  refine lv_aload_n hx hb dL_law_1728 rfl (lv_at hl 3 rfl) ?_
  refine lv_iload_n hx hb dL_law_1729 rfl (lv_at hl 0 rfl) ?_
  refine lv_iconst (v := 2) hx hb dL_law_1730 (by decide) ?_
  refine lv_iadd hx hb dL_law_1731 ?_
  refine lv_topi (fun z_7 ez_7 => ?_)
  have w_8 : z_2 = z_7 := ez_2.trans ez_7.symm
  subst w_8
  refine va_sld (i := z_2) hx hb hX hbl hbA hS (vp_in_iff.mpr ⟨by omega, by omega⟩) dL_law_1732 ?_
  refine W.eq (g2 := F0 m 1733 ls [.int w2, .int w1, .ref mo]) (by rw [ew2, show z_2.toNatClampNeg = i.toInt.toNat + 2 from (show z_2.toInt.toNat = _ by omega)]) ?_
  refine lv_aload_n hx hb dL_law_1733 rfl (lv_at hl 3 rfl) ?_
  refine lv_iload_n hx hb dL_law_1734 rfl (lv_at hl 0 rfl) ?_
  refine lv_iconst (v := 3) hx hb dL_law_1735 (by decide) ?_
  refine lv_iadd hx hb dL_law_1736 ?_
  refine lv_topi (fun z_9 ez_9 => ?_)
  have w_10 : z_3 = z_9 := ez_3.trans ez_9.symm
  subst w_10
  refine va_sld (i := z_3) hx hb hX hbl hbA hS (vp_in_iff.mpr ⟨by omega, by omega⟩) dL_law_1737 ?_
  refine W.eq (g2 := F0 m 1738 ls [.int w3, .int w2, .int w1, .ref mo]) (by rw [ew3, show z_3.toNatClampNeg = i.toInt.toNat + 3 from (show z_3.toInt.toNat = _ by omega)]) ?_
  refine t_calli (runV (As := [.int w1, .int w2, .int w3]) (rest := []) ⟨hx, hb, hml, hown, hts⟩ (t_X10_bear l D cy base τ G_4 mo h_mo w1 w2 w3) sV_L_172 hK (t_recv cf_11 hK hT h_mo) ⟨Nat.le_trans hZ hS.1, hT⟩ ⟨Nat.le_of_ble_eq_true rfl, Nat.le_of_ble_eq_true rfl⟩ rfl hl.1 rfl (Nat.le_of_ble_eq_true rfl) dL_law_1738 ⟨by have q9 := hroom.1; omega, by have q9 := hroom.2; omega⟩) hS (fun r_11 G_11 H locs hF_11 hr_11 hT hS => ?_)
  have hF := hF.tr hF_11 rfl
  have hLI := hLI.fr EX.rf hF_11 rfl
  refine lv_pop hx hb dL_law_1741 rfl ?_
  refine lv_goto (tgt := 2266) hx hb dL_law_1742 (by decide) ?_
  exact W.widen (k := cells + 10) (n := slots + 200) (by omega) (by omega) (kk τ G_11 H locs ls hLI hT hS (lv_sub hl [0, 1, 2, 3] rfl))
set_option maxHeartbeats 4000000 in
set_option maxRecDepth 100000 in
theorem lc_37 {p : Program} {e : Env} {s : State} {m : MethodId} {below : List Frame} {meth : Method} {c : Code} {l : Launch} {b L : Nat} {xs : Nat → Int32} (D : va_G) (cy : Nat → ClassId) (adK adV : Nat → Nat) (base xo mo : Nat) (C0 : lw_At p s m meth c b L xs) (hK : KK D cy s) (hSS : SS adK adV base s s.heap) (hZ : base ≤ s.heap.size) (hZ2 : s.heap.size ≤ base) (hbA : ¬ RA base b) (hLs : L ≤ 3584) (τ : Nat → Nat) (G : Gh) (i : Int32) (hi0 : 0 ≤ i.toInt) (hi7 : i.toInt + 7 ≤ L) (hLI : LI τ G xo mo) {H : Heap} {locs : List Loc} (hT : TY D cy base τ G H) (hS : va_S (RA base) s.heap H locs) {ls : Array Slot} (hl : lv_has ls 4 [(3, .int i), (2, .ref mo), (1, .ref xo), (0, .ref b)]) {cells slots : Nat} (hroom : cells + 100 ≤ room_1.cells ∧ slots + 1000 ≤ room_1.slots) (kk : ∀ (τ1 : Nat → Nat) (G1 : Gh) (H1 : Heap) (locs1 : List Loc) (ls1 : Array Slot), LI τ1 G1 xo mo → TY D cy base τ1 G1 H1 → va_S (RA base) s.heap H1 locs1 → lv_has ls1 4 [(3, .int i), (2, .ref mo), (1, .ref xo), (0, .ref b)] → W p l e room_1 s m #[Value.ref b] below meth c H1 locs1 (cells + 10) (slots + 200) (lw_Z below #[Value.ref b] s) (F0 m 2266 ls1 [])) : W p l e room_1 s m #[Value.ref b] below meth c H locs cells slots (lw_Z below #[Value.ref b] s) (F0 m 1745 ls []) := by
  obtain ⟨hx, hb, hr, hml, hown, hts, hX, hbl, hlocks, hgv⟩ := id C0
  have hown : s.vm.findClass RL = some m.cls := hown
  have hb : c.code = cL_law := hb
  have hts : ∀ w ∈ GW, w.before #[Value.ref b] s = true := fun w h => hts w (gw_tbl w h)
  have h_xo := hLI.1
  have h_mo := hLI.2.1
  have hF : Fr τ [1, 2, 3, 4, 6, 7, 11, 20, 25, 26, 27, 28, 29, 30, 31, 32, 33, 34, 35, 36, 37, 38, 39, 40, 51, 52, 53, 54, 55, 66, 67, 68, 69, 70, 71, 72, 73, 74, 75, 76, 77, 78, 79, 80, 81, 82, 83, 84, 85, 86, 87, 88, 89, 90, 91, 1001, 1002, 1004, 1023, 1024] G G := Fr.rf
  obtain ⟨w1, ew1⟩ : ∃ y : Int32, y = xs (i.toInt.toNat + 1) := ⟨_, rfl⟩
  refine lv_aload_n hx hb dL_law_1745 rfl (lv_at hl 2 rfl) ?_
  refine lv_aload_n hx hb dL_law_1746 rfl (lv_at hl 3 rfl) ?_
  refine lv_iload_n hx hb dL_law_1747 rfl (lv_at hl 0 rfl) ?_
  refine lv_iconst (v := 1) hx hb dL_law_1748 (by decide) ?_
  refine lv_iadd hx hb dL_law_1749 ?_
  refine lv_topi (fun z_1 ez_1 => ?_)
  have tz_1 : z_1.toInt = i.toInt + 1 := add_t ez_1 (show -2147483648 ≤ i.toInt + 1 by omega) (show i.toInt + 1 < 2147483648 by omega)
  refine va_sld (i := z_1) hx hb hX hbl hbA hS (vp_in_iff.mpr ⟨by omega, by omega⟩) dL_law_1750 ?_
  refine W.eq (g2 := F0 m 1751 ls [.int w1, .ref xo]) (by rw [ew1, show z_1.toNatClampNeg = i.toInt.toNat + 1 from (show z_1.toInt.toNat = _ by omega)]) ?_
  refine t_calle (runV (As := [.int w1]) (rest := []) ⟨hx, hb, hml, hown, hts⟩ (t_X9_run l D cy base τ G  xo h_xo w1) sV_L_173 hK (t_recv cf_1 hK hT h_xo) ⟨Nat.le_trans hZ hS.1, hT⟩ ⟨Nat.le_of_ble_eq_true rfl, Nat.le_of_ble_eq_true rfl⟩ rfl hl.1 rfl (Nat.le_of_ble_eq_true rfl) dL_law_1751 ⟨by have q9 := hroom.1; omega, by have q9 := hroom.2; omega⟩) hS (fun v_2 τ G H locs hE hF_2 hp_2 hT hS => ?_)
  have hF0 := hF.tr hF_2 rfl
  have h_mo_o := h_mo
  have h_mo : τ mo = 11 := hE.tg h_mo (by decide)
  have h_xo_o := h_xo
  have h_xo : τ xo = 1 := hE.tg h_xo (by decide)
  have hF : Fr τ [1, 2, 3, 4, 6, 7, 11, 20, 25, 26, 27, 28, 29, 30, 31, 32, 33, 34, 35, 36, 37, 38, 39, 40, 51, 52, 53, 54, 55, 66, 67, 68, 69, 70, 71, 72, 73, 74, 75, 76, 77, 78, 79, 80, 81, 82, 83, 84, 85, 86, 87, 88, 89, 90, 91, 1001, 1002, 1004, 1023, 1024] G G := Fr.rf
  obtain ⟨r_2, rfl, hr_2⟩ := hp_2
  refine W.eq (g2 := F0 m 1754 ls [.int r_2]) rfl ?_
  have hLI := hLI.fr hE hF_2 rfl
  refine lv_pop hx hb dL_law_1754 rfl ?_
  refine lv_aload_n hx hb dL_law_1755 rfl (lv_at hl 1 rfl) ?_
  refine lv_aload_n hx hb dL_law_1756 rfl (lv_at hl 3 rfl) ?_
  refine lv_iload_n hx hb dL_law_1757 rfl (lv_at hl 0 rfl) ?_
  refine lv_iconst (v := 1) hx hb dL_law_1758 (by decide) ?_
  refine lv_iadd hx hb dL_law_1759 ?_
  refine lv_topi (fun z_3 ez_3 => ?_)
  have w_4 : z_1 = z_3 := ez_1.trans ez_3.symm
  subst w_4
  refine va_sld (i := z_1) hx hb hX hbl hbA hS (vp_in_iff.mpr ⟨by omega, by omega⟩) dL_law_1760 ?_
  refine W.eq (g2 := F0 m 1761 ls [.int w1, .ref mo]) (by rw [ew1, show z_1.toNatClampNeg = i.toInt.toNat + 1 from (show z_1.toInt.toNat = _ by omega)]) ?_
  refine t_calli (runV (As := [.int w1]) (rest := []) ⟨hx, hb, hml, hown, hts⟩ (t_X10_run l D cy base τ G mo h_mo w1) sV_L_176 hK (t_recv cf_11 hK hT h_mo) ⟨Nat.le_trans hZ hS.1, hT⟩ ⟨Nat.le_of_ble_eq_true rfl, Nat.le_of_ble_eq_true rfl⟩ rfl hl.1 rfl (Nat.le_of_ble_eq_true rfl) dL_law_1761 ⟨by have q9 := hroom.1; omega, by have q9 := hroom.2; omega⟩) hS (fun r_5 G_5 H locs hF_5 hr_5 hT hS => ?_)
  have hF := hF.tr hF_5 rfl
  have hLI := hLI.fr EX.rf hF_5 rfl
  refine lv_pop hx hb dL_law_1764 rfl ?_
  refine lv_goto (tgt := 2266) hx hb dL_law_1765 (by decide) ?_
  exact W.widen (k := cells + 10) (n := slots + 200) (by omega) (by omega) (kk τ G_5 H locs ls hLI hT hS (lv_sub hl [0, 1, 2, 3] rfl))
set_option maxHeartbeats 4000000 in
set_option maxRecDepth 100000 in
theorem lc_38 {p : Program} {e : Env} {s : State} {m : MethodId} {below : List Frame} {meth : Method} {c : Code} {l : Launch} {b L : Nat} {xs : Nat → Int32} (D : va_G) (cy : Nat → ClassId) (adK adV : Nat → Nat) (base xo mo : Nat) (C0 : lw_At p s m meth c b L xs) (hK : KK D cy s) (hSS : SS adK adV base s s.heap) (hZ : base ≤ s.heap.size) (hZ2 : s.heap.size ≤ base) (hbA : ¬ RA base b) (hLs : L ≤ 3584) (τ : Nat → Nat) (G : Gh) (i : Int32) (hi0 : 0 ≤ i.toInt) (hi7 : i.toInt + 7 ≤ L) (hLI : LI τ G xo mo) {H : Heap} {locs : List Loc} (hT : TY D cy base τ G H) (hS : va_S (RA base) s.heap H locs) {ls : Array Slot} (hl : lv_has ls 4 [(3, .int i), (2, .ref mo), (1, .ref xo), (0, .ref b)]) {cells slots : Nat} (hroom : cells + 100 ≤ room_1.cells ∧ slots + 1000 ≤ room_1.slots) (kk : ∀ (τ1 : Nat → Nat) (G1 : Gh) (H1 : Heap) (locs1 : List Loc) (ls1 : Array Slot), LI τ1 G1 xo mo → TY D cy base τ1 G1 H1 → va_S (RA base) s.heap H1 locs1 → lv_has ls1 4 [(3, .int i), (2, .ref mo), (1, .ref xo), (0, .ref b)] → W p l e room_1 s m #[Value.ref b] below meth c H1 locs1 (cells + 10) (slots + 200) (lw_Z below #[Value.ref b] s) (F0 m 2266 ls1 [])) : W p l e room_1 s m #[Value.ref b] below meth c H locs cells slots (lw_Z below #[Value.ref b] s) (F0 m 1768 ls []) := by
  obtain ⟨hx, hb, hr, hml, hown, hts, hX, hbl, hlocks, hgv⟩ := id C0
  have hown : s.vm.findClass RL = some m.cls := hown
  have hb : c.code = cL_law := hb
  have hts : ∀ w ∈ GW, w.before #[Value.ref b] s = true := fun w h => hts w (gw_tbl w h)
  have h_xo := hLI.1
  have h_mo := hLI.2.1
  have hF : Fr τ [1, 2, 3, 4, 6, 7, 11, 20, 25, 26, 27, 28, 29, 30, 31, 32, 33, 34, 35, 36, 37, 38, 39, 40, 51, 52, 53, 54, 55, 66, 67, 68, 69, 70, 71, 72, 73, 74, 75, 76, 77, 78, 79, 80, 81, 82, 83, 84, 85, 86, 87, 88, 89, 90, 91, 1001, 1002, 1004, 1023, 1024] G G := Fr.rf
  obtain ⟨w1, ew1⟩ : ∃ y : Int32, y = xs (i.toInt.toNat + 1) := ⟨_, rfl⟩
  refine lv_aload_n hx hb dL_law_1768 rfl (lv_at hl 2 rfl) ?_
  refine lv_aload_n hx hb dL_law_1769 rfl (lv_at hl 3 rfl) ?_
  refine lv_iload_n hx hb dL_law_1770 rfl (lv_at hl 0 rfl) ?_
  refine lv_iconst (v := 1) hx hb dL_law_1771 (by decide) ?_
  refine lv_iadd hx hb dL_law_1772 ?_
  refine lv_topi (fun z_1 ez_1 => ?_)
  have tz_1 : z_1.toInt = i.toInt + 1 := add_t ez_1 (show -2147483648 ≤ i.toInt + 1 by omega) (show i.toInt + 1 < 2147483648 by omega)
  refine va_sld (i := z_1) hx hb hX hbl hbA hS (vp_in_iff.mpr ⟨by omega, by omega⟩) dL_law_1773 ?_
  refine W.eq (g2 := F0 m 1774 ls [.int w1, .ref xo]) (by rw [ew1, show z_1.toNatClampNeg = i.toInt.toNat + 1 from (show z_1.toInt.toNat = _ by omega)]) ?_
  refine t_calle (runV (As := [.int w1]) (rest := []) ⟨hx, hb, hml, hown, hts⟩ (t_X9_told l D cy base τ G  xo h_xo w1) sV_L_177 hK (t_recv cf_1 hK hT h_xo) ⟨Nat.le_trans hZ hS.1, hT⟩ ⟨Nat.le_of_ble_eq_true rfl, Nat.le_of_ble_eq_true rfl⟩ rfl hl.1 rfl (Nat.le_of_ble_eq_true rfl) dL_law_1774 ⟨by have q9 := hroom.1; omega, by have q9 := hroom.2; omega⟩) hS (fun v_2 τ G H locs hE hF_2 hp_2 hT hS => ?_)
  have hF0 := hF.tr hF_2 rfl
  have h_mo_o := h_mo
  have h_mo : τ mo = 11 := hE.tg h_mo (by decide)
  have h_xo_o := h_xo
  have h_xo : τ xo = 1 := hE.tg h_xo (by decide)
  have hF : Fr τ [1, 2, 3, 4, 6, 7, 11, 20, 25, 26, 27, 28, 29, 30, 31, 32, 33, 34, 35, 36, 37, 38, 39, 40, 51, 52, 53, 54, 55, 66, 67, 68, 69, 70, 71, 72, 73, 74, 75, 76, 77, 78, 79, 80, 81, 82, 83, 84, 85, 86, 87, 88, 89, 90, 91, 1001, 1002, 1004, 1023, 1024] G G := Fr.rf
  obtain ⟨r_2, rfl, hr_2⟩ := hp_2
  refine W.eq (g2 := F0 m 1777 ls [.int r_2]) rfl ?_
  have hLI := hLI.fr hE hF_2 rfl
  refine lv_pop hx hb dL_law_1777 rfl ?_
  refine lv_aload_n hx hb dL_law_1778 rfl (lv_at hl 1 rfl) ?_
  refine lv_aload_n hx hb dL_law_1779 rfl (lv_at hl 3 rfl) ?_
  refine lv_iload_n hx hb dL_law_1780 rfl (lv_at hl 0 rfl) ?_
  refine lv_iconst (v := 1) hx hb dL_law_1781 (by decide) ?_
  refine lv_iadd hx hb dL_law_1782 ?_
  refine lv_topi (fun z_3 ez_3 => ?_)
  have w_4 : z_1 = z_3 := ez_1.trans ez_3.symm
  subst w_4
  refine va_sld (i := z_1) hx hb hX hbl hbA hS (vp_in_iff.mpr ⟨by omega, by omega⟩) dL_law_1783 ?_
  refine W.eq (g2 := F0 m 1784 ls [.int w1, .ref mo]) (by rw [ew1, show z_1.toNatClampNeg = i.toInt.toNat + 1 from (show z_1.toInt.toNat = _ by omega)]) ?_
  refine t_calli (runV (As := [.int w1]) (rest := []) ⟨hx, hb, hml, hown, hts⟩ (t_X10_told l D cy base τ G mo h_mo w1) sV_L_180 hK (t_recv cf_11 hK hT h_mo) ⟨Nat.le_trans hZ hS.1, hT⟩ ⟨Nat.le_of_ble_eq_true rfl, Nat.le_of_ble_eq_true rfl⟩ rfl hl.1 rfl (Nat.le_of_ble_eq_true rfl) dL_law_1784 ⟨by have q9 := hroom.1; omega, by have q9 := hroom.2; omega⟩) hS (fun r_5 G_5 H locs hF_5 hr_5 hT hS => ?_)
  have hF := hF.tr hF_5 rfl
  have hLI := hLI.fr EX.rf hF_5 rfl
  refine lv_pop hx hb dL_law_1787 rfl ?_
  refine lv_goto (tgt := 2266) hx hb dL_law_1788 (by decide) ?_
  exact W.widen (k := cells + 10) (n := slots + 200) (by omega) (by omega) (kk τ G_5 H locs ls hLI hT hS (lv_sub hl [0, 1, 2, 3] rfl))
set_option maxHeartbeats 4000000 in
set_option maxRecDepth 100000 in
theorem lc_39 {p : Program} {e : Env} {s : State} {m : MethodId} {below : List Frame} {meth : Method} {c : Code} {l : Launch} {b L : Nat} {xs : Nat → Int32} (D : va_G) (cy : Nat → ClassId) (adK adV : Nat → Nat) (base xo mo : Nat) (C0 : lw_At p s m meth c b L xs) (hK : KK D cy s) (hSS : SS adK adV base s s.heap) (hZ : base ≤ s.heap.size) (hZ2 : s.heap.size ≤ base) (hbA : ¬ RA base b) (hLs : L ≤ 3584) (τ : Nat → Nat) (G : Gh) (i : Int32) (hi0 : 0 ≤ i.toInt) (hi7 : i.toInt + 7 ≤ L) (hLI : LI τ G xo mo) {H : Heap} {locs : List Loc} (hT : TY D cy base τ G H) (hS : va_S (RA base) s.heap H locs) {ls : Array Slot} (hl : lv_has ls 4 [(3, .int i), (2, .ref mo), (1, .ref xo), (0, .ref b)]) {cells slots : Nat} (hroom : cells + 100 ≤ room_1.cells ∧ slots + 1000 ≤ room_1.slots) (kk : ∀ (τ1 : Nat → Nat) (G1 : Gh) (H1 : Heap) (locs1 : List Loc) (ls1 : Array Slot), LI τ1 G1 xo mo → TY D cy base τ1 G1 H1 → va_S (RA base) s.heap H1 locs1 → lv_has ls1 4 [(3, .int i), (2, .ref mo), (1, .ref xo), (0, .ref b)] → W p l e room_1 s m #[Value.ref b] below meth c H1 locs1 (cells + 10) (slots + 200) (lw_Z below #[Value.ref b] s) (F0 m 2266 ls1 [])) : W p l e room_1 s m #[Value.ref b] below meth c H locs cells slots (lw_Z below #[Value.ref b] s) (F0 m 1791 ls []) := by
  obtain ⟨hx, hb, hr, hml, hown, hts, hX, hbl, hlocks, hgv⟩ := id C0
  have hown : s.vm.findClass RL = some m.cls := hown
  have hb : c.code = cL_law := hb
  have hts : ∀ w ∈ GW, w.before #[Value.ref b] s = true := fun w h => hts w (gw_tbl w h)
  have h_xo := hLI.1
  have h_mo := hLI.2.1
  have hF : Fr τ [1, 2, 3, 4, 6, 7, 11, 20, 25, 26, 27, 28, 29, 30, 31, 32, 33, 34, 35, 36, 37, 38, 39, 40, 51, 52, 53, 54, 55, 66, 67, 68, 69, 70, 71, 72, 73, 74, 75, 76, 77, 78, 79, 80, 81, 82, 83, 84, 85, 86, 87, 88, 89, 90, 91, 1001, 1002, 1004, 1023, 1024] G G := Fr.rf
  obtain ⟨w1, ew1⟩ : ∃ y : Int32, y = xs (i.toInt.toNat + 1) := ⟨_, rfl⟩
  refine lv_aload_n hx hb dL_law_1791 rfl (lv_at hl 2 rfl) ?_
  refine lv_aload_n hx hb dL_law_1792 rfl (lv_at hl 3 rfl) ?_
  refine lv_iload_n hx hb dL_law_1793 rfl (lv_at hl 0 rfl) ?_
  refine lv_iconst (v := 1) hx hb dL_law_1794 (by decide) ?_
  refine lv_iadd hx hb dL_law_1795 ?_
  refine lv_topi (fun z_1 ez_1 => ?_)
  have tz_1 : z_1.toInt = i.toInt + 1 := add_t ez_1 (show -2147483648 ≤ i.toInt + 1 by omega) (show i.toInt + 1 < 2147483648 by omega)
  refine va_sld (i := z_1) hx hb hX hbl hbA hS (vp_in_iff.mpr ⟨by omega, by omega⟩) dL_law_1796 ?_
  refine W.eq (g2 := F0 m 1797 ls [.int w1, .ref xo]) (by rw [ew1, show z_1.toNatClampNeg = i.toInt.toNat + 1 from (show z_1.toInt.toNat = _ by omega)]) ?_
  refine pu_calli (runV (As := [.int w1]) (rest := []) ⟨hx, hb, hml, hown, hts⟩ (t_X9_shut l D cy base τ G xo h_xo w1) sV_L_181 hK (t_recv cf_1 hK hT h_xo) ⟨Nat.le_trans hZ hS.1, hT⟩ ⟨Nat.le_of_ble_eq_true rfl, Nat.le_of_ble_eq_true rfl⟩ rfl hl.1 rfl (Nat.le_of_ble_eq_true rfl) dL_law_1797 ⟨by have q9 := hroom.1; omega, by have q9 := hroom.2; omega⟩) (fun r_2 hr_2 => ?_)
  refine lv_pop hx hb dL_law_1800 rfl ?_
  refine lv_aload_n hx hb dL_law_1801 rfl (lv_at hl 1 rfl) ?_
  refine lv_aload_n hx hb dL_law_1802 rfl (lv_at hl 3 rfl) ?_
  refine lv_iload_n hx hb dL_law_1803 rfl (lv_at hl 0 rfl) ?_
  refine lv_iconst (v := 1) hx hb dL_law_1804 (by decide) ?_
  refine lv_iadd hx hb dL_law_1805 ?_
  refine lv_topi (fun z_3 ez_3 => ?_)
  have w_4 : z_1 = z_3 := ez_1.trans ez_3.symm
  subst w_4
  refine va_sld (i := z_1) hx hb hX hbl hbA hS (vp_in_iff.mpr ⟨by omega, by omega⟩) dL_law_1806 ?_
  refine W.eq (g2 := F0 m 1807 ls [.int w1, .ref mo]) (by rw [ew1, show z_1.toNatClampNeg = i.toInt.toNat + 1 from (show z_1.toInt.toNat = _ by omega)]) ?_
  refine t_calli (runV (As := [.int w1]) (rest := []) ⟨hx, hb, hml, hown, hts⟩ (t_X10_shut l D cy base τ G mo h_mo w1) sV_L_184 hK (t_recv cf_11 hK hT h_mo) ⟨Nat.le_trans hZ hS.1, hT⟩ ⟨Nat.le_of_ble_eq_true rfl, Nat.le_of_ble_eq_true rfl⟩ rfl hl.1 rfl (Nat.le_of_ble_eq_true rfl) dL_law_1807 ⟨by have q9 := hroom.1; omega, by have q9 := hroom.2; omega⟩) hS (fun r_5 G_5 H locs hF_5 hr_5 hT hS => ?_)
  have hF := hF.tr hF_5 rfl
  have hLI := hLI.fr EX.rf hF_5 rfl
  refine lv_pop hx hb dL_law_1810 rfl ?_
  refine lv_goto (tgt := 2266) hx hb dL_law_1811 (by decide) ?_
  exact W.widen (k := cells + 10) (n := slots + 200) (by omega) (by omega) (kk τ G_5 H locs ls hLI hT hS (lv_sub hl [0, 1, 2, 3] rfl))
