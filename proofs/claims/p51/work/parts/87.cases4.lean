-- ===== the law: cases 35 to 42 =====
theorem f333_1477 : aF 1477 zM333.2.2.2.2.2.2.2 = some (1477, (.aload_n 1), 1, 0, 0) := by decide +kernel
theorem f333_1478 : aF 1478 zM333.2.2.2.2.2.2.2 = some (1478, (.aload_n 0), 1, 0, 0) := by decide +kernel
theorem f333_1479 : aF 1479 zM333.2.2.2.2.2.2.2 = some (1479, (.iload_n 3), 1, 0, 0) := by decide +kernel
theorem f333_1480 : aF 1480 zM333.2.2.2.2.2.2.2 = some (1480, (.iconst 1), 1, 0, 0) := by decide +kernel
theorem f333_1481 : aF 1481 zM333.2.2.2.2.2.2.2 = some (1481, .iadd, 1, 0, 0) := by decide +kernel
theorem f333_1482 : aF 1482 zM333.2.2.2.2.2.2.2 = some (1482, .iaload, 1, 0, 0) := by decide +kernel
theorem f333_1483 : aF 1483 zM333.2.2.2.2.2.2.2 = some (1483, (.invokevirtual 159), 3, 179, 0) := by decide +kernel
theorem f333_1486 : aF 1486 zM333.2.2.2.2.2.2.2 = some (1486, .pop, 1, 0, 0) := by decide +kernel
theorem f333_1487 : aF 1487 zM333.2.2.2.2.2.2.2 = some (1487, (.aload_n 2), 1, 0, 0) := by decide +kernel
theorem f333_1488 : aF 1488 zM333.2.2.2.2.2.2.2 = some (1488, (.aload_n 0), 1, 0, 0) := by decide +kernel
theorem f333_1489 : aF 1489 zM333.2.2.2.2.2.2.2 = some (1489, (.iload_n 3), 1, 0, 0) := by decide +kernel
theorem f333_1490 : aF 1490 zM333.2.2.2.2.2.2.2 = some (1490, (.iconst 1), 1, 0, 0) := by decide +kernel
theorem f333_1491 : aF 1491 zM333.2.2.2.2.2.2.2 = some (1491, .iadd, 1, 0, 0) := by decide +kernel
theorem f333_1492 : aF 1492 zM333.2.2.2.2.2.2.2 = some (1492, .iaload, 1, 0, 0) := by decide +kernel
theorem f333_1493 : aF 1493 zM333.2.2.2.2.2.2.2 = some (1493, (.invokevirtual 162), 3, 294, 0) := by decide +kernel
theorem f333_1496 : aF 1496 zM333.2.2.2.2.2.2.2 = some (1496, .pop, 1, 0, 0) := by decide +kernel
theorem f333_1497 : aF 1497 zM333.2.2.2.2.2.2.2 = some (1497, (.goto 578), 3, 2075, 0) := by decide +kernel
theorem f333_1500 : aF 1500 zM333.2.2.2.2.2.2.2 = some (1500, (.aload_n 1), 1, 0, 0) := by decide +kernel
theorem f333_1501 : aF 1501 zM333.2.2.2.2.2.2.2 = some (1501, (.aload_n 0), 1, 0, 0) := by decide +kernel
theorem f333_1502 : aF 1502 zM333.2.2.2.2.2.2.2 = some (1502, (.iload_n 3), 1, 0, 0) := by decide +kernel
theorem f333_1503 : aF 1503 zM333.2.2.2.2.2.2.2 = some (1503, (.iconst 1), 1, 0, 0) := by decide +kernel
theorem f333_1504 : aF 1504 zM333.2.2.2.2.2.2.2 = some (1504, .iadd, 1, 0, 0) := by decide +kernel
theorem f333_1505 : aF 1505 zM333.2.2.2.2.2.2.2 = some (1505, .iaload, 1, 0, 0) := by decide +kernel
theorem f333_1506 : aF 1506 zM333.2.2.2.2.2.2.2 = some (1506, (.aload_n 0), 1, 0, 0) := by decide +kernel
theorem f333_1507 : aF 1507 zM333.2.2.2.2.2.2.2 = some (1507, (.iload_n 3), 1, 0, 0) := by decide +kernel
theorem f333_1508 : aF 1508 zM333.2.2.2.2.2.2.2 = some (1508, (.iconst 2), 1, 0, 0) := by decide +kernel
theorem f333_1509 : aF 1509 zM333.2.2.2.2.2.2.2 = some (1509, .iadd, 1, 0, 0) := by decide +kernel
theorem f333_1510 : aF 1510 zM333.2.2.2.2.2.2.2 = some (1510, .iaload, 1, 0, 0) := by decide +kernel
theorem f333_1511 : aF 1511 zM333.2.2.2.2.2.2.2 = some (1511, (.aload_n 0), 1, 0, 0) := by decide +kernel
theorem f333_1512 : aF 1512 zM333.2.2.2.2.2.2.2 = some (1512, (.iload_n 3), 1, 0, 0) := by decide +kernel
theorem f333_1513 : aF 1513 zM333.2.2.2.2.2.2.2 = some (1513, (.iconst 3), 1, 0, 0) := by decide +kernel
theorem f333_1514 : aF 1514 zM333.2.2.2.2.2.2.2 = some (1514, .iadd, 1, 0, 0) := by decide +kernel
theorem f333_1515 : aF 1515 zM333.2.2.2.2.2.2.2 = some (1515, .iaload, 1, 0, 0) := by decide +kernel
theorem f333_1516 : aF 1516 zM333.2.2.2.2.2.2.2 = some (1516, (.invokevirtual 163), 3, 180, 0) := by decide +kernel
theorem f333_1519 : aF 1519 zM333.2.2.2.2.2.2.2 = some (1519, .pop, 1, 0, 0) := by decide +kernel
theorem f333_1520 : aF 1520 zM333.2.2.2.2.2.2.2 = some (1520, (.aload_n 2), 1, 0, 0) := by decide +kernel
theorem f333_1521 : aF 1521 zM333.2.2.2.2.2.2.2 = some (1521, (.aload_n 0), 1, 0, 0) := by decide +kernel
theorem f333_1522 : aF 1522 zM333.2.2.2.2.2.2.2 = some (1522, (.iload_n 3), 1, 0, 0) := by decide +kernel
theorem f333_1523 : aF 1523 zM333.2.2.2.2.2.2.2 = some (1523, (.iconst 1), 1, 0, 0) := by decide +kernel
theorem f333_1524 : aF 1524 zM333.2.2.2.2.2.2.2 = some (1524, .iadd, 1, 0, 0) := by decide +kernel
theorem f333_1525 : aF 1525 zM333.2.2.2.2.2.2.2 = some (1525, .iaload, 1, 0, 0) := by decide +kernel
theorem f333_1526 : aF 1526 zM333.2.2.2.2.2.2.2 = some (1526, (.aload_n 0), 1, 0, 0) := by decide +kernel
theorem f333_1527 : aF 1527 zM333.2.2.2.2.2.2.2 = some (1527, (.iload_n 3), 1, 0, 0) := by decide +kernel
theorem f333_1528 : aF 1528 zM333.2.2.2.2.2.2.2 = some (1528, (.iconst 2), 1, 0, 0) := by decide +kernel
theorem f333_1529 : aF 1529 zM333.2.2.2.2.2.2.2 = some (1529, .iadd, 1, 0, 0) := by decide +kernel
theorem f333_1530 : aF 1530 zM333.2.2.2.2.2.2.2 = some (1530, .iaload, 1, 0, 0) := by decide +kernel
theorem f333_1531 : aF 1531 zM333.2.2.2.2.2.2.2 = some (1531, (.aload_n 0), 1, 0, 0) := by decide +kernel
theorem f333_1532 : aF 1532 zM333.2.2.2.2.2.2.2 = some (1532, (.iload_n 3), 1, 0, 0) := by decide +kernel
theorem f333_1533 : aF 1533 zM333.2.2.2.2.2.2.2 = some (1533, (.iconst 3), 1, 0, 0) := by decide +kernel
theorem f333_1534 : aF 1534 zM333.2.2.2.2.2.2.2 = some (1534, .iadd, 1, 0, 0) := by decide +kernel
theorem f333_1535 : aF 1535 zM333.2.2.2.2.2.2.2 = some (1535, .iaload, 1, 0, 0) := by decide +kernel
theorem f333_1536 : aF 1536 zM333.2.2.2.2.2.2.2 = some (1536, (.invokevirtual 166), 3, 298, 0) := by decide +kernel
theorem f333_1539 : aF 1539 zM333.2.2.2.2.2.2.2 = some (1539, .pop, 1, 0, 0) := by decide +kernel
theorem f333_1540 : aF 1540 zM333.2.2.2.2.2.2.2 = some (1540, (.goto 535), 3, 2075, 0) := by decide +kernel
theorem f333_1543 : aF 1543 zM333.2.2.2.2.2.2.2 = some (1543, (.aload_n 1), 1, 0, 0) := by decide +kernel
theorem f333_1544 : aF 1544 zM333.2.2.2.2.2.2.2 = some (1544, (.aload_n 0), 1, 0, 0) := by decide +kernel
theorem f333_1545 : aF 1545 zM333.2.2.2.2.2.2.2 = some (1545, (.iload_n 3), 1, 0, 0) := by decide +kernel
theorem f333_1546 : aF 1546 zM333.2.2.2.2.2.2.2 = some (1546, (.iconst 1), 1, 0, 0) := by decide +kernel
theorem f333_1547 : aF 1547 zM333.2.2.2.2.2.2.2 = some (1547, .iadd, 1, 0, 0) := by decide +kernel
theorem f333_1548 : aF 1548 zM333.2.2.2.2.2.2.2 = some (1548, .iaload, 1, 0, 0) := by decide +kernel
theorem f333_1549 : aF 1549 zM333.2.2.2.2.2.2.2 = some (1549, (.invokevirtual 167), 3, 181, 0) := by decide +kernel
theorem f333_1552 : aF 1552 zM333.2.2.2.2.2.2.2 = some (1552, .pop, 1, 0, 0) := by decide +kernel
theorem f333_1553 : aF 1553 zM333.2.2.2.2.2.2.2 = some (1553, (.aload_n 2), 1, 0, 0) := by decide +kernel
theorem f333_1554 : aF 1554 zM333.2.2.2.2.2.2.2 = some (1554, (.aload_n 0), 1, 0, 0) := by decide +kernel
theorem f333_1555 : aF 1555 zM333.2.2.2.2.2.2.2 = some (1555, (.iload_n 3), 1, 0, 0) := by decide +kernel
theorem f333_1556 : aF 1556 zM333.2.2.2.2.2.2.2 = some (1556, (.iconst 1), 1, 0, 0) := by decide +kernel
theorem f333_1557 : aF 1557 zM333.2.2.2.2.2.2.2 = some (1557, .iadd, 1, 0, 0) := by decide +kernel
theorem f333_1558 : aF 1558 zM333.2.2.2.2.2.2.2 = some (1558, .iaload, 1, 0, 0) := by decide +kernel
theorem f333_1559 : aF 1559 zM333.2.2.2.2.2.2.2 = some (1559, (.invokevirtual 170), 3, 299, 0) := by decide +kernel
theorem f333_1562 : aF 1562 zM333.2.2.2.2.2.2.2 = some (1562, .pop, 1, 0, 0) := by decide +kernel
theorem f333_1563 : aF 1563 zM333.2.2.2.2.2.2.2 = some (1563, (.goto 512), 3, 2075, 0) := by decide +kernel
theorem f333_1566 : aF 1566 zM333.2.2.2.2.2.2.2 = some (1566, (.aload_n 1), 1, 0, 0) := by decide +kernel
theorem f333_1567 : aF 1567 zM333.2.2.2.2.2.2.2 = some (1567, (.aload_n 0), 1, 0, 0) := by decide +kernel
theorem f333_1568 : aF 1568 zM333.2.2.2.2.2.2.2 = some (1568, (.iload_n 3), 1, 0, 0) := by decide +kernel
theorem f333_1569 : aF 1569 zM333.2.2.2.2.2.2.2 = some (1569, (.iconst 1), 1, 0, 0) := by decide +kernel
theorem f333_1570 : aF 1570 zM333.2.2.2.2.2.2.2 = some (1570, .iadd, 1, 0, 0) := by decide +kernel
theorem f333_1571 : aF 1571 zM333.2.2.2.2.2.2.2 = some (1571, .iaload, 1, 0, 0) := by decide +kernel
theorem f333_1572 : aF 1572 zM333.2.2.2.2.2.2.2 = some (1572, (.aload_n 0), 1, 0, 0) := by decide +kernel
theorem f333_1573 : aF 1573 zM333.2.2.2.2.2.2.2 = some (1573, (.iload_n 3), 1, 0, 0) := by decide +kernel
theorem f333_1574 : aF 1574 zM333.2.2.2.2.2.2.2 = some (1574, (.iconst 2), 1, 0, 0) := by decide +kernel
theorem f333_1575 : aF 1575 zM333.2.2.2.2.2.2.2 = some (1575, .iadd, 1, 0, 0) := by decide +kernel
theorem f333_1576 : aF 1576 zM333.2.2.2.2.2.2.2 = some (1576, .iaload, 1, 0, 0) := by decide +kernel
theorem f333_1577 : aF 1577 zM333.2.2.2.2.2.2.2 = some (1577, (.invokevirtual 171), 3, 182, 0) := by decide +kernel
theorem f333_1580 : aF 1580 zM333.2.2.2.2.2.2.2 = some (1580, .pop, 1, 0, 0) := by decide +kernel
theorem f333_1581 : aF 1581 zM333.2.2.2.2.2.2.2 = some (1581, (.aload_n 2), 1, 0, 0) := by decide +kernel
theorem f333_1582 : aF 1582 zM333.2.2.2.2.2.2.2 = some (1582, (.aload_n 0), 1, 0, 0) := by decide +kernel
theorem f333_1583 : aF 1583 zM333.2.2.2.2.2.2.2 = some (1583, (.iload_n 3), 1, 0, 0) := by decide +kernel
theorem f333_1584 : aF 1584 zM333.2.2.2.2.2.2.2 = some (1584, (.iconst 1), 1, 0, 0) := by decide +kernel
theorem f333_1585 : aF 1585 zM333.2.2.2.2.2.2.2 = some (1585, .iadd, 1, 0, 0) := by decide +kernel
theorem f333_1586 : aF 1586 zM333.2.2.2.2.2.2.2 = some (1586, .iaload, 1, 0, 0) := by decide +kernel
theorem f333_1587 : aF 1587 zM333.2.2.2.2.2.2.2 = some (1587, (.aload_n 0), 1, 0, 0) := by decide +kernel
theorem f333_1588 : aF 1588 zM333.2.2.2.2.2.2.2 = some (1588, (.iload_n 3), 1, 0, 0) := by decide +kernel
theorem f333_1589 : aF 1589 zM333.2.2.2.2.2.2.2 = some (1589, (.iconst 2), 1, 0, 0) := by decide +kernel
theorem f333_1590 : aF 1590 zM333.2.2.2.2.2.2.2 = some (1590, .iadd, 1, 0, 0) := by decide +kernel
theorem f333_1591 : aF 1591 zM333.2.2.2.2.2.2.2 = some (1591, .iaload, 1, 0, 0) := by decide +kernel
theorem f333_1592 : aF 1592 zM333.2.2.2.2.2.2.2 = some (1592, (.invokevirtual 174), 3, 300, 0) := by decide +kernel
theorem f333_1595 : aF 1595 zM333.2.2.2.2.2.2.2 = some (1595, .pop, 1, 0, 0) := by decide +kernel
theorem f333_1596 : aF 1596 zM333.2.2.2.2.2.2.2 = some (1596, (.goto 479), 3, 2075, 0) := by decide +kernel
theorem f333_1599 : aF 1599 zM333.2.2.2.2.2.2.2 = some (1599, (.aload_n 1), 1, 0, 0) := by decide +kernel
theorem f333_1600 : aF 1600 zM333.2.2.2.2.2.2.2 = some (1600, (.aload_n 0), 1, 0, 0) := by decide +kernel
theorem f333_1601 : aF 1601 zM333.2.2.2.2.2.2.2 = some (1601, (.iload_n 3), 1, 0, 0) := by decide +kernel
theorem f333_1602 : aF 1602 zM333.2.2.2.2.2.2.2 = some (1602, (.iconst 1), 1, 0, 0) := by decide +kernel
theorem f333_1603 : aF 1603 zM333.2.2.2.2.2.2.2 = some (1603, .iadd, 1, 0, 0) := by decide +kernel
theorem f333_1604 : aF 1604 zM333.2.2.2.2.2.2.2 = some (1604, .iaload, 1, 0, 0) := by decide +kernel
theorem f333_1605 : aF 1605 zM333.2.2.2.2.2.2.2 = some (1605, (.aload_n 0), 1, 0, 0) := by decide +kernel
theorem f333_1606 : aF 1606 zM333.2.2.2.2.2.2.2 = some (1606, (.iload_n 3), 1, 0, 0) := by decide +kernel
theorem f333_1607 : aF 1607 zM333.2.2.2.2.2.2.2 = some (1607, (.iconst 2), 1, 0, 0) := by decide +kernel
theorem f333_1608 : aF 1608 zM333.2.2.2.2.2.2.2 = some (1608, .iadd, 1, 0, 0) := by decide +kernel
theorem f333_1609 : aF 1609 zM333.2.2.2.2.2.2.2 = some (1609, .iaload, 1, 0, 0) := by decide +kernel
theorem f333_1610 : aF 1610 zM333.2.2.2.2.2.2.2 = some (1610, (.invokevirtual 175), 3, 183, 0) := by decide +kernel
theorem f333_1613 : aF 1613 zM333.2.2.2.2.2.2.2 = some (1613, .pop, 1, 0, 0) := by decide +kernel
theorem f333_1614 : aF 1614 zM333.2.2.2.2.2.2.2 = some (1614, (.aload_n 2), 1, 0, 0) := by decide +kernel
theorem f333_1615 : aF 1615 zM333.2.2.2.2.2.2.2 = some (1615, (.aload_n 0), 1, 0, 0) := by decide +kernel
theorem f333_1616 : aF 1616 zM333.2.2.2.2.2.2.2 = some (1616, (.iload_n 3), 1, 0, 0) := by decide +kernel
theorem f333_1617 : aF 1617 zM333.2.2.2.2.2.2.2 = some (1617, (.iconst 1), 1, 0, 0) := by decide +kernel
theorem f333_1618 : aF 1618 zM333.2.2.2.2.2.2.2 = some (1618, .iadd, 1, 0, 0) := by decide +kernel
theorem f333_1619 : aF 1619 zM333.2.2.2.2.2.2.2 = some (1619, .iaload, 1, 0, 0) := by decide +kernel
theorem f333_1620 : aF 1620 zM333.2.2.2.2.2.2.2 = some (1620, (.aload_n 0), 1, 0, 0) := by decide +kernel
theorem f333_1621 : aF 1621 zM333.2.2.2.2.2.2.2 = some (1621, (.iload_n 3), 1, 0, 0) := by decide +kernel
theorem f333_1622 : aF 1622 zM333.2.2.2.2.2.2.2 = some (1622, (.iconst 2), 1, 0, 0) := by decide +kernel
theorem f333_1623 : aF 1623 zM333.2.2.2.2.2.2.2 = some (1623, .iadd, 1, 0, 0) := by decide +kernel
theorem f333_1624 : aF 1624 zM333.2.2.2.2.2.2.2 = some (1624, .iaload, 1, 0, 0) := by decide +kernel
theorem f333_1625 : aF 1625 zM333.2.2.2.2.2.2.2 = some (1625, (.invokevirtual 178), 3, 302, 0) := by decide +kernel
theorem f333_1628 : aF 1628 zM333.2.2.2.2.2.2.2 = some (1628, .pop, 1, 0, 0) := by decide +kernel
theorem f333_1629 : aF 1629 zM333.2.2.2.2.2.2.2 = some (1629, (.goto 446), 3, 2075, 0) := by decide +kernel
theorem f333_1632 : aF 1632 zM333.2.2.2.2.2.2.2 = some (1632, (.aload_n 1), 1, 0, 0) := by decide +kernel
theorem f333_1633 : aF 1633 zM333.2.2.2.2.2.2.2 = some (1633, (.aload_n 0), 1, 0, 0) := by decide +kernel
theorem f333_1634 : aF 1634 zM333.2.2.2.2.2.2.2 = some (1634, (.iload_n 3), 1, 0, 0) := by decide +kernel
theorem f333_1635 : aF 1635 zM333.2.2.2.2.2.2.2 = some (1635, (.iconst 1), 1, 0, 0) := by decide +kernel
theorem f333_1636 : aF 1636 zM333.2.2.2.2.2.2.2 = some (1636, .iadd, 1, 0, 0) := by decide +kernel
theorem f333_1637 : aF 1637 zM333.2.2.2.2.2.2.2 = some (1637, .iaload, 1, 0, 0) := by decide +kernel
theorem f333_1638 : aF 1638 zM333.2.2.2.2.2.2.2 = some (1638, (.invokevirtual 179), 3, 184, 0) := by decide +kernel
theorem f333_1641 : aF 1641 zM333.2.2.2.2.2.2.2 = some (1641, .pop, 1, 0, 0) := by decide +kernel
theorem f333_1642 : aF 1642 zM333.2.2.2.2.2.2.2 = some (1642, (.aload_n 2), 1, 0, 0) := by decide +kernel
theorem f333_1643 : aF 1643 zM333.2.2.2.2.2.2.2 = some (1643, (.aload_n 0), 1, 0, 0) := by decide +kernel
theorem f333_1644 : aF 1644 zM333.2.2.2.2.2.2.2 = some (1644, (.iload_n 3), 1, 0, 0) := by decide +kernel
theorem f333_1645 : aF 1645 zM333.2.2.2.2.2.2.2 = some (1645, (.iconst 1), 1, 0, 0) := by decide +kernel
theorem f333_1646 : aF 1646 zM333.2.2.2.2.2.2.2 = some (1646, .iadd, 1, 0, 0) := by decide +kernel
theorem f333_1647 : aF 1647 zM333.2.2.2.2.2.2.2 = some (1647, .iaload, 1, 0, 0) := by decide +kernel
theorem f333_1648 : aF 1648 zM333.2.2.2.2.2.2.2 = some (1648, (.invokevirtual 182), 3, 303, 0) := by decide +kernel
theorem f333_1651 : aF 1651 zM333.2.2.2.2.2.2.2 = some (1651, .pop, 1, 0, 0) := by decide +kernel
theorem f333_1652 : aF 1652 zM333.2.2.2.2.2.2.2 = some (1652, (.goto 423), 3, 2075, 0) := by decide +kernel
theorem f333_1655 : aF 1655 zM333.2.2.2.2.2.2.2 = some (1655, (.aload_n 1), 1, 0, 0) := by decide +kernel
theorem f333_1656 : aF 1656 zM333.2.2.2.2.2.2.2 = some (1656, (.aload_n 0), 1, 0, 0) := by decide +kernel
theorem f333_1657 : aF 1657 zM333.2.2.2.2.2.2.2 = some (1657, (.iload_n 3), 1, 0, 0) := by decide +kernel
theorem f333_1658 : aF 1658 zM333.2.2.2.2.2.2.2 = some (1658, (.iconst 1), 1, 0, 0) := by decide +kernel
theorem f333_1659 : aF 1659 zM333.2.2.2.2.2.2.2 = some (1659, .iadd, 1, 0, 0) := by decide +kernel
theorem f333_1660 : aF 1660 zM333.2.2.2.2.2.2.2 = some (1660, .iaload, 1, 0, 0) := by decide +kernel
theorem f333_1661 : aF 1661 zM333.2.2.2.2.2.2.2 = some (1661, (.aload_n 0), 1, 0, 0) := by decide +kernel
theorem f333_1662 : aF 1662 zM333.2.2.2.2.2.2.2 = some (1662, (.iload_n 3), 1, 0, 0) := by decide +kernel
theorem f333_1663 : aF 1663 zM333.2.2.2.2.2.2.2 = some (1663, (.iconst 2), 1, 0, 0) := by decide +kernel
theorem f333_1664 : aF 1664 zM333.2.2.2.2.2.2.2 = some (1664, .iadd, 1, 0, 0) := by decide +kernel
theorem f333_1665 : aF 1665 zM333.2.2.2.2.2.2.2 = some (1665, .iaload, 1, 0, 0) := by decide +kernel
theorem f333_1666 : aF 1666 zM333.2.2.2.2.2.2.2 = some (1666, (.aload_n 0), 1, 0, 0) := by decide +kernel
theorem f333_1667 : aF 1667 zM333.2.2.2.2.2.2.2 = some (1667, (.iload_n 3), 1, 0, 0) := by decide +kernel
theorem f333_1668 : aF 1668 zM333.2.2.2.2.2.2.2 = some (1668, (.iconst 3), 1, 0, 0) := by decide +kernel
theorem f333_1669 : aF 1669 zM333.2.2.2.2.2.2.2 = some (1669, .iadd, 1, 0, 0) := by decide +kernel
theorem f333_1670 : aF 1670 zM333.2.2.2.2.2.2.2 = some (1670, .iaload, 1, 0, 0) := by decide +kernel
theorem f333_1671 : aF 1671 zM333.2.2.2.2.2.2.2 = some (1671, (.aload_n 0), 1, 0, 0) := by decide +kernel
theorem f333_1672 : aF 1672 zM333.2.2.2.2.2.2.2 = some (1672, (.iload_n 3), 1, 0, 0) := by decide +kernel
theorem f333_1673 : aF 1673 zM333.2.2.2.2.2.2.2 = some (1673, (.iconst 4), 1, 0, 0) := by decide +kernel
theorem f333_1674 : aF 1674 zM333.2.2.2.2.2.2.2 = some (1674, .iadd, 1, 0, 0) := by decide +kernel
theorem f333_1675 : aF 1675 zM333.2.2.2.2.2.2.2 = some (1675, .iaload, 1, 0, 0) := by decide +kernel
theorem f333_1676 : aF 1676 zM333.2.2.2.2.2.2.2 = some (1676, (.invokevirtual 183), 3, 185, 0) := by decide +kernel
theorem f333_1679 : aF 1679 zM333.2.2.2.2.2.2.2 = some (1679, .pop, 1, 0, 0) := by decide +kernel
theorem f333_1680 : aF 1680 zM333.2.2.2.2.2.2.2 = some (1680, (.aload_n 2), 1, 0, 0) := by decide +kernel
theorem f333_1681 : aF 1681 zM333.2.2.2.2.2.2.2 = some (1681, (.aload_n 0), 1, 0, 0) := by decide +kernel
theorem f333_1682 : aF 1682 zM333.2.2.2.2.2.2.2 = some (1682, (.iload_n 3), 1, 0, 0) := by decide +kernel
theorem f333_1683 : aF 1683 zM333.2.2.2.2.2.2.2 = some (1683, (.iconst 1), 1, 0, 0) := by decide +kernel
theorem f333_1684 : aF 1684 zM333.2.2.2.2.2.2.2 = some (1684, .iadd, 1, 0, 0) := by decide +kernel
theorem f333_1685 : aF 1685 zM333.2.2.2.2.2.2.2 = some (1685, .iaload, 1, 0, 0) := by decide +kernel
theorem f333_1686 : aF 1686 zM333.2.2.2.2.2.2.2 = some (1686, (.aload_n 0), 1, 0, 0) := by decide +kernel
theorem f333_1687 : aF 1687 zM333.2.2.2.2.2.2.2 = some (1687, (.iload_n 3), 1, 0, 0) := by decide +kernel
theorem f333_1688 : aF 1688 zM333.2.2.2.2.2.2.2 = some (1688, (.iconst 2), 1, 0, 0) := by decide +kernel
theorem f333_1689 : aF 1689 zM333.2.2.2.2.2.2.2 = some (1689, .iadd, 1, 0, 0) := by decide +kernel
theorem f333_1690 : aF 1690 zM333.2.2.2.2.2.2.2 = some (1690, .iaload, 1, 0, 0) := by decide +kernel
theorem f333_1691 : aF 1691 zM333.2.2.2.2.2.2.2 = some (1691, (.aload_n 0), 1, 0, 0) := by decide +kernel
theorem f333_1692 : aF 1692 zM333.2.2.2.2.2.2.2 = some (1692, (.iload_n 3), 1, 0, 0) := by decide +kernel
theorem f333_1693 : aF 1693 zM333.2.2.2.2.2.2.2 = some (1693, (.iconst 3), 1, 0, 0) := by decide +kernel
theorem f333_1694 : aF 1694 zM333.2.2.2.2.2.2.2 = some (1694, .iadd, 1, 0, 0) := by decide +kernel
theorem f333_1695 : aF 1695 zM333.2.2.2.2.2.2.2 = some (1695, .iaload, 1, 0, 0) := by decide +kernel
theorem f333_1696 : aF 1696 zM333.2.2.2.2.2.2.2 = some (1696, (.aload_n 0), 1, 0, 0) := by decide +kernel
theorem f333_1697 : aF 1697 zM333.2.2.2.2.2.2.2 = some (1697, (.iload_n 3), 1, 0, 0) := by decide +kernel
theorem f333_1698 : aF 1698 zM333.2.2.2.2.2.2.2 = some (1698, (.iconst 4), 1, 0, 0) := by decide +kernel
theorem f333_1699 : aF 1699 zM333.2.2.2.2.2.2.2 = some (1699, .iadd, 1, 0, 0) := by decide +kernel
theorem f333_1700 : aF 1700 zM333.2.2.2.2.2.2.2 = some (1700, .iaload, 1, 0, 0) := by decide +kernel
theorem f333_1701 : aF 1701 zM333.2.2.2.2.2.2.2 = some (1701, (.invokevirtual 186), 3, 304, 0) := by decide +kernel
theorem f333_1704 : aF 1704 zM333.2.2.2.2.2.2.2 = some (1704, .pop, 1, 0, 0) := by decide +kernel
theorem f333_1705 : aF 1705 zM333.2.2.2.2.2.2.2 = some (1705, (.goto 370), 3, 2075, 0) := by decide +kernel
theorem f333_1708 : aF 1708 zM333.2.2.2.2.2.2.2 = some (1708, (.aload_n 1), 1, 0, 0) := by decide +kernel
theorem f333_1709 : aF 1709 zM333.2.2.2.2.2.2.2 = some (1709, (.aload_n 0), 1, 0, 0) := by decide +kernel
theorem f333_1710 : aF 1710 zM333.2.2.2.2.2.2.2 = some (1710, (.iload_n 3), 1, 0, 0) := by decide +kernel
theorem f333_1711 : aF 1711 zM333.2.2.2.2.2.2.2 = some (1711, (.iconst 1), 1, 0, 0) := by decide +kernel
theorem f333_1712 : aF 1712 zM333.2.2.2.2.2.2.2 = some (1712, .iadd, 1, 0, 0) := by decide +kernel
theorem f333_1713 : aF 1713 zM333.2.2.2.2.2.2.2 = some (1713, .iaload, 1, 0, 0) := by decide +kernel
theorem f333_1714 : aF 1714 zM333.2.2.2.2.2.2.2 = some (1714, (.aload_n 0), 1, 0, 0) := by decide +kernel
theorem f333_1715 : aF 1715 zM333.2.2.2.2.2.2.2 = some (1715, (.iload_n 3), 1, 0, 0) := by decide +kernel
theorem f333_1716 : aF 1716 zM333.2.2.2.2.2.2.2 = some (1716, (.iconst 2), 1, 0, 0) := by decide +kernel
theorem f333_1717 : aF 1717 zM333.2.2.2.2.2.2.2 = some (1717, .iadd, 1, 0, 0) := by decide +kernel
theorem f333_1718 : aF 1718 zM333.2.2.2.2.2.2.2 = some (1718, .iaload, 1, 0, 0) := by decide +kernel
theorem f333_1719 : aF 1719 zM333.2.2.2.2.2.2.2 = some (1719, (.aload_n 0), 1, 0, 0) := by decide +kernel
theorem f333_1720 : aF 1720 zM333.2.2.2.2.2.2.2 = some (1720, (.iload_n 3), 1, 0, 0) := by decide +kernel
theorem f333_1721 : aF 1721 zM333.2.2.2.2.2.2.2 = some (1721, (.iconst 3), 1, 0, 0) := by decide +kernel
theorem f333_1722 : aF 1722 zM333.2.2.2.2.2.2.2 = some (1722, .iadd, 1, 0, 0) := by decide +kernel
theorem f333_1723 : aF 1723 zM333.2.2.2.2.2.2.2 = some (1723, .iaload, 1, 0, 0) := by decide +kernel
theorem f333_1724 : aF 1724 zM333.2.2.2.2.2.2.2 = some (1724, (.invokevirtual 187), 3, 186, 0) := by decide +kernel
theorem f333_1727 : aF 1727 zM333.2.2.2.2.2.2.2 = some (1727, .pop, 1, 0, 0) := by decide +kernel
theorem f333_1728 : aF 1728 zM333.2.2.2.2.2.2.2 = some (1728, (.aload_n 2), 1, 0, 0) := by decide +kernel
theorem f333_1729 : aF 1729 zM333.2.2.2.2.2.2.2 = some (1729, (.aload_n 0), 1, 0, 0) := by decide +kernel
theorem f333_1730 : aF 1730 zM333.2.2.2.2.2.2.2 = some (1730, (.iload_n 3), 1, 0, 0) := by decide +kernel
theorem f333_1731 : aF 1731 zM333.2.2.2.2.2.2.2 = some (1731, (.iconst 1), 1, 0, 0) := by decide +kernel
theorem f333_1732 : aF 1732 zM333.2.2.2.2.2.2.2 = some (1732, .iadd, 1, 0, 0) := by decide +kernel
theorem f333_1733 : aF 1733 zM333.2.2.2.2.2.2.2 = some (1733, .iaload, 1, 0, 0) := by decide +kernel
theorem f333_1734 : aF 1734 zM333.2.2.2.2.2.2.2 = some (1734, (.aload_n 0), 1, 0, 0) := by decide +kernel
theorem f333_1735 : aF 1735 zM333.2.2.2.2.2.2.2 = some (1735, (.iload_n 3), 1, 0, 0) := by decide +kernel
theorem f333_1736 : aF 1736 zM333.2.2.2.2.2.2.2 = some (1736, (.iconst 2), 1, 0, 0) := by decide +kernel
theorem f333_1737 : aF 1737 zM333.2.2.2.2.2.2.2 = some (1737, .iadd, 1, 0, 0) := by decide +kernel
theorem f333_1738 : aF 1738 zM333.2.2.2.2.2.2.2 = some (1738, .iaload, 1, 0, 0) := by decide +kernel
theorem f333_1739 : aF 1739 zM333.2.2.2.2.2.2.2 = some (1739, (.aload_n 0), 1, 0, 0) := by decide +kernel
theorem f333_1740 : aF 1740 zM333.2.2.2.2.2.2.2 = some (1740, (.iload_n 3), 1, 0, 0) := by decide +kernel
theorem f333_1741 : aF 1741 zM333.2.2.2.2.2.2.2 = some (1741, (.iconst 3), 1, 0, 0) := by decide +kernel
theorem f333_1742 : aF 1742 zM333.2.2.2.2.2.2.2 = some (1742, .iadd, 1, 0, 0) := by decide +kernel
theorem f333_1743 : aF 1743 zM333.2.2.2.2.2.2.2 = some (1743, .iaload, 1, 0, 0) := by decide +kernel
theorem f333_1744 : aF 1744 zM333.2.2.2.2.2.2.2 = some (1744, (.invokevirtual 190), 3, 316, 0) := by decide +kernel
theorem f333_1747 : aF 1747 zM333.2.2.2.2.2.2.2 = some (1747, .pop, 1, 0, 0) := by decide +kernel
theorem f333_1748 : aF 1748 zM333.2.2.2.2.2.2.2 = some (1748, (.goto 327), 3, 2075, 0) := by decide +kernel
theorem lc_35 {X : aX} (G : hG X 302) (hX : X 0 = some (8, zab)) {L : Nat} {xs : Nat → Int32} (hX1 : X 1 = some (L, xs)) (hL : L ≤ 3072) {i : Int32} (i0 : 0 ≤ i.toInt) (i1 : i.toInt + 6 ≤ L) {Q : Option Value → aH → Prop} {σ : List Nat} {h : aH} (I : dI σ h) (J : JX h) (kq : ∀ (σ' : List Nat) (h' : aH), dI σ' h' → JX h' → dPh h' ≤ dPh h → Wp X 64 zM333 Q 2075 [some (.retAddr 1), some (.ref 0), some (.ref 72), some (.int i)] [] h') : Wp X 64 zM333 Q 1477 [some (.retAddr 1), some (.ref 0), some (.ref 72), some (.int i)] [] h := by
  obtain ⟨J, K⟩ := J
  refine wp1 (fun n d => r_aloadn f333_1477 rfl) ?_
  refine wp1 (fun n d => r_aloadnX f333_1478 rfl) ?_
  refine wp1 (fun n d => r_iloadn f333_1479 rfl) ?_
  refine w_iconst f333_1480 (fun v1480 hv1480 => ?_)
  refine w_iadd f333_1481 (by omega) (by omega) (fun v1481 hv1481 => ?_)
  refine w_xld f333_1482 hX1 (by omega) (by omega) (fun v1482 hv1482 => ?_)
  obtain ⟨fs1002, c1002⟩ := hI_o I (r := 0) (ci := 11) (by decide +kernel)
  refine wp_good (G 218 (by decide) cC218 rfl) (Y := zM179) (show zmt[179]? = some zM179 from rfl) I (ρ := [0, v1482.toInt]) (dK_v (kV_of rfl ⟨⟨by decide, by decide⟩, iR v1482, trivial⟩)) (dL_of (l := [some (.ref 0), some (.int v1482)]) ⟨lw_r (by decide), lw_i rfl, trivial⟩) (fun n d v h' e => r_virt (as := [.int v1482]) (r := []) f333_1483 c1002 (show zmt[179]? = some zM179 from rfl) rfl rfl rfl rfl rfl rfl e) (by first | decide | (show 1 + 1 ≤ _; omega)) (fun v h1001 σ1001 I1001 G1001 P1001 => ?_)
  obtain ⟨v1483, vq1483⟩ : ∃ y : Int32, v = some (.int y) := by
    obtain ⟨P, hm, ρ', rh', kP, sP⟩ := P1001
    cases List.mem_singleton.mp hm
    cases v with
    | none => exact sP.elim
    | some v =>
      obtain ⟨⟨x, y, rfl, -, -⟩, -⟩ := sP
      exact ⟨x, rfl⟩
  subst vq1483
  show Wp _ _ _ _ 1486 [some (.retAddr 1), some (.ref 0), some (.ref 72), some (.int i)] [.int v1483] _
  obtain ⟨fs1003, c1003, df1003⟩ := dG_o I.1 G1001 c1002 (by decide)
  refine wp1 (fun nn dd => r_pop f333_1486 rfl) ?_
  refine wp1 (fun n d => r_aloadn f333_1487 rfl) ?_
  refine wp1 (fun n d => r_aloadnX f333_1488 rfl) ?_
  refine wp1 (fun n d => r_iloadn f333_1489 rfl) ?_
  refine w_iconst f333_1490 (fun v1490 hv1490 => ?_)
  refine w_iadd f333_1491 (by omega) (by omega) (fun v1491 hv1491 => ?_)
  refine w_xld f333_1492 hX1 (by omega) (by omega) (fun v1492 hv1492 => ?_)
  obtain ⟨fs1005, c1005⟩ := hI_o I1001 (r := 72) (ci := 12) (by decide +kernel)
  refine wp_good (G 219 (by decide) cC219 rfl) (Y := zM294) (show zmt[294]? = some zM294 from rfl) I1001 (ρ := [0, v1492.toInt]) (dK_v (kV_of rfl ⟨⟨by decide, by decide⟩, iR v1492, trivial⟩)) (dL_of (l := [some (.ref 72), some (.int v1492)]) ⟨lw_r (by decide), lw_i rfl, trivial⟩) (fun n d v h' e => r_virt (as := [.int v1492]) (r := []) f333_1493 c1005 (show zmt[294]? = some zM294 from rfl) rfl rfl rfl rfl rfl rfl e) (by first | decide | (show 1 + 1 ≤ _; omega)) (fun v h1004 σ1004 I1004 G1004 P1004 => ?_)
  obtain ⟨v1493, vq1493⟩ : ∃ y : Int32, v = some (.int y) := by
    obtain ⟨P, hm, ρ', rh', kP, sP⟩ := P1004
    cases List.mem_singleton.mp hm
    cases v with
    | none => exact sP.elim
    | some v =>
      obtain ⟨⟨x, y, rfl, -, -⟩, -⟩ := sP
      exact ⟨x, rfl⟩
  subst vq1493
  show Wp _ _ _ _ 1496 [some (.retAddr 1), some (.ref 0), some (.ref 72), some (.int i)] [.int v1493] _
  obtain ⟨fs1006, c1006, df1006⟩ := dG_o I1001.1 G1004 c1003 (by decide)
  obtain ⟨fs1007, c1007, df1007⟩ := dG_o I1001.1 G1004 c1005 (by decide)
  have GG : dG ([] : List (Nat × Nat)) σ h σ1004 h1004 := (dG_trans (dG_sub (by decide) G1001) (dG_sub (by decide) G1004))
  refine wp1 (fun nn dd => r_pop f333_1496 rfl) ?_
  refine wp1 (fun nn dd => r_goto f333_1497) ?_
  exact kq _ _ I1004 ⟨JQ_dG J I GG (by decide), JRing_dG K.1 I GG (by decide), JBody_dG K.2.1 I GG (by decide), JShelf_dG K.2.2 I GG (by decide)⟩ GG.2.2
theorem lc_36 {X : aX} (G : hG X 302) (hX : X 0 = some (8, zab)) {L : Nat} {xs : Nat → Int32} (hX1 : X 1 = some (L, xs)) (hL : L ≤ 3072) {i : Int32} (i0 : 0 ≤ i.toInt) (i1 : i.toInt + 6 ≤ L) {Q : Option Value → aH → Prop} {σ : List Nat} {h : aH} (I : dI σ h) (J : JX h) (kq : ∀ (σ' : List Nat) (h' : aH), dI σ' h' → JX h' → dPh h' ≤ dPh h → Wp X 64 zM333 Q 2075 [some (.retAddr 1), some (.ref 0), some (.ref 72), some (.int i)] [] h') : Wp X 64 zM333 Q 1500 [some (.retAddr 1), some (.ref 0), some (.ref 72), some (.int i)] [] h := by
  obtain ⟨J, K⟩ := J
  refine wp1 (fun n d => r_aloadn f333_1500 rfl) ?_
  refine wp1 (fun n d => r_aloadnX f333_1501 rfl) ?_
  refine wp1 (fun n d => r_iloadn f333_1502 rfl) ?_
  refine w_iconst f333_1503 (fun v1503 hv1503 => ?_)
  refine w_iadd f333_1504 (by omega) (by omega) (fun v1504 hv1504 => ?_)
  refine w_xld f333_1505 hX1 (by omega) (by omega) (fun v1505 hv1505 => ?_)
  refine wp1 (fun n d => r_aloadnX f333_1506 rfl) ?_
  refine wp1 (fun n d => r_iloadn f333_1507 rfl) ?_
  refine w_iconst f333_1508 (fun v1508 hv1508 => ?_)
  refine w_iadd f333_1509 (by omega) (by omega) (fun v1509 hv1509 => ?_)
  refine w_xld f333_1510 hX1 (by omega) (by omega) (fun v1510 hv1510 => ?_)
  refine wp1 (fun n d => r_aloadnX f333_1511 rfl) ?_
  refine wp1 (fun n d => r_iloadn f333_1512 rfl) ?_
  refine w_iconst f333_1513 (fun v1513 hv1513 => ?_)
  refine w_iadd f333_1514 (by omega) (by omega) (fun v1514 hv1514 => ?_)
  refine w_xld f333_1515 hX1 (by omega) (by omega) (fun v1515 hv1515 => ?_)
  obtain ⟨fs1002, c1002⟩ := hI_o I (r := 0) (ci := 11) (by decide +kernel)
  refine wp_good (G 227 (by decide) cC227 rfl) (Y := zM180) (show zmt[180]? = some zM180 from rfl) I (ρ := [0, v1505.toInt, v1510.toInt, v1515.toInt]) (dK_v (kV_of rfl ⟨⟨by decide, by decide⟩, iR v1505, iR v1510, iR v1515, trivial⟩)) (dL_of (l := [some (.ref 0), some (.int v1505), some (.int v1510), some (.int v1515)]) ⟨lw_r (by decide), lw_i rfl, lw_i rfl, lw_i rfl, trivial⟩) (fun n d v h' e => r_virt (as := [.int v1505, .int v1510, .int v1515]) (r := []) f333_1516 c1002 (show zmt[180]? = some zM180 from rfl) rfl rfl rfl rfl rfl rfl e) (by first | decide | (show 10 + 1 ≤ _; omega)) (fun v h1001 σ1001 I1001 G1001 P1001 => ?_)
  obtain ⟨v1516, vq1516⟩ : ∃ y : Int32, v = some (.int y) := by
    obtain ⟨P, hm, ρ', rh', kP, sP⟩ := P1001
    cases List.mem_singleton.mp hm
    cases v with
    | none => exact sP.elim
    | some v =>
      obtain ⟨⟨x, y, rfl, -, -⟩, -⟩ := sP
      exact ⟨x, rfl⟩
  subst vq1516
  show Wp _ _ _ _ 1519 [some (.retAddr 1), some (.ref 0), some (.ref 72), some (.int i)] [.int v1516] _
  obtain ⟨fs1003, c1003, df1003⟩ := dG_o I.1 G1001 c1002 (by decide)
  refine wp1 (fun nn dd => r_pop f333_1519 rfl) ?_
  refine wp1 (fun n d => r_aloadn f333_1520 rfl) ?_
  refine wp1 (fun n d => r_aloadnX f333_1521 rfl) ?_
  refine wp1 (fun n d => r_iloadn f333_1522 rfl) ?_
  refine w_iconst f333_1523 (fun v1523 hv1523 => ?_)
  refine w_iadd f333_1524 (by omega) (by omega) (fun v1524 hv1524 => ?_)
  refine w_xld f333_1525 hX1 (by omega) (by omega) (fun v1525 hv1525 => ?_)
  refine wp1 (fun n d => r_aloadnX f333_1526 rfl) ?_
  refine wp1 (fun n d => r_iloadn f333_1527 rfl) ?_
  refine w_iconst f333_1528 (fun v1528 hv1528 => ?_)
  refine w_iadd f333_1529 (by omega) (by omega) (fun v1529 hv1529 => ?_)
  refine w_xld f333_1530 hX1 (by omega) (by omega) (fun v1530 hv1530 => ?_)
  refine wp1 (fun n d => r_aloadnX f333_1531 rfl) ?_
  refine wp1 (fun n d => r_iloadn f333_1532 rfl) ?_
  refine w_iconst f333_1533 (fun v1533 hv1533 => ?_)
  refine w_iadd f333_1534 (by omega) (by omega) (fun v1534 hv1534 => ?_)
  refine w_xld f333_1535 hX1 (by omega) (by omega) (fun v1535 hv1535 => ?_)
  obtain ⟨fs1005, c1005⟩ := hI_o I1001 (r := 72) (ci := 12) (by decide +kernel)
  refine wp_good (G 234 (by decide) cC234 rfl) (Y := zM298) (show zmt[298]? = some zM298 from rfl) I1001 (ρ := [0, v1525.toInt, v1530.toInt, v1535.toInt]) (dK_v (kV_of rfl ⟨⟨by decide, by decide⟩, iR v1525, iR v1530, iR v1535, trivial⟩)) (dL_of (l := [some (.ref 72), some (.int v1525), some (.int v1530), some (.int v1535), none, none, none, none, none, none]) ⟨lw_r (by decide), lw_i rfl, lw_i rfl, lw_i rfl, lw_0, lw_0, lw_0, lw_0, lw_0, lw_0, trivial⟩) (fun n d v h' e => r_virt (as := [.int v1525, .int v1530, .int v1535]) (r := []) f333_1536 c1005 (show zmt[298]? = some zM298 from rfl) rfl rfl rfl rfl rfl rfl e) (by first | decide | (show 4 + 1 ≤ _; omega)) (fun v h1004 σ1004 I1004 G1004 P1004 => ?_)
  obtain ⟨v1536, vq1536⟩ : ∃ y : Int32, v = some (.int y) := by
    obtain ⟨P, hm, ρ', rh', kP, sP⟩ := P1004
    cases List.mem_singleton.mp hm
    cases v with
    | none => exact sP.elim
    | some v =>
      obtain ⟨⟨x, y, rfl, -, -⟩, -⟩ := sP
      exact ⟨x, rfl⟩
  subst vq1536
  show Wp _ _ _ _ 1539 [some (.retAddr 1), some (.ref 0), some (.ref 72), some (.int i)] [.int v1536] _
  obtain ⟨fs1006, c1006, df1006⟩ := dG_o I1001.1 G1004 c1003 (by decide)
  obtain ⟨fs1007, c1007, df1007⟩ := dG_o I1001.1 G1004 c1005 (by decide)
  have GG : dG ([(42, 0), (48, 13), (48, 14), (48, 15), (48, 16), (146, 3), (146, 4), (146, 5), (147, 0), (148, 0), (149, 0), (150, 0), (151, 0), (152, 0), (153, 0), (72, 38), (72, 39), (103, 0), (104, 0), (105, 0), (106, 0), (107, 0), (108, 0), (109, 0), (110, 0)] : List (Nat × Nat)) σ h σ1004 h1004 := (dG_trans (dG_sub (by decide) G1001) (dG_sub (by decide) G1004))
  refine wp1 (fun nn dd => r_pop f333_1539 rfl) ?_
  refine wp1 (fun nn dd => r_goto f333_1540) ?_
  exact kq _ _ I1004 ⟨JQ_dG J I GG (by decide), JRing_dG K.1 I GG (by decide), JBody_dG K.2.1 I GG (by decide), JShelf_dG K.2.2 I GG (by decide)⟩ GG.2.2
theorem lc_37 {X : aX} (G : hG X 302) (hX : X 0 = some (8, zab)) {L : Nat} {xs : Nat → Int32} (hX1 : X 1 = some (L, xs)) (hL : L ≤ 3072) {i : Int32} (i0 : 0 ≤ i.toInt) (i1 : i.toInt + 6 ≤ L) {Q : Option Value → aH → Prop} {σ : List Nat} {h : aH} (I : dI σ h) (J : JX h) (kq : ∀ (σ' : List Nat) (h' : aH), dI σ' h' → JX h' → dPh h' ≤ dPh h → Wp X 64 zM333 Q 2075 [some (.retAddr 1), some (.ref 0), some (.ref 72), some (.int i)] [] h') : Wp X 64 zM333 Q 1543 [some (.retAddr 1), some (.ref 0), some (.ref 72), some (.int i)] [] h := by
  obtain ⟨J, K⟩ := J
  refine wp1 (fun n d => r_aloadn f333_1543 rfl) ?_
  refine wp1 (fun n d => r_aloadnX f333_1544 rfl) ?_
  refine wp1 (fun n d => r_iloadn f333_1545 rfl) ?_
  refine w_iconst f333_1546 (fun v1546 hv1546 => ?_)
  refine w_iadd f333_1547 (by omega) (by omega) (fun v1547 hv1547 => ?_)
  refine w_xld f333_1548 hX1 (by omega) (by omega) (fun v1548 hv1548 => ?_)
  obtain ⟨fs1002, c1002⟩ := hI_o I (r := 0) (ci := 11) (by decide +kernel)
  refine wp_good (G 235 (by decide) cC235 rfl) (Y := zM181) (show zmt[181]? = some zM181 from rfl) I (ρ := [0, v1548.toInt]) (dK_v (kV_of rfl ⟨⟨by decide, by decide⟩, iR v1548, trivial⟩)) (dL_of (l := [some (.ref 0), some (.int v1548)]) ⟨lw_r (by decide), lw_i rfl, trivial⟩) (fun n d v h' e => r_virt (as := [.int v1548]) (r := []) f333_1549 c1002 (show zmt[181]? = some zM181 from rfl) rfl rfl rfl rfl rfl rfl e) (by first | decide | (show 1 + 1 ≤ _; omega)) (fun v h1001 σ1001 I1001 G1001 P1001 => ?_)
  obtain ⟨v1549, vq1549⟩ : ∃ y : Int32, v = some (.int y) := by
    obtain ⟨P, hm, ρ', rh', kP, sP⟩ := P1001
    cases List.mem_singleton.mp hm
    cases v with
    | none => exact sP.elim
    | some v =>
      obtain ⟨⟨x, y, rfl, -, -⟩, -⟩ := sP
      exact ⟨x, rfl⟩
  subst vq1549
  show Wp _ _ _ _ 1552 [some (.retAddr 1), some (.ref 0), some (.ref 72), some (.int i)] [.int v1549] _
  obtain ⟨fs1003, c1003, df1003⟩ := dG_o I.1 G1001 c1002 (by decide)
  refine wp1 (fun nn dd => r_pop f333_1552 rfl) ?_
  refine wp1 (fun n d => r_aloadn f333_1553 rfl) ?_
  refine wp1 (fun n d => r_aloadnX f333_1554 rfl) ?_
  refine wp1 (fun n d => r_iloadn f333_1555 rfl) ?_
  refine w_iconst f333_1556 (fun v1556 hv1556 => ?_)
  refine w_iadd f333_1557 (by omega) (by omega) (fun v1557 hv1557 => ?_)
  refine w_xld f333_1558 hX1 (by omega) (by omega) (fun v1558 hv1558 => ?_)
  obtain ⟨fs1005, c1005⟩ := hI_o I1001 (r := 72) (ci := 12) (by decide +kernel)
  refine wp_good (G 236 (by decide) cC236 rfl) (Y := zM299) (show zmt[299]? = some zM299 from rfl) I1001 (ρ := [0, v1558.toInt]) (dK_v (kV_of rfl ⟨⟨by decide, by decide⟩, iR v1558, trivial⟩)) (dL_of (l := [some (.ref 72), some (.int v1558)]) ⟨lw_r (by decide), lw_i rfl, trivial⟩) (fun n d v h' e => r_virt (as := [.int v1558]) (r := []) f333_1559 c1005 (show zmt[299]? = some zM299 from rfl) rfl rfl rfl rfl rfl rfl e) (by first | decide | (show 1 + 1 ≤ _; omega)) (fun v h1004 σ1004 I1004 G1004 P1004 => ?_)
  obtain ⟨v1559, vq1559⟩ : ∃ y : Int32, v = some (.int y) := by
    obtain ⟨P, hm, ρ', rh', kP, sP⟩ := P1004
    cases List.mem_singleton.mp hm
    cases v with
    | none => exact sP.elim
    | some v =>
      obtain ⟨⟨x, y, rfl, -, -⟩, -⟩ := sP
      exact ⟨x, rfl⟩
  subst vq1559
  show Wp _ _ _ _ 1562 [some (.retAddr 1), some (.ref 0), some (.ref 72), some (.int i)] [.int v1559] _
  obtain ⟨fs1006, c1006, df1006⟩ := dG_o I1001.1 G1004 c1003 (by decide)
  obtain ⟨fs1007, c1007, df1007⟩ := dG_o I1001.1 G1004 c1005 (by decide)
  have GG : dG ([(55, 1), (56, 0), (72, 87), (136, 0)] : List (Nat × Nat)) σ h σ1004 h1004 := (dG_trans (dG_sub (by decide) G1001) (dG_sub (by decide) G1004))
  refine wp1 (fun nn dd => r_pop f333_1562 rfl) ?_
  refine wp1 (fun nn dd => r_goto f333_1563) ?_
  exact kq _ _ I1004 ⟨JQ_dG J I GG (by decide), JRing_dG K.1 I GG (by decide), JBody_dG K.2.1 I GG (by decide), JShelf_dG K.2.2 I GG (by decide)⟩ GG.2.2
theorem lc_38 {X : aX} (G : hG X 302) (hX : X 0 = some (8, zab)) {L : Nat} {xs : Nat → Int32} (hX1 : X 1 = some (L, xs)) (hL : L ≤ 3072) {i : Int32} (i0 : 0 ≤ i.toInt) (i1 : i.toInt + 6 ≤ L) {Q : Option Value → aH → Prop} {σ : List Nat} {h : aH} (I : dI σ h) (J : JX h) (kq : ∀ (σ' : List Nat) (h' : aH), dI σ' h' → JX h' → dPh h' ≤ dPh h → Wp X 64 zM333 Q 2075 [some (.retAddr 1), some (.ref 0), some (.ref 72), some (.int i)] [] h') : Wp X 64 zM333 Q 1566 [some (.retAddr 1), some (.ref 0), some (.ref 72), some (.int i)] [] h := by
  obtain ⟨J, K⟩ := J
  obtain ⟨fs0, c0⟩ := hI_o I (r := 0) (ci := 11) (by decide +kernel)
  obtain ⟨g, g', c1, c2, e⟩ := J.2.2.2.1
  refine wp1 (fun n d => r_aloadn f333_1566 rfl) ?_
  refine wp1 (fun n d => r_aloadnX f333_1567 rfl) ?_
  refine wp1 (fun n d => r_iloadn f333_1568 rfl) ?_
  refine w_iconst f333_1569 (fun v1569 hv1569 => ?_)
  refine w_iadd f333_1570 (by omega) (by omega) (fun v1570 hv1570 => ?_)
  refine w_xld f333_1571 hX1 (by omega) (by omega) (fun v1571 hv1571 => ?_)
  refine wp1 (fun n d => r_aloadnX f333_1572 rfl) ?_
  refine wp1 (fun n d => r_iloadn f333_1573 rfl) ?_
  refine w_iconst f333_1574 (fun v1574 hv1574 => ?_)
  refine w_iadd f333_1575 (by omega) (by omega) (fun v1575 hv1575 => ?_)
  refine w_xld f333_1576 hX1 (by omega) (by omega) (fun v1576 hv1576 => ?_)
  refine wp_in (lv := 2) (Y := zM182) (cell_182 (x := v1571) (y := v1576) I c1) (fun n d v h' e => r_virt (as := [.int v1571, .int v1576]) (r := []) f333_1577 c0 (show zmt[182]? = some zM182 from rfl) rfl rfl rfl rfl rfl rfl e) (by decide) ?_
  rintro v' h1 ⟨I1, G1, r1, g1, rfl, d1, k1⟩
  have d2 := dG_a I.1 G1 c2 (by decide) rfl
  show Wp _ _ _ _ 1580 [some (.retAddr 1), some (.ref 0), some (.ref 72), some (.int i)] [.int r1] _
  refine wp1 (fun nn dd => r_pop f333_1580 rfl) ?_
  obtain ⟨fs72, c72⟩ := hI_o I1 (r := 72) (ci := 12) (by decide +kernel)
  refine wp1 (fun n d => r_aloadn f333_1581 rfl) ?_
  refine wp1 (fun n d => r_aloadnX f333_1582 rfl) ?_
  refine wp1 (fun n d => r_iloadn f333_1583 rfl) ?_
  refine w_iconst f333_1584 (fun v1584 hv1584 => ?_)
  refine w_iadd f333_1585 (by omega) (by omega) (fun v1585 hv1585 => ?_)
  refine w_xld f333_1586 hX1 (by omega) (by omega) (fun v1586 hv1586 => ?_)
  refine wp1 (fun n d => r_aloadnX f333_1587 rfl) ?_
  refine wp1 (fun n d => r_iloadn f333_1588 rfl) ?_
  refine w_iconst f333_1589 (fun v1589 hv1589 => ?_)
  refine w_iadd f333_1590 (by omega) (by omega) (fun v1590 hv1590 => ?_)
  refine w_xld f333_1591 hX1 (by omega) (by omega) (fun v1591 hv1591 => ?_)
  refine wp_in (lv := 1) (Y := zM300) (cell_300 (x := v1586) (y := v1591) I1 d2) (fun n d v h' e => r_virt (as := [.int v1586, .int v1591]) (r := []) f333_1592 c72 (show zmt[300]? = some zM300 from rfl) rfl rfl rfl rfl rfl rfl e) (by decide) ?_
  have ev1586 : v1586 = v1571 := by rw [hv1586, hv1571]; exact congrArg xs (by omega)
  have ev1591 : v1591 = v1576 := by rw [hv1591, hv1576]; exact congrArg xs (by omega)
  rintro v' h2 ⟨I2, G2, r2, g2, rfl, d3, k2⟩
  have d4 := dG_a I1.1 G2 d1 (by decide) rfl
  rw [ev1586, ev1591] at k2
  obtain ⟨z1, z2⟩ := clf_eq k1 k2 e
  show Wp _ _ _ _ 1595 [some (.retAddr 1), some (.ref 0), some (.ref 72), some (.int i)] [.int r2] _
  have GG : dG ([(57, 0), (137, 0)] : List (Nat × Nat)) σ h σ h2 := dG_trans (dG_sub (by decide) G1) (dG_sub (by decide) G2)
  refine wp1 (fun nn dd => r_pop f333_1595 rfl) ?_
  refine wp1 (fun nn dd => r_goto f333_1596) ?_
  exact kq σ h2 I2 ⟨⟨JP_dG J.1 I GG (by decide), JF_dG J.2.1 I GG (by decide), JA_dG J.2.2.1 I GG (by decide), ⟨g1, g2, d4, d3, z2⟩, JA_dG J.2.2.2.2 I GG (by decide)⟩, JRing_dG K.1 I GG (by decide), JBody_dG K.2.1 I GG (by decide), JShelf_dG K.2.2 I GG (by decide)⟩ GG.2.2
theorem lc_39 {X : aX} (G : hG X 302) (hX : X 0 = some (8, zab)) {L : Nat} {xs : Nat → Int32} (hX1 : X 1 = some (L, xs)) (hL : L ≤ 3072) {i : Int32} (i0 : 0 ≤ i.toInt) (i1 : i.toInt + 6 ≤ L) {Q : Option Value → aH → Prop} {σ : List Nat} {h : aH} (I : dI σ h) (J : JX h) (kq : ∀ (σ' : List Nat) (h' : aH), dI σ' h' → JX h' → dPh h' ≤ dPh h → Wp X 64 zM333 Q 2075 [some (.retAddr 1), some (.ref 0), some (.ref 72), some (.int i)] [] h') : Wp X 64 zM333 Q 1599 [some (.retAddr 1), some (.ref 0), some (.ref 72), some (.int i)] [] h := by
  obtain ⟨J, K⟩ := J
  refine wp1 (fun n d => r_aloadn f333_1599 rfl) ?_
  refine wp1 (fun n d => r_aloadnX f333_1600 rfl) ?_
  refine wp1 (fun n d => r_iloadn f333_1601 rfl) ?_
  refine w_iconst f333_1602 (fun v1602 hv1602 => ?_)
  refine w_iadd f333_1603 (by omega) (by omega) (fun v1603 hv1603 => ?_)
  refine w_xld f333_1604 hX1 (by omega) (by omega) (fun v1604 hv1604 => ?_)
  refine wp1 (fun n d => r_aloadnX f333_1605 rfl) ?_
  refine wp1 (fun n d => r_iloadn f333_1606 rfl) ?_
  refine w_iconst f333_1607 (fun v1607 hv1607 => ?_)
  refine w_iadd f333_1608 (by omega) (by omega) (fun v1608 hv1608 => ?_)
  refine w_xld f333_1609 hX1 (by omega) (by omega) (fun v1609 hv1609 => ?_)
  obtain ⟨fs1002, c1002⟩ := hI_o I (r := 0) (ci := 11) (by decide +kernel)
  refine wp_good (G 259 (by decide) cC259 rfl) (Y := zM183) (show zmt[183]? = some zM183 from rfl) I (ρ := [0, v1604.toInt, v1609.toInt]) (dK_v (kV_of rfl ⟨⟨by decide, by decide⟩, iR v1604, iR v1609, trivial⟩)) (dL_of (l := [some (.ref 0), some (.int v1604), some (.int v1609)]) ⟨lw_r (by decide), lw_i rfl, lw_i rfl, trivial⟩) (fun n d v h' e => r_virt (as := [.int v1604, .int v1609]) (r := []) f333_1610 c1002 (show zmt[183]? = some zM183 from rfl) rfl rfl rfl rfl rfl rfl e) (by first | decide | (show 11 + 1 ≤ _; omega)) (fun v h1001 σ1001 I1001 G1001 P1001 => ?_)
  obtain ⟨v1610, vq1610⟩ : ∃ y : Int32, v = some (.int y) := by
    obtain ⟨P, hm, ρ', rh', kP, sP⟩ := P1001
    cases List.mem_singleton.mp hm
    cases v with
    | none => exact sP.elim
    | some v =>
      obtain ⟨⟨x, y, rfl, -, -⟩, -⟩ := sP
      exact ⟨x, rfl⟩
  subst vq1610
  show Wp _ _ _ _ 1613 [some (.retAddr 1), some (.ref 0), some (.ref 72), some (.int i)] [.int v1610] _
  obtain ⟨fs1003, c1003, df1003⟩ := dG_o I.1 G1001 c1002 (by decide)
  refine wp1 (fun nn dd => r_pop f333_1613 rfl) ?_
  refine wp1 (fun n d => r_aloadn f333_1614 rfl) ?_
  refine wp1 (fun n d => r_aloadnX f333_1615 rfl) ?_
  refine wp1 (fun n d => r_iloadn f333_1616 rfl) ?_
  refine w_iconst f333_1617 (fun v1617 hv1617 => ?_)
  refine w_iadd f333_1618 (by omega) (by omega) (fun v1618 hv1618 => ?_)
  refine w_xld f333_1619 hX1 (by omega) (by omega) (fun v1619 hv1619 => ?_)
  refine wp1 (fun n d => r_aloadnX f333_1620 rfl) ?_
  refine wp1 (fun n d => r_iloadn f333_1621 rfl) ?_
  refine w_iconst f333_1622 (fun v1622 hv1622 => ?_)
  refine w_iadd f333_1623 (by omega) (by omega) (fun v1623 hv1623 => ?_)
  refine w_xld f333_1624 hX1 (by omega) (by omega) (fun v1624 hv1624 => ?_)
  obtain ⟨fs1005, c1005⟩ := hI_o I1001 (r := 72) (ci := 12) (by decide +kernel)
  refine wp_good (G 267 (by decide) cC267 rfl) (Y := zM302) (show zmt[302]? = some zM302 from rfl) I1001 (ρ := [0, v1619.toInt, v1624.toInt]) (dK_v (kV_of rfl ⟨⟨by decide, by decide⟩, iR v1619, iR v1624, trivial⟩)) (dL_of (l := [some (.ref 72), some (.int v1619), some (.int v1624), none, none]) ⟨lw_r (by decide), lw_i rfl, lw_i rfl, lw_0, lw_0, trivial⟩) (fun n d v h' e => r_virt (as := [.int v1619, .int v1624]) (r := []) f333_1625 c1005 (show zmt[302]? = some zM302 from rfl) rfl rfl rfl rfl rfl rfl e) (by first | decide | (show 7 + 1 ≤ _; omega)) (fun v h1004 σ1004 I1004 G1004 P1004 => ?_)
  obtain ⟨v1625, vq1625⟩ : ∃ y : Int32, v = some (.int y) := by
    obtain ⟨P, hm, ρ', rh', kP, sP⟩ := P1004
    cases List.mem_singleton.mp hm
    cases v with
    | none => exact sP.elim
    | some v =>
      obtain ⟨⟨x, y, rfl, -, -⟩, -⟩ := sP
      exact ⟨x, rfl⟩
  subst vq1625
  show Wp _ _ _ _ 1628 [some (.retAddr 1), some (.ref 0), some (.ref 72), some (.int i)] [.int v1625] _
  obtain ⟨fs1006, c1006, df1006⟩ := dG_o I1001.1 G1004 c1003 (by decide)
  obtain ⟨fs1007, c1007, df1007⟩ := dG_o I1001.1 G1004 c1005 (by decide)
  have GG : dG ([(55, 1), (55, 4), (55, 9), (55, 10), (55, 11), (58, 0), (60, 0), (61, 0), (62, 0), (72, 87), (72, 93), (72, 94), (138, 0), (139, 0), (140, 0)] : List (Nat × Nat)) σ h σ1004 h1004 := (dG_trans (dG_sub (by decide) G1001) (dG_sub (by decide) G1004))
  refine wp1 (fun nn dd => r_pop f333_1628 rfl) ?_
  refine wp1 (fun nn dd => r_goto f333_1629) ?_
  exact kq _ _ I1004 ⟨JQ_dG J I GG (by decide), JRing_dG K.1 I GG (by decide), JBody_dG K.2.1 I GG (by decide), JShelf_dG K.2.2 I GG (by decide)⟩ GG.2.2
theorem lc_40 {X : aX} (G : hG X 302) (hX : X 0 = some (8, zab)) {L : Nat} {xs : Nat → Int32} (hX1 : X 1 = some (L, xs)) (hL : L ≤ 3072) {i : Int32} (i0 : 0 ≤ i.toInt) (i1 : i.toInt + 6 ≤ L) {Q : Option Value → aH → Prop} {σ : List Nat} {h : aH} (I : dI σ h) (J : JX h) (kq : ∀ (σ' : List Nat) (h' : aH), dI σ' h' → JX h' → dPh h' ≤ dPh h → Wp X 64 zM333 Q 2075 [some (.retAddr 1), some (.ref 0), some (.ref 72), some (.int i)] [] h') : Wp X 64 zM333 Q 1632 [some (.retAddr 1), some (.ref 0), some (.ref 72), some (.int i)] [] h := by
  obtain ⟨J, K⟩ := J
  refine wp1 (fun n d => r_aloadn f333_1632 rfl) ?_
  refine wp1 (fun n d => r_aloadnX f333_1633 rfl) ?_
  refine wp1 (fun n d => r_iloadn f333_1634 rfl) ?_
  refine w_iconst f333_1635 (fun v1635 hv1635 => ?_)
  refine w_iadd f333_1636 (by omega) (by omega) (fun v1636 hv1636 => ?_)
  refine w_xld f333_1637 hX1 (by omega) (by omega) (fun v1637 hv1637 => ?_)
  obtain ⟨fs1002, c1002⟩ := hI_o I (r := 0) (ci := 11) (by decide +kernel)
  refine wp_good (G 268 (by decide) cC268 rfl) (Y := zM184) (show zmt[184]? = some zM184 from rfl) I (ρ := [0, v1637.toInt]) (dK_v (kV_of rfl ⟨⟨by decide, by decide⟩, iR v1637, trivial⟩)) (dL_of (l := [some (.ref 0), some (.int v1637)]) ⟨lw_r (by decide), lw_i rfl, trivial⟩) (fun n d v h' e => r_virt (as := [.int v1637]) (r := []) f333_1638 c1002 (show zmt[184]? = some zM184 from rfl) rfl rfl rfl rfl rfl rfl e) (by first | decide | (show 1 + 1 ≤ _; omega)) (fun v h1001 σ1001 I1001 G1001 P1001 => ?_)
  obtain ⟨v1638, vq1638⟩ : ∃ y : Int32, v = some (.int y) := by
    obtain ⟨P, hm, ρ', rh', kP, sP⟩ := P1001
    cases List.mem_singleton.mp hm
    cases v with
    | none => exact sP.elim
    | some v =>
      obtain ⟨⟨x, y, rfl, -, -⟩, -⟩ := sP
      exact ⟨x, rfl⟩
  subst vq1638
  show Wp _ _ _ _ 1641 [some (.retAddr 1), some (.ref 0), some (.ref 72), some (.int i)] [.int v1638] _
  obtain ⟨fs1003, c1003, df1003⟩ := dG_o I.1 G1001 c1002 (by decide)
  refine wp1 (fun nn dd => r_pop f333_1641 rfl) ?_
  refine wp1 (fun n d => r_aloadn f333_1642 rfl) ?_
  refine wp1 (fun n d => r_aloadnX f333_1643 rfl) ?_
  refine wp1 (fun n d => r_iloadn f333_1644 rfl) ?_
  refine w_iconst f333_1645 (fun v1645 hv1645 => ?_)
  refine w_iadd f333_1646 (by omega) (by omega) (fun v1646 hv1646 => ?_)
  refine w_xld f333_1647 hX1 (by omega) (by omega) (fun v1647 hv1647 => ?_)
  obtain ⟨fs1005, c1005⟩ := hI_o I1001 (r := 72) (ci := 12) (by decide +kernel)
  refine wp_good (G 269 (by decide) cC269 rfl) (Y := zM303) (show zmt[303]? = some zM303 from rfl) I1001 (ρ := [0, v1647.toInt]) (dK_v (kV_of rfl ⟨⟨by decide, by decide⟩, iR v1647, trivial⟩)) (dL_of (l := [some (.ref 72), some (.int v1647)]) ⟨lw_r (by decide), lw_i rfl, trivial⟩) (fun n d v h' e => r_virt (as := [.int v1647]) (r := []) f333_1648 c1005 (show zmt[303]? = some zM303 from rfl) rfl rfl rfl rfl rfl rfl e) (by first | decide | (show 1 + 1 ≤ _; omega)) (fun v h1004 σ1004 I1004 G1004 P1004 => ?_)
  obtain ⟨v1648, vq1648⟩ : ∃ y : Int32, v = some (.int y) := by
    obtain ⟨P, hm, ρ', rh', kP, sP⟩ := P1004
    cases List.mem_singleton.mp hm
    cases v with
    | none => exact sP.elim
    | some v =>
      obtain ⟨⟨x, y, rfl, -, -⟩, -⟩ := sP
      exact ⟨x, rfl⟩
  subst vq1648
  show Wp _ _ _ _ 1651 [some (.retAddr 1), some (.ref 0), some (.ref 72), some (.int i)] [.int v1648] _
  obtain ⟨fs1006, c1006, df1006⟩ := dG_o I1001.1 G1004 c1003 (by decide)
  obtain ⟨fs1007, c1007, df1007⟩ := dG_o I1001.1 G1004 c1005 (by decide)
  have GG : dG ([] : List (Nat × Nat)) σ h σ1004 h1004 := (dG_trans (dG_sub (by decide) G1001) (dG_sub (by decide) G1004))
  refine wp1 (fun nn dd => r_pop f333_1651 rfl) ?_
  refine wp1 (fun nn dd => r_goto f333_1652) ?_
  exact kq _ _ I1004 ⟨JQ_dG J I GG (by decide), JRing_dG K.1 I GG (by decide), JBody_dG K.2.1 I GG (by decide), JShelf_dG K.2.2 I GG (by decide)⟩ GG.2.2
theorem lc_41 {X : aX} (G : hG X 302) (hX : X 0 = some (8, zab)) {L : Nat} {xs : Nat → Int32} (hX1 : X 1 = some (L, xs)) (hL : L ≤ 3072) {i : Int32} (i0 : 0 ≤ i.toInt) (i1 : i.toInt + 6 ≤ L) {Q : Option Value → aH → Prop} {σ : List Nat} {h : aH} (I : dI σ h) (J : JX h) (kq : ∀ (σ' : List Nat) (h' : aH), dI σ' h' → JX h' → dPh h' ≤ dPh h → Wp X 64 zM333 Q 2075 [some (.retAddr 1), some (.ref 0), some (.ref 72), some (.int i)] [] h') : Wp X 64 zM333 Q 1655 [some (.retAddr 1), some (.ref 0), some (.ref 72), some (.int i)] [] h := by
  obtain ⟨J, K⟩ := J
  refine wp1 (fun n d => r_aloadn f333_1655 rfl) ?_
  refine wp1 (fun n d => r_aloadnX f333_1656 rfl) ?_
  refine wp1 (fun n d => r_iloadn f333_1657 rfl) ?_
  refine w_iconst f333_1658 (fun v1658 hv1658 => ?_)
  refine w_iadd f333_1659 (by omega) (by omega) (fun v1659 hv1659 => ?_)
  refine w_xld f333_1660 hX1 (by omega) (by omega) (fun v1660 hv1660 => ?_)
  refine wp1 (fun n d => r_aloadnX f333_1661 rfl) ?_
  refine wp1 (fun n d => r_iloadn f333_1662 rfl) ?_
  refine w_iconst f333_1663 (fun v1663 hv1663 => ?_)
  refine w_iadd f333_1664 (by omega) (by omega) (fun v1664 hv1664 => ?_)
  refine w_xld f333_1665 hX1 (by omega) (by omega) (fun v1665 hv1665 => ?_)
  refine wp1 (fun n d => r_aloadnX f333_1666 rfl) ?_
  refine wp1 (fun n d => r_iloadn f333_1667 rfl) ?_
  refine w_iconst f333_1668 (fun v1668 hv1668 => ?_)
  refine w_iadd f333_1669 (by omega) (by omega) (fun v1669 hv1669 => ?_)
  refine w_xld f333_1670 hX1 (by omega) (by omega) (fun v1670 hv1670 => ?_)
  refine wp1 (fun n d => r_aloadnX f333_1671 rfl) ?_
  refine wp1 (fun n d => r_iloadn f333_1672 rfl) ?_
  refine w_iconst f333_1673 (fun v1673 hv1673 => ?_)
  refine w_iadd f333_1674 (by omega) (by omega) (fun v1674 hv1674 => ?_)
  refine w_xld f333_1675 hX1 (by omega) (by omega) (fun v1675 hv1675 => ?_)
  obtain ⟨fs1002, c1002⟩ := hI_o I (r := 0) (ci := 11) (by decide +kernel)
  refine wp_good (G 273 (by decide) cC273 rfl) (Y := zM185) (show zmt[185]? = some zM185 from rfl) I (ρ := [0, v1660.toInt, v1665.toInt, v1670.toInt, v1675.toInt]) (dK_v (kV_of rfl ⟨⟨by decide, by decide⟩, iR v1660, iR v1665, iR v1670, iR v1675, trivial⟩)) (dL_of (l := [some (.ref 0), some (.int v1660), some (.int v1665), some (.int v1670), some (.int v1675)]) ⟨lw_r (by decide), lw_i rfl, lw_i rfl, lw_i rfl, lw_i rfl, trivial⟩) (fun n d v h' e => r_virt (as := [.int v1660, .int v1665, .int v1670, .int v1675]) (r := []) f333_1676 c1002 (show zmt[185]? = some zM185 from rfl) rfl rfl rfl rfl rfl rfl e) (by first | decide | (show 63 + 1 ≤ _; omega)) (fun v h1001 σ1001 I1001 G1001 P1001 => ?_)
  obtain ⟨v1676, vq1676⟩ : ∃ y : Int32, v = some (.int y) := by
    obtain ⟨P, hm, ρ', rh', kP, sP⟩ := P1001
    cases List.mem_singleton.mp hm
    cases v with
    | none => exact sP.elim
    | some v =>
      obtain ⟨⟨x, y, rfl, -, -⟩, -⟩ := sP
      exact ⟨x, rfl⟩
  subst vq1676
  show Wp _ _ _ _ 1679 [some (.retAddr 1), some (.ref 0), some (.ref 72), some (.int i)] [.int v1676] _
  obtain ⟨fs1003, c1003, df1003⟩ := dG_o I.1 G1001 c1002 (by decide)
  refine wp1 (fun nn dd => r_pop f333_1679 rfl) ?_
  refine wp1 (fun n d => r_aloadn f333_1680 rfl) ?_
  refine wp1 (fun n d => r_aloadnX f333_1681 rfl) ?_
  refine wp1 (fun n d => r_iloadn f333_1682 rfl) ?_
  refine w_iconst f333_1683 (fun v1683 hv1683 => ?_)
  refine w_iadd f333_1684 (by omega) (by omega) (fun v1684 hv1684 => ?_)
  refine w_xld f333_1685 hX1 (by omega) (by omega) (fun v1685 hv1685 => ?_)
  refine wp1 (fun n d => r_aloadnX f333_1686 rfl) ?_
  refine wp1 (fun n d => r_iloadn f333_1687 rfl) ?_
  refine w_iconst f333_1688 (fun v1688 hv1688 => ?_)
  refine w_iadd f333_1689 (by omega) (by omega) (fun v1689 hv1689 => ?_)
  refine w_xld f333_1690 hX1 (by omega) (by omega) (fun v1690 hv1690 => ?_)
  refine wp1 (fun n d => r_aloadnX f333_1691 rfl) ?_
  refine wp1 (fun n d => r_iloadn f333_1692 rfl) ?_
  refine w_iconst f333_1693 (fun v1693 hv1693 => ?_)
  refine w_iadd f333_1694 (by omega) (by omega) (fun v1694 hv1694 => ?_)
  refine w_xld f333_1695 hX1 (by omega) (by omega) (fun v1695 hv1695 => ?_)
  refine wp1 (fun n d => r_aloadnX f333_1696 rfl) ?_
  refine wp1 (fun n d => r_iloadn f333_1697 rfl) ?_
  refine w_iconst f333_1698 (fun v1698 hv1698 => ?_)
  refine w_iadd f333_1699 (by omega) (by omega) (fun v1699 hv1699 => ?_)
  refine w_xld f333_1700 hX1 (by omega) (by omega) (fun v1700 hv1700 => ?_)
  obtain ⟨fs1005, c1005⟩ := hI_o I1001 (r := 72) (ci := 12) (by decide +kernel)
  refine wp_good (G 275 (by decide) cC275 rfl) (Y := zM304) (show zmt[304]? = some zM304 from rfl) I1001 (ρ := [0, v1685.toInt, v1690.toInt, v1695.toInt, v1700.toInt]) (dK_v (kV_of rfl ⟨⟨by decide, by decide⟩, iR v1685, iR v1690, iR v1695, iR v1700, trivial⟩)) (dL_of (l := [some (.ref 72), some (.int v1685), some (.int v1690), some (.int v1695), some (.int v1700), none, none, none, none]) ⟨lw_r (by decide), lw_i rfl, lw_i rfl, lw_i rfl, lw_i rfl, lw_0, lw_0, lw_0, lw_0, trivial⟩) (fun n d v h' e => r_virt (as := [.int v1685, .int v1690, .int v1695, .int v1700]) (r := []) f333_1701 c1005 (show zmt[304]? = some zM304 from rfl) rfl rfl rfl rfl rfl rfl e) (by first | decide | (show 10 + 1 ≤ _; omega)) (fun v h1004 σ1004 I1004 G1004 P1004 => ?_)
  obtain ⟨v1701, vq1701⟩ : ∃ y : Int32, v = some (.int y) := by
    obtain ⟨P, hm, ρ', rh', kP, sP⟩ := P1004
    cases List.mem_singleton.mp hm
    cases v with
    | none => exact sP.elim
    | some v =>
      obtain ⟨⟨x, y, rfl, -, -⟩, -⟩ := sP
      exact ⟨x, rfl⟩
  subst vq1701
  show Wp _ _ _ _ 1704 [some (.retAddr 1), some (.ref 0), some (.ref 72), some (.int i)] [.int v1701] _
  obtain ⟨fs1006, c1006, df1006⟩ := dG_o I1001.1 G1004 c1003 (by decide)
  obtain ⟨fs1007, c1007, df1007⟩ := dG_o I1001.1 G1004 c1005 (by decide)
  have GG : dG ([(33, 9), (33, 10), (33, 11), (33, 12), (33, 13), (33, 14), (41, 7), (42, 0), (43, 0), (44, 0), (45, 0), (146, 3), (146, 4), (146, 5), (147, 0), (148, 0), (149, 0), (150, 0), (151, 0), (152, 0), (153, 0), (72, 38), (72, 39), (72, 71), (72, 75), (103, 0), (104, 0), (105, 0), (106, 0), (107, 0), (108, 0), (109, 0), (110, 0), (124, 0), (125, 0), (126, 0), (127, 0), (128, 0)] : List (Nat × Nat)) σ h σ1004 h1004 := (dG_trans (dG_sub (by decide) G1001) (dG_sub (by decide) G1004))
  refine wp1 (fun nn dd => r_pop f333_1704 rfl) ?_
  refine wp1 (fun nn dd => r_goto f333_1705) ?_
  exact kq _ _ I1004 ⟨JQ_dG J I GG (by decide), JRing_dG K.1 I GG (by decide), JBody_dG K.2.1 I GG (by decide), JShelf_dG K.2.2 I GG (by decide)⟩ GG.2.2
theorem lc_42 {X : aX} (G : hG X 302) (hX : X 0 = some (8, zab)) {L : Nat} {xs : Nat → Int32} (hX1 : X 1 = some (L, xs)) (hL : L ≤ 3072) {i : Int32} (i0 : 0 ≤ i.toInt) (i1 : i.toInt + 6 ≤ L) {Q : Option Value → aH → Prop} {σ : List Nat} {h : aH} (I : dI σ h) (J : JX h) (kq : ∀ (σ' : List Nat) (h' : aH), dI σ' h' → JX h' → dPh h' ≤ dPh h → Wp X 64 zM333 Q 2075 [some (.retAddr 1), some (.ref 0), some (.ref 72), some (.int i)] [] h') : Wp X 64 zM333 Q 1708 [some (.retAddr 1), some (.ref 0), some (.ref 72), some (.int i)] [] h := by
  obtain ⟨J, K⟩ := J
  refine wp1 (fun n d => r_aloadn f333_1708 rfl) ?_
  refine wp1 (fun n d => r_aloadnX f333_1709 rfl) ?_
  refine wp1 (fun n d => r_iloadn f333_1710 rfl) ?_
  refine w_iconst f333_1711 (fun v1711 hv1711 => ?_)
  refine w_iadd f333_1712 (by omega) (by omega) (fun v1712 hv1712 => ?_)
  refine w_xld f333_1713 hX1 (by omega) (by omega) (fun v1713 hv1713 => ?_)
  refine wp1 (fun n d => r_aloadnX f333_1714 rfl) ?_
  refine wp1 (fun n d => r_iloadn f333_1715 rfl) ?_
  refine w_iconst f333_1716 (fun v1716 hv1716 => ?_)
  refine w_iadd f333_1717 (by omega) (by omega) (fun v1717 hv1717 => ?_)
  refine w_xld f333_1718 hX1 (by omega) (by omega) (fun v1718 hv1718 => ?_)
  refine wp1 (fun n d => r_aloadnX f333_1719 rfl) ?_
  refine wp1 (fun n d => r_iloadn f333_1720 rfl) ?_
  refine w_iconst f333_1721 (fun v1721 hv1721 => ?_)
  refine w_iadd f333_1722 (by omega) (by omega) (fun v1722 hv1722 => ?_)
  refine w_xld f333_1723 hX1 (by omega) (by omega) (fun v1723 hv1723 => ?_)
  obtain ⟨fs1002, c1002⟩ := hI_o I (r := 0) (ci := 11) (by decide +kernel)
  refine wp_good (G 276 (by decide) cC276 rfl) (Y := zM186) (show zmt[186]? = some zM186 from rfl) I (ρ := [0, v1713.toInt, v1718.toInt, v1723.toInt]) (dK_v (kV_of rfl ⟨⟨by decide, by decide⟩, iR v1713, iR v1718, iR v1723, trivial⟩)) (dL_of (l := [some (.ref 0), some (.int v1713), some (.int v1718), some (.int v1723)]) ⟨lw_r (by decide), lw_i rfl, lw_i rfl, lw_i rfl, trivial⟩) (fun n d v h' e => r_virt (as := [.int v1713, .int v1718, .int v1723]) (r := []) f333_1724 c1002 (show zmt[186]? = some zM186 from rfl) rfl rfl rfl rfl rfl rfl e) (by first | decide | (show 10 + 1 ≤ _; omega)) (fun v h1001 σ1001 I1001 G1001 P1001 => ?_)
  obtain ⟨v1724, vq1724⟩ : ∃ y : Int32, v = some (.int y) := by
    obtain ⟨P, hm, ρ', rh', kP, sP⟩ := P1001
    cases List.mem_singleton.mp hm
    cases v with
    | none => exact sP.elim
    | some v =>
      obtain ⟨⟨x, y, rfl, -, -⟩, -⟩ := sP
      exact ⟨x, rfl⟩
  subst vq1724
  show Wp _ _ _ _ 1727 [some (.retAddr 1), some (.ref 0), some (.ref 72), some (.int i)] [.int v1724] _
  obtain ⟨fs1003, c1003, df1003⟩ := dG_o I.1 G1001 c1002 (by decide)
  refine wp1 (fun nn dd => r_pop f333_1727 rfl) ?_
  refine wp1 (fun n d => r_aloadn f333_1728 rfl) ?_
  refine wp1 (fun n d => r_aloadnX f333_1729 rfl) ?_
  refine wp1 (fun n d => r_iloadn f333_1730 rfl) ?_
  refine w_iconst f333_1731 (fun v1731 hv1731 => ?_)
  refine w_iadd f333_1732 (by omega) (by omega) (fun v1732 hv1732 => ?_)
  refine w_xld f333_1733 hX1 (by omega) (by omega) (fun v1733 hv1733 => ?_)
  refine wp1 (fun n d => r_aloadnX f333_1734 rfl) ?_
  refine wp1 (fun n d => r_iloadn f333_1735 rfl) ?_
  refine w_iconst f333_1736 (fun v1736 hv1736 => ?_)
  refine w_iadd f333_1737 (by omega) (by omega) (fun v1737 hv1737 => ?_)
  refine w_xld f333_1738 hX1 (by omega) (by omega) (fun v1738 hv1738 => ?_)
  refine wp1 (fun n d => r_aloadnX f333_1739 rfl) ?_
  refine wp1 (fun n d => r_iloadn f333_1740 rfl) ?_
  refine w_iconst f333_1741 (fun v1741 hv1741 => ?_)
  refine w_iadd f333_1742 (by omega) (by omega) (fun v1742 hv1742 => ?_)
  refine w_xld f333_1743 hX1 (by omega) (by omega) (fun v1743 hv1743 => ?_)
  obtain ⟨fs1005, c1005⟩ := hI_o I1001 (r := 72) (ci := 12) (by decide +kernel)
  refine wp_good (G 277 (by decide) cC277 rfl) (Y := zM316) (show zmt[316]? = some zM316 from rfl) I1001 (ρ := [0, v1733.toInt, v1738.toInt, v1743.toInt]) (dK_v (kV_of rfl ⟨⟨by decide, by decide⟩, iR v1733, iR v1738, iR v1743, trivial⟩)) (dL_of (l := [some (.ref 72), some (.int v1733), some (.int v1738), some (.int v1743)]) ⟨lw_r (by decide), lw_i rfl, lw_i rfl, lw_i rfl, trivial⟩) (fun n d v h' e => r_virt (as := [.int v1733, .int v1738, .int v1743]) (r := []) f333_1744 c1005 (show zmt[316]? = some zM316 from rfl) rfl rfl rfl rfl rfl rfl e) (by first | decide | (show 9 + 1 ≤ _; omega)) (fun v h1004 σ1004 I1004 G1004 P1004 => ?_)
  obtain ⟨v1744, vq1744⟩ : ∃ y : Int32, v = some (.int y) := by
    obtain ⟨P, hm, ρ', rh', kP, sP⟩ := P1004
    cases List.mem_singleton.mp hm
    cases v with
    | none => exact sP.elim
    | some v =>
      obtain ⟨⟨x, y, rfl, -, -⟩, -⟩ := sP
      exact ⟨x, rfl⟩
  subst vq1744
  show Wp _ _ _ _ 1747 [some (.retAddr 1), some (.ref 0), some (.ref 72), some (.int i)] [.int v1744] _
  obtain ⟨fs1006, c1006, df1006⟩ := dG_o I1001.1 G1004 c1003 (by decide)
  obtain ⟨fs1007, c1007, df1007⟩ := dG_o I1001.1 G1004 c1005 (by decide)
  have GG : dG ([(66, 1), (66, 2), (66, 3), (66, 4), (67, 0), (72, 95), (141, 0)] : List (Nat × Nat)) σ h σ1004 h1004 := (dG_trans (dG_sub (by decide) G1001) (dG_sub (by decide) G1004))
  refine wp1 (fun nn dd => r_pop f333_1747 rfl) ?_
  refine wp1 (fun nn dd => r_goto f333_1748) ?_
  exact kq _ _ I1004 ⟨JQ_dG J I GG (by decide), JRing_dG K.1 I GG (by decide), JBody_dG K.2.1 I GG (by decide), JShelf_dG K.2.2 I GG (by decide)⟩ GG.2.2
