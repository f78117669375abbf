theorem dL_law_1470 : decode cL_law 1470 = .ok (.aload_n 2, 1) := by decide +kernel
theorem dL_law_1471 : decode cL_law 1471 = .ok (.aload_n 0, 1) := by decide +kernel
theorem dL_law_1472 : decode cL_law 1472 = .ok (.iload_n 3, 1) := by decide +kernel
theorem dL_law_1473 : decode cL_law 1473 = .ok (.iconst 1, 1) := by decide +kernel
theorem dL_law_1474 : decode cL_law 1474 = .ok (.iadd, 1) := by decide +kernel
theorem dL_law_1475 : decode cL_law 1475 = .ok (.iaload, 1) := by decide +kernel
theorem dL_law_1476 : decode cL_law 1476 = .ok (.aload_n 0, 1) := by decide +kernel
theorem dL_law_1477 : decode cL_law 1477 = .ok (.iload_n 3, 1) := by decide +kernel
theorem dL_law_1478 : decode cL_law 1478 = .ok (.iconst 2, 1) := by decide +kernel
theorem dL_law_1479 : decode cL_law 1479 = .ok (.iadd, 1) := by decide +kernel
theorem dL_law_1480 : decode cL_law 1480 = .ok (.iaload, 1) := by decide +kernel
theorem dL_law_1481 : decode cL_law 1481 = .ok (.aload_n 0, 1) := by decide +kernel
theorem dL_law_1482 : decode cL_law 1482 = .ok (.iload_n 3, 1) := by decide +kernel
theorem dL_law_1483 : decode cL_law 1483 = .ok (.iconst 3, 1) := by decide +kernel
theorem dL_law_1484 : decode cL_law 1484 = .ok (.iadd, 1) := by decide +kernel
theorem dL_law_1485 : decode cL_law 1485 = .ok (.iaload, 1) := by decide +kernel
theorem dL_law_1486 : decode cL_law 1486 = .ok (.invokevirtual 164, 3) := by decide +kernel
theorem dL_law_1489 : decode cL_law 1489 = .ok (.if_icmp .eq 239, 3) := by decide +kernel
theorem dL_law_1492 : decode cL_law 1492 = .ok (.iconst 0, 1) := by decide +kernel
theorem dL_law_1493 : decode cL_law 1493 = .ok (.ireturn, 1) := by decide +kernel
theorem dL_law_1494 : decode cL_law 1494 = .ok (.aload_n 1, 1) := by decide +kernel
theorem dL_law_1495 : decode cL_law 1495 = .ok (.aload_n 0, 1) := by decide +kernel
theorem dL_law_1496 : decode cL_law 1496 = .ok (.iload_n 3, 1) := by decide +kernel
theorem dL_law_1497 : decode cL_law 1497 = .ok (.iconst 1, 1) := by decide +kernel
theorem dL_law_1498 : decode cL_law 1498 = .ok (.iadd, 1) := by decide +kernel
theorem dL_law_1499 : decode cL_law 1499 = .ok (.iaload, 1) := by decide +kernel
theorem dL_law_1500 : decode cL_law 1500 = .ok (.aload_n 0, 1) := by decide +kernel
theorem dL_law_1501 : decode cL_law 1501 = .ok (.iload_n 3, 1) := by decide +kernel
theorem dL_law_1502 : decode cL_law 1502 = .ok (.iconst 2, 1) := by decide +kernel
theorem dL_law_1503 : decode cL_law 1503 = .ok (.iadd, 1) := by decide +kernel
theorem dL_law_1504 : decode cL_law 1504 = .ok (.iaload, 1) := by decide +kernel
theorem dL_law_1505 : decode cL_law 1505 = .ok (.aload_n 0, 1) := by decide +kernel
theorem dL_law_1506 : decode cL_law 1506 = .ok (.iload_n 3, 1) := by decide +kernel
theorem dL_law_1507 : decode cL_law 1507 = .ok (.iconst 3, 1) := by decide +kernel
theorem dL_law_1508 : decode cL_law 1508 = .ok (.iadd, 1) := by decide +kernel
theorem dL_law_1509 : decode cL_law 1509 = .ok (.iaload, 1) := by decide +kernel
theorem dL_law_1510 : decode cL_law 1510 = .ok (.invokevirtual 165, 3) := by decide +kernel
theorem dL_law_1513 : decode cL_law 1513 = .ok (.aload_n 2, 1) := by decide +kernel
theorem dL_law_1514 : decode cL_law 1514 = .ok (.aload_n 0, 1) := by decide +kernel
theorem dL_law_1515 : decode cL_law 1515 = .ok (.iload_n 3, 1) := by decide +kernel
theorem dL_law_1516 : decode cL_law 1516 = .ok (.iconst 1, 1) := by decide +kernel
theorem dL_law_1517 : decode cL_law 1517 = .ok (.iadd, 1) := by decide +kernel
theorem dL_law_1518 : decode cL_law 1518 = .ok (.iaload, 1) := by decide +kernel
theorem dL_law_1519 : decode cL_law 1519 = .ok (.aload_n 0, 1) := by decide +kernel
theorem dL_law_1520 : decode cL_law 1520 = .ok (.iload_n 3, 1) := by decide +kernel
theorem dL_law_1521 : decode cL_law 1521 = .ok (.iconst 2, 1) := by decide +kernel
theorem dL_law_1522 : decode cL_law 1522 = .ok (.iadd, 1) := by decide +kernel
theorem dL_law_1523 : decode cL_law 1523 = .ok (.iaload, 1) := by decide +kernel
theorem dL_law_1524 : decode cL_law 1524 = .ok (.aload_n 0, 1) := by decide +kernel
theorem dL_law_1525 : decode cL_law 1525 = .ok (.iload_n 3, 1) := by decide +kernel
theorem dL_law_1526 : decode cL_law 1526 = .ok (.iconst 3, 1) := by decide +kernel
theorem dL_law_1527 : decode cL_law 1527 = .ok (.iadd, 1) := by decide +kernel
theorem dL_law_1528 : decode cL_law 1528 = .ok (.iaload, 1) := by decide +kernel
theorem dL_law_1529 : decode cL_law 1529 = .ok (.invokevirtual 168, 3) := by decide +kernel
theorem dL_law_1532 : decode cL_law 1532 = .ok (.if_icmp .eq 196, 3) := by decide +kernel
theorem dL_law_1535 : decode cL_law 1535 = .ok (.iconst 0, 1) := by decide +kernel
theorem dL_law_1536 : decode cL_law 1536 = .ok (.ireturn, 1) := by decide +kernel
theorem dL_law_1537 : decode cL_law 1537 = .ok (.aload_n 1, 1) := by decide +kernel
theorem dL_law_1538 : decode cL_law 1538 = .ok (.aload_n 0, 1) := by decide +kernel
theorem dL_law_1539 : decode cL_law 1539 = .ok (.iload_n 3, 1) := by decide +kernel
theorem dL_law_1540 : decode cL_law 1540 = .ok (.iconst 1, 1) := by decide +kernel
theorem dL_law_1541 : decode cL_law 1541 = .ok (.iadd, 1) := by decide +kernel
theorem dL_law_1542 : decode cL_law 1542 = .ok (.iaload, 1) := by decide +kernel
theorem dL_law_1543 : decode cL_law 1543 = .ok (.aload_n 0, 1) := by decide +kernel
theorem dL_law_1544 : decode cL_law 1544 = .ok (.iload_n 3, 1) := by decide +kernel
theorem dL_law_1545 : decode cL_law 1545 = .ok (.iconst 2, 1) := by decide +kernel
theorem dL_law_1546 : decode cL_law 1546 = .ok (.iadd, 1) := by decide +kernel
theorem dL_law_1547 : decode cL_law 1547 = .ok (.iaload, 1) := by decide +kernel
theorem dL_law_1548 : decode cL_law 1548 = .ok (.aload_n 0, 1) := by decide +kernel
theorem dL_law_1549 : decode cL_law 1549 = .ok (.iload_n 3, 1) := by decide +kernel
theorem dL_law_1550 : decode cL_law 1550 = .ok (.iconst 3, 1) := by decide +kernel
theorem dL_law_1551 : decode cL_law 1551 = .ok (.iadd, 1) := by decide +kernel
theorem dL_law_1552 : decode cL_law 1552 = .ok (.iaload, 1) := by decide +kernel
theorem dL_law_1553 : decode cL_law 1553 = .ok (.aload_n 0, 1) := by decide +kernel
theorem dL_law_1554 : decode cL_law 1554 = .ok (.iload_n 3, 1) := by decide +kernel
theorem dL_law_1555 : decode cL_law 1555 = .ok (.iconst 4, 1) := by decide +kernel
theorem dL_law_1556 : decode cL_law 1556 = .ok (.iadd, 1) := by decide +kernel
theorem dL_law_1557 : decode cL_law 1557 = .ok (.iaload, 1) := by decide +kernel
theorem dL_law_1558 : decode cL_law 1558 = .ok (.aload_n 0, 1) := by decide +kernel
theorem dL_law_1559 : decode cL_law 1559 = .ok (.iload_n 3, 1) := by decide +kernel
theorem dL_law_1560 : decode cL_law 1560 = .ok (.iconst 5, 1) := by decide +kernel
theorem dL_law_1561 : decode cL_law 1561 = .ok (.iadd, 1) := by decide +kernel
theorem dL_law_1562 : decode cL_law 1562 = .ok (.iaload, 1) := by decide +kernel
theorem dL_law_1563 : decode cL_law 1563 = .ok (.invokevirtual 169, 3) := by decide +kernel
theorem dL_law_1566 : decode cL_law 1566 = .ok (.aload_n 2, 1) := by decide +kernel
theorem dL_law_1567 : decode cL_law 1567 = .ok (.aload_n 0, 1) := by decide +kernel
theorem dL_law_1568 : decode cL_law 1568 = .ok (.iload_n 3, 1) := by decide +kernel
theorem dL_law_1569 : decode cL_law 1569 = .ok (.iconst 1, 1) := by decide +kernel
theorem dL_law_1570 : decode cL_law 1570 = .ok (.iadd, 1) := by decide +kernel
theorem dL_law_1571 : decode cL_law 1571 = .ok (.iaload, 1) := by decide +kernel
theorem dL_law_1572 : decode cL_law 1572 = .ok (.aload_n 0, 1) := by decide +kernel
theorem dL_law_1573 : decode cL_law 1573 = .ok (.iload_n 3, 1) := by decide +kernel
theorem dL_law_1574 : decode cL_law 1574 = .ok (.iconst 2, 1) := by decide +kernel
theorem dL_law_1575 : decode cL_law 1575 = .ok (.iadd, 1) := by decide +kernel
theorem dL_law_1576 : decode cL_law 1576 = .ok (.iaload, 1) := by decide +kernel
theorem dL_law_1577 : decode cL_law 1577 = .ok (.aload_n 0, 1) := by decide +kernel
theorem dL_law_1578 : decode cL_law 1578 = .ok (.iload_n 3, 1) := by decide +kernel
theorem dL_law_1579 : decode cL_law 1579 = .ok (.iconst 3, 1) := by decide +kernel
theorem dL_law_1580 : decode cL_law 1580 = .ok (.iadd, 1) := by decide +kernel
theorem dL_law_1581 : decode cL_law 1581 = .ok (.iaload, 1) := by decide +kernel
theorem dL_law_1582 : decode cL_law 1582 = .ok (.aload_n 0, 1) := by decide +kernel
theorem dL_law_1583 : decode cL_law 1583 = .ok (.iload_n 3, 1) := by decide +kernel
theorem dL_law_1584 : decode cL_law 1584 = .ok (.iconst 4, 1) := by decide +kernel
theorem dL_law_1585 : decode cL_law 1585 = .ok (.iadd, 1) := by decide +kernel
theorem dL_law_1586 : decode cL_law 1586 = .ok (.iaload, 1) := by decide +kernel
theorem dL_law_1587 : decode cL_law 1587 = .ok (.aload_n 0, 1) := by decide +kernel
theorem dL_law_1588 : decode cL_law 1588 = .ok (.iload_n 3, 1) := by decide +kernel
theorem dL_law_1589 : decode cL_law 1589 = .ok (.iconst 5, 1) := by decide +kernel
theorem dL_law_1590 : decode cL_law 1590 = .ok (.iadd, 1) := by decide +kernel
theorem dL_law_1591 : decode cL_law 1591 = .ok (.iaload, 1) := by decide +kernel
theorem dL_law_1592 : decode cL_law 1592 = .ok (.invokevirtual 173, 3) := by decide +kernel
theorem dL_law_1595 : decode cL_law 1595 = .ok (.if_icmp .eq 133, 3) := by decide +kernel
theorem dL_law_1598 : decode cL_law 1598 = .ok (.iconst 0, 1) := by decide +kernel
theorem dL_law_1599 : decode cL_law 1599 = .ok (.ireturn, 1) := by decide +kernel
theorem dL_law_1600 : decode cL_law 1600 = .ok (.aload_n 1, 1) := by decide +kernel
theorem dL_law_1601 : decode cL_law 1601 = .ok (.invokevirtual 174, 3) := by decide +kernel
theorem dL_law_1604 : decode cL_law 1604 = .ok (.aload_n 2, 1) := by decide +kernel
theorem dL_law_1605 : decode cL_law 1605 = .ok (.invokevirtual 177, 3) := by decide +kernel
theorem dL_law_1608 : decode cL_law 1608 = .ok (.if_icmp .eq 120, 3) := by decide +kernel
theorem dL_law_1611 : decode cL_law 1611 = .ok (.iconst 0, 1) := by decide +kernel
theorem dL_law_1612 : decode cL_law 1612 = .ok (.ireturn, 1) := by decide +kernel
theorem dL_law_1613 : decode cL_law 1613 = .ok (.aload_n 1, 1) := by decide +kernel
theorem dL_law_1614 : decode cL_law 1614 = .ok (.invokevirtual 178, 3) := by decide +kernel
theorem dL_law_1617 : decode cL_law 1617 = .ok (.aload_n 2, 1) := by decide +kernel
theorem dL_law_1618 : decode cL_law 1618 = .ok (.invokevirtual 181, 3) := by decide +kernel
theorem dL_law_1621 : decode cL_law 1621 = .ok (.if_icmp .eq 107, 3) := by decide +kernel
theorem dL_law_1624 : decode cL_law 1624 = .ok (.iconst 0, 1) := by decide +kernel
theorem dL_law_1625 : decode cL_law 1625 = .ok (.ireturn, 1) := by decide +kernel
theorem dL_law_1626 : decode cL_law 1626 = .ok (.aload_n 1, 1) := by decide +kernel
theorem dL_law_1627 : decode cL_law 1627 = .ok (.aload_n 0, 1) := by decide +kernel
theorem dL_law_1628 : decode cL_law 1628 = .ok (.iload_n 3, 1) := by decide +kernel
theorem dL_law_1629 : decode cL_law 1629 = .ok (.iconst 1, 1) := by decide +kernel
theorem dL_law_1630 : decode cL_law 1630 = .ok (.iadd, 1) := by decide +kernel
theorem dL_law_1631 : decode cL_law 1631 = .ok (.iaload, 1) := by decide +kernel
theorem dL_law_1632 : decode cL_law 1632 = .ok (.invokevirtual 182, 3) := by decide +kernel
theorem dL_law_1635 : decode cL_law 1635 = .ok (.aload_n 2, 1) := by decide +kernel
theorem dL_law_1636 : decode cL_law 1636 = .ok (.aload_n 0, 1) := by decide +kernel
theorem dL_law_1637 : decode cL_law 1637 = .ok (.iload_n 3, 1) := by decide +kernel
theorem dL_law_1638 : decode cL_law 1638 = .ok (.iconst 1, 1) := by decide +kernel
theorem dL_law_1639 : decode cL_law 1639 = .ok (.iadd, 1) := by decide +kernel
theorem dL_law_1640 : decode cL_law 1640 = .ok (.iaload, 1) := by decide +kernel
theorem dL_law_1641 : decode cL_law 1641 = .ok (.invokevirtual 185, 3) := by decide +kernel
theorem dL_law_1644 : decode cL_law 1644 = .ok (.if_icmp .eq 84, 3) := by decide +kernel
theorem dL_law_1647 : decode cL_law 1647 = .ok (.iconst 0, 1) := by decide +kernel
theorem dL_law_1648 : decode cL_law 1648 = .ok (.ireturn, 1) := by decide +kernel
theorem dL_law_1649 : decode cL_law 1649 = .ok (.aload_n 1, 1) := by decide +kernel
theorem dL_law_1650 : decode cL_law 1650 = .ok (.aload_n 0, 1) := by decide +kernel
theorem dL_law_1651 : decode cL_law 1651 = .ok (.iload_n 3, 1) := by decide +kernel
theorem dL_law_1652 : decode cL_law 1652 = .ok (.iconst 1, 1) := by decide +kernel
theorem dL_law_1653 : decode cL_law 1653 = .ok (.iadd, 1) := by decide +kernel
