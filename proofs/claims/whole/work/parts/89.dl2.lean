theorem dL_law__1433 : decode cL_law_ 1433 = .ok (.istore 5, 2) := by decide +kernel
theorem dL_law__1435 : decode cL_law_ 1435 = .ok (.aload_n 2, 1) := by decide +kernel
theorem dL_law__1436 : decode cL_law_ 1436 = .ok (.aload_n 0, 1) := by decide +kernel
theorem dL_law__1437 : decode cL_law_ 1437 = .ok (.iload 4, 2) := by decide +kernel
theorem dL_law__1439 : decode cL_law_ 1439 = .ok (.iconst 1, 1) := by decide +kernel
theorem dL_law__1440 : decode cL_law_ 1440 = .ok (.iadd, 1) := by decide +kernel
theorem dL_law__1441 : decode cL_law_ 1441 = .ok (.iaload, 1) := by decide +kernel
theorem dL_law__1442 : decode cL_law_ 1442 = .ok (.invokevirtual 226, 3) := by decide +kernel
theorem dL_law__1445 : decode cL_law_ 1445 = .ok (.istore 6, 2) := by decide +kernel
theorem dL_law__1447 : decode cL_law_ 1447 = .ok (.aload_n 2, 1) := by decide +kernel
theorem dL_law__1448 : decode cL_law_ 1448 = .ok (.invokevirtual 167, 3) := by decide +kernel
theorem dL_law__1451 : decode cL_law_ 1451 = .ok (.iload 5, 2) := by decide +kernel
theorem dL_law__1453 : decode cL_law_ 1453 = .ok (.if_icmp .eq 5, 3) := by decide +kernel
theorem dL_law__1456 : decode cL_law_ 1456 = .ok (.iconst 0, 1) := by decide +kernel
theorem dL_law__1457 : decode cL_law_ 1457 = .ok (.ireturn, 1) := by decide +kernel
theorem dL_law__1458 : decode cL_law_ 1458 = .ok (.iload 5, 2) := by decide +kernel
theorem dL_law__1460 : decode cL_law_ 1460 = .ok (.ifCond .ne 15, 3) := by decide +kernel
theorem dL_law__1463 : decode cL_law_ 1463 = .ok (.aload_n 3, 1) := by decide +kernel
theorem dL_law__1464 : decode cL_law_ 1464 = .ok (.iconst 0, 1) := by decide +kernel
theorem dL_law__1465 : decode cL_law_ 1465 = .ok (.laload, 1) := by decide +kernel
theorem dL_law__1466 : decode cL_law_ 1466 = .ok (.iload 6, 2) := by decide +kernel
theorem dL_law__1468 : decode cL_law_ 1468 = .ok (.i2l, 1) := by decide +kernel
theorem dL_law__1469 : decode cL_law_ 1469 = .ok (.lcmp, 1) := by decide +kernel
theorem dL_law__1470 : decode cL_law_ 1470 = .ok (.ifCond .eq 5, 3) := by decide +kernel
theorem dL_law__1473 : decode cL_law_ 1473 = .ok (.iconst 0, 1) := by decide +kernel
theorem dL_law__1474 : decode cL_law_ 1474 = .ok (.ireturn, 1) := by decide +kernel
theorem dL_law__1475 : decode cL_law_ 1475 = .ok (.goto 1789, 3) := by decide +kernel
theorem dL_law__1478 : decode cL_law_ 1478 = .ok (.aload_n 1, 1) := by decide +kernel
theorem dL_law__1479 : decode cL_law_ 1479 = .ok (.aload_n 0, 1) := by decide +kernel
theorem dL_law__1480 : decode cL_law_ 1480 = .ok (.iload 4, 2) := by decide +kernel
theorem dL_law__1482 : decode cL_law_ 1482 = .ok (.iconst 1, 1) := by decide +kernel
theorem dL_law__1483 : decode cL_law_ 1483 = .ok (.iadd, 1) := by decide +kernel
theorem dL_law__1484 : decode cL_law_ 1484 = .ok (.iaload, 1) := by decide +kernel
theorem dL_law__1485 : decode cL_law_ 1485 = .ok (.aload_n 3, 1) := by decide +kernel
theorem dL_law__1486 : decode cL_law_ 1486 = .ok (.invokestatic 227, 3) := by decide +kernel
theorem dL_law__1489 : decode cL_law_ 1489 = .ok (.istore 5, 2) := by decide +kernel
theorem dL_law__1491 : decode cL_law_ 1491 = .ok (.aload_n 2, 1) := by decide +kernel
theorem dL_law__1492 : decode cL_law_ 1492 = .ok (.aload_n 0, 1) := by decide +kernel
theorem dL_law__1493 : decode cL_law_ 1493 = .ok (.iload 4, 2) := by decide +kernel
theorem dL_law__1495 : decode cL_law_ 1495 = .ok (.iconst 1, 1) := by decide +kernel
theorem dL_law__1496 : decode cL_law_ 1496 = .ok (.iadd, 1) := by decide +kernel
theorem dL_law__1497 : decode cL_law_ 1497 = .ok (.iaload, 1) := by decide +kernel
theorem dL_law__1498 : decode cL_law_ 1498 = .ok (.invokevirtual 229, 3) := by decide +kernel
theorem dL_law__1501 : decode cL_law_ 1501 = .ok (.istore 6, 2) := by decide +kernel
theorem dL_law__1503 : decode cL_law_ 1503 = .ok (.aload_n 2, 1) := by decide +kernel
theorem dL_law__1504 : decode cL_law_ 1504 = .ok (.invokevirtual 167, 3) := by decide +kernel
theorem dL_law__1507 : decode cL_law_ 1507 = .ok (.iload 5, 2) := by decide +kernel
theorem dL_law__1509 : decode cL_law_ 1509 = .ok (.if_icmp .eq 5, 3) := by decide +kernel
theorem dL_law__1512 : decode cL_law_ 1512 = .ok (.iconst 0, 1) := by decide +kernel
theorem dL_law__1513 : decode cL_law_ 1513 = .ok (.ireturn, 1) := by decide +kernel
theorem dL_law__1514 : decode cL_law_ 1514 = .ok (.iload 5, 2) := by decide +kernel
theorem dL_law__1516 : decode cL_law_ 1516 = .ok (.ifCond .ne 15, 3) := by decide +kernel
theorem dL_law__1519 : decode cL_law_ 1519 = .ok (.aload_n 3, 1) := by decide +kernel
theorem dL_law__1520 : decode cL_law_ 1520 = .ok (.iconst 0, 1) := by decide +kernel
theorem dL_law__1521 : decode cL_law_ 1521 = .ok (.laload, 1) := by decide +kernel
theorem dL_law__1522 : decode cL_law_ 1522 = .ok (.iload 6, 2) := by decide +kernel
theorem dL_law__1524 : decode cL_law_ 1524 = .ok (.i2l, 1) := by decide +kernel
theorem dL_law__1525 : decode cL_law_ 1525 = .ok (.lcmp, 1) := by decide +kernel
theorem dL_law__1526 : decode cL_law_ 1526 = .ok (.ifCond .eq 5, 3) := by decide +kernel
theorem dL_law__1529 : decode cL_law_ 1529 = .ok (.iconst 0, 1) := by decide +kernel
theorem dL_law__1530 : decode cL_law_ 1530 = .ok (.ireturn, 1) := by decide +kernel
theorem dL_law__1531 : decode cL_law_ 1531 = .ok (.goto 1733, 3) := by decide +kernel
theorem dL_law__1534 : decode cL_law_ 1534 = .ok (.aload_n 1, 1) := by decide +kernel
theorem dL_law__1535 : decode cL_law_ 1535 = .ok (.aload_n 0, 1) := by decide +kernel
theorem dL_law__1536 : decode cL_law_ 1536 = .ok (.iload 4, 2) := by decide +kernel
theorem dL_law__1538 : decode cL_law_ 1538 = .ok (.iconst 1, 1) := by decide +kernel
theorem dL_law__1539 : decode cL_law_ 1539 = .ok (.iadd, 1) := by decide +kernel
theorem dL_law__1540 : decode cL_law_ 1540 = .ok (.iaload, 1) := by decide +kernel
theorem dL_law__1541 : decode cL_law_ 1541 = .ok (.aload_n 0, 1) := by decide +kernel
theorem dL_law__1542 : decode cL_law_ 1542 = .ok (.iload 4, 2) := by decide +kernel
theorem dL_law__1544 : decode cL_law_ 1544 = .ok (.iconst 2, 1) := by decide +kernel
theorem dL_law__1545 : decode cL_law_ 1545 = .ok (.iadd, 1) := by decide +kernel
theorem dL_law__1546 : decode cL_law_ 1546 = .ok (.iaload, 1) := by decide +kernel
theorem dL_law__1547 : decode cL_law_ 1547 = .ok (.aload_n 3, 1) := by decide +kernel
theorem dL_law__1548 : decode cL_law_ 1548 = .ok (.invokestatic 230, 3) := by decide +kernel
theorem dL_law__1551 : decode cL_law_ 1551 = .ok (.istore 5, 2) := by decide +kernel
theorem dL_law__1553 : decode cL_law_ 1553 = .ok (.aload_n 2, 1) := by decide +kernel
theorem dL_law__1554 : decode cL_law_ 1554 = .ok (.aload_n 0, 1) := by decide +kernel
theorem dL_law__1555 : decode cL_law_ 1555 = .ok (.iload 4, 2) := by decide +kernel
theorem dL_law__1557 : decode cL_law_ 1557 = .ok (.iconst 1, 1) := by decide +kernel
theorem dL_law__1558 : decode cL_law_ 1558 = .ok (.iadd, 1) := by decide +kernel
theorem dL_law__1559 : decode cL_law_ 1559 = .ok (.iaload, 1) := by decide +kernel
theorem dL_law__1560 : decode cL_law_ 1560 = .ok (.aload_n 0, 1) := by decide +kernel
theorem dL_law__1561 : decode cL_law_ 1561 = .ok (.iload 4, 2) := by decide +kernel
theorem dL_law__1563 : decode cL_law_ 1563 = .ok (.iconst 2, 1) := by decide +kernel
theorem dL_law__1564 : decode cL_law_ 1564 = .ok (.iadd, 1) := by decide +kernel
theorem dL_law__1565 : decode cL_law_ 1565 = .ok (.iaload, 1) := by decide +kernel
theorem dL_law__1566 : decode cL_law_ 1566 = .ok (.invokevirtual 232, 3) := by decide +kernel
theorem dL_law__1569 : decode cL_law_ 1569 = .ok (.istore 6, 2) := by decide +kernel
theorem dL_law__1571 : decode cL_law_ 1571 = .ok (.aload_n 2, 1) := by decide +kernel
theorem dL_law__1572 : decode cL_law_ 1572 = .ok (.invokevirtual 167, 3) := by decide +kernel
theorem dL_law__1575 : decode cL_law_ 1575 = .ok (.iload 5, 2) := by decide +kernel
theorem dL_law__1577 : decode cL_law_ 1577 = .ok (.if_icmp .eq 5, 3) := by decide +kernel
theorem dL_law__1580 : decode cL_law_ 1580 = .ok (.iconst 0, 1) := by decide +kernel
theorem dL_law__1581 : decode cL_law_ 1581 = .ok (.ireturn, 1) := by decide +kernel
theorem dL_law__1582 : decode cL_law_ 1582 = .ok (.iload 5, 2) := by decide +kernel
theorem dL_law__1584 : decode cL_law_ 1584 = .ok (.ifCond .ne 15, 3) := by decide +kernel
theorem dL_law__1587 : decode cL_law_ 1587 = .ok (.aload_n 3, 1) := by decide +kernel
theorem dL_law__1588 : decode cL_law_ 1588 = .ok (.iconst 0, 1) := by decide +kernel
theorem dL_law__1589 : decode cL_law_ 1589 = .ok (.laload, 1) := by decide +kernel
theorem dL_law__1590 : decode cL_law_ 1590 = .ok (.iload 6, 2) := by decide +kernel
theorem dL_law__1592 : decode cL_law_ 1592 = .ok (.i2l, 1) := by decide +kernel
theorem dL_law__1593 : decode cL_law_ 1593 = .ok (.lcmp, 1) := by decide +kernel
theorem dL_law__1594 : decode cL_law_ 1594 = .ok (.ifCond .eq 5, 3) := by decide +kernel
theorem dL_law__1597 : decode cL_law_ 1597 = .ok (.iconst 0, 1) := by decide +kernel
theorem dL_law__1598 : decode cL_law_ 1598 = .ok (.ireturn, 1) := by decide +kernel
theorem dL_law__1599 : decode cL_law_ 1599 = .ok (.goto 1665, 3) := by decide +kernel
theorem dL_law__1602 : decode cL_law_ 1602 = .ok (.aload_n 1, 1) := by decide +kernel
theorem dL_law__1603 : decode cL_law_ 1603 = .ok (.aload_n 0, 1) := by decide +kernel
theorem dL_law__1604 : decode cL_law_ 1604 = .ok (.iload 4, 2) := by decide +kernel
theorem dL_law__1606 : decode cL_law_ 1606 = .ok (.iconst 1, 1) := by decide +kernel
theorem dL_law__1607 : decode cL_law_ 1607 = .ok (.iadd, 1) := by decide +kernel
theorem dL_law__1608 : decode cL_law_ 1608 = .ok (.iaload, 1) := by decide +kernel
theorem dL_law__1609 : decode cL_law_ 1609 = .ok (.aload_n 3, 1) := by decide +kernel
theorem dL_law__1610 : decode cL_law_ 1610 = .ok (.invokestatic 233, 3) := by decide +kernel
theorem dL_law__1613 : decode cL_law_ 1613 = .ok (.istore 5, 2) := by decide +kernel
theorem dL_law__1615 : decode cL_law_ 1615 = .ok (.aload_n 2, 1) := by decide +kernel
theorem dL_law__1616 : decode cL_law_ 1616 = .ok (.aload_n 0, 1) := by decide +kernel
theorem dL_law__1617 : decode cL_law_ 1617 = .ok (.iload 4, 2) := by decide +kernel
theorem dL_law__1619 : decode cL_law_ 1619 = .ok (.iconst 1, 1) := by decide +kernel
theorem dL_law__1620 : decode cL_law_ 1620 = .ok (.iadd, 1) := by decide +kernel
theorem dL_law__1621 : decode cL_law_ 1621 = .ok (.iaload, 1) := by decide +kernel
theorem dL_law__1622 : decode cL_law_ 1622 = .ok (.invokevirtual 235, 3) := by decide +kernel
theorem dL_law__1625 : decode cL_law_ 1625 = .ok (.istore 6, 2) := by decide +kernel
theorem dL_law__1627 : decode cL_law_ 1627 = .ok (.aload_n 2, 1) := by decide +kernel
theorem dL_law__1628 : decode cL_law_ 1628 = .ok (.invokevirtual 167, 3) := by decide +kernel
theorem dL_law__1631 : decode cL_law_ 1631 = .ok (.iload 5, 2) := by decide +kernel
theorem dL_law__1633 : decode cL_law_ 1633 = .ok (.if_icmp .eq 5, 3) := by decide +kernel
theorem dL_law__1636 : decode cL_law_ 1636 = .ok (.iconst 0, 1) := by decide +kernel
theorem dL_law__1637 : decode cL_law_ 1637 = .ok (.ireturn, 1) := by decide +kernel
theorem dL_law__1638 : decode cL_law_ 1638 = .ok (.iload 5, 2) := by decide +kernel
theorem dL_law__1640 : decode cL_law_ 1640 = .ok (.ifCond .ne 15, 3) := by decide +kernel
theorem dL_law__1643 : decode cL_law_ 1643 = .ok (.aload_n 3, 1) := by decide +kernel
theorem dL_law__1644 : decode cL_law_ 1644 = .ok (.iconst 0, 1) := by decide +kernel
theorem dL_law__1645 : decode cL_law_ 1645 = .ok (.laload, 1) := by decide +kernel
theorem dL_law__1646 : decode cL_law_ 1646 = .ok (.iload 6, 2) := by decide +kernel
theorem dL_law__1648 : decode cL_law_ 1648 = .ok (.i2l, 1) := by decide +kernel
theorem dL_law__1649 : decode cL_law_ 1649 = .ok (.lcmp, 1) := by decide +kernel
theorem dL_law__1650 : decode cL_law_ 1650 = .ok (.ifCond .eq 5, 3) := by decide +kernel
theorem dL_law__1653 : decode cL_law_ 1653 = .ok (.iconst 0, 1) := by decide +kernel
theorem dL_law__1654 : decode cL_law_ 1654 = .ok (.ireturn, 1) := by decide +kernel
theorem dL_law__1655 : decode cL_law_ 1655 = .ok (.goto 1609, 3) := by decide +kernel
theorem dL_law__1658 : decode cL_law_ 1658 = .ok (.aload_n 1, 1) := by decide +kernel
theorem dL_law__1659 : decode cL_law_ 1659 = .ok (.aload_n 0, 1) := by decide +kernel
theorem dL_law__1660 : decode cL_law_ 1660 = .ok (.iload 4, 2) := by decide +kernel
theorem dL_law__1662 : decode cL_law_ 1662 = .ok (.iconst 1, 1) := by decide +kernel
theorem dL_law__1663 : decode cL_law_ 1663 = .ok (.iadd, 1) := by decide +kernel
theorem dL_law__1664 : decode cL_law_ 1664 = .ok (.iaload, 1) := by decide +kernel
theorem dL_law__1665 : decode cL_law_ 1665 = .ok (.aload_n 0, 1) := by decide +kernel
theorem dL_law__1666 : decode cL_law_ 1666 = .ok (.iload 4, 2) := by decide +kernel
theorem dL_law__1668 : decode cL_law_ 1668 = .ok (.iconst 2, 1) := by decide +kernel
theorem dL_law__1669 : decode cL_law_ 1669 = .ok (.iadd, 1) := by decide +kernel
theorem dL_law__1670 : decode cL_law_ 1670 = .ok (.iaload, 1) := by decide +kernel
theorem dL_law__1671 : decode cL_law_ 1671 = .ok (.aload_n 3, 1) := by decide +kernel
theorem dL_law__1672 : decode cL_law_ 1672 = .ok (.invokestatic 236, 3) := by decide +kernel
theorem dL_law__1675 : decode cL_law_ 1675 = .ok (.istore 5, 2) := by decide +kernel
theorem dL_law__1677 : decode cL_law_ 1677 = .ok (.aload_n 2, 1) := by decide +kernel
theorem dL_law__1678 : decode cL_law_ 1678 = .ok (.aload_n 0, 1) := by decide +kernel
theorem dL_law__1679 : decode cL_law_ 1679 = .ok (.iload 4, 2) := by decide +kernel
theorem dL_law__1681 : decode cL_law_ 1681 = .ok (.iconst 1, 1) := by decide +kernel
theorem dL_law__1682 : decode cL_law_ 1682 = .ok (.iadd, 1) := by decide +kernel
theorem dL_law__1683 : decode cL_law_ 1683 = .ok (.iaload, 1) := by decide +kernel
theorem dL_law__1684 : decode cL_law_ 1684 = .ok (.aload_n 0, 1) := by decide +kernel
theorem dL_law__1685 : decode cL_law_ 1685 = .ok (.iload 4, 2) := by decide +kernel
theorem dL_law__1687 : decode cL_law_ 1687 = .ok (.iconst 2, 1) := by decide +kernel
theorem dL_law__1688 : decode cL_law_ 1688 = .ok (.iadd, 1) := by decide +kernel
theorem dL_law__1689 : decode cL_law_ 1689 = .ok (.iaload, 1) := by decide +kernel
theorem dL_law__1690 : decode cL_law_ 1690 = .ok (.invokevirtual 238, 3) := by decide +kernel
theorem dL_law__1693 : decode cL_law_ 1693 = .ok (.istore 6, 2) := by decide +kernel
theorem dL_law__1695 : decode cL_law_ 1695 = .ok (.aload_n 2, 1) := by decide +kernel
theorem dL_law__1696 : decode cL_law_ 1696 = .ok (.invokevirtual 167, 3) := by decide +kernel
theorem dL_law__1699 : decode cL_law_ 1699 = .ok (.iload 5, 2) := by decide +kernel
theorem dL_law__1701 : decode cL_law_ 1701 = .ok (.if_icmp .eq 5, 3) := by decide +kernel
theorem dL_law__1704 : decode cL_law_ 1704 = .ok (.iconst 0, 1) := by decide +kernel
theorem dL_law__1705 : decode cL_law_ 1705 = .ok (.ireturn, 1) := by decide +kernel
theorem dL_law__1706 : decode cL_law_ 1706 = .ok (.iload 5, 2) := by decide +kernel
theorem dL_law__1708 : decode cL_law_ 1708 = .ok (.ifCond .ne 15, 3) := by decide +kernel
theorem dL_law__1711 : decode cL_law_ 1711 = .ok (.aload_n 3, 1) := by decide +kernel
theorem dL_law__1712 : decode cL_law_ 1712 = .ok (.iconst 0, 1) := by decide +kernel
theorem dL_law__1713 : decode cL_law_ 1713 = .ok (.laload, 1) := by decide +kernel
theorem dL_law__1714 : decode cL_law_ 1714 = .ok (.iload 6, 2) := by decide +kernel
theorem dL_law__1716 : decode cL_law_ 1716 = .ok (.i2l, 1) := by decide +kernel
theorem dL_law__1717 : decode cL_law_ 1717 = .ok (.lcmp, 1) := by decide +kernel
theorem dL_law__1718 : decode cL_law_ 1718 = .ok (.ifCond .eq 5, 3) := by decide +kernel
theorem dL_law__1721 : decode cL_law_ 1721 = .ok (.iconst 0, 1) := by decide +kernel
theorem dL_law__1722 : decode cL_law_ 1722 = .ok (.ireturn, 1) := by decide +kernel
theorem dL_law__1723 : decode cL_law_ 1723 = .ok (.goto 1541, 3) := by decide +kernel
theorem dL_law__1726 : decode cL_law_ 1726 = .ok (.aload_n 1, 1) := by decide +kernel
theorem dL_law__1727 : decode cL_law_ 1727 = .ok (.invokevirtual 239, 3) := by decide +kernel
theorem dL_law__1730 : decode cL_law_ 1730 = .ok (.aload_n 2, 1) := by decide +kernel
theorem dL_law__1731 : decode cL_law_ 1731 = .ok (.invokevirtual 242, 3) := by decide +kernel
theorem dL_law__1734 : decode cL_law_ 1734 = .ok (.if_icmp .eq 1530, 3) := by decide +kernel
theorem dL_law__1737 : decode cL_law_ 1737 = .ok (.iconst 0, 1) := by decide +kernel
theorem dL_law__1738 : decode cL_law_ 1738 = .ok (.ireturn, 1) := by decide +kernel
theorem dL_law__1739 : decode cL_law_ 1739 = .ok (.aload_n 1, 1) := by decide +kernel
theorem dL_law__1740 : decode cL_law_ 1740 = .ok (.aload_n 0, 1) := by decide +kernel
theorem dL_law__1741 : decode cL_law_ 1741 = .ok (.iload 4, 2) := by decide +kernel
theorem dL_law__1743 : decode cL_law_ 1743 = .ok (.iconst 1, 1) := by decide +kernel
theorem dL_law__1744 : decode cL_law_ 1744 = .ok (.iadd, 1) := by decide +kernel
theorem dL_law__1745 : decode cL_law_ 1745 = .ok (.iaload, 1) := by decide +kernel
theorem dL_law__1746 : decode cL_law_ 1746 = .ok (.aload_n 0, 1) := by decide +kernel
theorem dL_law__1747 : decode cL_law_ 1747 = .ok (.iload 4, 2) := by decide +kernel
theorem dL_law__1749 : decode cL_law_ 1749 = .ok (.iconst 2, 1) := by decide +kernel
theorem dL_law__1750 : decode cL_law_ 1750 = .ok (.iadd, 1) := by decide +kernel
theorem dL_law__1751 : decode cL_law_ 1751 = .ok (.iaload, 1) := by decide +kernel
theorem dL_law__1752 : decode cL_law_ 1752 = .ok (.ifCond .eq 7, 3) := by decide +kernel
theorem dL_law__1755 : decode cL_law_ 1755 = .ok (.iconst 1, 1) := by decide +kernel
theorem dL_law__1756 : decode cL_law_ 1756 = .ok (.goto 4, 3) := by decide +kernel
theorem dL_law__1759 : decode cL_law_ 1759 = .ok (.iconst 0, 1) := by decide +kernel
theorem dL_law__1760 : decode cL_law_ 1760 = .ok (.aload_n 3, 1) := by decide +kernel
theorem dL_law__1761 : decode cL_law_ 1761 = .ok (.invokestatic 243, 3) := by decide +kernel
theorem dL_law__1764 : decode cL_law_ 1764 = .ok (.istore 5, 2) := by decide +kernel
theorem dL_law__1766 : decode cL_law_ 1766 = .ok (.aload_n 2, 1) := by decide +kernel
theorem dL_law__1767 : decode cL_law_ 1767 = .ok (.aload_n 0, 1) := by decide +kernel
theorem dL_law__1768 : decode cL_law_ 1768 = .ok (.iload 4, 2) := by decide +kernel
theorem dL_law__1770 : decode cL_law_ 1770 = .ok (.iconst 1, 1) := by decide +kernel
theorem dL_law__1771 : decode cL_law_ 1771 = .ok (.iadd, 1) := by decide +kernel
theorem dL_law__1772 : decode cL_law_ 1772 = .ok (.iaload, 1) := by decide +kernel
theorem dL_law__1773 : decode cL_law_ 1773 = .ok (.aload_n 0, 1) := by decide +kernel
theorem dL_law__1774 : decode cL_law_ 1774 = .ok (.iload 4, 2) := by decide +kernel
theorem dL_law__1776 : decode cL_law_ 1776 = .ok (.iconst 2, 1) := by decide +kernel
theorem dL_law__1777 : decode cL_law_ 1777 = .ok (.iadd, 1) := by decide +kernel
theorem dL_law__1778 : decode cL_law_ 1778 = .ok (.iaload, 1) := by decide +kernel
theorem dL_law__1779 : decode cL_law_ 1779 = .ok (.ifCond .eq 7, 3) := by decide +kernel
theorem dL_law__1782 : decode cL_law_ 1782 = .ok (.iconst 1, 1) := by decide +kernel
theorem dL_law__1783 : decode cL_law_ 1783 = .ok (.goto 4, 3) := by decide +kernel
theorem dL_law__1786 : decode cL_law_ 1786 = .ok (.iconst 0, 1) := by decide +kernel
theorem dL_law__1787 : decode cL_law_ 1787 = .ok (.invokevirtual 246, 3) := by decide +kernel
theorem dL_law__1790 : decode cL_law_ 1790 = .ok (.istore 6, 2) := by decide +kernel
theorem dL_law__1792 : decode cL_law_ 1792 = .ok (.aload_n 2, 1) := by decide +kernel
theorem dL_law__1793 : decode cL_law_ 1793 = .ok (.invokevirtual 167, 3) := by decide +kernel
theorem dL_law__1796 : decode cL_law_ 1796 = .ok (.iload 5, 2) := by decide +kernel
theorem dL_law__1798 : decode cL_law_ 1798 = .ok (.if_icmp .eq 5, 3) := by decide +kernel
theorem dL_law__1801 : decode cL_law_ 1801 = .ok (.iconst 0, 1) := by decide +kernel
theorem dL_law__1802 : decode cL_law_ 1802 = .ok (.ireturn, 1) := by decide +kernel
theorem dL_law__1803 : decode cL_law_ 1803 = .ok (.iload 5, 2) := by decide +kernel
theorem dL_law__1805 : decode cL_law_ 1805 = .ok (.ifCond .ne 15, 3) := by decide +kernel
theorem dL_law__1808 : decode cL_law_ 1808 = .ok (.aload_n 3, 1) := by decide +kernel
theorem dL_law__1809 : decode cL_law_ 1809 = .ok (.iconst 0, 1) := by decide +kernel
theorem dL_law__1810 : decode cL_law_ 1810 = .ok (.laload, 1) := by decide +kernel
theorem dL_law__1811 : decode cL_law_ 1811 = .ok (.iload 6, 2) := by decide +kernel
theorem dL_law__1813 : decode cL_law_ 1813 = .ok (.i2l, 1) := by decide +kernel
theorem dL_law__1814 : decode cL_law_ 1814 = .ok (.lcmp, 1) := by decide +kernel
theorem dL_law__1815 : decode cL_law_ 1815 = .ok (.ifCond .eq 5, 3) := by decide +kernel
theorem dL_law__1818 : decode cL_law_ 1818 = .ok (.iconst 0, 1) := by decide +kernel
theorem dL_law__1819 : decode cL_law_ 1819 = .ok (.ireturn, 1) := by decide +kernel
theorem dL_law__1820 : decode cL_law_ 1820 = .ok (.goto 1444, 3) := by decide +kernel
theorem dL_law__1823 : decode cL_law_ 1823 = .ok (.aload_n 1, 1) := by decide +kernel
theorem dL_law__1824 : decode cL_law_ 1824 = .ok (.invokevirtual 247, 3) := by decide +kernel
theorem dL_law__1827 : decode cL_law_ 1827 = .ok (.aload_n 2, 1) := by decide +kernel
theorem dL_law__1828 : decode cL_law_ 1828 = .ok (.invokevirtual 250, 3) := by decide +kernel
theorem dL_law__1831 : decode cL_law_ 1831 = .ok (.if_icmp .eq 1433, 3) := by decide +kernel
theorem dL_law__1834 : decode cL_law_ 1834 = .ok (.iconst 0, 1) := by decide +kernel
theorem dL_law__1835 : decode cL_law_ 1835 = .ok (.ireturn, 1) := by decide +kernel
theorem dL_law__1836 : decode cL_law_ 1836 = .ok (.aload_n 1, 1) := by decide +kernel
theorem dL_law__1837 : decode cL_law_ 1837 = .ok (.aload_n 3, 1) := by decide +kernel
theorem dL_law__1838 : decode cL_law_ 1838 = .ok (.invokestatic 251, 3) := by decide +kernel
theorem dL_law__1841 : decode cL_law_ 1841 = .ok (.istore 5, 2) := by decide +kernel
theorem dL_law__1843 : decode cL_law_ 1843 = .ok (.aload_n 2, 1) := by decide +kernel
theorem dL_law__1844 : decode cL_law_ 1844 = .ok (.invokevirtual 253, 3) := by decide +kernel
theorem dL_law__1847 : decode cL_law_ 1847 = .ok (.istore 6, 2) := by decide +kernel
theorem dL_law__1849 : decode cL_law_ 1849 = .ok (.aload_n 2, 1) := by decide +kernel
theorem dL_law__1850 : decode cL_law_ 1850 = .ok (.invokevirtual 167, 3) := by decide +kernel
theorem dL_law__1853 : decode cL_law_ 1853 = .ok (.iload 5, 2) := by decide +kernel
theorem dL_law__1855 : decode cL_law_ 1855 = .ok (.if_icmp .eq 5, 3) := by decide +kernel
theorem dL_law__1858 : decode cL_law_ 1858 = .ok (.iconst 0, 1) := by decide +kernel
theorem dL_law__1859 : decode cL_law_ 1859 = .ok (.ireturn, 1) := by decide +kernel
theorem dL_law__1860 : decode cL_law_ 1860 = .ok (.iload 5, 2) := by decide +kernel
theorem dL_law__1862 : decode cL_law_ 1862 = .ok (.ifCond .ne 15, 3) := by decide +kernel
theorem dL_law__1865 : decode cL_law_ 1865 = .ok (.aload_n 3, 1) := by decide +kernel
theorem dL_law__1866 : decode cL_law_ 1866 = .ok (.iconst 0, 1) := by decide +kernel
theorem dL_law__1867 : decode cL_law_ 1867 = .ok (.laload, 1) := by decide +kernel
theorem dL_law__1868 : decode cL_law_ 1868 = .ok (.iload 6, 2) := by decide +kernel
theorem dL_law__1870 : decode cL_law_ 1870 = .ok (.i2l, 1) := by decide +kernel
theorem dL_law__1871 : decode cL_law_ 1871 = .ok (.lcmp, 1) := by decide +kernel
theorem dL_law__1872 : decode cL_law_ 1872 = .ok (.ifCond .eq 5, 3) := by decide +kernel
theorem dL_law__1875 : decode cL_law_ 1875 = .ok (.iconst 0, 1) := by decide +kernel
theorem dL_law__1876 : decode cL_law_ 1876 = .ok (.ireturn, 1) := by decide +kernel
theorem dL_law__1877 : decode cL_law_ 1877 = .ok (.goto 1387, 3) := by decide +kernel
theorem dL_law__1880 : decode cL_law_ 1880 = .ok (.aload_n 1, 1) := by decide +kernel
theorem dL_law__1881 : decode cL_law_ 1881 = .ok (.aload_n 3, 1) := by decide +kernel
theorem dL_law__1882 : decode cL_law_ 1882 = .ok (.invokestatic 254, 3) := by decide +kernel
theorem dL_law__1885 : decode cL_law_ 1885 = .ok (.istore 5, 2) := by decide +kernel
theorem dL_law__1887 : decode cL_law_ 1887 = .ok (.aload_n 2, 1) := by decide +kernel
theorem dL_law__1888 : decode cL_law_ 1888 = .ok (.invokevirtual 256, 3) := by decide +kernel
theorem dL_law__1891 : decode cL_law_ 1891 = .ok (.istore 6, 2) := by decide +kernel
theorem dL_law__1893 : decode cL_law_ 1893 = .ok (.aload_n 2, 1) := by decide +kernel
theorem dL_law__1894 : decode cL_law_ 1894 = .ok (.invokevirtual 167, 3) := by decide +kernel
theorem dL_law__1897 : decode cL_law_ 1897 = .ok (.iload 5, 2) := by decide +kernel
theorem dL_law__1899 : decode cL_law_ 1899 = .ok (.if_icmp .eq 5, 3) := by decide +kernel
theorem dL_law__1902 : decode cL_law_ 1902 = .ok (.iconst 0, 1) := by decide +kernel
theorem dL_law__1903 : decode cL_law_ 1903 = .ok (.ireturn, 1) := by decide +kernel
theorem dL_law__1904 : decode cL_law_ 1904 = .ok (.iload 5, 2) := by decide +kernel
theorem dL_law__1906 : decode cL_law_ 1906 = .ok (.ifCond .ne 15, 3) := by decide +kernel
theorem dL_law__1909 : decode cL_law_ 1909 = .ok (.aload_n 3, 1) := by decide +kernel
theorem dL_law__1910 : decode cL_law_ 1910 = .ok (.iconst 0, 1) := by decide +kernel
theorem dL_law__1911 : decode cL_law_ 1911 = .ok (.laload, 1) := by decide +kernel
theorem dL_law__1912 : decode cL_law_ 1912 = .ok (.iload 6, 2) := by decide +kernel
theorem dL_law__1914 : decode cL_law_ 1914 = .ok (.i2l, 1) := by decide +kernel
theorem dL_law__1915 : decode cL_law_ 1915 = .ok (.lcmp, 1) := by decide +kernel
theorem dL_law__1916 : decode cL_law_ 1916 = .ok (.ifCond .eq 5, 3) := by decide +kernel
theorem dL_law__1919 : decode cL_law_ 1919 = .ok (.iconst 0, 1) := by decide +kernel
theorem dL_law__1920 : decode cL_law_ 1920 = .ok (.ireturn, 1) := by decide +kernel
theorem dL_law__1921 : decode cL_law_ 1921 = .ok (.goto 1343, 3) := by decide +kernel
theorem dL_law__1924 : decode cL_law_ 1924 = .ok (.aload_n 1, 1) := by decide +kernel
theorem dL_law__1925 : decode cL_law_ 1925 = .ok (.aload_n 3, 1) := by decide +kernel
theorem dL_law__1926 : decode cL_law_ 1926 = .ok (.invokestatic 257, 3) := by decide +kernel
theorem dL_law__1929 : decode cL_law_ 1929 = .ok (.istore 5, 2) := by decide +kernel
theorem dL_law__1931 : decode cL_law_ 1931 = .ok (.aload_n 2, 1) := by decide +kernel
theorem dL_law__1932 : decode cL_law_ 1932 = .ok (.invokevirtual 259, 3) := by decide +kernel
theorem dL_law__1935 : decode cL_law_ 1935 = .ok (.istore 6, 2) := by decide +kernel
theorem dL_law__1937 : decode cL_law_ 1937 = .ok (.aload_n 2, 1) := by decide +kernel
theorem dL_law__1938 : decode cL_law_ 1938 = .ok (.invokevirtual 167, 3) := by decide +kernel
theorem dL_law__1941 : decode cL_law_ 1941 = .ok (.iload 5, 2) := by decide +kernel
theorem dL_law__1943 : decode cL_law_ 1943 = .ok (.if_icmp .eq 5, 3) := by decide +kernel
theorem dL_law__1946 : decode cL_law_ 1946 = .ok (.iconst 0, 1) := by decide +kernel
theorem dL_law__1947 : decode cL_law_ 1947 = .ok (.ireturn, 1) := by decide +kernel
theorem dL_law__1948 : decode cL_law_ 1948 = .ok (.iload 5, 2) := by decide +kernel
theorem dL_law__1950 : decode cL_law_ 1950 = .ok (.ifCond .ne 15, 3) := by decide +kernel
theorem dL_law__1953 : decode cL_law_ 1953 = .ok (.aload_n 3, 1) := by decide +kernel
theorem dL_law__1954 : decode cL_law_ 1954 = .ok (.iconst 0, 1) := by decide +kernel
theorem dL_law__1955 : decode cL_law_ 1955 = .ok (.laload, 1) := by decide +kernel
theorem dL_law__1956 : decode cL_law_ 1956 = .ok (.iload 6, 2) := by decide +kernel
theorem dL_law__1958 : decode cL_law_ 1958 = .ok (.i2l, 1) := by decide +kernel
theorem dL_law__1959 : decode cL_law_ 1959 = .ok (.lcmp, 1) := by decide +kernel
theorem dL_law__1960 : decode cL_law_ 1960 = .ok (.ifCond .eq 5, 3) := by decide +kernel
theorem dL_law__1963 : decode cL_law_ 1963 = .ok (.iconst 0, 1) := by decide +kernel
theorem dL_law__1964 : decode cL_law_ 1964 = .ok (.ireturn, 1) := by decide +kernel
theorem dL_law__1965 : decode cL_law_ 1965 = .ok (.goto 1299, 3) := by decide +kernel
theorem dL_law__1968 : decode cL_law_ 1968 = .ok (.aload_n 1, 1) := by decide +kernel
theorem dL_law__1969 : decode cL_law_ 1969 = .ok (.aload_n 0, 1) := by decide +kernel
theorem dL_law__1970 : decode cL_law_ 1970 = .ok (.iload 4, 2) := by decide +kernel
theorem dL_law__1972 : decode cL_law_ 1972 = .ok (.iconst 1, 1) := by decide +kernel
theorem dL_law__1973 : decode cL_law_ 1973 = .ok (.iadd, 1) := by decide +kernel
theorem dL_law__1974 : decode cL_law_ 1974 = .ok (.iaload, 1) := by decide +kernel
theorem dL_law__1975 : decode cL_law_ 1975 = .ok (.ifCond .eq 7, 3) := by decide +kernel
theorem dL_law__1978 : decode cL_law_ 1978 = .ok (.iconst 1, 1) := by decide +kernel
theorem dL_law__1979 : decode cL_law_ 1979 = .ok (.goto 4, 3) := by decide +kernel
theorem dL_law__1982 : decode cL_law_ 1982 = .ok (.iconst 0, 1) := by decide +kernel
theorem dL_law__1983 : decode cL_law_ 1983 = .ok (.aload_n 3, 1) := by decide +kernel
theorem dL_law__1984 : decode cL_law_ 1984 = .ok (.invokestatic 260, 3) := by decide +kernel
theorem dL_law__1987 : decode cL_law_ 1987 = .ok (.istore 5, 2) := by decide +kernel
theorem dL_law__1989 : decode cL_law_ 1989 = .ok (.aload_n 2, 1) := by decide +kernel
theorem dL_law__1990 : decode cL_law_ 1990 = .ok (.aload_n 0, 1) := by decide +kernel
theorem dL_law__1991 : decode cL_law_ 1991 = .ok (.iload 4, 2) := by decide +kernel
theorem dL_law__1993 : decode cL_law_ 1993 = .ok (.iconst 1, 1) := by decide +kernel
theorem dL_law__1994 : decode cL_law_ 1994 = .ok (.iadd, 1) := by decide +kernel
theorem dL_law__1995 : decode cL_law_ 1995 = .ok (.iaload, 1) := by decide +kernel
theorem dL_law__1996 : decode cL_law_ 1996 = .ok (.ifCond .eq 7, 3) := by decide +kernel
theorem dL_law__1999 : decode cL_law_ 1999 = .ok (.iconst 1, 1) := by decide +kernel
theorem dL_law__2000 : decode cL_law_ 2000 = .ok (.goto 4, 3) := by decide +kernel
theorem dL_law__2003 : decode cL_law_ 2003 = .ok (.iconst 0, 1) := by decide +kernel
theorem dL_law__2004 : decode cL_law_ 2004 = .ok (.invokevirtual 263, 3) := by decide +kernel
theorem dL_law__2007 : decode cL_law_ 2007 = .ok (.istore 6, 2) := by decide +kernel
theorem dL_law__2009 : decode cL_law_ 2009 = .ok (.aload_n 2, 1) := by decide +kernel
theorem dL_law__2010 : decode cL_law_ 2010 = .ok (.invokevirtual 167, 3) := by decide +kernel
theorem dL_law__2013 : decode cL_law_ 2013 = .ok (.iload 5, 2) := by decide +kernel
theorem dL_law__2015 : decode cL_law_ 2015 = .ok (.if_icmp .eq 5, 3) := by decide +kernel
theorem dL_law__2018 : decode cL_law_ 2018 = .ok (.iconst 0, 1) := by decide +kernel
theorem dL_law__2019 : decode cL_law_ 2019 = .ok (.ireturn, 1) := by decide +kernel
theorem dL_law__2020 : decode cL_law_ 2020 = .ok (.iload 5, 2) := by decide +kernel
theorem dL_law__2022 : decode cL_law_ 2022 = .ok (.ifCond .ne 15, 3) := by decide +kernel
theorem dL_law__2025 : decode cL_law_ 2025 = .ok (.aload_n 3, 1) := by decide +kernel
theorem dL_law__2026 : decode cL_law_ 2026 = .ok (.iconst 0, 1) := by decide +kernel
theorem dL_law__2027 : decode cL_law_ 2027 = .ok (.laload, 1) := by decide +kernel
theorem dL_law__2028 : decode cL_law_ 2028 = .ok (.iload 6, 2) := by decide +kernel
theorem dL_law__2030 : decode cL_law_ 2030 = .ok (.i2l, 1) := by decide +kernel
theorem dL_law__2031 : decode cL_law_ 2031 = .ok (.lcmp, 1) := by decide +kernel
theorem dL_law__2032 : decode cL_law_ 2032 = .ok (.ifCond .eq 5, 3) := by decide +kernel
theorem dL_law__2035 : decode cL_law_ 2035 = .ok (.iconst 0, 1) := by decide +kernel
theorem dL_law__2036 : decode cL_law_ 2036 = .ok (.ireturn, 1) := by decide +kernel
theorem dL_law__2037 : decode cL_law_ 2037 = .ok (.goto 1227, 3) := by decide +kernel
theorem dL_law__2040 : decode cL_law_ 2040 = .ok (.aload_n 1, 1) := by decide +kernel
theorem dL_law__2041 : decode cL_law_ 2041 = .ok (.aload_n 3, 1) := by decide +kernel
theorem dL_law__2042 : decode cL_law_ 2042 = .ok (.invokestatic 264, 3) := by decide +kernel
theorem dL_law__2045 : decode cL_law_ 2045 = .ok (.istore 5, 2) := by decide +kernel
theorem dL_law__2047 : decode cL_law_ 2047 = .ok (.aload_n 2, 1) := by decide +kernel
theorem dL_law__2048 : decode cL_law_ 2048 = .ok (.invokevirtual 266, 3) := by decide +kernel
theorem dL_law__2051 : decode cL_law_ 2051 = .ok (.istore 6, 2) := by decide +kernel
theorem dL_law__2053 : decode cL_law_ 2053 = .ok (.aload_n 2, 1) := by decide +kernel
theorem dL_law__2054 : decode cL_law_ 2054 = .ok (.invokevirtual 167, 3) := by decide +kernel
theorem dL_law__2057 : decode cL_law_ 2057 = .ok (.iload 5, 2) := by decide +kernel
theorem dL_law__2059 : decode cL_law_ 2059 = .ok (.if_icmp .eq 5, 3) := by decide +kernel
theorem dL_law__2062 : decode cL_law_ 2062 = .ok (.iconst 0, 1) := by decide +kernel
theorem dL_law__2063 : decode cL_law_ 2063 = .ok (.ireturn, 1) := by decide +kernel
theorem dL_law__2064 : decode cL_law_ 2064 = .ok (.iload 5, 2) := by decide +kernel
theorem dL_law__2066 : decode cL_law_ 2066 = .ok (.ifCond .ne 15, 3) := by decide +kernel
theorem dL_law__2069 : decode cL_law_ 2069 = .ok (.aload_n 3, 1) := by decide +kernel
theorem dL_law__2070 : decode cL_law_ 2070 = .ok (.iconst 0, 1) := by decide +kernel
theorem dL_law__2071 : decode cL_law_ 2071 = .ok (.laload, 1) := by decide +kernel
