theorem dL_law__1451 : decode cL_law_ 1451 = .ok (.ifCond .eq 5, 3) := by decide +kernel
theorem dL_law__1454 : decode cL_law_ 1454 = .ok (.iconst 0, 1) := by decide +kernel
theorem dL_law__1455 : decode cL_law_ 1455 = .ok (.ireturn, 1) := by decide +kernel
theorem dL_law__1456 : decode cL_law_ 1456 = .ok (.goto 1282, 3) := by decide +kernel
theorem dL_law__1459 : decode cL_law_ 1459 = .ok (.aload_n 1, 1) := by decide +kernel
theorem dL_law__1460 : decode cL_law_ 1460 = .ok (.aload_n 0, 1) := by decide +kernel
theorem dL_law__1461 : decode cL_law_ 1461 = .ok (.iload 4, 2) := by decide +kernel
theorem dL_law__1463 : decode cL_law_ 1463 = .ok (.iconst 1, 1) := by decide +kernel
theorem dL_law__1464 : decode cL_law_ 1464 = .ok (.iadd, 1) := by decide +kernel
theorem dL_law__1465 : decode cL_law_ 1465 = .ok (.iaload, 1) := by decide +kernel
theorem dL_law__1466 : decode cL_law_ 1466 = .ok (.aload_n 0, 1) := by decide +kernel
theorem dL_law__1467 : decode cL_law_ 1467 = .ok (.iload 4, 2) := by decide +kernel
theorem dL_law__1469 : decode cL_law_ 1469 = .ok (.iconst 2, 1) := by decide +kernel
theorem dL_law__1470 : decode cL_law_ 1470 = .ok (.iadd, 1) := by decide +kernel
theorem dL_law__1471 : decode cL_law_ 1471 = .ok (.iaload, 1) := by decide +kernel
theorem dL_law__1472 : decode cL_law_ 1472 = .ok (.aload_n 3, 1) := by decide +kernel
theorem dL_law__1473 : decode cL_law_ 1473 = .ok (.invokestatic 210, 3) := by decide +kernel
theorem dL_law__1476 : decode cL_law_ 1476 = .ok (.istore 5, 2) := by decide +kernel
theorem dL_law__1478 : decode cL_law_ 1478 = .ok (.aload_n 2, 1) := by decide +kernel
theorem dL_law__1479 : decode cL_law_ 1479 = .ok (.aload_n 0, 1) := by decide +kernel
theorem dL_law__1480 : decode cL_law_ 1480 = .ok (.iload 4, 2) := by decide +kernel
theorem dL_law__1482 : decode cL_law_ 1482 = .ok (.iconst 1, 1) := by decide +kernel
theorem dL_law__1483 : decode cL_law_ 1483 = .ok (.iadd, 1) := by decide +kernel
theorem dL_law__1484 : decode cL_law_ 1484 = .ok (.iaload, 1) := by decide +kernel
theorem dL_law__1485 : decode cL_law_ 1485 = .ok (.aload_n 0, 1) := by decide +kernel
theorem dL_law__1486 : decode cL_law_ 1486 = .ok (.iload 4, 2) := by decide +kernel
theorem dL_law__1488 : decode cL_law_ 1488 = .ok (.iconst 2, 1) := by decide +kernel
theorem dL_law__1489 : decode cL_law_ 1489 = .ok (.iadd, 1) := by decide +kernel
theorem dL_law__1490 : decode cL_law_ 1490 = .ok (.iaload, 1) := by decide +kernel
theorem dL_law__1491 : decode cL_law_ 1491 = .ok (.invokevirtual 212, 3) := by decide +kernel
theorem dL_law__1494 : decode cL_law_ 1494 = .ok (.istore 6, 2) := by decide +kernel
theorem dL_law__1496 : decode cL_law_ 1496 = .ok (.aload_n 2, 1) := by decide +kernel
theorem dL_law__1497 : decode cL_law_ 1497 = .ok (.invokevirtual 146, 3) := by decide +kernel
theorem dL_law__1500 : decode cL_law_ 1500 = .ok (.iload 5, 2) := by decide +kernel
theorem dL_law__1502 : decode cL_law_ 1502 = .ok (.if_icmp .eq 5, 3) := by decide +kernel
theorem dL_law__1505 : decode cL_law_ 1505 = .ok (.iconst 0, 1) := by decide +kernel
theorem dL_law__1506 : decode cL_law_ 1506 = .ok (.ireturn, 1) := by decide +kernel
theorem dL_law__1507 : decode cL_law_ 1507 = .ok (.iload 5, 2) := by decide +kernel
theorem dL_law__1509 : decode cL_law_ 1509 = .ok (.ifCond .ne 15, 3) := by decide +kernel
theorem dL_law__1512 : decode cL_law_ 1512 = .ok (.aload_n 3, 1) := by decide +kernel
theorem dL_law__1513 : decode cL_law_ 1513 = .ok (.iconst 0, 1) := by decide +kernel
theorem dL_law__1514 : decode cL_law_ 1514 = .ok (.laload, 1) := by decide +kernel
theorem dL_law__1515 : decode cL_law_ 1515 = .ok (.iload 6, 2) := by decide +kernel
theorem dL_law__1517 : decode cL_law_ 1517 = .ok (.i2l, 1) := by decide +kernel
theorem dL_law__1518 : decode cL_law_ 1518 = .ok (.lcmp, 1) := by decide +kernel
theorem dL_law__1519 : decode cL_law_ 1519 = .ok (.ifCond .eq 5, 3) := by decide +kernel
theorem dL_law__1522 : decode cL_law_ 1522 = .ok (.iconst 0, 1) := by decide +kernel
theorem dL_law__1523 : decode cL_law_ 1523 = .ok (.ireturn, 1) := by decide +kernel
theorem dL_law__1524 : decode cL_law_ 1524 = .ok (.goto 1214, 3) := by decide +kernel
theorem dL_law__1527 : decode cL_law_ 1527 = .ok (.aload_n 1, 1) := by decide +kernel
theorem dL_law__1528 : decode cL_law_ 1528 = .ok (.aload_n 0, 1) := by decide +kernel
theorem dL_law__1529 : decode cL_law_ 1529 = .ok (.iload 4, 2) := by decide +kernel
theorem dL_law__1531 : decode cL_law_ 1531 = .ok (.iconst 1, 1) := by decide +kernel
theorem dL_law__1532 : decode cL_law_ 1532 = .ok (.iadd, 1) := by decide +kernel
theorem dL_law__1533 : decode cL_law_ 1533 = .ok (.iaload, 1) := by decide +kernel
theorem dL_law__1534 : decode cL_law_ 1534 = .ok (.aload_n 3, 1) := by decide +kernel
theorem dL_law__1535 : decode cL_law_ 1535 = .ok (.invokestatic 213, 3) := by decide +kernel
theorem dL_law__1538 : decode cL_law_ 1538 = .ok (.istore 5, 2) := by decide +kernel
theorem dL_law__1540 : decode cL_law_ 1540 = .ok (.aload_n 2, 1) := by decide +kernel
theorem dL_law__1541 : decode cL_law_ 1541 = .ok (.aload_n 0, 1) := by decide +kernel
theorem dL_law__1542 : decode cL_law_ 1542 = .ok (.iload 4, 2) := by decide +kernel
theorem dL_law__1544 : decode cL_law_ 1544 = .ok (.iconst 1, 1) := by decide +kernel
theorem dL_law__1545 : decode cL_law_ 1545 = .ok (.iadd, 1) := by decide +kernel
theorem dL_law__1546 : decode cL_law_ 1546 = .ok (.iaload, 1) := by decide +kernel
theorem dL_law__1547 : decode cL_law_ 1547 = .ok (.invokevirtual 215, 3) := by decide +kernel
theorem dL_law__1550 : decode cL_law_ 1550 = .ok (.istore 6, 2) := by decide +kernel
theorem dL_law__1552 : decode cL_law_ 1552 = .ok (.aload_n 2, 1) := by decide +kernel
theorem dL_law__1553 : decode cL_law_ 1553 = .ok (.invokevirtual 146, 3) := by decide +kernel
theorem dL_law__1556 : decode cL_law_ 1556 = .ok (.iload 5, 2) := by decide +kernel
theorem dL_law__1558 : decode cL_law_ 1558 = .ok (.if_icmp .eq 5, 3) := by decide +kernel
theorem dL_law__1561 : decode cL_law_ 1561 = .ok (.iconst 0, 1) := by decide +kernel
theorem dL_law__1562 : decode cL_law_ 1562 = .ok (.ireturn, 1) := by decide +kernel
theorem dL_law__1563 : decode cL_law_ 1563 = .ok (.iload 5, 2) := by decide +kernel
theorem dL_law__1565 : decode cL_law_ 1565 = .ok (.ifCond .ne 15, 3) := by decide +kernel
theorem dL_law__1568 : decode cL_law_ 1568 = .ok (.aload_n 3, 1) := by decide +kernel
theorem dL_law__1569 : decode cL_law_ 1569 = .ok (.iconst 0, 1) := by decide +kernel
theorem dL_law__1570 : decode cL_law_ 1570 = .ok (.laload, 1) := by decide +kernel
theorem dL_law__1571 : decode cL_law_ 1571 = .ok (.iload 6, 2) := by decide +kernel
theorem dL_law__1573 : decode cL_law_ 1573 = .ok (.i2l, 1) := by decide +kernel
theorem dL_law__1574 : decode cL_law_ 1574 = .ok (.lcmp, 1) := by decide +kernel
theorem dL_law__1575 : decode cL_law_ 1575 = .ok (.ifCond .eq 5, 3) := by decide +kernel
theorem dL_law__1578 : decode cL_law_ 1578 = .ok (.iconst 0, 1) := by decide +kernel
theorem dL_law__1579 : decode cL_law_ 1579 = .ok (.ireturn, 1) := by decide +kernel
theorem dL_law__1580 : decode cL_law_ 1580 = .ok (.goto 1158, 3) := by decide +kernel
theorem dL_law__1583 : decode cL_law_ 1583 = .ok (.aload_n 1, 1) := by decide +kernel
theorem dL_law__1584 : decode cL_law_ 1584 = .ok (.invokevirtual 216, 3) := by decide +kernel
theorem dL_law__1587 : decode cL_law_ 1587 = .ok (.aload_n 2, 1) := by decide +kernel
theorem dL_law__1588 : decode cL_law_ 1588 = .ok (.invokevirtual 219, 3) := by decide +kernel
theorem dL_law__1591 : decode cL_law_ 1591 = .ok (.if_icmp .eq 1147, 3) := by decide +kernel
theorem dL_law__1594 : decode cL_law_ 1594 = .ok (.iconst 0, 1) := by decide +kernel
theorem dL_law__1595 : decode cL_law_ 1595 = .ok (.ireturn, 1) := by decide +kernel
theorem dL_law__1596 : decode cL_law_ 1596 = .ok (.aload_n 1, 1) := by decide +kernel
theorem dL_law__1597 : decode cL_law_ 1597 = .ok (.invokevirtual 220, 3) := by decide +kernel
theorem dL_law__1600 : decode cL_law_ 1600 = .ok (.aload_n 2, 1) := by decide +kernel
theorem dL_law__1601 : decode cL_law_ 1601 = .ok (.invokevirtual 223, 3) := by decide +kernel
theorem dL_law__1604 : decode cL_law_ 1604 = .ok (.if_icmp .eq 1134, 3) := by decide +kernel
theorem dL_law__1607 : decode cL_law_ 1607 = .ok (.iconst 0, 1) := by decide +kernel
theorem dL_law__1608 : decode cL_law_ 1608 = .ok (.ireturn, 1) := by decide +kernel
theorem dL_law__1609 : decode cL_law_ 1609 = .ok (.aload_n 1, 1) := by decide +kernel
theorem dL_law__1610 : decode cL_law_ 1610 = .ok (.aload_n 0, 1) := by decide +kernel
theorem dL_law__1611 : decode cL_law_ 1611 = .ok (.iload 4, 2) := by decide +kernel
theorem dL_law__1613 : decode cL_law_ 1613 = .ok (.iconst 1, 1) := by decide +kernel
theorem dL_law__1614 : decode cL_law_ 1614 = .ok (.iadd, 1) := by decide +kernel
theorem dL_law__1615 : decode cL_law_ 1615 = .ok (.iaload, 1) := by decide +kernel
theorem dL_law__1616 : decode cL_law_ 1616 = .ok (.aload_n 0, 1) := by decide +kernel
theorem dL_law__1617 : decode cL_law_ 1617 = .ok (.iload 4, 2) := by decide +kernel
theorem dL_law__1619 : decode cL_law_ 1619 = .ok (.iconst 2, 1) := by decide +kernel
theorem dL_law__1620 : decode cL_law_ 1620 = .ok (.iadd, 1) := by decide +kernel
theorem dL_law__1621 : decode cL_law_ 1621 = .ok (.iaload, 1) := by decide +kernel
theorem dL_law__1622 : decode cL_law_ 1622 = .ok (.ifCond .eq 7, 3) := by decide +kernel
theorem dL_law__1625 : decode cL_law_ 1625 = .ok (.iconst 1, 1) := by decide +kernel
theorem dL_law__1626 : decode cL_law_ 1626 = .ok (.goto 4, 3) := by decide +kernel
theorem dL_law__1629 : decode cL_law_ 1629 = .ok (.iconst 0, 1) := by decide +kernel
theorem dL_law__1630 : decode cL_law_ 1630 = .ok (.aload_n 3, 1) := by decide +kernel
theorem dL_law__1631 : decode cL_law_ 1631 = .ok (.invokestatic 224, 3) := by decide +kernel
theorem dL_law__1634 : decode cL_law_ 1634 = .ok (.istore 5, 2) := by decide +kernel
theorem dL_law__1636 : decode cL_law_ 1636 = .ok (.aload_n 2, 1) := by decide +kernel
theorem dL_law__1637 : decode cL_law_ 1637 = .ok (.aload_n 0, 1) := by decide +kernel
theorem dL_law__1638 : decode cL_law_ 1638 = .ok (.iload 4, 2) := by decide +kernel
theorem dL_law__1640 : decode cL_law_ 1640 = .ok (.iconst 1, 1) := by decide +kernel
theorem dL_law__1641 : decode cL_law_ 1641 = .ok (.iadd, 1) := by decide +kernel
theorem dL_law__1642 : decode cL_law_ 1642 = .ok (.iaload, 1) := by decide +kernel
theorem dL_law__1643 : decode cL_law_ 1643 = .ok (.aload_n 0, 1) := by decide +kernel
theorem dL_law__1644 : decode cL_law_ 1644 = .ok (.iload 4, 2) := by decide +kernel
theorem dL_law__1646 : decode cL_law_ 1646 = .ok (.iconst 2, 1) := by decide +kernel
theorem dL_law__1647 : decode cL_law_ 1647 = .ok (.iadd, 1) := by decide +kernel
theorem dL_law__1648 : decode cL_law_ 1648 = .ok (.iaload, 1) := by decide +kernel
theorem dL_law__1649 : decode cL_law_ 1649 = .ok (.ifCond .eq 7, 3) := by decide +kernel
theorem dL_law__1652 : decode cL_law_ 1652 = .ok (.iconst 1, 1) := by decide +kernel
theorem dL_law__1653 : decode cL_law_ 1653 = .ok (.goto 4, 3) := by decide +kernel
theorem dL_law__1656 : decode cL_law_ 1656 = .ok (.iconst 0, 1) := by decide +kernel
theorem dL_law__1657 : decode cL_law_ 1657 = .ok (.invokevirtual 226, 3) := by decide +kernel
theorem dL_law__1660 : decode cL_law_ 1660 = .ok (.istore 6, 2) := by decide +kernel
theorem dL_law__1662 : decode cL_law_ 1662 = .ok (.aload_n 2, 1) := by decide +kernel
theorem dL_law__1663 : decode cL_law_ 1663 = .ok (.invokevirtual 146, 3) := by decide +kernel
theorem dL_law__1666 : decode cL_law_ 1666 = .ok (.iload 5, 2) := by decide +kernel
theorem dL_law__1668 : decode cL_law_ 1668 = .ok (.if_icmp .eq 5, 3) := by decide +kernel
theorem dL_law__1671 : decode cL_law_ 1671 = .ok (.iconst 0, 1) := by decide +kernel
theorem dL_law__1672 : decode cL_law_ 1672 = .ok (.ireturn, 1) := by decide +kernel
theorem dL_law__1673 : decode cL_law_ 1673 = .ok (.iload 5, 2) := by decide +kernel
theorem dL_law__1675 : decode cL_law_ 1675 = .ok (.ifCond .ne 15, 3) := by decide +kernel
theorem dL_law__1678 : decode cL_law_ 1678 = .ok (.aload_n 3, 1) := by decide +kernel
theorem dL_law__1679 : decode cL_law_ 1679 = .ok (.iconst 0, 1) := by decide +kernel
theorem dL_law__1680 : decode cL_law_ 1680 = .ok (.laload, 1) := by decide +kernel
theorem dL_law__1681 : decode cL_law_ 1681 = .ok (.iload 6, 2) := by decide +kernel
theorem dL_law__1683 : decode cL_law_ 1683 = .ok (.i2l, 1) := by decide +kernel
theorem dL_law__1684 : decode cL_law_ 1684 = .ok (.lcmp, 1) := by decide +kernel
theorem dL_law__1685 : decode cL_law_ 1685 = .ok (.ifCond .eq 5, 3) := by decide +kernel
theorem dL_law__1688 : decode cL_law_ 1688 = .ok (.iconst 0, 1) := by decide +kernel
theorem dL_law__1689 : decode cL_law_ 1689 = .ok (.ireturn, 1) := by decide +kernel
theorem dL_law__1690 : decode cL_law_ 1690 = .ok (.goto 1048, 3) := by decide +kernel
theorem dL_law__1693 : decode cL_law_ 1693 = .ok (.aload_n 1, 1) := by decide +kernel
theorem dL_law__1694 : decode cL_law_ 1694 = .ok (.aload_n 0, 1) := by decide +kernel
theorem dL_law__1695 : decode cL_law_ 1695 = .ok (.iload 4, 2) := by decide +kernel
theorem dL_law__1697 : decode cL_law_ 1697 = .ok (.iconst 1, 1) := by decide +kernel
theorem dL_law__1698 : decode cL_law_ 1698 = .ok (.iadd, 1) := by decide +kernel
theorem dL_law__1699 : decode cL_law_ 1699 = .ok (.iaload, 1) := by decide +kernel
theorem dL_law__1700 : decode cL_law_ 1700 = .ok (.aload_n 3, 1) := by decide +kernel
theorem dL_law__1701 : decode cL_law_ 1701 = .ok (.invokestatic 227, 3) := by decide +kernel
theorem dL_law__1704 : decode cL_law_ 1704 = .ok (.istore 5, 2) := by decide +kernel
theorem dL_law__1706 : decode cL_law_ 1706 = .ok (.aload_n 2, 1) := by decide +kernel
theorem dL_law__1707 : decode cL_law_ 1707 = .ok (.aload_n 0, 1) := by decide +kernel
theorem dL_law__1708 : decode cL_law_ 1708 = .ok (.iload 4, 2) := by decide +kernel
theorem dL_law__1710 : decode cL_law_ 1710 = .ok (.iconst 1, 1) := by decide +kernel
theorem dL_law__1711 : decode cL_law_ 1711 = .ok (.iadd, 1) := by decide +kernel
theorem dL_law__1712 : decode cL_law_ 1712 = .ok (.iaload, 1) := by decide +kernel
theorem dL_law__1713 : decode cL_law_ 1713 = .ok (.invokevirtual 229, 3) := by decide +kernel
theorem dL_law__1716 : decode cL_law_ 1716 = .ok (.istore 6, 2) := by decide +kernel
theorem dL_law__1718 : decode cL_law_ 1718 = .ok (.aload_n 2, 1) := by decide +kernel
theorem dL_law__1719 : decode cL_law_ 1719 = .ok (.invokevirtual 146, 3) := by decide +kernel
theorem dL_law__1722 : decode cL_law_ 1722 = .ok (.iload 5, 2) := by decide +kernel
theorem dL_law__1724 : decode cL_law_ 1724 = .ok (.if_icmp .eq 5, 3) := by decide +kernel
theorem dL_law__1727 : decode cL_law_ 1727 = .ok (.iconst 0, 1) := by decide +kernel
theorem dL_law__1728 : decode cL_law_ 1728 = .ok (.ireturn, 1) := by decide +kernel
theorem dL_law__1729 : decode cL_law_ 1729 = .ok (.iload 5, 2) := by decide +kernel
theorem dL_law__1731 : decode cL_law_ 1731 = .ok (.ifCond .ne 15, 3) := by decide +kernel
theorem dL_law__1734 : decode cL_law_ 1734 = .ok (.aload_n 3, 1) := by decide +kernel
theorem dL_law__1735 : decode cL_law_ 1735 = .ok (.iconst 0, 1) := by decide +kernel
theorem dL_law__1736 : decode cL_law_ 1736 = .ok (.laload, 1) := by decide +kernel
theorem dL_law__1737 : decode cL_law_ 1737 = .ok (.iload 6, 2) := by decide +kernel
theorem dL_law__1739 : decode cL_law_ 1739 = .ok (.i2l, 1) := by decide +kernel
theorem dL_law__1740 : decode cL_law_ 1740 = .ok (.lcmp, 1) := by decide +kernel
theorem dL_law__1741 : decode cL_law_ 1741 = .ok (.ifCond .eq 5, 3) := by decide +kernel
theorem dL_law__1744 : decode cL_law_ 1744 = .ok (.iconst 0, 1) := by decide +kernel
theorem dL_law__1745 : decode cL_law_ 1745 = .ok (.ireturn, 1) := by decide +kernel
theorem dL_law__1746 : decode cL_law_ 1746 = .ok (.goto 992, 3) := by decide +kernel
theorem dL_law__1749 : decode cL_law_ 1749 = .ok (.aload_n 1, 1) := by decide +kernel
theorem dL_law__1750 : decode cL_law_ 1750 = .ok (.aload_n 0, 1) := by decide +kernel
theorem dL_law__1751 : decode cL_law_ 1751 = .ok (.iload 4, 2) := by decide +kernel
theorem dL_law__1753 : decode cL_law_ 1753 = .ok (.iconst 1, 1) := by decide +kernel
theorem dL_law__1754 : decode cL_law_ 1754 = .ok (.iadd, 1) := by decide +kernel
theorem dL_law__1755 : decode cL_law_ 1755 = .ok (.iaload, 1) := by decide +kernel
theorem dL_law__1756 : decode cL_law_ 1756 = .ok (.ifCond .eq 7, 3) := by decide +kernel
theorem dL_law__1759 : decode cL_law_ 1759 = .ok (.iconst 1, 1) := by decide +kernel
theorem dL_law__1760 : decode cL_law_ 1760 = .ok (.goto 4, 3) := by decide +kernel
theorem dL_law__1763 : decode cL_law_ 1763 = .ok (.iconst 0, 1) := by decide +kernel
theorem dL_law__1764 : decode cL_law_ 1764 = .ok (.invokevirtual 230, 3) := by decide +kernel
theorem dL_law__1767 : decode cL_law_ 1767 = .ok (.aload_n 2, 1) := by decide +kernel
theorem dL_law__1768 : decode cL_law_ 1768 = .ok (.aload_n 0, 1) := by decide +kernel
theorem dL_law__1769 : decode cL_law_ 1769 = .ok (.iload 4, 2) := by decide +kernel
theorem dL_law__1771 : decode cL_law_ 1771 = .ok (.iconst 1, 1) := by decide +kernel
theorem dL_law__1772 : decode cL_law_ 1772 = .ok (.iadd, 1) := by decide +kernel
theorem dL_law__1773 : decode cL_law_ 1773 = .ok (.iaload, 1) := by decide +kernel
theorem dL_law__1774 : decode cL_law_ 1774 = .ok (.ifCond .eq 7, 3) := by decide +kernel
theorem dL_law__1777 : decode cL_law_ 1777 = .ok (.iconst 1, 1) := by decide +kernel
theorem dL_law__1778 : decode cL_law_ 1778 = .ok (.goto 4, 3) := by decide +kernel
theorem dL_law__1781 : decode cL_law_ 1781 = .ok (.iconst 0, 1) := by decide +kernel
theorem dL_law__1782 : decode cL_law_ 1782 = .ok (.invokevirtual 233, 3) := by decide +kernel
theorem dL_law__1785 : decode cL_law_ 1785 = .ok (.if_icmp .eq 953, 3) := by decide +kernel
theorem dL_law__1788 : decode cL_law_ 1788 = .ok (.iconst 0, 1) := by decide +kernel
theorem dL_law__1789 : decode cL_law_ 1789 = .ok (.ireturn, 1) := by decide +kernel
theorem dL_law__1790 : decode cL_law_ 1790 = .ok (.aload_n 1, 1) := by decide +kernel
theorem dL_law__1791 : decode cL_law_ 1791 = .ok (.aload_n 0, 1) := by decide +kernel
theorem dL_law__1792 : decode cL_law_ 1792 = .ok (.iload 4, 2) := by decide +kernel
theorem dL_law__1794 : decode cL_law_ 1794 = .ok (.iconst 1, 1) := by decide +kernel
theorem dL_law__1795 : decode cL_law_ 1795 = .ok (.iadd, 1) := by decide +kernel
theorem dL_law__1796 : decode cL_law_ 1796 = .ok (.iaload, 1) := by decide +kernel
theorem dL_law__1797 : decode cL_law_ 1797 = .ok (.aload_n 3, 1) := by decide +kernel
theorem dL_law__1798 : decode cL_law_ 1798 = .ok (.invokestatic 234, 3) := by decide +kernel
theorem dL_law__1801 : decode cL_law_ 1801 = .ok (.istore 5, 2) := by decide +kernel
theorem dL_law__1803 : decode cL_law_ 1803 = .ok (.aload_n 2, 1) := by decide +kernel
theorem dL_law__1804 : decode cL_law_ 1804 = .ok (.aload_n 0, 1) := by decide +kernel
theorem dL_law__1805 : decode cL_law_ 1805 = .ok (.iload 4, 2) := by decide +kernel
theorem dL_law__1807 : decode cL_law_ 1807 = .ok (.iconst 1, 1) := by decide +kernel
theorem dL_law__1808 : decode cL_law_ 1808 = .ok (.iadd, 1) := by decide +kernel
theorem dL_law__1809 : decode cL_law_ 1809 = .ok (.iaload, 1) := by decide +kernel
theorem dL_law__1810 : decode cL_law_ 1810 = .ok (.invokevirtual 236, 3) := by decide +kernel
theorem dL_law__1813 : decode cL_law_ 1813 = .ok (.istore 6, 2) := by decide +kernel
theorem dL_law__1815 : decode cL_law_ 1815 = .ok (.aload_n 2, 1) := by decide +kernel
theorem dL_law__1816 : decode cL_law_ 1816 = .ok (.invokevirtual 146, 3) := by decide +kernel
theorem dL_law__1819 : decode cL_law_ 1819 = .ok (.iload 5, 2) := by decide +kernel
theorem dL_law__1821 : decode cL_law_ 1821 = .ok (.if_icmp .eq 5, 3) := by decide +kernel
theorem dL_law__1824 : decode cL_law_ 1824 = .ok (.iconst 0, 1) := by decide +kernel
theorem dL_law__1825 : decode cL_law_ 1825 = .ok (.ireturn, 1) := by decide +kernel
theorem dL_law__1826 : decode cL_law_ 1826 = .ok (.iload 5, 2) := by decide +kernel
theorem dL_law__1828 : decode cL_law_ 1828 = .ok (.ifCond .ne 15, 3) := by decide +kernel
theorem dL_law__1831 : decode cL_law_ 1831 = .ok (.aload_n 3, 1) := by decide +kernel
theorem dL_law__1832 : decode cL_law_ 1832 = .ok (.iconst 0, 1) := by decide +kernel
theorem dL_law__1833 : decode cL_law_ 1833 = .ok (.laload, 1) := by decide +kernel
theorem dL_law__1834 : decode cL_law_ 1834 = .ok (.iload 6, 2) := by decide +kernel
theorem dL_law__1836 : decode cL_law_ 1836 = .ok (.i2l, 1) := by decide +kernel
theorem dL_law__1837 : decode cL_law_ 1837 = .ok (.lcmp, 1) := by decide +kernel
theorem dL_law__1838 : decode cL_law_ 1838 = .ok (.ifCond .eq 5, 3) := by decide +kernel
theorem dL_law__1841 : decode cL_law_ 1841 = .ok (.iconst 0, 1) := by decide +kernel
theorem dL_law__1842 : decode cL_law_ 1842 = .ok (.ireturn, 1) := by decide +kernel
theorem dL_law__1843 : decode cL_law_ 1843 = .ok (.goto 895, 3) := by decide +kernel
theorem dL_law__1846 : decode cL_law_ 1846 = .ok (.aload_n 1, 1) := by decide +kernel
theorem dL_law__1847 : decode cL_law_ 1847 = .ok (.aload_n 0, 1) := by decide +kernel
theorem dL_law__1848 : decode cL_law_ 1848 = .ok (.iload 4, 2) := by decide +kernel
theorem dL_law__1850 : decode cL_law_ 1850 = .ok (.iconst 1, 1) := by decide +kernel
theorem dL_law__1851 : decode cL_law_ 1851 = .ok (.iadd, 1) := by decide +kernel
theorem dL_law__1852 : decode cL_law_ 1852 = .ok (.iaload, 1) := by decide +kernel
theorem dL_law__1853 : decode cL_law_ 1853 = .ok (.aload_n 3, 1) := by decide +kernel
theorem dL_law__1854 : decode cL_law_ 1854 = .ok (.invokestatic 237, 3) := by decide +kernel
theorem dL_law__1857 : decode cL_law_ 1857 = .ok (.istore 5, 2) := by decide +kernel
theorem dL_law__1859 : decode cL_law_ 1859 = .ok (.aload_n 2, 1) := by decide +kernel
theorem dL_law__1860 : decode cL_law_ 1860 = .ok (.aload_n 0, 1) := by decide +kernel
theorem dL_law__1861 : decode cL_law_ 1861 = .ok (.iload 4, 2) := by decide +kernel
theorem dL_law__1863 : decode cL_law_ 1863 = .ok (.iconst 1, 1) := by decide +kernel
theorem dL_law__1864 : decode cL_law_ 1864 = .ok (.iadd, 1) := by decide +kernel
theorem dL_law__1865 : decode cL_law_ 1865 = .ok (.iaload, 1) := by decide +kernel
theorem dL_law__1866 : decode cL_law_ 1866 = .ok (.invokevirtual 239, 3) := by decide +kernel
theorem dL_law__1869 : decode cL_law_ 1869 = .ok (.istore 6, 2) := by decide +kernel
theorem dL_law__1871 : decode cL_law_ 1871 = .ok (.aload_n 2, 1) := by decide +kernel
theorem dL_law__1872 : decode cL_law_ 1872 = .ok (.invokevirtual 146, 3) := by decide +kernel
theorem dL_law__1875 : decode cL_law_ 1875 = .ok (.iload 5, 2) := by decide +kernel
theorem dL_law__1877 : decode cL_law_ 1877 = .ok (.if_icmp .eq 5, 3) := by decide +kernel
theorem dL_law__1880 : decode cL_law_ 1880 = .ok (.iconst 0, 1) := by decide +kernel
theorem dL_law__1881 : decode cL_law_ 1881 = .ok (.ireturn, 1) := by decide +kernel
theorem dL_law__1882 : decode cL_law_ 1882 = .ok (.iload 5, 2) := by decide +kernel
theorem dL_law__1884 : decode cL_law_ 1884 = .ok (.ifCond .ne 15, 3) := by decide +kernel
theorem dL_law__1887 : decode cL_law_ 1887 = .ok (.aload_n 3, 1) := by decide +kernel
theorem dL_law__1888 : decode cL_law_ 1888 = .ok (.iconst 0, 1) := by decide +kernel
theorem dL_law__1889 : decode cL_law_ 1889 = .ok (.laload, 1) := by decide +kernel
theorem dL_law__1890 : decode cL_law_ 1890 = .ok (.iload 6, 2) := by decide +kernel
theorem dL_law__1892 : decode cL_law_ 1892 = .ok (.i2l, 1) := by decide +kernel
theorem dL_law__1893 : decode cL_law_ 1893 = .ok (.lcmp, 1) := by decide +kernel
theorem dL_law__1894 : decode cL_law_ 1894 = .ok (.ifCond .eq 5, 3) := by decide +kernel
theorem dL_law__1897 : decode cL_law_ 1897 = .ok (.iconst 0, 1) := by decide +kernel
theorem dL_law__1898 : decode cL_law_ 1898 = .ok (.ireturn, 1) := by decide +kernel
theorem dL_law__1899 : decode cL_law_ 1899 = .ok (.goto 839, 3) := by decide +kernel
theorem dL_law__1902 : decode cL_law_ 1902 = .ok (.aload_n 1, 1) := by decide +kernel
theorem dL_law__1903 : decode cL_law_ 1903 = .ok (.aload_n 0, 1) := by decide +kernel
theorem dL_law__1904 : decode cL_law_ 1904 = .ok (.iload 4, 2) := by decide +kernel
theorem dL_law__1906 : decode cL_law_ 1906 = .ok (.iconst 1, 1) := by decide +kernel
theorem dL_law__1907 : decode cL_law_ 1907 = .ok (.iadd, 1) := by decide +kernel
theorem dL_law__1908 : decode cL_law_ 1908 = .ok (.iaload, 1) := by decide +kernel
theorem dL_law__1909 : decode cL_law_ 1909 = .ok (.ifCond .eq 7, 3) := by decide +kernel
theorem dL_law__1912 : decode cL_law_ 1912 = .ok (.iconst 1, 1) := by decide +kernel
theorem dL_law__1913 : decode cL_law_ 1913 = .ok (.goto 4, 3) := by decide +kernel
theorem dL_law__1916 : decode cL_law_ 1916 = .ok (.iconst 0, 1) := by decide +kernel
theorem dL_law__1917 : decode cL_law_ 1917 = .ok (.aload_n 3, 1) := by decide +kernel
theorem dL_law__1918 : decode cL_law_ 1918 = .ok (.invokestatic 240, 3) := by decide +kernel
theorem dL_law__1921 : decode cL_law_ 1921 = .ok (.istore 5, 2) := by decide +kernel
theorem dL_law__1923 : decode cL_law_ 1923 = .ok (.aload_n 2, 1) := by decide +kernel
theorem dL_law__1924 : decode cL_law_ 1924 = .ok (.aload_n 0, 1) := by decide +kernel
theorem dL_law__1925 : decode cL_law_ 1925 = .ok (.iload 4, 2) := by decide +kernel
theorem dL_law__1927 : decode cL_law_ 1927 = .ok (.iconst 1, 1) := by decide +kernel
theorem dL_law__1928 : decode cL_law_ 1928 = .ok (.iadd, 1) := by decide +kernel
theorem dL_law__1929 : decode cL_law_ 1929 = .ok (.iaload, 1) := by decide +kernel
theorem dL_law__1930 : decode cL_law_ 1930 = .ok (.ifCond .eq 7, 3) := by decide +kernel
theorem dL_law__1933 : decode cL_law_ 1933 = .ok (.iconst 1, 1) := by decide +kernel
theorem dL_law__1934 : decode cL_law_ 1934 = .ok (.goto 4, 3) := by decide +kernel
theorem dL_law__1937 : decode cL_law_ 1937 = .ok (.iconst 0, 1) := by decide +kernel
theorem dL_law__1938 : decode cL_law_ 1938 = .ok (.invokevirtual 243, 3) := by decide +kernel
theorem dL_law__1941 : decode cL_law_ 1941 = .ok (.istore 6, 2) := by decide +kernel
theorem dL_law__1943 : decode cL_law_ 1943 = .ok (.aload_n 2, 1) := by decide +kernel
theorem dL_law__1944 : decode cL_law_ 1944 = .ok (.invokevirtual 146, 3) := by decide +kernel
theorem dL_law__1947 : decode cL_law_ 1947 = .ok (.iload 5, 2) := by decide +kernel
theorem dL_law__1949 : decode cL_law_ 1949 = .ok (.if_icmp .eq 5, 3) := by decide +kernel
theorem dL_law__1952 : decode cL_law_ 1952 = .ok (.iconst 0, 1) := by decide +kernel
theorem dL_law__1953 : decode cL_law_ 1953 = .ok (.ireturn, 1) := by decide +kernel
theorem dL_law__1954 : decode cL_law_ 1954 = .ok (.iload 5, 2) := by decide +kernel
theorem dL_law__1956 : decode cL_law_ 1956 = .ok (.ifCond .ne 15, 3) := by decide +kernel
theorem dL_law__1959 : decode cL_law_ 1959 = .ok (.aload_n 3, 1) := by decide +kernel
theorem dL_law__1960 : decode cL_law_ 1960 = .ok (.iconst 0, 1) := by decide +kernel
theorem dL_law__1961 : decode cL_law_ 1961 = .ok (.laload, 1) := by decide +kernel
theorem dL_law__1962 : decode cL_law_ 1962 = .ok (.iload 6, 2) := by decide +kernel
theorem dL_law__1964 : decode cL_law_ 1964 = .ok (.i2l, 1) := by decide +kernel
theorem dL_law__1965 : decode cL_law_ 1965 = .ok (.lcmp, 1) := by decide +kernel
theorem dL_law__1966 : decode cL_law_ 1966 = .ok (.ifCond .eq 5, 3) := by decide +kernel
theorem dL_law__1969 : decode cL_law_ 1969 = .ok (.iconst 0, 1) := by decide +kernel
theorem dL_law__1970 : decode cL_law_ 1970 = .ok (.ireturn, 1) := by decide +kernel
theorem dL_law__1971 : decode cL_law_ 1971 = .ok (.goto 767, 3) := by decide +kernel
theorem dL_law__1974 : decode cL_law_ 1974 = .ok (.aload_n 1, 1) := by decide +kernel
theorem dL_law__1975 : decode cL_law_ 1975 = .ok (.aload_n 3, 1) := by decide +kernel
theorem dL_law__1976 : decode cL_law_ 1976 = .ok (.invokestatic 244, 3) := by decide +kernel
theorem dL_law__1979 : decode cL_law_ 1979 = .ok (.istore 5, 2) := by decide +kernel
theorem dL_law__1981 : decode cL_law_ 1981 = .ok (.aload_n 2, 1) := by decide +kernel
theorem dL_law__1982 : decode cL_law_ 1982 = .ok (.invokevirtual 246, 3) := by decide +kernel
theorem dL_law__1985 : decode cL_law_ 1985 = .ok (.istore 6, 2) := by decide +kernel
theorem dL_law__1987 : decode cL_law_ 1987 = .ok (.aload_n 2, 1) := by decide +kernel
theorem dL_law__1988 : decode cL_law_ 1988 = .ok (.invokevirtual 146, 3) := by decide +kernel
theorem dL_law__1991 : decode cL_law_ 1991 = .ok (.iload 5, 2) := by decide +kernel
theorem dL_law__1993 : decode cL_law_ 1993 = .ok (.if_icmp .eq 5, 3) := by decide +kernel
theorem dL_law__1996 : decode cL_law_ 1996 = .ok (.iconst 0, 1) := by decide +kernel
theorem dL_law__1997 : decode cL_law_ 1997 = .ok (.ireturn, 1) := by decide +kernel
theorem dL_law__1998 : decode cL_law_ 1998 = .ok (.iload 5, 2) := by decide +kernel
theorem dL_law__2000 : decode cL_law_ 2000 = .ok (.ifCond .ne 15, 3) := by decide +kernel
theorem dL_law__2003 : decode cL_law_ 2003 = .ok (.aload_n 3, 1) := by decide +kernel
theorem dL_law__2004 : decode cL_law_ 2004 = .ok (.iconst 0, 1) := by decide +kernel
theorem dL_law__2005 : decode cL_law_ 2005 = .ok (.laload, 1) := by decide +kernel
theorem dL_law__2006 : decode cL_law_ 2006 = .ok (.iload 6, 2) := by decide +kernel
theorem dL_law__2008 : decode cL_law_ 2008 = .ok (.i2l, 1) := by decide +kernel
theorem dL_law__2009 : decode cL_law_ 2009 = .ok (.lcmp, 1) := by decide +kernel
theorem dL_law__2010 : decode cL_law_ 2010 = .ok (.ifCond .eq 5, 3) := by decide +kernel
theorem dL_law__2013 : decode cL_law_ 2013 = .ok (.iconst 0, 1) := by decide +kernel
theorem dL_law__2014 : decode cL_law_ 2014 = .ok (.ireturn, 1) := by decide +kernel
theorem dL_law__2015 : decode cL_law_ 2015 = .ok (.goto 723, 3) := by decide +kernel
theorem dL_law__2018 : decode cL_law_ 2018 = .ok (.aload_n 1, 1) := by decide +kernel
theorem dL_law__2019 : decode cL_law_ 2019 = .ok (.aload_n 0, 1) := by decide +kernel
theorem dL_law__2020 : decode cL_law_ 2020 = .ok (.iload 4, 2) := by decide +kernel
theorem dL_law__2022 : decode cL_law_ 2022 = .ok (.iconst 1, 1) := by decide +kernel
theorem dL_law__2023 : decode cL_law_ 2023 = .ok (.iadd, 1) := by decide +kernel
theorem dL_law__2024 : decode cL_law_ 2024 = .ok (.iaload, 1) := by decide +kernel
theorem dL_law__2025 : decode cL_law_ 2025 = .ok (.aload_n 3, 1) := by decide +kernel
theorem dL_law__2026 : decode cL_law_ 2026 = .ok (.invokestatic 247, 3) := by decide +kernel
theorem dL_law__2029 : decode cL_law_ 2029 = .ok (.istore 5, 2) := by decide +kernel
theorem dL_law__2031 : decode cL_law_ 2031 = .ok (.aload_n 2, 1) := by decide +kernel
theorem dL_law__2032 : decode cL_law_ 2032 = .ok (.aload_n 0, 1) := by decide +kernel
theorem dL_law__2033 : decode cL_law_ 2033 = .ok (.iload 4, 2) := by decide +kernel
theorem dL_law__2035 : decode cL_law_ 2035 = .ok (.iconst 1, 1) := by decide +kernel
theorem dL_law__2036 : decode cL_law_ 2036 = .ok (.iadd, 1) := by decide +kernel
theorem dL_law__2037 : decode cL_law_ 2037 = .ok (.iaload, 1) := by decide +kernel
theorem dL_law__2038 : decode cL_law_ 2038 = .ok (.invokevirtual 249, 3) := by decide +kernel
theorem dL_law__2041 : decode cL_law_ 2041 = .ok (.istore 6, 2) := by decide +kernel
theorem dL_law__2043 : decode cL_law_ 2043 = .ok (.aload_n 2, 1) := by decide +kernel
theorem dL_law__2044 : decode cL_law_ 2044 = .ok (.invokevirtual 146, 3) := by decide +kernel
theorem dL_law__2047 : decode cL_law_ 2047 = .ok (.iload 5, 2) := by decide +kernel
theorem dL_law__2049 : decode cL_law_ 2049 = .ok (.if_icmp .eq 5, 3) := by decide +kernel
theorem dL_law__2052 : decode cL_law_ 2052 = .ok (.iconst 0, 1) := by decide +kernel
theorem dL_law__2053 : decode cL_law_ 2053 = .ok (.ireturn, 1) := by decide +kernel
theorem dL_law__2054 : decode cL_law_ 2054 = .ok (.iload 5, 2) := by decide +kernel
theorem dL_law__2056 : decode cL_law_ 2056 = .ok (.ifCond .ne 15, 3) := by decide +kernel
theorem dL_law__2059 : decode cL_law_ 2059 = .ok (.aload_n 3, 1) := by decide +kernel
theorem dL_law__2060 : decode cL_law_ 2060 = .ok (.iconst 0, 1) := by decide +kernel
theorem dL_law__2061 : decode cL_law_ 2061 = .ok (.laload, 1) := by decide +kernel
theorem dL_law__2062 : decode cL_law_ 2062 = .ok (.iload 6, 2) := by decide +kernel
theorem dL_law__2064 : decode cL_law_ 2064 = .ok (.i2l, 1) := by decide +kernel
theorem dL_law__2065 : decode cL_law_ 2065 = .ok (.lcmp, 1) := by decide +kernel
theorem dL_law__2066 : decode cL_law_ 2066 = .ok (.ifCond .eq 5, 3) := by decide +kernel
theorem dL_law__2069 : decode cL_law_ 2069 = .ok (.iconst 0, 1) := by decide +kernel
theorem dL_law__2070 : decode cL_law_ 2070 = .ok (.ireturn, 1) := by decide +kernel
theorem dL_law__2071 : decode cL_law_ 2071 = .ok (.goto 667, 3) := by decide +kernel
theorem dL_law__2074 : decode cL_law_ 2074 = .ok (.aload_n 1, 1) := by decide +kernel
theorem dL_law__2075 : decode cL_law_ 2075 = .ok (.aload_n 0, 1) := by decide +kernel
theorem dL_law__2076 : decode cL_law_ 2076 = .ok (.iload 4, 2) := by decide +kernel
theorem dL_law__2078 : decode cL_law_ 2078 = .ok (.iconst 1, 1) := by decide +kernel
theorem dL_law__2079 : decode cL_law_ 2079 = .ok (.iadd, 1) := by decide +kernel
theorem dL_law__2080 : decode cL_law_ 2080 = .ok (.iaload, 1) := by decide +kernel
theorem dL_law__2081 : decode cL_law_ 2081 = .ok (.aload_n 0, 1) := by decide +kernel
theorem dL_law__2082 : decode cL_law_ 2082 = .ok (.iload 4, 2) := by decide +kernel
theorem dL_law__2084 : decode cL_law_ 2084 = .ok (.iconst 2, 1) := by decide +kernel
theorem dL_law__2085 : decode cL_law_ 2085 = .ok (.iadd, 1) := by decide +kernel
theorem dL_law__2086 : decode cL_law_ 2086 = .ok (.iaload, 1) := by decide +kernel
theorem dL_law__2087 : decode cL_law_ 2087 = .ok (.aload_n 3, 1) := by decide +kernel
theorem dL_law__2088 : decode cL_law_ 2088 = .ok (.invokestatic 250, 3) := by decide +kernel
theorem dL_law__2091 : decode cL_law_ 2091 = .ok (.istore 5, 2) := by decide +kernel
theorem dL_law__2093 : decode cL_law_ 2093 = .ok (.aload_n 2, 1) := by decide +kernel
theorem dL_law__2094 : decode cL_law_ 2094 = .ok (.aload_n 0, 1) := by decide +kernel
theorem dL_law__2095 : decode cL_law_ 2095 = .ok (.iload 4, 2) := by decide +kernel
theorem dL_law__2097 : decode cL_law_ 2097 = .ok (.iconst 1, 1) := by decide +kernel
theorem dL_law__2098 : decode cL_law_ 2098 = .ok (.iadd, 1) := by decide +kernel
theorem dL_law__2099 : decode cL_law_ 2099 = .ok (.iaload, 1) := by decide +kernel
theorem dL_law__2100 : decode cL_law_ 2100 = .ok (.aload_n 0, 1) := by decide +kernel
theorem dL_law__2101 : decode cL_law_ 2101 = .ok (.iload 4, 2) := by decide +kernel
theorem dL_law__2103 : decode cL_law_ 2103 = .ok (.iconst 2, 1) := by decide +kernel
theorem dL_law__2104 : decode cL_law_ 2104 = .ok (.iadd, 1) := by decide +kernel
theorem dL_law__2105 : decode cL_law_ 2105 = .ok (.iaload, 1) := by decide +kernel
theorem dL_law__2106 : decode cL_law_ 2106 = .ok (.invokevirtual 252, 3) := by decide +kernel
theorem dL_law__2109 : decode cL_law_ 2109 = .ok (.istore 6, 2) := by decide +kernel
theorem dL_law__2111 : decode cL_law_ 2111 = .ok (.aload_n 2, 1) := by decide +kernel
theorem dL_law__2112 : decode cL_law_ 2112 = .ok (.invokevirtual 146, 3) := by decide +kernel
theorem dL_law__2115 : decode cL_law_ 2115 = .ok (.iload 5, 2) := by decide +kernel
theorem dL_law__2117 : decode cL_law_ 2117 = .ok (.if_icmp .eq 5, 3) := by decide +kernel
theorem dL_law__2120 : decode cL_law_ 2120 = .ok (.iconst 0, 1) := by decide +kernel
theorem dL_law__2121 : decode cL_law_ 2121 = .ok (.ireturn, 1) := by decide +kernel
theorem dL_law__2122 : decode cL_law_ 2122 = .ok (.iload 5, 2) := by decide +kernel
theorem dL_law__2124 : decode cL_law_ 2124 = .ok (.ifCond .ne 15, 3) := by decide +kernel
theorem dL_law__2127 : decode cL_law_ 2127 = .ok (.aload_n 3, 1) := by decide +kernel
theorem dL_law__2128 : decode cL_law_ 2128 = .ok (.iconst 0, 1) := by decide +kernel
theorem dL_law__2129 : decode cL_law_ 2129 = .ok (.laload, 1) := by decide +kernel
theorem dL_law__2130 : decode cL_law_ 2130 = .ok (.iload 6, 2) := by decide +kernel
theorem dL_law__2132 : decode cL_law_ 2132 = .ok (.i2l, 1) := by decide +kernel
theorem dL_law__2133 : decode cL_law_ 2133 = .ok (.lcmp, 1) := by decide +kernel
theorem dL_law__2134 : decode cL_law_ 2134 = .ok (.ifCond .eq 5, 3) := by decide +kernel
theorem dL_law__2137 : decode cL_law_ 2137 = .ok (.iconst 0, 1) := by decide +kernel
theorem dL_law__2138 : decode cL_law_ 2138 = .ok (.ireturn, 1) := by decide +kernel
theorem dL_law__2139 : decode cL_law_ 2139 = .ok (.goto 599, 3) := by decide +kernel
theorem dL_law__2142 : decode cL_law_ 2142 = .ok (.aload_n 1, 1) := by decide +kernel
theorem dL_law__2143 : decode cL_law_ 2143 = .ok (.invokevirtual 253, 3) := by decide +kernel
theorem dL_law__2146 : decode cL_law_ 2146 = .ok (.aload_n 2, 1) := by decide +kernel
theorem dL_law__2147 : decode cL_law_ 2147 = .ok (.invokevirtual 256, 3) := by decide +kernel
theorem dL_law__2150 : decode cL_law_ 2150 = .ok (.if_icmp .eq 588, 3) := by decide +kernel
theorem dL_law__2153 : decode cL_law_ 2153 = .ok (.iconst 0, 1) := by decide +kernel
theorem dL_law__2154 : decode cL_law_ 2154 = .ok (.ireturn, 1) := by decide +kernel
theorem dL_law__2155 : decode cL_law_ 2155 = .ok (.aload_n 1, 1) := by decide +kernel
theorem dL_law__2156 : decode cL_law_ 2156 = .ok (.invokevirtual 257, 3) := by decide +kernel
theorem dL_law__2159 : decode cL_law_ 2159 = .ok (.aload_n 2, 1) := by decide +kernel
theorem dL_law__2160 : decode cL_law_ 2160 = .ok (.invokevirtual 260, 3) := by decide +kernel
theorem dL_law__2163 : decode cL_law_ 2163 = .ok (.if_icmp .eq 575, 3) := by decide +kernel
theorem dL_law__2166 : decode cL_law_ 2166 = .ok (.iconst 0, 1) := by decide +kernel
theorem dL_law__2167 : decode cL_law_ 2167 = .ok (.ireturn, 1) := by decide +kernel
theorem dL_law__2168 : decode cL_law_ 2168 = .ok (.aload_n 1, 1) := by decide +kernel
theorem dL_law__2169 : decode cL_law_ 2169 = .ok (.aload_n 0, 1) := by decide +kernel
theorem dL_law__2170 : decode cL_law_ 2170 = .ok (.iload 4, 2) := by decide +kernel
theorem dL_law__2172 : decode cL_law_ 2172 = .ok (.iconst 1, 1) := by decide +kernel
theorem dL_law__2173 : decode cL_law_ 2173 = .ok (.iadd, 1) := by decide +kernel
theorem dL_law__2174 : decode cL_law_ 2174 = .ok (.iaload, 1) := by decide +kernel
theorem dL_law__2175 : decode cL_law_ 2175 = .ok (.aload_n 0, 1) := by decide +kernel
theorem dL_law__2176 : decode cL_law_ 2176 = .ok (.iload 4, 2) := by decide +kernel
theorem dL_law__2178 : decode cL_law_ 2178 = .ok (.iconst 2, 1) := by decide +kernel
theorem dL_law__2179 : decode cL_law_ 2179 = .ok (.iadd, 1) := by decide +kernel
theorem dL_law__2180 : decode cL_law_ 2180 = .ok (.iaload, 1) := by decide +kernel
theorem dL_law__2181 : decode cL_law_ 2181 = .ok (.aload_n 3, 1) := by decide +kernel
theorem dL_law__2182 : decode cL_law_ 2182 = .ok (.invokestatic 261, 3) := by decide +kernel
theorem dL_law__2185 : decode cL_law_ 2185 = .ok (.istore 5, 2) := by decide +kernel
theorem dL_law__2187 : decode cL_law_ 2187 = .ok (.aload_n 2, 1) := by decide +kernel
theorem dL_law__2188 : decode cL_law_ 2188 = .ok (.aload_n 0, 1) := by decide +kernel
theorem dL_law__2189 : decode cL_law_ 2189 = .ok (.iload 4, 2) := by decide +kernel
theorem dL_law__2191 : decode cL_law_ 2191 = .ok (.iconst 1, 1) := by decide +kernel
theorem dL_law__2192 : decode cL_law_ 2192 = .ok (.iadd, 1) := by decide +kernel
theorem dL_law__2193 : decode cL_law_ 2193 = .ok (.iaload, 1) := by decide +kernel
theorem dL_law__2194 : decode cL_law_ 2194 = .ok (.aload_n 0, 1) := by decide +kernel
theorem dL_law__2195 : decode cL_law_ 2195 = .ok (.iload 4, 2) := by decide +kernel
theorem dL_law__2197 : decode cL_law_ 2197 = .ok (.iconst 2, 1) := by decide +kernel
theorem dL_law__2198 : decode cL_law_ 2198 = .ok (.iadd, 1) := by decide +kernel
theorem dL_law__2199 : decode cL_law_ 2199 = .ok (.iaload, 1) := by decide +kernel
theorem dL_law__2200 : decode cL_law_ 2200 = .ok (.invokevirtual 263, 3) := by decide +kernel
theorem dL_law__2203 : decode cL_law_ 2203 = .ok (.istore 6, 2) := by decide +kernel
theorem dL_law__2205 : decode cL_law_ 2205 = .ok (.aload_n 2, 1) := by decide +kernel
theorem dL_law__2206 : decode cL_law_ 2206 = .ok (.invokevirtual 146, 3) := by decide +kernel
theorem dL_law__2209 : decode cL_law_ 2209 = .ok (.iload 5, 2) := by decide +kernel
theorem dL_law__2211 : decode cL_law_ 2211 = .ok (.if_icmp .eq 5, 3) := by decide +kernel
theorem dL_law__2214 : decode cL_law_ 2214 = .ok (.iconst 0, 1) := by decide +kernel
theorem dL_law__2215 : decode cL_law_ 2215 = .ok (.ireturn, 1) := by decide +kernel
theorem dL_law__2216 : decode cL_law_ 2216 = .ok (.iload 5, 2) := by decide +kernel
theorem dL_law__2218 : decode cL_law_ 2218 = .ok (.ifCond .ne 15, 3) := by decide +kernel
theorem dL_law__2221 : decode cL_law_ 2221 = .ok (.aload_n 3, 1) := by decide +kernel
theorem dL_law__2222 : decode cL_law_ 2222 = .ok (.iconst 0, 1) := by decide +kernel
theorem dL_law__2223 : decode cL_law_ 2223 = .ok (.laload, 1) := by decide +kernel
theorem dL_law__2224 : decode cL_law_ 2224 = .ok (.iload 6, 2) := by decide +kernel
theorem dL_law__2226 : decode cL_law_ 2226 = .ok (.i2l, 1) := by decide +kernel
theorem dL_law__2227 : decode cL_law_ 2227 = .ok (.lcmp, 1) := by decide +kernel
theorem dL_law__2228 : decode cL_law_ 2228 = .ok (.ifCond .eq 5, 3) := by decide +kernel
theorem dL_law__2231 : decode cL_law_ 2231 = .ok (.iconst 0, 1) := by decide +kernel
theorem dL_law__2232 : decode cL_law_ 2232 = .ok (.ireturn, 1) := by decide +kernel
theorem dL_law__2233 : decode cL_law_ 2233 = .ok (.goto 505, 3) := by decide +kernel
theorem dL_law__2236 : decode cL_law_ 2236 = .ok (.aload_n 1, 1) := by decide +kernel
theorem dL_law__2237 : decode cL_law_ 2237 = .ok (.invokevirtual 264, 3) := by decide +kernel
theorem dL_law__2240 : decode cL_law_ 2240 = .ok (.aload_n 2, 1) := by decide +kernel
theorem dL_law__2241 : decode cL_law_ 2241 = .ok (.invokevirtual 267, 3) := by decide +kernel
theorem dL_law__2244 : decode cL_law_ 2244 = .ok (.if_icmp .eq 494, 3) := by decide +kernel
theorem dL_law__2247 : decode cL_law_ 2247 = .ok (.iconst 0, 1) := by decide +kernel
theorem dL_law__2248 : decode cL_law_ 2248 = .ok (.ireturn, 1) := by decide +kernel
theorem dL_law__2249 : decode cL_law_ 2249 = .ok (.aload_n 1, 1) := by decide +kernel
theorem dL_law__2250 : decode cL_law_ 2250 = .ok (.invokevirtual 268, 3) := by decide +kernel
theorem dL_law__2253 : decode cL_law_ 2253 = .ok (.aload_n 2, 1) := by decide +kernel
theorem dL_law__2254 : decode cL_law_ 2254 = .ok (.invokevirtual 271, 3) := by decide +kernel
theorem dL_law__2257 : decode cL_law_ 2257 = .ok (.if_icmp .eq 481, 3) := by decide +kernel
theorem dL_law__2260 : decode cL_law_ 2260 = .ok (.iconst 0, 1) := by decide +kernel
theorem dL_law__2261 : decode cL_law_ 2261 = .ok (.ireturn, 1) := by decide +kernel
theorem dL_law__2262 : decode cL_law_ 2262 = .ok (.aload_n 1, 1) := by decide +kernel
theorem dL_law__2263 : decode cL_law_ 2263 = .ok (.aload_n 0, 1) := by decide +kernel
theorem dL_law__2264 : decode cL_law_ 2264 = .ok (.iload 4, 2) := by decide +kernel
theorem dL_law__2266 : decode cL_law_ 2266 = .ok (.iconst 1, 1) := by decide +kernel
theorem dL_law__2267 : decode cL_law_ 2267 = .ok (.iadd, 1) := by decide +kernel
theorem dL_law__2268 : decode cL_law_ 2268 = .ok (.iaload, 1) := by decide +kernel
theorem dL_law__2269 : decode cL_law_ 2269 = .ok (.aload_n 3, 1) := by decide +kernel
theorem dL_law__2270 : decode cL_law_ 2270 = .ok (.invokestatic 272, 3) := by decide +kernel
theorem dL_law__2273 : decode cL_law_ 2273 = .ok (.istore 5, 2) := by decide +kernel
theorem dL_law__2275 : decode cL_law_ 2275 = .ok (.aload_n 2, 1) := by decide +kernel
theorem dL_law__2276 : decode cL_law_ 2276 = .ok (.aload_n 0, 1) := by decide +kernel
theorem dL_law__2277 : decode cL_law_ 2277 = .ok (.iload 4, 2) := by decide +kernel
theorem dL_law__2279 : decode cL_law_ 2279 = .ok (.iconst 1, 1) := by decide +kernel
theorem dL_law__2280 : decode cL_law_ 2280 = .ok (.iadd, 1) := by decide +kernel
theorem dL_law__2281 : decode cL_law_ 2281 = .ok (.iaload, 1) := by decide +kernel
theorem dL_law__2282 : decode cL_law_ 2282 = .ok (.invokevirtual 274, 3) := by decide +kernel
theorem dL_law__2285 : decode cL_law_ 2285 = .ok (.istore 6, 2) := by decide +kernel
theorem dL_law__2287 : decode cL_law_ 2287 = .ok (.aload_n 2, 1) := by decide +kernel
theorem dL_law__2288 : decode cL_law_ 2288 = .ok (.invokevirtual 146, 3) := by decide +kernel
theorem dL_law__2291 : decode cL_law_ 2291 = .ok (.iload 5, 2) := by decide +kernel
theorem dL_law__2293 : decode cL_law_ 2293 = .ok (.if_icmp .eq 5, 3) := by decide +kernel
theorem dL_law__2296 : decode cL_law_ 2296 = .ok (.iconst 0, 1) := by decide +kernel
theorem dL_law__2297 : decode cL_law_ 2297 = .ok (.ireturn, 1) := by decide +kernel
theorem dL_law__2298 : decode cL_law_ 2298 = .ok (.iload 5, 2) := by decide +kernel
theorem dL_law__2300 : decode cL_law_ 2300 = .ok (.ifCond .ne 15, 3) := by decide +kernel
theorem dL_law__2303 : decode cL_law_ 2303 = .ok (.aload_n 3, 1) := by decide +kernel
theorem dL_law__2304 : decode cL_law_ 2304 = .ok (.iconst 0, 1) := by decide +kernel
theorem dL_law__2305 : decode cL_law_ 2305 = .ok (.laload, 1) := by decide +kernel
theorem dL_law__2306 : decode cL_law_ 2306 = .ok (.iload 6, 2) := by decide +kernel
theorem dL_law__2308 : decode cL_law_ 2308 = .ok (.i2l, 1) := by decide +kernel
theorem dL_law__2309 : decode cL_law_ 2309 = .ok (.lcmp, 1) := by decide +kernel
theorem dL_law__2310 : decode cL_law_ 2310 = .ok (.ifCond .eq 5, 3) := by decide +kernel
theorem dL_law__2313 : decode cL_law_ 2313 = .ok (.iconst 0, 1) := by decide +kernel
theorem dL_law__2314 : decode cL_law_ 2314 = .ok (.ireturn, 1) := by decide +kernel
theorem dL_law__2315 : decode cL_law_ 2315 = .ok (.goto 423, 3) := by decide +kernel
theorem dL_law__2318 : decode cL_law_ 2318 = .ok (.aload_n 1, 1) := by decide +kernel
theorem dL_law__2319 : decode cL_law_ 2319 = .ok (.invokevirtual 275, 3) := by decide +kernel
theorem dL_law__2322 : decode cL_law_ 2322 = .ok (.aload_n 2, 1) := by decide +kernel
theorem dL_law__2323 : decode cL_law_ 2323 = .ok (.invokevirtual 278, 3) := by decide +kernel
theorem dL_law__2326 : decode cL_law_ 2326 = .ok (.if_icmp .eq 412, 3) := by decide +kernel
theorem dL_law__2329 : decode cL_law_ 2329 = .ok (.iconst 0, 1) := by decide +kernel
theorem dL_law__2330 : decode cL_law_ 2330 = .ok (.ireturn, 1) := by decide +kernel
theorem dL_law__2331 : decode cL_law_ 2331 = .ok (.aload_n 1, 1) := by decide +kernel
theorem dL_law__2332 : decode cL_law_ 2332 = .ok (.aload_n 0, 1) := by decide +kernel
theorem dL_law__2333 : decode cL_law_ 2333 = .ok (.iload 4, 2) := by decide +kernel
theorem dL_law__2335 : decode cL_law_ 2335 = .ok (.iconst 1, 1) := by decide +kernel
theorem dL_law__2336 : decode cL_law_ 2336 = .ok (.iadd, 1) := by decide +kernel
theorem dL_law__2337 : decode cL_law_ 2337 = .ok (.iaload, 1) := by decide +kernel
theorem dL_law__2338 : decode cL_law_ 2338 = .ok (.aload_n 0, 1) := by decide +kernel
theorem dL_law__2339 : decode cL_law_ 2339 = .ok (.iload 4, 2) := by decide +kernel
theorem dL_law__2341 : decode cL_law_ 2341 = .ok (.iconst 2, 1) := by decide +kernel
theorem dL_law__2342 : decode cL_law_ 2342 = .ok (.iadd, 1) := by decide +kernel
theorem dL_law__2343 : decode cL_law_ 2343 = .ok (.iaload, 1) := by decide +kernel
theorem dL_law__2344 : decode cL_law_ 2344 = .ok (.ifCond .eq 7, 3) := by decide +kernel
theorem dL_law__2347 : decode cL_law_ 2347 = .ok (.iconst 1, 1) := by decide +kernel
theorem dL_law__2348 : decode cL_law_ 2348 = .ok (.goto 4, 3) := by decide +kernel
theorem dL_law__2351 : decode cL_law_ 2351 = .ok (.iconst 0, 1) := by decide +kernel
theorem dL_law__2352 : decode cL_law_ 2352 = .ok (.aload_n 3, 1) := by decide +kernel
theorem dL_law__2353 : decode cL_law_ 2353 = .ok (.invokestatic 279, 3) := by decide +kernel
theorem dL_law__2356 : decode cL_law_ 2356 = .ok (.istore 5, 2) := by decide +kernel
theorem dL_law__2358 : decode cL_law_ 2358 = .ok (.aload_n 2, 1) := by decide +kernel
theorem dL_law__2359 : decode cL_law_ 2359 = .ok (.aload_n 0, 1) := by decide +kernel
theorem dL_law__2360 : decode cL_law_ 2360 = .ok (.iload 4, 2) := by decide +kernel
theorem dL_law__2362 : decode cL_law_ 2362 = .ok (.iconst 1, 1) := by decide +kernel
theorem dL_law__2363 : decode cL_law_ 2363 = .ok (.iadd, 1) := by decide +kernel
theorem dL_law__2364 : decode cL_law_ 2364 = .ok (.iaload, 1) := by decide +kernel
theorem dL_law__2365 : decode cL_law_ 2365 = .ok (.aload_n 0, 1) := by decide +kernel
theorem dL_law__2366 : decode cL_law_ 2366 = .ok (.iload 4, 2) := by decide +kernel
theorem dL_law__2368 : decode cL_law_ 2368 = .ok (.iconst 2, 1) := by decide +kernel
theorem dL_law__2369 : decode cL_law_ 2369 = .ok (.iadd, 1) := by decide +kernel
theorem dL_law__2370 : decode cL_law_ 2370 = .ok (.iaload, 1) := by decide +kernel
theorem dL_law__2371 : decode cL_law_ 2371 = .ok (.ifCond .eq 7, 3) := by decide +kernel
theorem dL_law__2374 : decode cL_law_ 2374 = .ok (.iconst 1, 1) := by decide +kernel
theorem dL_law__2375 : decode cL_law_ 2375 = .ok (.goto 4, 3) := by decide +kernel
theorem dL_law__2378 : decode cL_law_ 2378 = .ok (.iconst 0, 1) := by decide +kernel
theorem dL_law__2379 : decode cL_law_ 2379 = .ok (.invokevirtual 281, 3) := by decide +kernel
theorem dL_law__2382 : decode cL_law_ 2382 = .ok (.istore 6, 2) := by decide +kernel
theorem dL_law__2384 : decode cL_law_ 2384 = .ok (.aload_n 2, 1) := by decide +kernel
theorem dL_law__2385 : decode cL_law_ 2385 = .ok (.invokevirtual 146, 3) := by decide +kernel
theorem dL_law__2388 : decode cL_law_ 2388 = .ok (.iload 5, 2) := by decide +kernel
theorem dL_law__2390 : decode cL_law_ 2390 = .ok (.if_icmp .eq 5, 3) := by decide +kernel
theorem dL_law__2393 : decode cL_law_ 2393 = .ok (.iconst 0, 1) := by decide +kernel
theorem dL_law__2394 : decode cL_law_ 2394 = .ok (.ireturn, 1) := by decide +kernel
theorem dL_law__2395 : decode cL_law_ 2395 = .ok (.iload 5, 2) := by decide +kernel
theorem dL_law__2397 : decode cL_law_ 2397 = .ok (.ifCond .ne 15, 3) := by decide +kernel
theorem dL_law__2400 : decode cL_law_ 2400 = .ok (.aload_n 3, 1) := by decide +kernel
theorem dL_law__2401 : decode cL_law_ 2401 = .ok (.iconst 0, 1) := by decide +kernel
theorem dL_law__2402 : decode cL_law_ 2402 = .ok (.laload, 1) := by decide +kernel
theorem dL_law__2403 : decode cL_law_ 2403 = .ok (.iload 6, 2) := by decide +kernel
theorem dL_law__2405 : decode cL_law_ 2405 = .ok (.i2l, 1) := by decide +kernel
theorem dL_law__2406 : decode cL_law_ 2406 = .ok (.lcmp, 1) := by decide +kernel
theorem dL_law__2407 : decode cL_law_ 2407 = .ok (.ifCond .eq 5, 3) := by decide +kernel
theorem dL_law__2410 : decode cL_law_ 2410 = .ok (.iconst 0, 1) := by decide +kernel
theorem dL_law__2411 : decode cL_law_ 2411 = .ok (.ireturn, 1) := by decide +kernel
theorem dL_law__2412 : decode cL_law_ 2412 = .ok (.goto 326, 3) := by decide +kernel
theorem dL_law__2415 : decode cL_law_ 2415 = .ok (.aload_n 1, 1) := by decide +kernel
theorem dL_law__2416 : decode cL_law_ 2416 = .ok (.aload_n 0, 1) := by decide +kernel
theorem dL_law__2417 : decode cL_law_ 2417 = .ok (.iload 4, 2) := by decide +kernel
theorem dL_law__2419 : decode cL_law_ 2419 = .ok (.iconst 1, 1) := by decide +kernel
theorem dL_law__2420 : decode cL_law_ 2420 = .ok (.iadd, 1) := by decide +kernel
theorem dL_law__2421 : decode cL_law_ 2421 = .ok (.iaload, 1) := by decide +kernel
theorem dL_law__2422 : decode cL_law_ 2422 = .ok (.aload_n 0, 1) := by decide +kernel
theorem dL_law__2423 : decode cL_law_ 2423 = .ok (.iload 4, 2) := by decide +kernel
theorem dL_law__2425 : decode cL_law_ 2425 = .ok (.iconst 2, 1) := by decide +kernel
theorem dL_law__2426 : decode cL_law_ 2426 = .ok (.iadd, 1) := by decide +kernel
theorem dL_law__2427 : decode cL_law_ 2427 = .ok (.iaload, 1) := by decide +kernel
theorem dL_law__2428 : decode cL_law_ 2428 = .ok (.ifCond .eq 7, 3) := by decide +kernel
theorem dL_law__2431 : decode cL_law_ 2431 = .ok (.iconst 1, 1) := by decide +kernel
theorem dL_law__2432 : decode cL_law_ 2432 = .ok (.goto 4, 3) := by decide +kernel
theorem dL_law__2435 : decode cL_law_ 2435 = .ok (.iconst 0, 1) := by decide +kernel
theorem dL_law__2436 : decode cL_law_ 2436 = .ok (.aload_n 3, 1) := by decide +kernel
theorem dL_law__2437 : decode cL_law_ 2437 = .ok (.invokestatic 282, 3) := by decide +kernel
theorem dL_law__2440 : decode cL_law_ 2440 = .ok (.istore 5, 2) := by decide +kernel
theorem dL_law__2442 : decode cL_law_ 2442 = .ok (.aload_n 2, 1) := by decide +kernel
theorem dL_law__2443 : decode cL_law_ 2443 = .ok (.aload_n 0, 1) := by decide +kernel
theorem dL_law__2444 : decode cL_law_ 2444 = .ok (.iload 4, 2) := by decide +kernel
theorem dL_law__2446 : decode cL_law_ 2446 = .ok (.iconst 1, 1) := by decide +kernel
theorem dL_law__2447 : decode cL_law_ 2447 = .ok (.iadd, 1) := by decide +kernel
theorem dL_law__2448 : decode cL_law_ 2448 = .ok (.iaload, 1) := by decide +kernel
theorem dL_law__2449 : decode cL_law_ 2449 = .ok (.aload_n 0, 1) := by decide +kernel
theorem dL_law__2450 : decode cL_law_ 2450 = .ok (.iload 4, 2) := by decide +kernel
theorem dL_law__2452 : decode cL_law_ 2452 = .ok (.iconst 2, 1) := by decide +kernel
theorem dL_law__2453 : decode cL_law_ 2453 = .ok (.iadd, 1) := by decide +kernel
theorem dL_law__2454 : decode cL_law_ 2454 = .ok (.iaload, 1) := by decide +kernel
theorem dL_law__2455 : decode cL_law_ 2455 = .ok (.ifCond .eq 7, 3) := by decide +kernel
theorem dL_law__2458 : decode cL_law_ 2458 = .ok (.iconst 1, 1) := by decide +kernel
theorem dL_law__2459 : decode cL_law_ 2459 = .ok (.goto 4, 3) := by decide +kernel
theorem dL_law__2462 : decode cL_law_ 2462 = .ok (.iconst 0, 1) := by decide +kernel
theorem dL_law__2463 : decode cL_law_ 2463 = .ok (.invokevirtual 284, 3) := by decide +kernel
theorem dL_law__2466 : decode cL_law_ 2466 = .ok (.istore 6, 2) := by decide +kernel
theorem dL_law__2468 : decode cL_law_ 2468 = .ok (.aload_n 2, 1) := by decide +kernel
theorem dL_law__2469 : decode cL_law_ 2469 = .ok (.invokevirtual 146, 3) := by decide +kernel
theorem dL_law__2472 : decode cL_law_ 2472 = .ok (.iload 5, 2) := by decide +kernel
theorem dL_law__2474 : decode cL_law_ 2474 = .ok (.if_icmp .eq 5, 3) := by decide +kernel
theorem dL_law__2477 : decode cL_law_ 2477 = .ok (.iconst 0, 1) := by decide +kernel
theorem dL_law__2478 : decode cL_law_ 2478 = .ok (.ireturn, 1) := by decide +kernel
theorem dL_law__2479 : decode cL_law_ 2479 = .ok (.iload 5, 2) := by decide +kernel
theorem dL_law__2481 : decode cL_law_ 2481 = .ok (.ifCond .ne 15, 3) := by decide +kernel
theorem dL_law__2484 : decode cL_law_ 2484 = .ok (.aload_n 3, 1) := by decide +kernel
theorem dL_law__2485 : decode cL_law_ 2485 = .ok (.iconst 0, 1) := by decide +kernel
theorem dL_law__2486 : decode cL_law_ 2486 = .ok (.laload, 1) := by decide +kernel
theorem dL_law__2487 : decode cL_law_ 2487 = .ok (.iload 6, 2) := by decide +kernel
theorem dL_law__2489 : decode cL_law_ 2489 = .ok (.i2l, 1) := by decide +kernel
theorem dL_law__2490 : decode cL_law_ 2490 = .ok (.lcmp, 1) := by decide +kernel
theorem dL_law__2491 : decode cL_law_ 2491 = .ok (.ifCond .eq 5, 3) := by decide +kernel
theorem dL_law__2494 : decode cL_law_ 2494 = .ok (.iconst 0, 1) := by decide +kernel
theorem dL_law__2495 : decode cL_law_ 2495 = .ok (.ireturn, 1) := by decide +kernel
theorem dL_law__2496 : decode cL_law_ 2496 = .ok (.goto 242, 3) := by decide +kernel
theorem dL_law__2499 : decode cL_law_ 2499 = .ok (.aload_n 1, 1) := by decide +kernel
theorem dL_law__2500 : decode cL_law_ 2500 = .ok (.aload_n 0, 1) := by decide +kernel
theorem dL_law__2501 : decode cL_law_ 2501 = .ok (.iload 4, 2) := by decide +kernel
theorem dL_law__2503 : decode cL_law_ 2503 = .ok (.iconst 1, 1) := by decide +kernel
theorem dL_law__2504 : decode cL_law_ 2504 = .ok (.iadd, 1) := by decide +kernel
theorem dL_law__2505 : decode cL_law_ 2505 = .ok (.iaload, 1) := by decide +kernel
theorem dL_law__2506 : decode cL_law_ 2506 = .ok (.aload_n 0, 1) := by decide +kernel
theorem dL_law__2507 : decode cL_law_ 2507 = .ok (.iload 4, 2) := by decide +kernel
theorem dL_law__2509 : decode cL_law_ 2509 = .ok (.iconst 2, 1) := by decide +kernel
theorem dL_law__2510 : decode cL_law_ 2510 = .ok (.iadd, 1) := by decide +kernel
theorem dL_law__2511 : decode cL_law_ 2511 = .ok (.iaload, 1) := by decide +kernel
theorem dL_law__2512 : decode cL_law_ 2512 = .ok (.ifCond .eq 7, 3) := by decide +kernel
theorem dL_law__2515 : decode cL_law_ 2515 = .ok (.iconst 1, 1) := by decide +kernel
theorem dL_law__2516 : decode cL_law_ 2516 = .ok (.goto 4, 3) := by decide +kernel
theorem dL_law__2519 : decode cL_law_ 2519 = .ok (.iconst 0, 1) := by decide +kernel
theorem dL_law__2520 : decode cL_law_ 2520 = .ok (.aload_n 3, 1) := by decide +kernel
theorem dL_law__2521 : decode cL_law_ 2521 = .ok (.invokestatic 285, 3) := by decide +kernel
theorem dL_law__2524 : decode cL_law_ 2524 = .ok (.istore 5, 2) := by decide +kernel
theorem dL_law__2526 : decode cL_law_ 2526 = .ok (.aload_n 2, 1) := by decide +kernel
theorem dL_law__2527 : decode cL_law_ 2527 = .ok (.aload_n 0, 1) := by decide +kernel
theorem dL_law__2528 : decode cL_law_ 2528 = .ok (.iload 4, 2) := by decide +kernel
theorem dL_law__2530 : decode cL_law_ 2530 = .ok (.iconst 1, 1) := by decide +kernel
theorem dL_law__2531 : decode cL_law_ 2531 = .ok (.iadd, 1) := by decide +kernel
theorem dL_law__2532 : decode cL_law_ 2532 = .ok (.iaload, 1) := by decide +kernel
theorem dL_law__2533 : decode cL_law_ 2533 = .ok (.aload_n 0, 1) := by decide +kernel
theorem dL_law__2534 : decode cL_law_ 2534 = .ok (.iload 4, 2) := by decide +kernel
theorem dL_law__2536 : decode cL_law_ 2536 = .ok (.iconst 2, 1) := by decide +kernel
theorem dL_law__2537 : decode cL_law_ 2537 = .ok (.iadd, 1) := by decide +kernel
theorem dL_law__2538 : decode cL_law_ 2538 = .ok (.iaload, 1) := by decide +kernel
theorem dL_law__2539 : decode cL_law_ 2539 = .ok (.ifCond .eq 7, 3) := by decide +kernel
theorem dL_law__2542 : decode cL_law_ 2542 = .ok (.iconst 1, 1) := by decide +kernel
theorem dL_law__2543 : decode cL_law_ 2543 = .ok (.goto 4, 3) := by decide +kernel
theorem dL_law__2546 : decode cL_law_ 2546 = .ok (.iconst 0, 1) := by decide +kernel
theorem dL_law__2547 : decode cL_law_ 2547 = .ok (.invokevirtual 287, 3) := by decide +kernel
theorem dL_law__2550 : decode cL_law_ 2550 = .ok (.istore 6, 2) := by decide +kernel
theorem dL_law__2552 : decode cL_law_ 2552 = .ok (.aload_n 2, 1) := by decide +kernel
theorem dL_law__2553 : decode cL_law_ 2553 = .ok (.invokevirtual 146, 3) := by decide +kernel
theorem dL_law__2556 : decode cL_law_ 2556 = .ok (.iload 5, 2) := by decide +kernel
theorem dL_law__2558 : decode cL_law_ 2558 = .ok (.if_icmp .eq 5, 3) := by decide +kernel
theorem dL_law__2561 : decode cL_law_ 2561 = .ok (.iconst 0, 1) := by decide +kernel
theorem dL_law__2562 : decode cL_law_ 2562 = .ok (.ireturn, 1) := by decide +kernel
theorem dL_law__2563 : decode cL_law_ 2563 = .ok (.iload 5, 2) := by decide +kernel
theorem dL_law__2565 : decode cL_law_ 2565 = .ok (.ifCond .ne 15, 3) := by decide +kernel
theorem dL_law__2568 : decode cL_law_ 2568 = .ok (.aload_n 3, 1) := by decide +kernel
theorem dL_law__2569 : decode cL_law_ 2569 = .ok (.iconst 0, 1) := by decide +kernel
theorem dL_law__2570 : decode cL_law_ 2570 = .ok (.laload, 1) := by decide +kernel
theorem dL_law__2571 : decode cL_law_ 2571 = .ok (.iload 6, 2) := by decide +kernel
theorem dL_law__2573 : decode cL_law_ 2573 = .ok (.i2l, 1) := by decide +kernel
theorem dL_law__2574 : decode cL_law_ 2574 = .ok (.lcmp, 1) := by decide +kernel
theorem dL_law__2575 : decode cL_law_ 2575 = .ok (.ifCond .eq 5, 3) := by decide +kernel
theorem dL_law__2578 : decode cL_law_ 2578 = .ok (.iconst 0, 1) := by decide +kernel
theorem dL_law__2579 : decode cL_law_ 2579 = .ok (.ireturn, 1) := by decide +kernel
theorem dL_law__2580 : decode cL_law_ 2580 = .ok (.goto 158, 3) := by decide +kernel
theorem dL_law__2583 : decode cL_law_ 2583 = .ok (.aload_n 1, 1) := by decide +kernel
theorem dL_law__2584 : decode cL_law_ 2584 = .ok (.aload_n 0, 1) := by decide +kernel
theorem dL_law__2585 : decode cL_law_ 2585 = .ok (.iload 4, 2) := by decide +kernel
theorem dL_law__2587 : decode cL_law_ 2587 = .ok (.iconst 1, 1) := by decide +kernel
theorem dL_law__2588 : decode cL_law_ 2588 = .ok (.iadd, 1) := by decide +kernel
theorem dL_law__2589 : decode cL_law_ 2589 = .ok (.iaload, 1) := by decide +kernel
theorem dL_law__2590 : decode cL_law_ 2590 = .ok (.aload_n 0, 1) := by decide +kernel
theorem dL_law__2591 : decode cL_law_ 2591 = .ok (.iload 4, 2) := by decide +kernel
theorem dL_law__2593 : decode cL_law_ 2593 = .ok (.iconst 2, 1) := by decide +kernel
theorem dL_law__2594 : decode cL_law_ 2594 = .ok (.iadd, 1) := by decide +kernel
theorem dL_law__2595 : decode cL_law_ 2595 = .ok (.iaload, 1) := by decide +kernel
theorem dL_law__2596 : decode cL_law_ 2596 = .ok (.aload_n 3, 1) := by decide +kernel
theorem dL_law__2597 : decode cL_law_ 2597 = .ok (.invokestatic 288, 3) := by decide +kernel
theorem dL_law__2600 : decode cL_law_ 2600 = .ok (.istore 5, 2) := by decide +kernel
theorem dL_law__2602 : decode cL_law_ 2602 = .ok (.aload_n 2, 1) := by decide +kernel
theorem dL_law__2603 : decode cL_law_ 2603 = .ok (.aload_n 0, 1) := by decide +kernel
theorem dL_law__2604 : decode cL_law_ 2604 = .ok (.iload 4, 2) := by decide +kernel
theorem dL_law__2606 : decode cL_law_ 2606 = .ok (.iconst 1, 1) := by decide +kernel
theorem dL_law__2607 : decode cL_law_ 2607 = .ok (.iadd, 1) := by decide +kernel
theorem dL_law__2608 : decode cL_law_ 2608 = .ok (.iaload, 1) := by decide +kernel
theorem dL_law__2609 : decode cL_law_ 2609 = .ok (.aload_n 0, 1) := by decide +kernel
theorem dL_law__2610 : decode cL_law_ 2610 = .ok (.iload 4, 2) := by decide +kernel
theorem dL_law__2612 : decode cL_law_ 2612 = .ok (.iconst 2, 1) := by decide +kernel
theorem dL_law__2613 : decode cL_law_ 2613 = .ok (.iadd, 1) := by decide +kernel
theorem dL_law__2614 : decode cL_law_ 2614 = .ok (.iaload, 1) := by decide +kernel
theorem dL_law__2615 : decode cL_law_ 2615 = .ok (.invokevirtual 290, 3) := by decide +kernel
theorem dL_law__2618 : decode cL_law_ 2618 = .ok (.istore 6, 2) := by decide +kernel
theorem dL_law__2620 : decode cL_law_ 2620 = .ok (.aload_n 2, 1) := by decide +kernel
theorem dL_law__2621 : decode cL_law_ 2621 = .ok (.invokevirtual 146, 3) := by decide +kernel
theorem dL_law__2624 : decode cL_law_ 2624 = .ok (.iload 5, 2) := by decide +kernel
theorem dL_law__2626 : decode cL_law_ 2626 = .ok (.if_icmp .eq 5, 3) := by decide +kernel
theorem dL_law__2629 : decode cL_law_ 2629 = .ok (.iconst 0, 1) := by decide +kernel
theorem dL_law__2630 : decode cL_law_ 2630 = .ok (.ireturn, 1) := by decide +kernel
theorem dL_law__2631 : decode cL_law_ 2631 = .ok (.iload 5, 2) := by decide +kernel
theorem dL_law__2633 : decode cL_law_ 2633 = .ok (.ifCond .ne 15, 3) := by decide +kernel
theorem dL_law__2636 : decode cL_law_ 2636 = .ok (.aload_n 3, 1) := by decide +kernel
theorem dL_law__2637 : decode cL_law_ 2637 = .ok (.iconst 0, 1) := by decide +kernel
theorem dL_law__2638 : decode cL_law_ 2638 = .ok (.laload, 1) := by decide +kernel
theorem dL_law__2639 : decode cL_law_ 2639 = .ok (.iload 6, 2) := by decide +kernel
theorem dL_law__2641 : decode cL_law_ 2641 = .ok (.i2l, 1) := by decide +kernel
theorem dL_law__2642 : decode cL_law_ 2642 = .ok (.lcmp, 1) := by decide +kernel
theorem dL_law__2643 : decode cL_law_ 2643 = .ok (.ifCond .eq 5, 3) := by decide +kernel
theorem dL_law__2646 : decode cL_law_ 2646 = .ok (.iconst 0, 1) := by decide +kernel
theorem dL_law__2647 : decode cL_law_ 2647 = .ok (.ireturn, 1) := by decide +kernel
theorem dL_law__2648 : decode cL_law_ 2648 = .ok (.goto 90, 3) := by decide +kernel
theorem dL_law__2651 : decode cL_law_ 2651 = .ok (.aload_n 1, 1) := by decide +kernel
theorem dL_law__2652 : decode cL_law_ 2652 = .ok (.aload_n 0, 1) := by decide +kernel
theorem dL_law__2653 : decode cL_law_ 2653 = .ok (.iload 4, 2) := by decide +kernel
theorem dL_law__2655 : decode cL_law_ 2655 = .ok (.iconst 1, 1) := by decide +kernel
theorem dL_law__2656 : decode cL_law_ 2656 = .ok (.iadd, 1) := by decide +kernel
theorem dL_law__2657 : decode cL_law_ 2657 = .ok (.iaload, 1) := by decide +kernel
theorem dL_law__2658 : decode cL_law_ 2658 = .ok (.invokevirtual 291, 3) := by decide +kernel
theorem dL_law__2661 : decode cL_law_ 2661 = .ok (.aload_n 2, 1) := by decide +kernel
theorem dL_law__2662 : decode cL_law_ 2662 = .ok (.aload_n 0, 1) := by decide +kernel
theorem dL_law__2663 : decode cL_law_ 2663 = .ok (.iload 4, 2) := by decide +kernel
theorem dL_law__2665 : decode cL_law_ 2665 = .ok (.iconst 1, 1) := by decide +kernel
theorem dL_law__2666 : decode cL_law_ 2666 = .ok (.iadd, 1) := by decide +kernel
theorem dL_law__2667 : decode cL_law_ 2667 = .ok (.iaload, 1) := by decide +kernel
theorem dL_law__2668 : decode cL_law_ 2668 = .ok (.invokevirtual 294, 3) := by decide +kernel
theorem dL_law__2671 : decode cL_law_ 2671 = .ok (.if_icmp .eq 67, 3) := by decide +kernel
theorem dL_law__2674 : decode cL_law_ 2674 = .ok (.iconst 0, 1) := by decide +kernel
theorem dL_law__2675 : decode cL_law_ 2675 = .ok (.ireturn, 1) := by decide +kernel
theorem dL_law__2676 : decode cL_law_ 2676 = .ok (.aload_n 1, 1) := by decide +kernel
theorem dL_law__2677 : decode cL_law_ 2677 = .ok (.invokevirtual 295, 3) := by decide +kernel
theorem dL_law__2680 : decode cL_law_ 2680 = .ok (.aload_n 2, 1) := by decide +kernel
theorem dL_law__2681 : decode cL_law_ 2681 = .ok (.invokevirtual 299, 3) := by decide +kernel
theorem dL_law__2684 : decode cL_law_ 2684 = .ok (.if_icmp .eq 54, 3) := by decide +kernel
theorem dL_law__2687 : decode cL_law_ 2687 = .ok (.iconst 0, 1) := by decide +kernel
theorem dL_law__2688 : decode cL_law_ 2688 = .ok (.ireturn, 1) := by decide +kernel
theorem dL_law__2689 : decode cL_law_ 2689 = .ok (.aload_n 1, 1) := by decide +kernel
theorem dL_law__2690 : decode cL_law_ 2690 = .ok (.invokevirtual 300, 3) := by decide +kernel
theorem dL_law__2693 : decode cL_law_ 2693 = .ok (.aload_n 2, 1) := by decide +kernel
theorem dL_law__2694 : decode cL_law_ 2694 = .ok (.invokevirtual 303, 3) := by decide +kernel
theorem dL_law__2697 : decode cL_law_ 2697 = .ok (.goto 41, 3) := by decide +kernel
theorem dL_law__2700 : decode cL_law_ 2700 = .ok (.aload_n 1, 1) := by decide +kernel
theorem dL_law__2701 : decode cL_law_ 2701 = .ok (.invokevirtual 304, 3) := by decide +kernel
theorem dL_law__2704 : decode cL_law_ 2704 = .ok (.aload_n 2, 1) := by decide +kernel
theorem dL_law__2705 : decode cL_law_ 2705 = .ok (.invokevirtual 307, 3) := by decide +kernel
theorem dL_law__2708 : decode cL_law_ 2708 = .ok (.if_icmp .eq 30, 3) := by decide +kernel
theorem dL_law__2711 : decode cL_law_ 2711 = .ok (.iconst 0, 1) := by decide +kernel
theorem dL_law__2712 : decode cL_law_ 2712 = .ok (.ireturn, 1) := by decide +kernel
theorem dL_law__2713 : decode cL_law_ 2713 = .ok (.aload_n 1, 1) := by decide +kernel
theorem dL_law__2714 : decode cL_law_ 2714 = .ok (.aload_n 0, 1) := by decide +kernel
theorem dL_law__2715 : decode cL_law_ 2715 = .ok (.iload 4, 2) := by decide +kernel
theorem dL_law__2717 : decode cL_law_ 2717 = .ok (.iconst 1, 1) := by decide +kernel
theorem dL_law__2718 : decode cL_law_ 2718 = .ok (.iadd, 1) := by decide +kernel
theorem dL_law__2719 : decode cL_law_ 2719 = .ok (.iaload, 1) := by decide +kernel
theorem dL_law__2720 : decode cL_law_ 2720 = .ok (.invokevirtual 308, 3) := by decide +kernel
theorem dL_law__2723 : decode cL_law_ 2723 = .ok (.aload_n 2, 1) := by decide +kernel
theorem dL_law__2724 : decode cL_law_ 2724 = .ok (.aload_n 0, 1) := by decide +kernel
theorem dL_law__2725 : decode cL_law_ 2725 = .ok (.iload 4, 2) := by decide +kernel
theorem dL_law__2727 : decode cL_law_ 2727 = .ok (.iconst 1, 1) := by decide +kernel
theorem dL_law__2728 : decode cL_law_ 2728 = .ok (.iadd, 1) := by decide +kernel
theorem dL_law__2729 : decode cL_law_ 2729 = .ok (.iaload, 1) := by decide +kernel
theorem dL_law__2730 : decode cL_law_ 2730 = .ok (.invokevirtual 311, 3) := by decide +kernel
theorem dL_law__2733 : decode cL_law_ 2733 = .ok (.if_icmp .eq 5, 3) := by decide +kernel
theorem dL_law__2736 : decode cL_law_ 2736 = .ok (.iconst 0, 1) := by decide +kernel
theorem dL_law__2737 : decode cL_law_ 2737 = .ok (.ireturn, 1) := by decide +kernel
theorem dL_law__2738 : decode cL_law_ 2738 = .ok (.iinc 4 6, 3) := by decide +kernel
theorem dL_law__2741 : decode cL_law_ 2741 = .ok (.goto (-2718), 3) := by decide +kernel
theorem dL_law__2744 : decode cL_law_ 2744 = .ok (.iconst 1, 1) := by decide +kernel
theorem dL_law__2745 : decode cL_law_ 2745 = .ok (.ireturn, 1) := by decide +kernel
