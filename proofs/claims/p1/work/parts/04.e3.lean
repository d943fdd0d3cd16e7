theorem dL_law_1516 : decode cL_law 1516 = .ok (.invokestatic 236, 3) := by decide +kernel
theorem dL_law_1519 : decode cL_law 1519 = .ok (.istore 5, 2) := by decide +kernel
theorem dL_law_1521 : decode cL_law 1521 = .ok (.aload_n 2, 1) := by decide +kernel
theorem dL_law_1522 : decode cL_law 1522 = .ok (.aload_n 0, 1) := by decide +kernel
theorem dL_law_1523 : decode cL_law 1523 = .ok (.iload 4, 2) := by decide +kernel
theorem dL_law_1525 : decode cL_law 1525 = .ok (.iconst 1, 1) := by decide +kernel
theorem dL_law_1526 : decode cL_law 1526 = .ok (.iadd, 1) := by decide +kernel
theorem dL_law_1527 : decode cL_law 1527 = .ok (.iaload, 1) := by decide +kernel
theorem dL_law_1528 : decode cL_law 1528 = .ok (.invokevirtual 239, 3) := by decide +kernel
theorem dL_law_1531 : decode cL_law 1531 = .ok (.istore 6, 2) := by decide +kernel
theorem dL_law_1533 : decode cL_law 1533 = .ok (.aload_n 2, 1) := by decide +kernel
theorem dL_law_1534 : decode cL_law 1534 = .ok (.invokevirtual 187, 3) := by decide +kernel
theorem dL_law_1537 : decode cL_law 1537 = .ok (.iload 5, 2) := by decide +kernel
theorem dL_law_1539 : decode cL_law 1539 = .ok (.if_icmp .eq 5, 3) := by decide +kernel
theorem dL_law_1542 : decode cL_law 1542 = .ok (.iconst 0, 1) := by decide +kernel
theorem dL_law_1543 : decode cL_law 1543 = .ok (.ireturn, 1) := by decide +kernel
theorem dL_law_1544 : decode cL_law 1544 = .ok (.iload 5, 2) := by decide +kernel
theorem dL_law_1546 : decode cL_law 1546 = .ok (.ifCond .ne 22, 3) := by decide +kernel
theorem dL_law_1549 : decode cL_law 1549 = .ok (.aload_n 3, 1) := by decide +kernel
theorem dL_law_1550 : decode cL_law 1550 = .ok (.iconst 0, 1) := by decide +kernel
theorem dL_law_1551 : decode cL_law 1551 = .ok (.laload, 1) := by decide +kernel
theorem dL_law_1552 : decode cL_law 1552 = .ok (.iload 6, 2) := by decide +kernel
theorem dL_law_1554 : decode cL_law 1554 = .ok (.ifCond .eq 7, 3) := by decide +kernel
theorem dL_law_1557 : decode cL_law 1557 = .ok (.lconst 1, 1) := by decide +kernel
theorem dL_law_1558 : decode cL_law 1558 = .ok (.goto 4, 3) := by decide +kernel
theorem dL_law_1561 : decode cL_law 1561 = .ok (.lconst 0, 1) := by decide +kernel
theorem dL_law_1562 : decode cL_law 1562 = .ok (.lcmp, 1) := by decide +kernel
theorem dL_law_1563 : decode cL_law 1563 = .ok (.ifCond .eq 5, 3) := by decide +kernel
theorem dL_law_1566 : decode cL_law 1566 = .ok (.iconst 0, 1) := by decide +kernel
theorem dL_law_1567 : decode cL_law 1567 = .ok (.ireturn, 1) := by decide +kernel
theorem dL_law_1568 : decode cL_law 1568 = .ok (.goto 2194, 3) := by decide +kernel
theorem dL_law_1571 : decode cL_law 1571 = .ok (.aload_n 1, 1) := by decide +kernel
theorem dL_law_1572 : decode cL_law 1572 = .ok (.aload_n 0, 1) := by decide +kernel
theorem dL_law_1573 : decode cL_law 1573 = .ok (.iload 4, 2) := by decide +kernel
theorem dL_law_1575 : decode cL_law 1575 = .ok (.iconst 1, 1) := by decide +kernel
theorem dL_law_1576 : decode cL_law 1576 = .ok (.iadd, 1) := by decide +kernel
theorem dL_law_1577 : decode cL_law 1577 = .ok (.iaload, 1) := by decide +kernel
theorem dL_law_1578 : decode cL_law 1578 = .ok (.aload_n 3, 1) := by decide +kernel
theorem dL_law_1579 : decode cL_law 1579 = .ok (.invokestatic 240, 3) := by decide +kernel
theorem dL_law_1582 : decode cL_law 1582 = .ok (.istore 5, 2) := by decide +kernel
theorem dL_law_1584 : decode cL_law 1584 = .ok (.aload_n 2, 1) := by decide +kernel
theorem dL_law_1585 : decode cL_law 1585 = .ok (.aload_n 0, 1) := by decide +kernel
theorem dL_law_1586 : decode cL_law 1586 = .ok (.iload 4, 2) := by decide +kernel
theorem dL_law_1588 : decode cL_law 1588 = .ok (.iconst 1, 1) := by decide +kernel
theorem dL_law_1589 : decode cL_law 1589 = .ok (.iadd, 1) := by decide +kernel
theorem dL_law_1590 : decode cL_law 1590 = .ok (.iaload, 1) := by decide +kernel
theorem dL_law_1591 : decode cL_law 1591 = .ok (.invokevirtual 242, 3) := by decide +kernel
theorem dL_law_1594 : decode cL_law 1594 = .ok (.istore 6, 2) := by decide +kernel
theorem dL_law_1596 : decode cL_law 1596 = .ok (.aload_n 2, 1) := by decide +kernel
theorem dL_law_1597 : decode cL_law 1597 = .ok (.invokevirtual 187, 3) := by decide +kernel
theorem dL_law_1600 : decode cL_law 1600 = .ok (.iload 5, 2) := by decide +kernel
theorem dL_law_1602 : decode cL_law 1602 = .ok (.if_icmp .eq 5, 3) := by decide +kernel
theorem dL_law_1605 : decode cL_law 1605 = .ok (.iconst 0, 1) := by decide +kernel
theorem dL_law_1606 : decode cL_law 1606 = .ok (.ireturn, 1) := by decide +kernel
theorem dL_law_1607 : decode cL_law 1607 = .ok (.iload 5, 2) := by decide +kernel
theorem dL_law_1609 : decode cL_law 1609 = .ok (.ifCond .ne 15, 3) := by decide +kernel
theorem dL_law_1612 : decode cL_law 1612 = .ok (.aload_n 3, 1) := by decide +kernel
theorem dL_law_1613 : decode cL_law 1613 = .ok (.iconst 0, 1) := by decide +kernel
theorem dL_law_1614 : decode cL_law 1614 = .ok (.laload, 1) := by decide +kernel
theorem dL_law_1615 : decode cL_law 1615 = .ok (.iload 6, 2) := by decide +kernel
theorem dL_law_1617 : decode cL_law 1617 = .ok (.i2l, 1) := by decide +kernel
theorem dL_law_1618 : decode cL_law 1618 = .ok (.lcmp, 1) := by decide +kernel
theorem dL_law_1619 : decode cL_law 1619 = .ok (.ifCond .eq 5, 3) := by decide +kernel
theorem dL_law_1622 : decode cL_law 1622 = .ok (.iconst 0, 1) := by decide +kernel
theorem dL_law_1623 : decode cL_law 1623 = .ok (.ireturn, 1) := by decide +kernel
theorem dL_law_1624 : decode cL_law 1624 = .ok (.goto 2138, 3) := by decide +kernel
theorem dL_law_1627 : decode cL_law 1627 = .ok (.aload_n 1, 1) := by decide +kernel
theorem dL_law_1628 : decode cL_law 1628 = .ok (.aload_n 0, 1) := by decide +kernel
theorem dL_law_1629 : decode cL_law 1629 = .ok (.iload 4, 2) := by decide +kernel
theorem dL_law_1631 : decode cL_law 1631 = .ok (.iconst 1, 1) := by decide +kernel
theorem dL_law_1632 : decode cL_law 1632 = .ok (.iadd, 1) := by decide +kernel
theorem dL_law_1633 : decode cL_law 1633 = .ok (.iaload, 1) := by decide +kernel
theorem dL_law_1634 : decode cL_law 1634 = .ok (.aload_n 0, 1) := by decide +kernel
theorem dL_law_1635 : decode cL_law 1635 = .ok (.iload 4, 2) := by decide +kernel
theorem dL_law_1637 : decode cL_law 1637 = .ok (.iconst 2, 1) := by decide +kernel
theorem dL_law_1638 : decode cL_law 1638 = .ok (.iadd, 1) := by decide +kernel
theorem dL_law_1639 : decode cL_law 1639 = .ok (.iaload, 1) := by decide +kernel
theorem dL_law_1640 : decode cL_law 1640 = .ok (.aload_n 3, 1) := by decide +kernel
theorem dL_law_1641 : decode cL_law 1641 = .ok (.invokestatic 243, 3) := by decide +kernel
theorem dL_law_1644 : decode cL_law 1644 = .ok (.istore 5, 2) := by decide +kernel
theorem dL_law_1646 : decode cL_law 1646 = .ok (.aload_n 2, 1) := by decide +kernel
theorem dL_law_1647 : decode cL_law 1647 = .ok (.aload_n 0, 1) := by decide +kernel
theorem dL_law_1648 : decode cL_law 1648 = .ok (.iload 4, 2) := by decide +kernel
theorem dL_law_1650 : decode cL_law 1650 = .ok (.iconst 1, 1) := by decide +kernel
theorem dL_law_1651 : decode cL_law 1651 = .ok (.iadd, 1) := by decide +kernel
theorem dL_law_1652 : decode cL_law 1652 = .ok (.iaload, 1) := by decide +kernel
theorem dL_law_1653 : decode cL_law 1653 = .ok (.aload_n 0, 1) := by decide +kernel
theorem dL_law_1654 : decode cL_law 1654 = .ok (.iload 4, 2) := by decide +kernel
theorem dL_law_1656 : decode cL_law 1656 = .ok (.iconst 2, 1) := by decide +kernel
theorem dL_law_1657 : decode cL_law 1657 = .ok (.iadd, 1) := by decide +kernel
theorem dL_law_1658 : decode cL_law 1658 = .ok (.iaload, 1) := by decide +kernel
theorem dL_law_1659 : decode cL_law 1659 = .ok (.invokevirtual 245, 3) := by decide +kernel
theorem dL_law_1662 : decode cL_law 1662 = .ok (.istore 6, 2) := by decide +kernel
theorem dL_law_1664 : decode cL_law 1664 = .ok (.aload_n 2, 1) := by decide +kernel
theorem dL_law_1665 : decode cL_law 1665 = .ok (.invokevirtual 187, 3) := by decide +kernel
theorem dL_law_1668 : decode cL_law 1668 = .ok (.iload 5, 2) := by decide +kernel
theorem dL_law_1670 : decode cL_law 1670 = .ok (.if_icmp .eq 5, 3) := by decide +kernel
theorem dL_law_1673 : decode cL_law 1673 = .ok (.iconst 0, 1) := by decide +kernel
theorem dL_law_1674 : decode cL_law 1674 = .ok (.ireturn, 1) := by decide +kernel
theorem dL_law_1675 : decode cL_law 1675 = .ok (.iload 5, 2) := by decide +kernel
theorem dL_law_1677 : decode cL_law 1677 = .ok (.ifCond .ne 15, 3) := by decide +kernel
theorem dL_law_1680 : decode cL_law 1680 = .ok (.aload_n 3, 1) := by decide +kernel
theorem dL_law_1681 : decode cL_law 1681 = .ok (.iconst 0, 1) := by decide +kernel
theorem dL_law_1682 : decode cL_law 1682 = .ok (.laload, 1) := by decide +kernel
theorem dL_law_1683 : decode cL_law 1683 = .ok (.iload 6, 2) := by decide +kernel
theorem dL_law_1685 : decode cL_law 1685 = .ok (.i2l, 1) := by decide +kernel
theorem dL_law_1686 : decode cL_law 1686 = .ok (.lcmp, 1) := by decide +kernel
theorem dL_law_1687 : decode cL_law 1687 = .ok (.ifCond .eq 5, 3) := by decide +kernel
theorem dL_law_1690 : decode cL_law 1690 = .ok (.iconst 0, 1) := by decide +kernel
theorem dL_law_1691 : decode cL_law 1691 = .ok (.ireturn, 1) := by decide +kernel
theorem dL_law_1692 : decode cL_law 1692 = .ok (.goto 2070, 3) := by decide +kernel
theorem dL_law_1695 : decode cL_law 1695 = .ok (.aload_n 1, 1) := by decide +kernel
theorem dL_law_1696 : decode cL_law 1696 = .ok (.aload_n 3, 1) := by decide +kernel
theorem dL_law_1697 : decode cL_law 1697 = .ok (.invokestatic 246, 3) := by decide +kernel
theorem dL_law_1700 : decode cL_law 1700 = .ok (.istore 5, 2) := by decide +kernel
theorem dL_law_1702 : decode cL_law 1702 = .ok (.aload_n 2, 1) := by decide +kernel
theorem dL_law_1703 : decode cL_law 1703 = .ok (.invokevirtual 249, 3) := by decide +kernel
theorem dL_law_1706 : decode cL_law 1706 = .ok (.istore 6, 2) := by decide +kernel
theorem dL_law_1708 : decode cL_law 1708 = .ok (.aload_n 2, 1) := by decide +kernel
theorem dL_law_1709 : decode cL_law 1709 = .ok (.invokevirtual 187, 3) := by decide +kernel
theorem dL_law_1712 : decode cL_law 1712 = .ok (.iload 5, 2) := by decide +kernel
theorem dL_law_1714 : decode cL_law 1714 = .ok (.if_icmp .eq 5, 3) := by decide +kernel
theorem dL_law_1717 : decode cL_law 1717 = .ok (.iconst 0, 1) := by decide +kernel
theorem dL_law_1718 : decode cL_law 1718 = .ok (.ireturn, 1) := by decide +kernel
theorem dL_law_1719 : decode cL_law 1719 = .ok (.iload 5, 2) := by decide +kernel
theorem dL_law_1721 : decode cL_law 1721 = .ok (.ifCond .ne 15, 3) := by decide +kernel
theorem dL_law_1724 : decode cL_law 1724 = .ok (.aload_n 3, 1) := by decide +kernel
theorem dL_law_1725 : decode cL_law 1725 = .ok (.iconst 0, 1) := by decide +kernel
theorem dL_law_1726 : decode cL_law 1726 = .ok (.laload, 1) := by decide +kernel
theorem dL_law_1727 : decode cL_law 1727 = .ok (.iload 6, 2) := by decide +kernel
theorem dL_law_1729 : decode cL_law 1729 = .ok (.i2l, 1) := by decide +kernel
theorem dL_law_1730 : decode cL_law 1730 = .ok (.lcmp, 1) := by decide +kernel
theorem dL_law_1731 : decode cL_law 1731 = .ok (.ifCond .eq 5, 3) := by decide +kernel
theorem dL_law_1734 : decode cL_law 1734 = .ok (.iconst 0, 1) := by decide +kernel
theorem dL_law_1735 : decode cL_law 1735 = .ok (.ireturn, 1) := by decide +kernel
theorem dL_law_1736 : decode cL_law 1736 = .ok (.goto 2026, 3) := by decide +kernel
theorem dL_law_1739 : decode cL_law 1739 = .ok (.aload_n 1, 1) := by decide +kernel
theorem dL_law_1740 : decode cL_law 1740 = .ok (.aload_n 3, 1) := by decide +kernel
theorem dL_law_1741 : decode cL_law 1741 = .ok (.invokestatic 250, 3) := by decide +kernel
theorem dL_law_1744 : decode cL_law 1744 = .ok (.istore 5, 2) := by decide +kernel
theorem dL_law_1746 : decode cL_law 1746 = .ok (.aload_n 2, 1) := by decide +kernel
theorem dL_law_1747 : decode cL_law 1747 = .ok (.invokevirtual 252, 3) := by decide +kernel
theorem dL_law_1750 : decode cL_law 1750 = .ok (.istore 6, 2) := by decide +kernel
theorem dL_law_1752 : decode cL_law 1752 = .ok (.aload_n 2, 1) := by decide +kernel
theorem dL_law_1753 : decode cL_law 1753 = .ok (.invokevirtual 187, 3) := by decide +kernel
theorem dL_law_1756 : decode cL_law 1756 = .ok (.iload 5, 2) := by decide +kernel
theorem dL_law_1758 : decode cL_law 1758 = .ok (.if_icmp .eq 5, 3) := by decide +kernel
theorem dL_law_1761 : decode cL_law 1761 = .ok (.iconst 0, 1) := by decide +kernel
theorem dL_law_1762 : decode cL_law 1762 = .ok (.ireturn, 1) := by decide +kernel
theorem dL_law_1763 : decode cL_law 1763 = .ok (.iload 5, 2) := by decide +kernel
theorem dL_law_1765 : decode cL_law 1765 = .ok (.ifCond .ne 15, 3) := by decide +kernel
theorem dL_law_1768 : decode cL_law 1768 = .ok (.aload_n 3, 1) := by decide +kernel
theorem dL_law_1769 : decode cL_law 1769 = .ok (.iconst 0, 1) := by decide +kernel
theorem dL_law_1770 : decode cL_law 1770 = .ok (.laload, 1) := by decide +kernel
theorem dL_law_1771 : decode cL_law 1771 = .ok (.iload 6, 2) := by decide +kernel
theorem dL_law_1773 : decode cL_law 1773 = .ok (.i2l, 1) := by decide +kernel
theorem dL_law_1774 : decode cL_law 1774 = .ok (.lcmp, 1) := by decide +kernel
theorem dL_law_1775 : decode cL_law 1775 = .ok (.ifCond .eq 5, 3) := by decide +kernel
theorem dL_law_1778 : decode cL_law 1778 = .ok (.iconst 0, 1) := by decide +kernel
theorem dL_law_1779 : decode cL_law 1779 = .ok (.ireturn, 1) := by decide +kernel
theorem dL_law_1780 : decode cL_law 1780 = .ok (.goto 1982, 3) := by decide +kernel
theorem dL_law_1783 : decode cL_law 1783 = .ok (.aload_n 1, 1) := by decide +kernel
theorem dL_law_1784 : decode cL_law 1784 = .ok (.invokevirtual 253, 3) := by decide +kernel
theorem dL_law_1787 : decode cL_law 1787 = .ok (.aload_n 2, 1) := by decide +kernel
theorem dL_law_1788 : decode cL_law 1788 = .ok (.invokevirtual 256, 3) := by decide +kernel
theorem dL_law_1791 : decode cL_law 1791 = .ok (.if_icmp .eq 1971, 3) := by decide +kernel
theorem dL_law_1794 : decode cL_law 1794 = .ok (.iconst 0, 1) := by decide +kernel
theorem dL_law_1795 : decode cL_law 1795 = .ok (.ireturn, 1) := by decide +kernel
theorem dL_law_1796 : decode cL_law 1796 = .ok (.aload_n 1, 1) := by decide +kernel
theorem dL_law_1797 : decode cL_law 1797 = .ok (.aload_n 0, 1) := by decide +kernel
theorem dL_law_1798 : decode cL_law 1798 = .ok (.iload 4, 2) := by decide +kernel
theorem dL_law_1800 : decode cL_law 1800 = .ok (.iconst 1, 1) := by decide +kernel
theorem dL_law_1801 : decode cL_law 1801 = .ok (.iadd, 1) := by decide +kernel
theorem dL_law_1802 : decode cL_law 1802 = .ok (.iaload, 1) := by decide +kernel
theorem dL_law_1803 : decode cL_law 1803 = .ok (.aload_n 0, 1) := by decide +kernel
theorem dL_law_1804 : decode cL_law 1804 = .ok (.iload 4, 2) := by decide +kernel
theorem dL_law_1806 : decode cL_law 1806 = .ok (.iconst 2, 1) := by decide +kernel
theorem dL_law_1807 : decode cL_law 1807 = .ok (.iadd, 1) := by decide +kernel
theorem dL_law_1808 : decode cL_law 1808 = .ok (.iaload, 1) := by decide +kernel
theorem dL_law_1809 : decode cL_law 1809 = .ok (.ifCond .eq 7, 3) := by decide +kernel
theorem dL_law_1812 : decode cL_law 1812 = .ok (.iconst 1, 1) := by decide +kernel
theorem dL_law_1813 : decode cL_law 1813 = .ok (.goto 4, 3) := by decide +kernel
theorem dL_law_1816 : decode cL_law 1816 = .ok (.iconst 0, 1) := by decide +kernel
theorem dL_law_1817 : decode cL_law 1817 = .ok (.aload_n 3, 1) := by decide +kernel
theorem dL_law_1818 : decode cL_law 1818 = .ok (.invokestatic 257, 3) := by decide +kernel
theorem dL_law_1821 : decode cL_law 1821 = .ok (.istore 5, 2) := by decide +kernel
theorem dL_law_1823 : decode cL_law 1823 = .ok (.aload_n 2, 1) := by decide +kernel
theorem dL_law_1824 : decode cL_law 1824 = .ok (.aload_n 0, 1) := by decide +kernel
theorem dL_law_1825 : decode cL_law 1825 = .ok (.iload 4, 2) := by decide +kernel
theorem dL_law_1827 : decode cL_law 1827 = .ok (.iconst 1, 1) := by decide +kernel
theorem dL_law_1828 : decode cL_law 1828 = .ok (.iadd, 1) := by decide +kernel
theorem dL_law_1829 : decode cL_law 1829 = .ok (.iaload, 1) := by decide +kernel
theorem dL_law_1830 : decode cL_law 1830 = .ok (.aload_n 0, 1) := by decide +kernel
theorem dL_law_1831 : decode cL_law 1831 = .ok (.iload 4, 2) := by decide +kernel
theorem dL_law_1833 : decode cL_law 1833 = .ok (.iconst 2, 1) := by decide +kernel
theorem dL_law_1834 : decode cL_law 1834 = .ok (.iadd, 1) := by decide +kernel
theorem dL_law_1835 : decode cL_law 1835 = .ok (.iaload, 1) := by decide +kernel
theorem dL_law_1836 : decode cL_law 1836 = .ok (.ifCond .eq 7, 3) := by decide +kernel
theorem dL_law_1839 : decode cL_law 1839 = .ok (.iconst 1, 1) := by decide +kernel
theorem dL_law_1840 : decode cL_law 1840 = .ok (.goto 4, 3) := by decide +kernel
theorem dL_law_1843 : decode cL_law 1843 = .ok (.iconst 0, 1) := by decide +kernel
theorem dL_law_1844 : decode cL_law 1844 = .ok (.invokevirtual 259, 3) := by decide +kernel
theorem dL_law_1847 : decode cL_law 1847 = .ok (.istore 6, 2) := by decide +kernel
theorem dL_law_1849 : decode cL_law 1849 = .ok (.aload_n 2, 1) := by decide +kernel
theorem dL_law_1850 : decode cL_law 1850 = .ok (.invokevirtual 187, 3) := by decide +kernel
theorem dL_law_1853 : decode cL_law 1853 = .ok (.iload 5, 2) := by decide +kernel
theorem dL_law_1855 : decode cL_law 1855 = .ok (.if_icmp .eq 5, 3) := by decide +kernel
theorem dL_law_1858 : decode cL_law 1858 = .ok (.iconst 0, 1) := by decide +kernel
theorem dL_law_1859 : decode cL_law 1859 = .ok (.ireturn, 1) := by decide +kernel
theorem dL_law_1860 : decode cL_law 1860 = .ok (.iload 5, 2) := by decide +kernel
theorem dL_law_1862 : decode cL_law 1862 = .ok (.ifCond .ne 15, 3) := by decide +kernel
theorem dL_law_1865 : decode cL_law 1865 = .ok (.aload_n 3, 1) := by decide +kernel
theorem dL_law_1866 : decode cL_law 1866 = .ok (.iconst 0, 1) := by decide +kernel
theorem dL_law_1867 : decode cL_law 1867 = .ok (.laload, 1) := by decide +kernel
theorem dL_law_1868 : decode cL_law 1868 = .ok (.iload 6, 2) := by decide +kernel
theorem dL_law_1870 : decode cL_law 1870 = .ok (.i2l, 1) := by decide +kernel
theorem dL_law_1871 : decode cL_law 1871 = .ok (.lcmp, 1) := by decide +kernel
theorem dL_law_1872 : decode cL_law 1872 = .ok (.ifCond .eq 5, 3) := by decide +kernel
theorem dL_law_1875 : decode cL_law 1875 = .ok (.iconst 0, 1) := by decide +kernel
theorem dL_law_1876 : decode cL_law 1876 = .ok (.ireturn, 1) := by decide +kernel
theorem dL_law_1877 : decode cL_law 1877 = .ok (.goto 1885, 3) := by decide +kernel
theorem dL_law_1880 : decode cL_law 1880 = .ok (.aload_n 1, 1) := by decide +kernel
theorem dL_law_1881 : decode cL_law 1881 = .ok (.aload_n 3, 1) := by decide +kernel
theorem dL_law_1882 : decode cL_law 1882 = .ok (.invokestatic 260, 3) := by decide +kernel
theorem dL_law_1885 : decode cL_law 1885 = .ok (.istore 5, 2) := by decide +kernel
theorem dL_law_1887 : decode cL_law 1887 = .ok (.aload_n 2, 1) := by decide +kernel
theorem dL_law_1888 : decode cL_law 1888 = .ok (.invokevirtual 262, 3) := by decide +kernel
theorem dL_law_1891 : decode cL_law 1891 = .ok (.istore 6, 2) := by decide +kernel
theorem dL_law_1893 : decode cL_law 1893 = .ok (.aload_n 2, 1) := by decide +kernel
theorem dL_law_1894 : decode cL_law 1894 = .ok (.invokevirtual 187, 3) := by decide +kernel
theorem dL_law_1897 : decode cL_law 1897 = .ok (.iload 5, 2) := by decide +kernel
theorem dL_law_1899 : decode cL_law 1899 = .ok (.if_icmp .eq 5, 3) := by decide +kernel
theorem dL_law_1902 : decode cL_law 1902 = .ok (.iconst 0, 1) := by decide +kernel
theorem dL_law_1903 : decode cL_law 1903 = .ok (.ireturn, 1) := by decide +kernel
theorem dL_law_1904 : decode cL_law 1904 = .ok (.iload 5, 2) := by decide +kernel
theorem dL_law_1906 : decode cL_law 1906 = .ok (.ifCond .ne 22, 3) := by decide +kernel
theorem dL_law_1909 : decode cL_law 1909 = .ok (.aload_n 3, 1) := by decide +kernel
theorem dL_law_1910 : decode cL_law 1910 = .ok (.iconst 0, 1) := by decide +kernel
theorem dL_law_1911 : decode cL_law 1911 = .ok (.laload, 1) := by decide +kernel
theorem dL_law_1912 : decode cL_law 1912 = .ok (.iload 6, 2) := by decide +kernel
theorem dL_law_1914 : decode cL_law 1914 = .ok (.ifCond .eq 7, 3) := by decide +kernel
theorem dL_law_1917 : decode cL_law 1917 = .ok (.lconst 1, 1) := by decide +kernel
theorem dL_law_1918 : decode cL_law 1918 = .ok (.goto 4, 3) := by decide +kernel
theorem dL_law_1921 : decode cL_law 1921 = .ok (.lconst 0, 1) := by decide +kernel
theorem dL_law_1922 : decode cL_law 1922 = .ok (.lcmp, 1) := by decide +kernel
theorem dL_law_1923 : decode cL_law 1923 = .ok (.ifCond .eq 5, 3) := by decide +kernel
theorem dL_law_1926 : decode cL_law 1926 = .ok (.iconst 0, 1) := by decide +kernel
theorem dL_law_1927 : decode cL_law 1927 = .ok (.ireturn, 1) := by decide +kernel
theorem dL_law_1928 : decode cL_law 1928 = .ok (.goto 1834, 3) := by decide +kernel
theorem dL_law_1931 : decode cL_law 1931 = .ok (.aload_n 1, 1) := by decide +kernel
theorem dL_law_1932 : decode cL_law 1932 = .ok (.aload_n 0, 1) := by decide +kernel
theorem dL_law_1933 : decode cL_law 1933 = .ok (.iload 4, 2) := by decide +kernel
theorem dL_law_1935 : decode cL_law 1935 = .ok (.iconst 1, 1) := by decide +kernel
theorem dL_law_1936 : decode cL_law 1936 = .ok (.iadd, 1) := by decide +kernel
theorem dL_law_1937 : decode cL_law 1937 = .ok (.iaload, 1) := by decide +kernel
theorem dL_law_1938 : decode cL_law 1938 = .ok (.aload_n 0, 1) := by decide +kernel
theorem dL_law_1939 : decode cL_law 1939 = .ok (.iload 4, 2) := by decide +kernel
theorem dL_law_1941 : decode cL_law 1941 = .ok (.iconst 2, 1) := by decide +kernel
theorem dL_law_1942 : decode cL_law 1942 = .ok (.iadd, 1) := by decide +kernel
theorem dL_law_1943 : decode cL_law 1943 = .ok (.iaload, 1) := by decide +kernel
theorem dL_law_1944 : decode cL_law 1944 = .ok (.aload_n 3, 1) := by decide +kernel
theorem dL_law_1945 : decode cL_law 1945 = .ok (.invokestatic 263, 3) := by decide +kernel
theorem dL_law_1948 : decode cL_law 1948 = .ok (.istore 5, 2) := by decide +kernel
theorem dL_law_1950 : decode cL_law 1950 = .ok (.aload_n 2, 1) := by decide +kernel
theorem dL_law_1951 : decode cL_law 1951 = .ok (.aload_n 0, 1) := by decide +kernel
theorem dL_law_1952 : decode cL_law 1952 = .ok (.iload 4, 2) := by decide +kernel
theorem dL_law_1954 : decode cL_law 1954 = .ok (.iconst 1, 1) := by decide +kernel
theorem dL_law_1955 : decode cL_law 1955 = .ok (.iadd, 1) := by decide +kernel
theorem dL_law_1956 : decode cL_law 1956 = .ok (.iaload, 1) := by decide +kernel
theorem dL_law_1957 : decode cL_law 1957 = .ok (.aload_n 0, 1) := by decide +kernel
theorem dL_law_1958 : decode cL_law 1958 = .ok (.iload 4, 2) := by decide +kernel
theorem dL_law_1960 : decode cL_law 1960 = .ok (.iconst 2, 1) := by decide +kernel
theorem dL_law_1961 : decode cL_law 1961 = .ok (.iadd, 1) := by decide +kernel
theorem dL_law_1962 : decode cL_law 1962 = .ok (.iaload, 1) := by decide +kernel
theorem dL_law_1963 : decode cL_law 1963 = .ok (.invokevirtual 265, 3) := by decide +kernel
theorem dL_law_1966 : decode cL_law 1966 = .ok (.istore 6, 2) := by decide +kernel
theorem dL_law_1968 : decode cL_law 1968 = .ok (.aload_n 2, 1) := by decide +kernel
theorem dL_law_1969 : decode cL_law 1969 = .ok (.invokevirtual 187, 3) := by decide +kernel
theorem dL_law_1972 : decode cL_law 1972 = .ok (.iload 5, 2) := by decide +kernel
theorem dL_law_1974 : decode cL_law 1974 = .ok (.if_icmp .eq 5, 3) := by decide +kernel
theorem dL_law_1977 : decode cL_law 1977 = .ok (.iconst 0, 1) := by decide +kernel
theorem dL_law_1978 : decode cL_law 1978 = .ok (.ireturn, 1) := by decide +kernel
theorem dL_law_1979 : decode cL_law 1979 = .ok (.iload 5, 2) := by decide +kernel
theorem dL_law_1981 : decode cL_law 1981 = .ok (.ifCond .ne 15, 3) := by decide +kernel
theorem dL_law_1984 : decode cL_law 1984 = .ok (.aload_n 3, 1) := by decide +kernel
theorem dL_law_1985 : decode cL_law 1985 = .ok (.iconst 0, 1) := by decide +kernel
theorem dL_law_1986 : decode cL_law 1986 = .ok (.laload, 1) := by decide +kernel
theorem dL_law_1987 : decode cL_law 1987 = .ok (.iload 6, 2) := by decide +kernel
theorem dL_law_1989 : decode cL_law 1989 = .ok (.i2l, 1) := by decide +kernel
theorem dL_law_1990 : decode cL_law 1990 = .ok (.lcmp, 1) := by decide +kernel
theorem dL_law_1991 : decode cL_law 1991 = .ok (.ifCond .eq 5, 3) := by decide +kernel
