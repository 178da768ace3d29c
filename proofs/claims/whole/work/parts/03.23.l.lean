theorem dL_law_1559 : decode cL_law 1559 = .ok (.ifCond .eq 5, 3) := by decide +kernel
theorem dL_law_1562 : decode cL_law 1562 = .ok (.iconst 0, 1) := by decide +kernel
theorem dL_law_1563 : decode cL_law 1563 = .ok (.ireturn, 1) := by decide +kernel
theorem dL_law_1564 : decode cL_law 1564 = .ok (.goto 1423, 3) := by decide +kernel
theorem dL_law_1567 : decode cL_law 1567 = .ok (.aload_n 1, 1) := by decide +kernel
theorem dL_law_1568 : decode cL_law 1568 = .ok (.aload_n 0, 1) := by decide +kernel
theorem dL_law_1569 : decode cL_law 1569 = .ok (.iload 4, 2) := by decide +kernel
theorem dL_law_1571 : decode cL_law 1571 = .ok (.iconst 1, 1) := by decide +kernel
theorem dL_law_1572 : decode cL_law 1572 = .ok (.iadd, 1) := by decide +kernel
theorem dL_law_1573 : decode cL_law 1573 = .ok (.iaload, 1) := by decide +kernel
theorem dL_law_1574 : decode cL_law 1574 = .ok (.aload_n 0, 1) := by decide +kernel
theorem dL_law_1575 : decode cL_law 1575 = .ok (.iload 4, 2) := by decide +kernel
theorem dL_law_1577 : decode cL_law 1577 = .ok (.iconst 2, 1) := by decide +kernel
theorem dL_law_1578 : decode cL_law 1578 = .ok (.iadd, 1) := by decide +kernel
theorem dL_law_1579 : decode cL_law 1579 = .ok (.iaload, 1) := by decide +kernel
theorem dL_law_1580 : decode cL_law 1580 = .ok (.aload_n 0, 1) := by decide +kernel
theorem dL_law_1581 : decode cL_law 1581 = .ok (.iload 4, 2) := by decide +kernel
theorem dL_law_1583 : decode cL_law 1583 = .ok (.iconst 3, 1) := by decide +kernel
theorem dL_law_1584 : decode cL_law 1584 = .ok (.iadd, 1) := by decide +kernel
theorem dL_law_1585 : decode cL_law 1585 = .ok (.iaload, 1) := by decide +kernel
theorem dL_law_1586 : decode cL_law 1586 = .ok (.aload_n 0, 1) := by decide +kernel
theorem dL_law_1587 : decode cL_law 1587 = .ok (.iload 4, 2) := by decide +kernel
theorem dL_law_1589 : decode cL_law 1589 = .ok (.iconst 4, 1) := by decide +kernel
theorem dL_law_1590 : decode cL_law 1590 = .ok (.iadd, 1) := by decide +kernel
theorem dL_law_1591 : decode cL_law 1591 = .ok (.iaload, 1) := by decide +kernel
theorem dL_law_1592 : decode cL_law 1592 = .ok (.aload_n 0, 1) := by decide +kernel
theorem dL_law_1593 : decode cL_law 1593 = .ok (.iload 4, 2) := by decide +kernel
theorem dL_law_1595 : decode cL_law 1595 = .ok (.iconst 5, 1) := by decide +kernel
theorem dL_law_1596 : decode cL_law 1596 = .ok (.iadd, 1) := by decide +kernel
theorem dL_law_1597 : decode cL_law 1597 = .ok (.iaload, 1) := by decide +kernel
theorem dL_law_1598 : decode cL_law 1598 = .ok (.aload_n 3, 1) := by decide +kernel
theorem dL_law_1599 : decode cL_law 1599 = .ok (.invokestatic 221, 3) := by decide +kernel
theorem dL_law_1602 : decode cL_law 1602 = .ok (.istore 5, 2) := by decide +kernel
theorem dL_law_1604 : decode cL_law 1604 = .ok (.aload_n 2, 1) := by decide +kernel
theorem dL_law_1605 : decode cL_law 1605 = .ok (.aload_n 0, 1) := by decide +kernel
theorem dL_law_1606 : decode cL_law 1606 = .ok (.iload 4, 2) := by decide +kernel
theorem dL_law_1608 : decode cL_law 1608 = .ok (.iconst 1, 1) := by decide +kernel
theorem dL_law_1609 : decode cL_law 1609 = .ok (.iadd, 1) := by decide +kernel
theorem dL_law_1610 : decode cL_law 1610 = .ok (.iaload, 1) := by decide +kernel
theorem dL_law_1611 : decode cL_law 1611 = .ok (.aload_n 0, 1) := by decide +kernel
theorem dL_law_1612 : decode cL_law 1612 = .ok (.iload 4, 2) := by decide +kernel
theorem dL_law_1614 : decode cL_law 1614 = .ok (.iconst 2, 1) := by decide +kernel
theorem dL_law_1615 : decode cL_law 1615 = .ok (.iadd, 1) := by decide +kernel
theorem dL_law_1616 : decode cL_law 1616 = .ok (.iaload, 1) := by decide +kernel
theorem dL_law_1617 : decode cL_law 1617 = .ok (.aload_n 0, 1) := by decide +kernel
theorem dL_law_1618 : decode cL_law 1618 = .ok (.iload 4, 2) := by decide +kernel
theorem dL_law_1620 : decode cL_law 1620 = .ok (.iconst 3, 1) := by decide +kernel
theorem dL_law_1621 : decode cL_law 1621 = .ok (.iadd, 1) := by decide +kernel
theorem dL_law_1622 : decode cL_law 1622 = .ok (.iaload, 1) := by decide +kernel
theorem dL_law_1623 : decode cL_law 1623 = .ok (.aload_n 0, 1) := by decide +kernel
theorem dL_law_1624 : decode cL_law 1624 = .ok (.iload 4, 2) := by decide +kernel
theorem dL_law_1626 : decode cL_law 1626 = .ok (.iconst 4, 1) := by decide +kernel
theorem dL_law_1627 : decode cL_law 1627 = .ok (.iadd, 1) := by decide +kernel
theorem dL_law_1628 : decode cL_law 1628 = .ok (.iaload, 1) := by decide +kernel
theorem dL_law_1629 : decode cL_law 1629 = .ok (.aload_n 0, 1) := by decide +kernel
theorem dL_law_1630 : decode cL_law 1630 = .ok (.iload 4, 2) := by decide +kernel
theorem dL_law_1632 : decode cL_law 1632 = .ok (.iconst 5, 1) := by decide +kernel
theorem dL_law_1633 : decode cL_law 1633 = .ok (.iadd, 1) := by decide +kernel
theorem dL_law_1634 : decode cL_law 1634 = .ok (.iaload, 1) := by decide +kernel
theorem dL_law_1635 : decode cL_law 1635 = .ok (.invokevirtual 224, 3) := by decide +kernel
theorem dL_law_1638 : decode cL_law 1638 = .ok (.istore 6, 2) := by decide +kernel
theorem dL_law_1640 : decode cL_law 1640 = .ok (.aload_n 2, 1) := by decide +kernel
theorem dL_law_1641 : decode cL_law 1641 = .ok (.invokevirtual 155, 3) := by decide +kernel
theorem dL_law_1644 : decode cL_law 1644 = .ok (.iload 5, 2) := by decide +kernel
theorem dL_law_1646 : decode cL_law 1646 = .ok (.if_icmp .eq 5, 3) := by decide +kernel
theorem dL_law_1649 : decode cL_law 1649 = .ok (.iconst 0, 1) := by decide +kernel
theorem dL_law_1650 : decode cL_law 1650 = .ok (.ireturn, 1) := by decide +kernel
theorem dL_law_1651 : decode cL_law 1651 = .ok (.iload 5, 2) := by decide +kernel
theorem dL_law_1653 : decode cL_law 1653 = .ok (.ifCond .ne 15, 3) := by decide +kernel
theorem dL_law_1656 : decode cL_law 1656 = .ok (.aload_n 3, 1) := by decide +kernel
theorem dL_law_1657 : decode cL_law 1657 = .ok (.iconst 0, 1) := by decide +kernel
theorem dL_law_1658 : decode cL_law 1658 = .ok (.laload, 1) := by decide +kernel
theorem dL_law_1659 : decode cL_law 1659 = .ok (.iload 6, 2) := by decide +kernel
theorem dL_law_1661 : decode cL_law 1661 = .ok (.i2l, 1) := by decide +kernel
theorem dL_law_1662 : decode cL_law 1662 = .ok (.lcmp, 1) := by decide +kernel
theorem dL_law_1663 : decode cL_law 1663 = .ok (.ifCond .eq 5, 3) := by decide +kernel
theorem dL_law_1666 : decode cL_law 1666 = .ok (.iconst 0, 1) := by decide +kernel
theorem dL_law_1667 : decode cL_law 1667 = .ok (.ireturn, 1) := by decide +kernel
theorem dL_law_1668 : decode cL_law 1668 = .ok (.goto 1319, 3) := by decide +kernel
theorem dL_law_1671 : decode cL_law 1671 = .ok (.aload_n 1, 1) := by decide +kernel
theorem dL_law_1672 : decode cL_law 1672 = .ok (.invokevirtual 225, 3) := by decide +kernel
theorem dL_law_1675 : decode cL_law 1675 = .ok (.aload_n 2, 1) := by decide +kernel
theorem dL_law_1676 : decode cL_law 1676 = .ok (.invokevirtual 228, 3) := by decide +kernel
theorem dL_law_1679 : decode cL_law 1679 = .ok (.if_icmp .eq 1308, 3) := by decide +kernel
theorem dL_law_1682 : decode cL_law 1682 = .ok (.iconst 0, 1) := by decide +kernel
theorem dL_law_1683 : decode cL_law 1683 = .ok (.ireturn, 1) := by decide +kernel
theorem dL_law_1684 : decode cL_law 1684 = .ok (.aload_n 1, 1) := by decide +kernel
theorem dL_law_1685 : decode cL_law 1685 = .ok (.aload_n 0, 1) := by decide +kernel
theorem dL_law_1686 : decode cL_law 1686 = .ok (.iload 4, 2) := by decide +kernel
theorem dL_law_1688 : decode cL_law 1688 = .ok (.iconst 1, 1) := by decide +kernel
theorem dL_law_1689 : decode cL_law 1689 = .ok (.iadd, 1) := by decide +kernel
theorem dL_law_1690 : decode cL_law 1690 = .ok (.iaload, 1) := by decide +kernel
theorem dL_law_1691 : decode cL_law 1691 = .ok (.aload_n 3, 1) := by decide +kernel
theorem dL_law_1692 : decode cL_law 1692 = .ok (.invokestatic 229, 3) := by decide +kernel
theorem dL_law_1695 : decode cL_law 1695 = .ok (.istore 5, 2) := by decide +kernel
theorem dL_law_1697 : decode cL_law 1697 = .ok (.aload_n 2, 1) := by decide +kernel
theorem dL_law_1698 : decode cL_law 1698 = .ok (.aload_n 0, 1) := by decide +kernel
theorem dL_law_1699 : decode cL_law 1699 = .ok (.iload 4, 2) := by decide +kernel
theorem dL_law_1701 : decode cL_law 1701 = .ok (.iconst 1, 1) := by decide +kernel
theorem dL_law_1702 : decode cL_law 1702 = .ok (.iadd, 1) := by decide +kernel
theorem dL_law_1703 : decode cL_law 1703 = .ok (.iaload, 1) := by decide +kernel
theorem dL_law_1704 : decode cL_law 1704 = .ok (.invokevirtual 231, 3) := by decide +kernel
theorem dL_law_1707 : decode cL_law 1707 = .ok (.istore 6, 2) := by decide +kernel
theorem dL_law_1709 : decode cL_law 1709 = .ok (.aload_n 2, 1) := by decide +kernel
theorem dL_law_1710 : decode cL_law 1710 = .ok (.invokevirtual 155, 3) := by decide +kernel
theorem dL_law_1713 : decode cL_law 1713 = .ok (.iload 5, 2) := by decide +kernel
theorem dL_law_1715 : decode cL_law 1715 = .ok (.if_icmp .eq 5, 3) := by decide +kernel
theorem dL_law_1718 : decode cL_law 1718 = .ok (.iconst 0, 1) := by decide +kernel
theorem dL_law_1719 : decode cL_law 1719 = .ok (.ireturn, 1) := by decide +kernel
theorem dL_law_1720 : decode cL_law 1720 = .ok (.iload 5, 2) := by decide +kernel
theorem dL_law_1722 : decode cL_law 1722 = .ok (.ifCond .ne 15, 3) := by decide +kernel
theorem dL_law_1725 : decode cL_law 1725 = .ok (.aload_n 3, 1) := by decide +kernel
theorem dL_law_1726 : decode cL_law 1726 = .ok (.iconst 0, 1) := by decide +kernel
theorem dL_law_1727 : decode cL_law 1727 = .ok (.laload, 1) := by decide +kernel
theorem dL_law_1728 : decode cL_law 1728 = .ok (.iload 6, 2) := by decide +kernel
theorem dL_law_1730 : decode cL_law 1730 = .ok (.i2l, 1) := by decide +kernel
theorem dL_law_1731 : decode cL_law 1731 = .ok (.lcmp, 1) := by decide +kernel
theorem dL_law_1732 : decode cL_law 1732 = .ok (.ifCond .eq 5, 3) := by decide +kernel
theorem dL_law_1735 : decode cL_law 1735 = .ok (.iconst 0, 1) := by decide +kernel
theorem dL_law_1736 : decode cL_law 1736 = .ok (.ireturn, 1) := by decide +kernel
theorem dL_law_1737 : decode cL_law 1737 = .ok (.goto 1250, 3) := by decide +kernel
theorem dL_law_1740 : decode cL_law 1740 = .ok (.aload_n 1, 1) := by decide +kernel
theorem dL_law_1741 : decode cL_law 1741 = .ok (.invokevirtual 232, 3) := by decide +kernel
theorem dL_law_1744 : decode cL_law 1744 = .ok (.aload_n 2, 1) := by decide +kernel
theorem dL_law_1745 : decode cL_law 1745 = .ok (.invokevirtual 235, 3) := by decide +kernel
theorem dL_law_1748 : decode cL_law 1748 = .ok (.if_icmp .eq 1239, 3) := by decide +kernel
theorem dL_law_1751 : decode cL_law 1751 = .ok (.iconst 0, 1) := by decide +kernel
theorem dL_law_1752 : decode cL_law 1752 = .ok (.ireturn, 1) := by decide +kernel
theorem dL_law_1753 : decode cL_law 1753 = .ok (.aload_n 1, 1) := by decide +kernel
theorem dL_law_1754 : decode cL_law 1754 = .ok (.aload_n 0, 1) := by decide +kernel
theorem dL_law_1755 : decode cL_law 1755 = .ok (.iload 4, 2) := by decide +kernel
theorem dL_law_1757 : decode cL_law 1757 = .ok (.iconst 1, 1) := by decide +kernel
theorem dL_law_1758 : decode cL_law 1758 = .ok (.iadd, 1) := by decide +kernel
theorem dL_law_1759 : decode cL_law 1759 = .ok (.iaload, 1) := by decide +kernel
theorem dL_law_1760 : decode cL_law 1760 = .ok (.invokevirtual 236, 3) := by decide +kernel
theorem dL_law_1763 : decode cL_law 1763 = .ok (.aload_n 2, 1) := by decide +kernel
theorem dL_law_1764 : decode cL_law 1764 = .ok (.aload_n 0, 1) := by decide +kernel
theorem dL_law_1765 : decode cL_law 1765 = .ok (.iload 4, 2) := by decide +kernel
theorem dL_law_1767 : decode cL_law 1767 = .ok (.iconst 1, 1) := by decide +kernel
theorem dL_law_1768 : decode cL_law 1768 = .ok (.iadd, 1) := by decide +kernel
theorem dL_law_1769 : decode cL_law 1769 = .ok (.iaload, 1) := by decide +kernel
theorem dL_law_1770 : decode cL_law 1770 = .ok (.invokevirtual 239, 3) := by decide +kernel
theorem dL_law_1773 : decode cL_law 1773 = .ok (.if_icmp .eq 1214, 3) := by decide +kernel
theorem dL_law_1776 : decode cL_law 1776 = .ok (.iconst 0, 1) := by decide +kernel
theorem dL_law_1777 : decode cL_law 1777 = .ok (.ireturn, 1) := by decide +kernel
theorem dL_law_1778 : decode cL_law 1778 = .ok (.aload_n 1, 1) := by decide +kernel
theorem dL_law_1779 : decode cL_law 1779 = .ok (.aload_n 0, 1) := by decide +kernel
theorem dL_law_1780 : decode cL_law 1780 = .ok (.iload 4, 2) := by decide +kernel
theorem dL_law_1782 : decode cL_law 1782 = .ok (.iconst 1, 1) := by decide +kernel
theorem dL_law_1783 : decode cL_law 1783 = .ok (.iadd, 1) := by decide +kernel
theorem dL_law_1784 : decode cL_law 1784 = .ok (.iaload, 1) := by decide +kernel
theorem dL_law_1785 : decode cL_law 1785 = .ok (.aload_n 0, 1) := by decide +kernel
theorem dL_law_1786 : decode cL_law 1786 = .ok (.iload 4, 2) := by decide +kernel
theorem dL_law_1788 : decode cL_law 1788 = .ok (.iconst 2, 1) := by decide +kernel
theorem dL_law_1789 : decode cL_law 1789 = .ok (.iadd, 1) := by decide +kernel
theorem dL_law_1790 : decode cL_law 1790 = .ok (.iaload, 1) := by decide +kernel
theorem dL_law_1791 : decode cL_law 1791 = .ok (.aload_n 3, 1) := by decide +kernel
theorem dL_law_1792 : decode cL_law 1792 = .ok (.invokestatic 240, 3) := by decide +kernel
theorem dL_law_1795 : decode cL_law 1795 = .ok (.istore 5, 2) := by decide +kernel
theorem dL_law_1797 : decode cL_law 1797 = .ok (.aload_n 2, 1) := by decide +kernel
theorem dL_law_1798 : decode cL_law 1798 = .ok (.aload_n 0, 1) := by decide +kernel
theorem dL_law_1799 : decode cL_law 1799 = .ok (.iload 4, 2) := by decide +kernel
theorem dL_law_1801 : decode cL_law 1801 = .ok (.iconst 1, 1) := by decide +kernel
theorem dL_law_1802 : decode cL_law 1802 = .ok (.iadd, 1) := by decide +kernel
theorem dL_law_1803 : decode cL_law 1803 = .ok (.iaload, 1) := by decide +kernel
theorem dL_law_1804 : decode cL_law 1804 = .ok (.aload_n 0, 1) := by decide +kernel
theorem dL_law_1805 : decode cL_law 1805 = .ok (.iload 4, 2) := by decide +kernel
theorem dL_law_1807 : decode cL_law 1807 = .ok (.iconst 2, 1) := by decide +kernel
theorem dL_law_1808 : decode cL_law 1808 = .ok (.iadd, 1) := by decide +kernel
theorem dL_law_1809 : decode cL_law 1809 = .ok (.iaload, 1) := by decide +kernel
theorem dL_law_1810 : decode cL_law 1810 = .ok (.invokevirtual 242, 3) := by decide +kernel
theorem dL_law_1813 : decode cL_law 1813 = .ok (.istore 6, 2) := by decide +kernel
theorem dL_law_1815 : decode cL_law 1815 = .ok (.aload_n 2, 1) := by decide +kernel
theorem dL_law_1816 : decode cL_law 1816 = .ok (.invokevirtual 155, 3) := by decide +kernel
theorem dL_law_1819 : decode cL_law 1819 = .ok (.iload 5, 2) := by decide +kernel
theorem dL_law_1821 : decode cL_law 1821 = .ok (.if_icmp .eq 5, 3) := by decide +kernel
theorem dL_law_1824 : decode cL_law 1824 = .ok (.iconst 0, 1) := by decide +kernel
theorem dL_law_1825 : decode cL_law 1825 = .ok (.ireturn, 1) := by decide +kernel
theorem dL_law_1826 : decode cL_law 1826 = .ok (.iload 5, 2) := by decide +kernel
theorem dL_law_1828 : decode cL_law 1828 = .ok (.ifCond .ne 15, 3) := by decide +kernel
theorem dL_law_1831 : decode cL_law 1831 = .ok (.aload_n 3, 1) := by decide +kernel
theorem dL_law_1832 : decode cL_law 1832 = .ok (.iconst 0, 1) := by decide +kernel
theorem dL_law_1833 : decode cL_law 1833 = .ok (.laload, 1) := by decide +kernel
theorem dL_law_1834 : decode cL_law 1834 = .ok (.iload 6, 2) := by decide +kernel
theorem dL_law_1836 : decode cL_law 1836 = .ok (.i2l, 1) := by decide +kernel
theorem dL_law_1837 : decode cL_law 1837 = .ok (.lcmp, 1) := by decide +kernel
theorem dL_law_1838 : decode cL_law 1838 = .ok (.ifCond .eq 5, 3) := by decide +kernel
theorem dL_law_1841 : decode cL_law 1841 = .ok (.iconst 0, 1) := by decide +kernel
theorem dL_law_1842 : decode cL_law 1842 = .ok (.ireturn, 1) := by decide +kernel
theorem dL_law_1843 : decode cL_law 1843 = .ok (.goto 1144, 3) := by decide +kernel
theorem dL_law_1846 : decode cL_law 1846 = .ok (.aload_n 1, 1) := by decide +kernel
theorem dL_law_1847 : decode cL_law 1847 = .ok (.aload_n 0, 1) := by decide +kernel
theorem dL_law_1848 : decode cL_law 1848 = .ok (.iload 4, 2) := by decide +kernel
theorem dL_law_1850 : decode cL_law 1850 = .ok (.iconst 1, 1) := by decide +kernel
theorem dL_law_1851 : decode cL_law 1851 = .ok (.iadd, 1) := by decide +kernel
theorem dL_law_1852 : decode cL_law 1852 = .ok (.iaload, 1) := by decide +kernel
theorem dL_law_1853 : decode cL_law 1853 = .ok (.aload_n 3, 1) := by decide +kernel
theorem dL_law_1854 : decode cL_law 1854 = .ok (.invokestatic 243, 3) := by decide +kernel
theorem dL_law_1857 : decode cL_law 1857 = .ok (.istore 5, 2) := by decide +kernel
theorem dL_law_1859 : decode cL_law 1859 = .ok (.aload_n 2, 1) := by decide +kernel
theorem dL_law_1860 : decode cL_law 1860 = .ok (.aload_n 0, 1) := by decide +kernel
theorem dL_law_1861 : decode cL_law 1861 = .ok (.iload 4, 2) := by decide +kernel
theorem dL_law_1863 : decode cL_law 1863 = .ok (.iconst 1, 1) := by decide +kernel
theorem dL_law_1864 : decode cL_law 1864 = .ok (.iadd, 1) := by decide +kernel
theorem dL_law_1865 : decode cL_law 1865 = .ok (.iaload, 1) := by decide +kernel
theorem dL_law_1866 : decode cL_law 1866 = .ok (.invokevirtual 245, 3) := by decide +kernel
theorem dL_law_1869 : decode cL_law 1869 = .ok (.istore 6, 2) := by decide +kernel
theorem dL_law_1871 : decode cL_law 1871 = .ok (.aload_n 2, 1) := by decide +kernel
theorem dL_law_1872 : decode cL_law 1872 = .ok (.invokevirtual 155, 3) := by decide +kernel
theorem dL_law_1875 : decode cL_law 1875 = .ok (.iload 5, 2) := by decide +kernel
theorem dL_law_1877 : decode cL_law 1877 = .ok (.if_icmp .eq 5, 3) := by decide +kernel
theorem dL_law_1880 : decode cL_law 1880 = .ok (.iconst 0, 1) := by decide +kernel
theorem dL_law_1881 : decode cL_law 1881 = .ok (.ireturn, 1) := by decide +kernel
theorem dL_law_1882 : decode cL_law 1882 = .ok (.iload 5, 2) := by decide +kernel
theorem dL_law_1884 : decode cL_law 1884 = .ok (.ifCond .ne 15, 3) := by decide +kernel
theorem dL_law_1887 : decode cL_law 1887 = .ok (.aload_n 3, 1) := by decide +kernel
theorem dL_law_1888 : decode cL_law 1888 = .ok (.iconst 0, 1) := by decide +kernel
theorem dL_law_1889 : decode cL_law 1889 = .ok (.laload, 1) := by decide +kernel
theorem dL_law_1890 : decode cL_law 1890 = .ok (.iload 6, 2) := by decide +kernel
theorem dL_law_1892 : decode cL_law 1892 = .ok (.i2l, 1) := by decide +kernel
theorem dL_law_1893 : decode cL_law 1893 = .ok (.lcmp, 1) := by decide +kernel
theorem dL_law_1894 : decode cL_law 1894 = .ok (.ifCond .eq 5, 3) := by decide +kernel
theorem dL_law_1897 : decode cL_law 1897 = .ok (.iconst 0, 1) := by decide +kernel
theorem dL_law_1898 : decode cL_law 1898 = .ok (.ireturn, 1) := by decide +kernel
theorem dL_law_1899 : decode cL_law 1899 = .ok (.goto 1088, 3) := by decide +kernel
theorem dL_law_1902 : decode cL_law 1902 = .ok (.aload_n 1, 1) := by decide +kernel
theorem dL_law_1903 : decode cL_law 1903 = .ok (.aload_n 0, 1) := by decide +kernel
theorem dL_law_1904 : decode cL_law 1904 = .ok (.iload 4, 2) := by decide +kernel
theorem dL_law_1906 : decode cL_law 1906 = .ok (.iconst 1, 1) := by decide +kernel
theorem dL_law_1907 : decode cL_law 1907 = .ok (.iadd, 1) := by decide +kernel
theorem dL_law_1908 : decode cL_law 1908 = .ok (.iaload, 1) := by decide +kernel
theorem dL_law_1909 : decode cL_law 1909 = .ok (.aload_n 3, 1) := by decide +kernel
theorem dL_law_1910 : decode cL_law 1910 = .ok (.invokestatic 246, 3) := by decide +kernel
theorem dL_law_1913 : decode cL_law 1913 = .ok (.istore 5, 2) := by decide +kernel
theorem dL_law_1915 : decode cL_law 1915 = .ok (.aload_n 2, 1) := by decide +kernel
theorem dL_law_1916 : decode cL_law 1916 = .ok (.aload_n 0, 1) := by decide +kernel
theorem dL_law_1917 : decode cL_law 1917 = .ok (.iload 4, 2) := by decide +kernel
theorem dL_law_1919 : decode cL_law 1919 = .ok (.iconst 1, 1) := by decide +kernel
theorem dL_law_1920 : decode cL_law 1920 = .ok (.iadd, 1) := by decide +kernel
theorem dL_law_1921 : decode cL_law 1921 = .ok (.iaload, 1) := by decide +kernel
theorem dL_law_1922 : decode cL_law 1922 = .ok (.invokevirtual 248, 3) := by decide +kernel
theorem dL_law_1925 : decode cL_law 1925 = .ok (.istore 6, 2) := by decide +kernel
theorem dL_law_1927 : decode cL_law 1927 = .ok (.aload_n 2, 1) := by decide +kernel
theorem dL_law_1928 : decode cL_law 1928 = .ok (.invokevirtual 155, 3) := by decide +kernel
theorem dL_law_1931 : decode cL_law 1931 = .ok (.iload 5, 2) := by decide +kernel
theorem dL_law_1933 : decode cL_law 1933 = .ok (.if_icmp .eq 5, 3) := by decide +kernel
theorem dL_law_1936 : decode cL_law 1936 = .ok (.iconst 0, 1) := by decide +kernel
theorem dL_law_1937 : decode cL_law 1937 = .ok (.ireturn, 1) := by decide +kernel
theorem dL_law_1938 : decode cL_law 1938 = .ok (.iload 5, 2) := by decide +kernel
theorem dL_law_1940 : decode cL_law 1940 = .ok (.ifCond .ne 15, 3) := by decide +kernel
theorem dL_law_1943 : decode cL_law 1943 = .ok (.aload_n 3, 1) := by decide +kernel
theorem dL_law_1944 : decode cL_law 1944 = .ok (.iconst 0, 1) := by decide +kernel
theorem dL_law_1945 : decode cL_law 1945 = .ok (.laload, 1) := by decide +kernel
theorem dL_law_1946 : decode cL_law 1946 = .ok (.iload 6, 2) := by decide +kernel
theorem dL_law_1948 : decode cL_law 1948 = .ok (.i2l, 1) := by decide +kernel
theorem dL_law_1949 : decode cL_law 1949 = .ok (.lcmp, 1) := by decide +kernel
theorem dL_law_1950 : decode cL_law 1950 = .ok (.ifCond .eq 5, 3) := by decide +kernel
theorem dL_law_1953 : decode cL_law 1953 = .ok (.iconst 0, 1) := by decide +kernel
theorem dL_law_1954 : decode cL_law 1954 = .ok (.ireturn, 1) := by decide +kernel
theorem dL_law_1955 : decode cL_law 1955 = .ok (.goto 1032, 3) := by decide +kernel
theorem dL_law_1958 : decode cL_law 1958 = .ok (.aload_n 1, 1) := by decide +kernel
theorem dL_law_1959 : decode cL_law 1959 = .ok (.aload_n 0, 1) := by decide +kernel
theorem dL_law_1960 : decode cL_law 1960 = .ok (.iload 4, 2) := by decide +kernel
theorem dL_law_1962 : decode cL_law 1962 = .ok (.iconst 1, 1) := by decide +kernel
theorem dL_law_1963 : decode cL_law 1963 = .ok (.iadd, 1) := by decide +kernel
theorem dL_law_1964 : decode cL_law 1964 = .ok (.iaload, 1) := by decide +kernel
theorem dL_law_1965 : decode cL_law 1965 = .ok (.aload_n 0, 1) := by decide +kernel
theorem dL_law_1966 : decode cL_law 1966 = .ok (.iload 4, 2) := by decide +kernel
theorem dL_law_1968 : decode cL_law 1968 = .ok (.iconst 2, 1) := by decide +kernel
theorem dL_law_1969 : decode cL_law 1969 = .ok (.iadd, 1) := by decide +kernel
theorem dL_law_1970 : decode cL_law 1970 = .ok (.iaload, 1) := by decide +kernel
theorem dL_law_1971 : decode cL_law 1971 = .ok (.aload_n 3, 1) := by decide +kernel
theorem dL_law_1972 : decode cL_law 1972 = .ok (.invokestatic 249, 3) := by decide +kernel
theorem dL_law_1975 : decode cL_law 1975 = .ok (.istore 5, 2) := by decide +kernel
theorem dL_law_1977 : decode cL_law 1977 = .ok (.aload_n 2, 1) := by decide +kernel
theorem dL_law_1978 : decode cL_law 1978 = .ok (.aload_n 0, 1) := by decide +kernel
theorem dL_law_1979 : decode cL_law 1979 = .ok (.iload 4, 2) := by decide +kernel
theorem dL_law_1981 : decode cL_law 1981 = .ok (.iconst 1, 1) := by decide +kernel
theorem dL_law_1982 : decode cL_law 1982 = .ok (.iadd, 1) := by decide +kernel
theorem dL_law_1983 : decode cL_law 1983 = .ok (.iaload, 1) := by decide +kernel
theorem dL_law_1984 : decode cL_law 1984 = .ok (.aload_n 0, 1) := by decide +kernel
theorem dL_law_1985 : decode cL_law 1985 = .ok (.iload 4, 2) := by decide +kernel
theorem dL_law_1987 : decode cL_law 1987 = .ok (.iconst 2, 1) := by decide +kernel
theorem dL_law_1988 : decode cL_law 1988 = .ok (.iadd, 1) := by decide +kernel
theorem dL_law_1989 : decode cL_law 1989 = .ok (.iaload, 1) := by decide +kernel
theorem dL_law_1990 : decode cL_law 1990 = .ok (.invokevirtual 251, 3) := by decide +kernel
theorem dL_law_1993 : decode cL_law 1993 = .ok (.istore 6, 2) := by decide +kernel
theorem dL_law_1995 : decode cL_law 1995 = .ok (.aload_n 2, 1) := by decide +kernel
theorem dL_law_1996 : decode cL_law 1996 = .ok (.invokevirtual 155, 3) := by decide +kernel
theorem dL_law_1999 : decode cL_law 1999 = .ok (.iload 5, 2) := by decide +kernel
theorem dL_law_2001 : decode cL_law 2001 = .ok (.if_icmp .eq 5, 3) := by decide +kernel
theorem dL_law_2004 : decode cL_law 2004 = .ok (.iconst 0, 1) := by decide +kernel
theorem dL_law_2005 : decode cL_law 2005 = .ok (.ireturn, 1) := by decide +kernel
theorem dL_law_2006 : decode cL_law 2006 = .ok (.iload 5, 2) := by decide +kernel
theorem dL_law_2008 : decode cL_law 2008 = .ok (.ifCond .ne 15, 3) := by decide +kernel
theorem dL_law_2011 : decode cL_law 2011 = .ok (.aload_n 3, 1) := by decide +kernel
theorem dL_law_2012 : decode cL_law 2012 = .ok (.iconst 0, 1) := by decide +kernel
theorem dL_law_2013 : decode cL_law 2013 = .ok (.laload, 1) := by decide +kernel
theorem dL_law_2014 : decode cL_law 2014 = .ok (.iload 6, 2) := by decide +kernel
theorem dL_law_2016 : decode cL_law 2016 = .ok (.i2l, 1) := by decide +kernel
theorem dL_law_2017 : decode cL_law 2017 = .ok (.lcmp, 1) := by decide +kernel
theorem dL_law_2018 : decode cL_law 2018 = .ok (.ifCond .eq 5, 3) := by decide +kernel
theorem dL_law_2021 : decode cL_law 2021 = .ok (.iconst 0, 1) := by decide +kernel
theorem dL_law_2022 : decode cL_law 2022 = .ok (.ireturn, 1) := by decide +kernel
theorem dL_law_2023 : decode cL_law 2023 = .ok (.goto 964, 3) := by decide +kernel
theorem dL_law_2026 : decode cL_law 2026 = .ok (.aload_n 1, 1) := by decide +kernel
theorem dL_law_2027 : decode cL_law 2027 = .ok (.aload_n 0, 1) := by decide +kernel
theorem dL_law_2028 : decode cL_law 2028 = .ok (.iload 4, 2) := by decide +kernel
theorem dL_law_2030 : decode cL_law 2030 = .ok (.iconst 1, 1) := by decide +kernel
theorem dL_law_2031 : decode cL_law 2031 = .ok (.iadd, 1) := by decide +kernel
theorem dL_law_2032 : decode cL_law 2032 = .ok (.iaload, 1) := by decide +kernel
theorem dL_law_2033 : decode cL_law 2033 = .ok (.aload_n 3, 1) := by decide +kernel
theorem dL_law_2034 : decode cL_law 2034 = .ok (.invokestatic 252, 3) := by decide +kernel
theorem dL_law_2037 : decode cL_law 2037 = .ok (.istore 5, 2) := by decide +kernel
theorem dL_law_2039 : decode cL_law 2039 = .ok (.aload_n 2, 1) := by decide +kernel
theorem dL_law_2040 : decode cL_law 2040 = .ok (.aload_n 0, 1) := by decide +kernel
theorem dL_law_2041 : decode cL_law 2041 = .ok (.iload 4, 2) := by decide +kernel
theorem dL_law_2043 : decode cL_law 2043 = .ok (.iconst 1, 1) := by decide +kernel
theorem dL_law_2044 : decode cL_law 2044 = .ok (.iadd, 1) := by decide +kernel
theorem dL_law_2045 : decode cL_law 2045 = .ok (.iaload, 1) := by decide +kernel
theorem dL_law_2046 : decode cL_law 2046 = .ok (.invokevirtual 254, 3) := by decide +kernel
theorem dL_law_2049 : decode cL_law 2049 = .ok (.istore 6, 2) := by decide +kernel
theorem dL_law_2051 : decode cL_law 2051 = .ok (.aload_n 2, 1) := by decide +kernel
theorem dL_law_2052 : decode cL_law 2052 = .ok (.invokevirtual 155, 3) := by decide +kernel
theorem dL_law_2055 : decode cL_law 2055 = .ok (.iload 5, 2) := by decide +kernel
theorem dL_law_2057 : decode cL_law 2057 = .ok (.if_icmp .eq 5, 3) := by decide +kernel
theorem dL_law_2060 : decode cL_law 2060 = .ok (.iconst 0, 1) := by decide +kernel
theorem dL_law_2061 : decode cL_law 2061 = .ok (.ireturn, 1) := by decide +kernel
theorem dL_law_2062 : decode cL_law 2062 = .ok (.iload 5, 2) := by decide +kernel
theorem dL_law_2064 : decode cL_law 2064 = .ok (.ifCond .ne 15, 3) := by decide +kernel
theorem dL_law_2067 : decode cL_law 2067 = .ok (.aload_n 3, 1) := by decide +kernel
theorem dL_law_2068 : decode cL_law 2068 = .ok (.iconst 0, 1) := by decide +kernel
theorem dL_law_2069 : decode cL_law 2069 = .ok (.laload, 1) := by decide +kernel
theorem dL_law_2070 : decode cL_law 2070 = .ok (.iload 6, 2) := by decide +kernel
theorem dL_law_2072 : decode cL_law 2072 = .ok (.i2l, 1) := by decide +kernel
theorem dL_law_2073 : decode cL_law 2073 = .ok (.lcmp, 1) := by decide +kernel
theorem dL_law_2074 : decode cL_law 2074 = .ok (.ifCond .eq 5, 3) := by decide +kernel
theorem dL_law_2077 : decode cL_law 2077 = .ok (.iconst 0, 1) := by decide +kernel
theorem dL_law_2078 : decode cL_law 2078 = .ok (.ireturn, 1) := by decide +kernel
theorem dL_law_2079 : decode cL_law 2079 = .ok (.goto 908, 3) := by decide +kernel
theorem dL_law_2082 : decode cL_law 2082 = .ok (.aload_n 1, 1) := by decide +kernel
theorem dL_law_2083 : decode cL_law 2083 = .ok (.aload_n 0, 1) := by decide +kernel
theorem dL_law_2084 : decode cL_law 2084 = .ok (.iload 4, 2) := by decide +kernel
theorem dL_law_2086 : decode cL_law 2086 = .ok (.iconst 1, 1) := by decide +kernel
theorem dL_law_2087 : decode cL_law 2087 = .ok (.iadd, 1) := by decide +kernel
theorem dL_law_2088 : decode cL_law 2088 = .ok (.iaload, 1) := by decide +kernel
theorem dL_law_2089 : decode cL_law 2089 = .ok (.aload_n 0, 1) := by decide +kernel
theorem dL_law_2090 : decode cL_law 2090 = .ok (.iload 4, 2) := by decide +kernel
theorem dL_law_2092 : decode cL_law 2092 = .ok (.iconst 2, 1) := by decide +kernel
theorem dL_law_2093 : decode cL_law 2093 = .ok (.iadd, 1) := by decide +kernel
theorem dL_law_2094 : decode cL_law 2094 = .ok (.iaload, 1) := by decide +kernel
theorem dL_law_2095 : decode cL_law 2095 = .ok (.aload_n 3, 1) := by decide +kernel
theorem dL_law_2096 : decode cL_law 2096 = .ok (.invokestatic 255, 3) := by decide +kernel
theorem dL_law_2099 : decode cL_law 2099 = .ok (.istore 5, 2) := by decide +kernel
theorem dL_law_2101 : decode cL_law 2101 = .ok (.aload_n 2, 1) := by decide +kernel
theorem dL_law_2102 : decode cL_law 2102 = .ok (.aload_n 0, 1) := by decide +kernel
theorem dL_law_2103 : decode cL_law 2103 = .ok (.iload 4, 2) := by decide +kernel
theorem dL_law_2105 : decode cL_law 2105 = .ok (.iconst 1, 1) := by decide +kernel
theorem dL_law_2106 : decode cL_law 2106 = .ok (.iadd, 1) := by decide +kernel
theorem dL_law_2107 : decode cL_law 2107 = .ok (.iaload, 1) := by decide +kernel
theorem dL_law_2108 : decode cL_law 2108 = .ok (.aload_n 0, 1) := by decide +kernel
theorem dL_law_2109 : decode cL_law 2109 = .ok (.iload 4, 2) := by decide +kernel
theorem dL_law_2111 : decode cL_law 2111 = .ok (.iconst 2, 1) := by decide +kernel
theorem dL_law_2112 : decode cL_law 2112 = .ok (.iadd, 1) := by decide +kernel
theorem dL_law_2113 : decode cL_law 2113 = .ok (.iaload, 1) := by decide +kernel
theorem dL_law_2114 : decode cL_law 2114 = .ok (.invokevirtual 257, 3) := by decide +kernel
theorem dL_law_2117 : decode cL_law 2117 = .ok (.istore 6, 2) := by decide +kernel
theorem dL_law_2119 : decode cL_law 2119 = .ok (.aload_n 2, 1) := by decide +kernel
theorem dL_law_2120 : decode cL_law 2120 = .ok (.invokevirtual 155, 3) := by decide +kernel
theorem dL_law_2123 : decode cL_law 2123 = .ok (.iload 5, 2) := by decide +kernel
theorem dL_law_2125 : decode cL_law 2125 = .ok (.if_icmp .eq 5, 3) := by decide +kernel
theorem dL_law_2128 : decode cL_law 2128 = .ok (.iconst 0, 1) := by decide +kernel
theorem dL_law_2129 : decode cL_law 2129 = .ok (.ireturn, 1) := by decide +kernel
theorem dL_law_2130 : decode cL_law 2130 = .ok (.iload 5, 2) := by decide +kernel
theorem dL_law_2132 : decode cL_law 2132 = .ok (.ifCond .ne 15, 3) := by decide +kernel
theorem dL_law_2135 : decode cL_law 2135 = .ok (.aload_n 3, 1) := by decide +kernel
theorem dL_law_2136 : decode cL_law 2136 = .ok (.iconst 0, 1) := by decide +kernel
theorem dL_law_2137 : decode cL_law 2137 = .ok (.laload, 1) := by decide +kernel
theorem dL_law_2138 : decode cL_law 2138 = .ok (.iload 6, 2) := by decide +kernel
theorem dL_law_2140 : decode cL_law 2140 = .ok (.i2l, 1) := by decide +kernel
theorem dL_law_2141 : decode cL_law 2141 = .ok (.lcmp, 1) := by decide +kernel
theorem dL_law_2142 : decode cL_law 2142 = .ok (.ifCond .eq 5, 3) := by decide +kernel
theorem dL_law_2145 : decode cL_law 2145 = .ok (.iconst 0, 1) := by decide +kernel
theorem dL_law_2146 : decode cL_law 2146 = .ok (.ireturn, 1) := by decide +kernel
theorem dL_law_2147 : decode cL_law 2147 = .ok (.goto 840, 3) := by decide +kernel
theorem dL_law_2150 : decode cL_law 2150 = .ok (.aload_n 1, 1) := by decide +kernel
theorem dL_law_2151 : decode cL_law 2151 = .ok (.aload_n 0, 1) := by decide +kernel
theorem dL_law_2152 : decode cL_law 2152 = .ok (.iload 4, 2) := by decide +kernel
theorem dL_law_2154 : decode cL_law 2154 = .ok (.iconst 1, 1) := by decide +kernel
theorem dL_law_2155 : decode cL_law 2155 = .ok (.iadd, 1) := by decide +kernel
theorem dL_law_2156 : decode cL_law 2156 = .ok (.iaload, 1) := by decide +kernel
theorem dL_law_2157 : decode cL_law 2157 = .ok (.aload_n 0, 1) := by decide +kernel
theorem dL_law_2158 : decode cL_law 2158 = .ok (.iload 4, 2) := by decide +kernel
theorem dL_law_2160 : decode cL_law 2160 = .ok (.iconst 2, 1) := by decide +kernel
theorem dL_law_2161 : decode cL_law 2161 = .ok (.iadd, 1) := by decide +kernel
theorem dL_law_2162 : decode cL_law 2162 = .ok (.iaload, 1) := by decide +kernel
theorem dL_law_2163 : decode cL_law 2163 = .ok (.aload_n 3, 1) := by decide +kernel
theorem dL_law_2164 : decode cL_law 2164 = .ok (.invokestatic 258, 3) := by decide +kernel
theorem dL_law_2167 : decode cL_law 2167 = .ok (.istore 5, 2) := by decide +kernel
theorem dL_law_2169 : decode cL_law 2169 = .ok (.aload_n 2, 1) := by decide +kernel
theorem dL_law_2170 : decode cL_law 2170 = .ok (.aload_n 0, 1) := by decide +kernel
theorem dL_law_2171 : decode cL_law 2171 = .ok (.iload 4, 2) := by decide +kernel
theorem dL_law_2173 : decode cL_law 2173 = .ok (.iconst 1, 1) := by decide +kernel
theorem dL_law_2174 : decode cL_law 2174 = .ok (.iadd, 1) := by decide +kernel
theorem dL_law_2175 : decode cL_law 2175 = .ok (.iaload, 1) := by decide +kernel
theorem dL_law_2176 : decode cL_law 2176 = .ok (.aload_n 0, 1) := by decide +kernel
theorem dL_law_2177 : decode cL_law 2177 = .ok (.iload 4, 2) := by decide +kernel
theorem dL_law_2179 : decode cL_law 2179 = .ok (.iconst 2, 1) := by decide +kernel
theorem dL_law_2180 : decode cL_law 2180 = .ok (.iadd, 1) := by decide +kernel
theorem dL_law_2181 : decode cL_law 2181 = .ok (.iaload, 1) := by decide +kernel
theorem dL_law_2182 : decode cL_law 2182 = .ok (.invokevirtual 260, 3) := by decide +kernel
theorem dL_law_2185 : decode cL_law 2185 = .ok (.istore 6, 2) := by decide +kernel
theorem dL_law_2187 : decode cL_law 2187 = .ok (.aload_n 2, 1) := by decide +kernel
theorem dL_law_2188 : decode cL_law 2188 = .ok (.invokevirtual 155, 3) := by decide +kernel
theorem dL_law_2191 : decode cL_law 2191 = .ok (.iload 5, 2) := by decide +kernel
theorem dL_law_2193 : decode cL_law 2193 = .ok (.if_icmp .eq 5, 3) := by decide +kernel
theorem dL_law_2196 : decode cL_law 2196 = .ok (.iconst 0, 1) := by decide +kernel
theorem dL_law_2197 : decode cL_law 2197 = .ok (.ireturn, 1) := by decide +kernel
theorem dL_law_2198 : decode cL_law 2198 = .ok (.iload 5, 2) := by decide +kernel
theorem dL_law_2200 : decode cL_law 2200 = .ok (.ifCond .ne 15, 3) := by decide +kernel
theorem dL_law_2203 : decode cL_law 2203 = .ok (.aload_n 3, 1) := by decide +kernel
theorem dL_law_2204 : decode cL_law 2204 = .ok (.iconst 0, 1) := by decide +kernel
theorem dL_law_2205 : decode cL_law 2205 = .ok (.laload, 1) := by decide +kernel
theorem dL_law_2206 : decode cL_law 2206 = .ok (.iload 6, 2) := by decide +kernel
theorem dL_law_2208 : decode cL_law 2208 = .ok (.i2l, 1) := by decide +kernel
theorem dL_law_2209 : decode cL_law 2209 = .ok (.lcmp, 1) := by decide +kernel
theorem dL_law_2210 : decode cL_law 2210 = .ok (.ifCond .eq 5, 3) := by decide +kernel
theorem dL_law_2213 : decode cL_law 2213 = .ok (.iconst 0, 1) := by decide +kernel
theorem dL_law_2214 : decode cL_law 2214 = .ok (.ireturn, 1) := by decide +kernel
theorem dL_law_2215 : decode cL_law 2215 = .ok (.goto 772, 3) := by decide +kernel
theorem dL_law_2218 : decode cL_law 2218 = .ok (.aload_n 1, 1) := by decide +kernel
theorem dL_law_2219 : decode cL_law 2219 = .ok (.aload_n 0, 1) := by decide +kernel
theorem dL_law_2220 : decode cL_law 2220 = .ok (.iload 4, 2) := by decide +kernel
theorem dL_law_2222 : decode cL_law 2222 = .ok (.iconst 1, 1) := by decide +kernel
theorem dL_law_2223 : decode cL_law 2223 = .ok (.iadd, 1) := by decide +kernel
theorem dL_law_2224 : decode cL_law 2224 = .ok (.iaload, 1) := by decide +kernel
theorem dL_law_2225 : decode cL_law 2225 = .ok (.aload_n 3, 1) := by decide +kernel
theorem dL_law_2226 : decode cL_law 2226 = .ok (.invokestatic 261, 3) := by decide +kernel
theorem dL_law_2229 : decode cL_law 2229 = .ok (.istore 5, 2) := by decide +kernel
theorem dL_law_2231 : decode cL_law 2231 = .ok (.aload_n 2, 1) := by decide +kernel
theorem dL_law_2232 : decode cL_law 2232 = .ok (.aload_n 0, 1) := by decide +kernel
theorem dL_law_2233 : decode cL_law 2233 = .ok (.iload 4, 2) := by decide +kernel
theorem dL_law_2235 : decode cL_law 2235 = .ok (.iconst 1, 1) := by decide +kernel
theorem dL_law_2236 : decode cL_law 2236 = .ok (.iadd, 1) := by decide +kernel
theorem dL_law_2237 : decode cL_law 2237 = .ok (.iaload, 1) := by decide +kernel
theorem dL_law_2238 : decode cL_law 2238 = .ok (.invokevirtual 263, 3) := by decide +kernel
theorem dL_law_2241 : decode cL_law 2241 = .ok (.istore 6, 2) := by decide +kernel
theorem dL_law_2243 : decode cL_law 2243 = .ok (.aload_n 2, 1) := by decide +kernel
theorem dL_law_2244 : decode cL_law 2244 = .ok (.invokevirtual 155, 3) := by decide +kernel
theorem dL_law_2247 : decode cL_law 2247 = .ok (.iload 5, 2) := by decide +kernel
theorem dL_law_2249 : decode cL_law 2249 = .ok (.if_icmp .eq 5, 3) := by decide +kernel
theorem dL_law_2252 : decode cL_law 2252 = .ok (.iconst 0, 1) := by decide +kernel
theorem dL_law_2253 : decode cL_law 2253 = .ok (.ireturn, 1) := by decide +kernel
theorem dL_law_2254 : decode cL_law 2254 = .ok (.iload 5, 2) := by decide +kernel
theorem dL_law_2256 : decode cL_law 2256 = .ok (.ifCond .ne 15, 3) := by decide +kernel
theorem dL_law_2259 : decode cL_law 2259 = .ok (.aload_n 3, 1) := by decide +kernel
theorem dL_law_2260 : decode cL_law 2260 = .ok (.iconst 0, 1) := by decide +kernel
theorem dL_law_2261 : decode cL_law 2261 = .ok (.laload, 1) := by decide +kernel
theorem dL_law_2262 : decode cL_law 2262 = .ok (.iload 6, 2) := by decide +kernel
theorem dL_law_2264 : decode cL_law 2264 = .ok (.i2l, 1) := by decide +kernel
theorem dL_law_2265 : decode cL_law 2265 = .ok (.lcmp, 1) := by decide +kernel
theorem dL_law_2266 : decode cL_law 2266 = .ok (.ifCond .eq 5, 3) := by decide +kernel
theorem dL_law_2269 : decode cL_law 2269 = .ok (.iconst 0, 1) := by decide +kernel
theorem dL_law_2270 : decode cL_law 2270 = .ok (.ireturn, 1) := by decide +kernel
theorem dL_law_2271 : decode cL_law 2271 = .ok (.goto 716, 3) := by decide +kernel
theorem dL_law_2274 : decode cL_law 2274 = .ok (.aload_n 1, 1) := by decide +kernel
theorem dL_law_2275 : decode cL_law 2275 = .ok (.aload_n 0, 1) := by decide +kernel
theorem dL_law_2276 : decode cL_law 2276 = .ok (.iload 4, 2) := by decide +kernel
theorem dL_law_2278 : decode cL_law 2278 = .ok (.iconst 1, 1) := by decide +kernel
theorem dL_law_2279 : decode cL_law 2279 = .ok (.iadd, 1) := by decide +kernel
theorem dL_law_2280 : decode cL_law 2280 = .ok (.iaload, 1) := by decide +kernel
theorem dL_law_2281 : decode cL_law 2281 = .ok (.aload_n 0, 1) := by decide +kernel
theorem dL_law_2282 : decode cL_law 2282 = .ok (.iload 4, 2) := by decide +kernel
theorem dL_law_2284 : decode cL_law 2284 = .ok (.iconst 2, 1) := by decide +kernel
theorem dL_law_2285 : decode cL_law 2285 = .ok (.iadd, 1) := by decide +kernel
theorem dL_law_2286 : decode cL_law 2286 = .ok (.iaload, 1) := by decide +kernel
theorem dL_law_2287 : decode cL_law 2287 = .ok (.aload_n 0, 1) := by decide +kernel
theorem dL_law_2288 : decode cL_law 2288 = .ok (.iload 4, 2) := by decide +kernel
theorem dL_law_2290 : decode cL_law 2290 = .ok (.iconst 3, 1) := by decide +kernel
theorem dL_law_2291 : decode cL_law 2291 = .ok (.iadd, 1) := by decide +kernel
theorem dL_law_2292 : decode cL_law 2292 = .ok (.iaload, 1) := by decide +kernel
theorem dL_law_2293 : decode cL_law 2293 = .ok (.aload_n 0, 1) := by decide +kernel
theorem dL_law_2294 : decode cL_law 2294 = .ok (.iload 4, 2) := by decide +kernel
theorem dL_law_2296 : decode cL_law 2296 = .ok (.iconst 4, 1) := by decide +kernel
theorem dL_law_2297 : decode cL_law 2297 = .ok (.iadd, 1) := by decide +kernel
theorem dL_law_2298 : decode cL_law 2298 = .ok (.iaload, 1) := by decide +kernel
theorem dL_law_2299 : decode cL_law 2299 = .ok (.aload_n 0, 1) := by decide +kernel
theorem dL_law_2300 : decode cL_law 2300 = .ok (.iload 4, 2) := by decide +kernel
theorem dL_law_2302 : decode cL_law 2302 = .ok (.iconst 5, 1) := by decide +kernel
theorem dL_law_2303 : decode cL_law 2303 = .ok (.iadd, 1) := by decide +kernel
theorem dL_law_2304 : decode cL_law 2304 = .ok (.iaload, 1) := by decide +kernel
theorem dL_law_2305 : decode cL_law 2305 = .ok (.aload_n 0, 1) := by decide +kernel
theorem dL_law_2306 : decode cL_law 2306 = .ok (.iload 4, 2) := by decide +kernel
theorem dL_law_2308 : decode cL_law 2308 = .ok (.bipush 6, 2) := by decide +kernel
theorem dL_law_2310 : decode cL_law 2310 = .ok (.iadd, 1) := by decide +kernel
theorem dL_law_2311 : decode cL_law 2311 = .ok (.iaload, 1) := by decide +kernel
theorem dL_law_2312 : decode cL_law 2312 = .ok (.aload_n 3, 1) := by decide +kernel
theorem dL_law_2313 : decode cL_law 2313 = .ok (.invokestatic 264, 3) := by decide +kernel
theorem dL_law_2316 : decode cL_law 2316 = .ok (.istore 5, 2) := by decide +kernel
theorem dL_law_2318 : decode cL_law 2318 = .ok (.aload_n 2, 1) := by decide +kernel
theorem dL_law_2319 : decode cL_law 2319 = .ok (.aload_n 0, 1) := by decide +kernel
theorem dL_law_2320 : decode cL_law 2320 = .ok (.iload 4, 2) := by decide +kernel
theorem dL_law_2322 : decode cL_law 2322 = .ok (.iconst 1, 1) := by decide +kernel
theorem dL_law_2323 : decode cL_law 2323 = .ok (.iadd, 1) := by decide +kernel
theorem dL_law_2324 : decode cL_law 2324 = .ok (.iaload, 1) := by decide +kernel
theorem dL_law_2325 : decode cL_law 2325 = .ok (.aload_n 0, 1) := by decide +kernel
theorem dL_law_2326 : decode cL_law 2326 = .ok (.iload 4, 2) := by decide +kernel
theorem dL_law_2328 : decode cL_law 2328 = .ok (.iconst 2, 1) := by decide +kernel
theorem dL_law_2329 : decode cL_law 2329 = .ok (.iadd, 1) := by decide +kernel
theorem dL_law_2330 : decode cL_law 2330 = .ok (.iaload, 1) := by decide +kernel
theorem dL_law_2331 : decode cL_law 2331 = .ok (.aload_n 0, 1) := by decide +kernel
theorem dL_law_2332 : decode cL_law 2332 = .ok (.iload 4, 2) := by decide +kernel
theorem dL_law_2334 : decode cL_law 2334 = .ok (.iconst 3, 1) := by decide +kernel
theorem dL_law_2335 : decode cL_law 2335 = .ok (.iadd, 1) := by decide +kernel
theorem dL_law_2336 : decode cL_law 2336 = .ok (.iaload, 1) := by decide +kernel
theorem dL_law_2337 : decode cL_law 2337 = .ok (.aload_n 0, 1) := by decide +kernel
theorem dL_law_2338 : decode cL_law 2338 = .ok (.iload 4, 2) := by decide +kernel
theorem dL_law_2340 : decode cL_law 2340 = .ok (.iconst 4, 1) := by decide +kernel
theorem dL_law_2341 : decode cL_law 2341 = .ok (.iadd, 1) := by decide +kernel
theorem dL_law_2342 : decode cL_law 2342 = .ok (.iaload, 1) := by decide +kernel
theorem dL_law_2343 : decode cL_law 2343 = .ok (.aload_n 0, 1) := by decide +kernel
theorem dL_law_2344 : decode cL_law 2344 = .ok (.iload 4, 2) := by decide +kernel
theorem dL_law_2346 : decode cL_law 2346 = .ok (.iconst 5, 1) := by decide +kernel
theorem dL_law_2347 : decode cL_law 2347 = .ok (.iadd, 1) := by decide +kernel
theorem dL_law_2348 : decode cL_law 2348 = .ok (.iaload, 1) := by decide +kernel
theorem dL_law_2349 : decode cL_law 2349 = .ok (.aload_n 0, 1) := by decide +kernel
theorem dL_law_2350 : decode cL_law 2350 = .ok (.iload 4, 2) := by decide +kernel
theorem dL_law_2352 : decode cL_law 2352 = .ok (.bipush 6, 2) := by decide +kernel
theorem dL_law_2354 : decode cL_law 2354 = .ok (.iadd, 1) := by decide +kernel
theorem dL_law_2355 : decode cL_law 2355 = .ok (.iaload, 1) := by decide +kernel
theorem dL_law_2356 : decode cL_law 2356 = .ok (.invokevirtual 267, 3) := by decide +kernel
theorem dL_law_2359 : decode cL_law 2359 = .ok (.istore 6, 2) := by decide +kernel
theorem dL_law_2361 : decode cL_law 2361 = .ok (.aload_n 2, 1) := by decide +kernel
theorem dL_law_2362 : decode cL_law 2362 = .ok (.invokevirtual 155, 3) := by decide +kernel
theorem dL_law_2365 : decode cL_law 2365 = .ok (.iload 5, 2) := by decide +kernel
theorem dL_law_2367 : decode cL_law 2367 = .ok (.if_icmp .eq 5, 3) := by decide +kernel
theorem dL_law_2370 : decode cL_law 2370 = .ok (.iconst 0, 1) := by decide +kernel
theorem dL_law_2371 : decode cL_law 2371 = .ok (.ireturn, 1) := by decide +kernel
theorem dL_law_2372 : decode cL_law 2372 = .ok (.iload 5, 2) := by decide +kernel
theorem dL_law_2374 : decode cL_law 2374 = .ok (.ifCond .ne 15, 3) := by decide +kernel
theorem dL_law_2377 : decode cL_law 2377 = .ok (.aload_n 3, 1) := by decide +kernel
theorem dL_law_2378 : decode cL_law 2378 = .ok (.iconst 0, 1) := by decide +kernel
theorem dL_law_2379 : decode cL_law 2379 = .ok (.laload, 1) := by decide +kernel
theorem dL_law_2380 : decode cL_law 2380 = .ok (.iload 6, 2) := by decide +kernel
theorem dL_law_2382 : decode cL_law 2382 = .ok (.i2l, 1) := by decide +kernel
theorem dL_law_2383 : decode cL_law 2383 = .ok (.lcmp, 1) := by decide +kernel
theorem dL_law_2384 : decode cL_law 2384 = .ok (.ifCond .eq 5, 3) := by decide +kernel
theorem dL_law_2387 : decode cL_law 2387 = .ok (.iconst 0, 1) := by decide +kernel
theorem dL_law_2388 : decode cL_law 2388 = .ok (.ireturn, 1) := by decide +kernel
theorem dL_law_2389 : decode cL_law 2389 = .ok (.goto 598, 3) := by decide +kernel
theorem dL_law_2392 : decode cL_law 2392 = .ok (.aload_n 1, 1) := by decide +kernel
theorem dL_law_2393 : decode cL_law 2393 = .ok (.aload_n 0, 1) := by decide +kernel
theorem dL_law_2394 : decode cL_law 2394 = .ok (.iload 4, 2) := by decide +kernel
theorem dL_law_2396 : decode cL_law 2396 = .ok (.iconst 1, 1) := by decide +kernel
theorem dL_law_2397 : decode cL_law 2397 = .ok (.iadd, 1) := by decide +kernel
theorem dL_law_2398 : decode cL_law 2398 = .ok (.iaload, 1) := by decide +kernel
theorem dL_law_2399 : decode cL_law 2399 = .ok (.aload_n 3, 1) := by decide +kernel
theorem dL_law_2400 : decode cL_law 2400 = .ok (.invokestatic 268, 3) := by decide +kernel
theorem dL_law_2403 : decode cL_law 2403 = .ok (.istore 5, 2) := by decide +kernel
theorem dL_law_2405 : decode cL_law 2405 = .ok (.aload_n 2, 1) := by decide +kernel
theorem dL_law_2406 : decode cL_law 2406 = .ok (.aload_n 0, 1) := by decide +kernel
theorem dL_law_2407 : decode cL_law 2407 = .ok (.iload 4, 2) := by decide +kernel
theorem dL_law_2409 : decode cL_law 2409 = .ok (.iconst 1, 1) := by decide +kernel
theorem dL_law_2410 : decode cL_law 2410 = .ok (.iadd, 1) := by decide +kernel
theorem dL_law_2411 : decode cL_law 2411 = .ok (.iaload, 1) := by decide +kernel
theorem dL_law_2412 : decode cL_law 2412 = .ok (.invokevirtual 270, 3) := by decide +kernel
theorem dL_law_2415 : decode cL_law 2415 = .ok (.lstore 6, 2) := by decide +kernel
theorem dL_law_2417 : decode cL_law 2417 = .ok (.aload_n 2, 1) := by decide +kernel
theorem dL_law_2418 : decode cL_law 2418 = .ok (.invokevirtual 155, 3) := by decide +kernel
theorem dL_law_2421 : decode cL_law 2421 = .ok (.iload 5, 2) := by decide +kernel
theorem dL_law_2423 : decode cL_law 2423 = .ok (.if_icmp .eq 5, 3) := by decide +kernel
theorem dL_law_2426 : decode cL_law 2426 = .ok (.iconst 0, 1) := by decide +kernel
theorem dL_law_2427 : decode cL_law 2427 = .ok (.ireturn, 1) := by decide +kernel
theorem dL_law_2428 : decode cL_law 2428 = .ok (.iload 5, 2) := by decide +kernel
theorem dL_law_2430 : decode cL_law 2430 = .ok (.ifCond .ne 14, 3) := by decide +kernel
theorem dL_law_2433 : decode cL_law 2433 = .ok (.aload_n 3, 1) := by decide +kernel
theorem dL_law_2434 : decode cL_law 2434 = .ok (.iconst 0, 1) := by decide +kernel
theorem dL_law_2435 : decode cL_law 2435 = .ok (.laload, 1) := by decide +kernel
theorem dL_law_2436 : decode cL_law 2436 = .ok (.lload 6, 2) := by decide +kernel
theorem dL_law_2438 : decode cL_law 2438 = .ok (.lcmp, 1) := by decide +kernel
theorem dL_law_2439 : decode cL_law 2439 = .ok (.ifCond .eq 5, 3) := by decide +kernel
theorem dL_law_2442 : decode cL_law 2442 = .ok (.iconst 0, 1) := by decide +kernel
theorem dL_law_2443 : decode cL_law 2443 = .ok (.ireturn, 1) := by decide +kernel
theorem dL_law_2444 : decode cL_law 2444 = .ok (.goto 543, 3) := by decide +kernel
theorem dL_law_2447 : decode cL_law 2447 = .ok (.aload_n 1, 1) := by decide +kernel
theorem dL_law_2448 : decode cL_law 2448 = .ok (.aload_n 0, 1) := by decide +kernel
theorem dL_law_2449 : decode cL_law 2449 = .ok (.iload 4, 2) := by decide +kernel
theorem dL_law_2451 : decode cL_law 2451 = .ok (.iconst 1, 1) := by decide +kernel
theorem dL_law_2452 : decode cL_law 2452 = .ok (.iadd, 1) := by decide +kernel
theorem dL_law_2453 : decode cL_law 2453 = .ok (.iaload, 1) := by decide +kernel
theorem dL_law_2454 : decode cL_law 2454 = .ok (.aload_n 0, 1) := by decide +kernel
theorem dL_law_2455 : decode cL_law 2455 = .ok (.iload 4, 2) := by decide +kernel
theorem dL_law_2457 : decode cL_law 2457 = .ok (.iconst 2, 1) := by decide +kernel
theorem dL_law_2458 : decode cL_law 2458 = .ok (.iadd, 1) := by decide +kernel
theorem dL_law_2459 : decode cL_law 2459 = .ok (.iaload, 1) := by decide +kernel
theorem dL_law_2460 : decode cL_law 2460 = .ok (.aload_n 3, 1) := by decide +kernel
theorem dL_law_2461 : decode cL_law 2461 = .ok (.invokestatic 271, 3) := by decide +kernel
theorem dL_law_2464 : decode cL_law 2464 = .ok (.istore 5, 2) := by decide +kernel
theorem dL_law_2466 : decode cL_law 2466 = .ok (.aload_n 2, 1) := by decide +kernel
theorem dL_law_2467 : decode cL_law 2467 = .ok (.aload_n 0, 1) := by decide +kernel
theorem dL_law_2468 : decode cL_law 2468 = .ok (.iload 4, 2) := by decide +kernel
theorem dL_law_2470 : decode cL_law 2470 = .ok (.iconst 1, 1) := by decide +kernel
theorem dL_law_2471 : decode cL_law 2471 = .ok (.iadd, 1) := by decide +kernel
theorem dL_law_2472 : decode cL_law 2472 = .ok (.iaload, 1) := by decide +kernel
theorem dL_law_2473 : decode cL_law 2473 = .ok (.aload_n 0, 1) := by decide +kernel
theorem dL_law_2474 : decode cL_law 2474 = .ok (.iload 4, 2) := by decide +kernel
theorem dL_law_2476 : decode cL_law 2476 = .ok (.iconst 2, 1) := by decide +kernel
theorem dL_law_2477 : decode cL_law 2477 = .ok (.iadd, 1) := by decide +kernel
theorem dL_law_2478 : decode cL_law 2478 = .ok (.iaload, 1) := by decide +kernel
theorem dL_law_2479 : decode cL_law 2479 = .ok (.invokevirtual 273, 3) := by decide +kernel
theorem dL_law_2482 : decode cL_law 2482 = .ok (.istore 6, 2) := by decide +kernel
theorem dL_law_2484 : decode cL_law 2484 = .ok (.aload_n 2, 1) := by decide +kernel
theorem dL_law_2485 : decode cL_law 2485 = .ok (.invokevirtual 155, 3) := by decide +kernel
theorem dL_law_2488 : decode cL_law 2488 = .ok (.iload 5, 2) := by decide +kernel
theorem dL_law_2490 : decode cL_law 2490 = .ok (.if_icmp .eq 5, 3) := by decide +kernel
theorem dL_law_2493 : decode cL_law 2493 = .ok (.iconst 0, 1) := by decide +kernel
theorem dL_law_2494 : decode cL_law 2494 = .ok (.ireturn, 1) := by decide +kernel
theorem dL_law_2495 : decode cL_law 2495 = .ok (.iload 5, 2) := by decide +kernel
theorem dL_law_2497 : decode cL_law 2497 = .ok (.ifCond .ne 15, 3) := by decide +kernel
theorem dL_law_2500 : decode cL_law 2500 = .ok (.aload_n 3, 1) := by decide +kernel
theorem dL_law_2501 : decode cL_law 2501 = .ok (.iconst 0, 1) := by decide +kernel
theorem dL_law_2502 : decode cL_law 2502 = .ok (.laload, 1) := by decide +kernel
theorem dL_law_2503 : decode cL_law 2503 = .ok (.iload 6, 2) := by decide +kernel
theorem dL_law_2505 : decode cL_law 2505 = .ok (.i2l, 1) := by decide +kernel
theorem dL_law_2506 : decode cL_law 2506 = .ok (.lcmp, 1) := by decide +kernel
theorem dL_law_2507 : decode cL_law 2507 = .ok (.ifCond .eq 5, 3) := by decide +kernel
theorem dL_law_2510 : decode cL_law 2510 = .ok (.iconst 0, 1) := by decide +kernel
theorem dL_law_2511 : decode cL_law 2511 = .ok (.ireturn, 1) := by decide +kernel
theorem dL_law_2512 : decode cL_law 2512 = .ok (.goto 475, 3) := by decide +kernel
theorem dL_law_2515 : decode cL_law 2515 = .ok (.aload_n 1, 1) := by decide +kernel
theorem dL_law_2516 : decode cL_law 2516 = .ok (.aload_n 0, 1) := by decide +kernel
theorem dL_law_2517 : decode cL_law 2517 = .ok (.iload 4, 2) := by decide +kernel
theorem dL_law_2519 : decode cL_law 2519 = .ok (.iconst 1, 1) := by decide +kernel
theorem dL_law_2520 : decode cL_law 2520 = .ok (.iadd, 1) := by decide +kernel
theorem dL_law_2521 : decode cL_law 2521 = .ok (.iaload, 1) := by decide +kernel
theorem dL_law_2522 : decode cL_law 2522 = .ok (.aload_n 0, 1) := by decide +kernel
theorem dL_law_2523 : decode cL_law 2523 = .ok (.iload 4, 2) := by decide +kernel
theorem dL_law_2525 : decode cL_law 2525 = .ok (.iconst 2, 1) := by decide +kernel
theorem dL_law_2526 : decode cL_law 2526 = .ok (.iadd, 1) := by decide +kernel
theorem dL_law_2527 : decode cL_law 2527 = .ok (.iaload, 1) := by decide +kernel
theorem dL_law_2528 : decode cL_law 2528 = .ok (.aload_n 3, 1) := by decide +kernel
theorem dL_law_2529 : decode cL_law 2529 = .ok (.invokestatic 274, 3) := by decide +kernel
theorem dL_law_2532 : decode cL_law 2532 = .ok (.istore 5, 2) := by decide +kernel
theorem dL_law_2534 : decode cL_law 2534 = .ok (.aload_n 2, 1) := by decide +kernel
theorem dL_law_2535 : decode cL_law 2535 = .ok (.aload_n 0, 1) := by decide +kernel
theorem dL_law_2536 : decode cL_law 2536 = .ok (.iload 4, 2) := by decide +kernel
theorem dL_law_2538 : decode cL_law 2538 = .ok (.iconst 1, 1) := by decide +kernel
theorem dL_law_2539 : decode cL_law 2539 = .ok (.iadd, 1) := by decide +kernel
theorem dL_law_2540 : decode cL_law 2540 = .ok (.iaload, 1) := by decide +kernel
theorem dL_law_2541 : decode cL_law 2541 = .ok (.aload_n 0, 1) := by decide +kernel
theorem dL_law_2542 : decode cL_law 2542 = .ok (.iload 4, 2) := by decide +kernel
theorem dL_law_2544 : decode cL_law 2544 = .ok (.iconst 2, 1) := by decide +kernel
theorem dL_law_2545 : decode cL_law 2545 = .ok (.iadd, 1) := by decide +kernel
theorem dL_law_2546 : decode cL_law 2546 = .ok (.iaload, 1) := by decide +kernel
theorem dL_law_2547 : decode cL_law 2547 = .ok (.invokevirtual 276, 3) := by decide +kernel
theorem dL_law_2550 : decode cL_law 2550 = .ok (.istore 6, 2) := by decide +kernel
theorem dL_law_2552 : decode cL_law 2552 = .ok (.aload_n 2, 1) := by decide +kernel
theorem dL_law_2553 : decode cL_law 2553 = .ok (.invokevirtual 155, 3) := by decide +kernel
theorem dL_law_2556 : decode cL_law 2556 = .ok (.iload 5, 2) := by decide +kernel
theorem dL_law_2558 : decode cL_law 2558 = .ok (.if_icmp .eq 5, 3) := by decide +kernel
theorem dL_law_2561 : decode cL_law 2561 = .ok (.iconst 0, 1) := by decide +kernel
theorem dL_law_2562 : decode cL_law 2562 = .ok (.ireturn, 1) := by decide +kernel
theorem dL_law_2563 : decode cL_law 2563 = .ok (.iload 5, 2) := by decide +kernel
theorem dL_law_2565 : decode cL_law 2565 = .ok (.ifCond .ne 15, 3) := by decide +kernel
theorem dL_law_2568 : decode cL_law 2568 = .ok (.aload_n 3, 1) := by decide +kernel
theorem dL_law_2569 : decode cL_law 2569 = .ok (.iconst 0, 1) := by decide +kernel
theorem dL_law_2570 : decode cL_law 2570 = .ok (.laload, 1) := by decide +kernel
theorem dL_law_2571 : decode cL_law 2571 = .ok (.iload 6, 2) := by decide +kernel
theorem dL_law_2573 : decode cL_law 2573 = .ok (.i2l, 1) := by decide +kernel
theorem dL_law_2574 : decode cL_law 2574 = .ok (.lcmp, 1) := by decide +kernel
theorem dL_law_2575 : decode cL_law 2575 = .ok (.ifCond .eq 5, 3) := by decide +kernel
theorem dL_law_2578 : decode cL_law 2578 = .ok (.iconst 0, 1) := by decide +kernel
theorem dL_law_2579 : decode cL_law 2579 = .ok (.ireturn, 1) := by decide +kernel
theorem dL_law_2580 : decode cL_law 2580 = .ok (.goto 407, 3) := by decide +kernel
theorem dL_law_2583 : decode cL_law 2583 = .ok (.aload_n 1, 1) := by decide +kernel
theorem dL_law_2584 : decode cL_law 2584 = .ok (.aload_n 0, 1) := by decide +kernel
theorem dL_law_2585 : decode cL_law 2585 = .ok (.iload 4, 2) := by decide +kernel
theorem dL_law_2587 : decode cL_law 2587 = .ok (.iconst 1, 1) := by decide +kernel
theorem dL_law_2588 : decode cL_law 2588 = .ok (.iadd, 1) := by decide +kernel
theorem dL_law_2589 : decode cL_law 2589 = .ok (.iaload, 1) := by decide +kernel
theorem dL_law_2590 : decode cL_law 2590 = .ok (.aload_n 0, 1) := by decide +kernel
theorem dL_law_2591 : decode cL_law 2591 = .ok (.iload 4, 2) := by decide +kernel
theorem dL_law_2593 : decode cL_law 2593 = .ok (.iconst 2, 1) := by decide +kernel
theorem dL_law_2594 : decode cL_law 2594 = .ok (.iadd, 1) := by decide +kernel
theorem dL_law_2595 : decode cL_law 2595 = .ok (.iaload, 1) := by decide +kernel
theorem dL_law_2596 : decode cL_law 2596 = .ok (.aload_n 3, 1) := by decide +kernel
theorem dL_law_2597 : decode cL_law 2597 = .ok (.invokestatic 277, 3) := by decide +kernel
theorem dL_law_2600 : decode cL_law 2600 = .ok (.istore 5, 2) := by decide +kernel
theorem dL_law_2602 : decode cL_law 2602 = .ok (.aload_n 2, 1) := by decide +kernel
theorem dL_law_2603 : decode cL_law 2603 = .ok (.aload_n 0, 1) := by decide +kernel
theorem dL_law_2604 : decode cL_law 2604 = .ok (.iload 4, 2) := by decide +kernel
theorem dL_law_2606 : decode cL_law 2606 = .ok (.iconst 1, 1) := by decide +kernel
theorem dL_law_2607 : decode cL_law 2607 = .ok (.iadd, 1) := by decide +kernel
theorem dL_law_2608 : decode cL_law 2608 = .ok (.iaload, 1) := by decide +kernel
theorem dL_law_2609 : decode cL_law 2609 = .ok (.aload_n 0, 1) := by decide +kernel
theorem dL_law_2610 : decode cL_law 2610 = .ok (.iload 4, 2) := by decide +kernel
theorem dL_law_2612 : decode cL_law 2612 = .ok (.iconst 2, 1) := by decide +kernel
theorem dL_law_2613 : decode cL_law 2613 = .ok (.iadd, 1) := by decide +kernel
theorem dL_law_2614 : decode cL_law 2614 = .ok (.iaload, 1) := by decide +kernel
theorem dL_law_2615 : decode cL_law 2615 = .ok (.invokevirtual 279, 3) := by decide +kernel
theorem dL_law_2618 : decode cL_law 2618 = .ok (.istore 6, 2) := by decide +kernel
theorem dL_law_2620 : decode cL_law 2620 = .ok (.aload_n 2, 1) := by decide +kernel
theorem dL_law_2621 : decode cL_law 2621 = .ok (.invokevirtual 155, 3) := by decide +kernel
theorem dL_law_2624 : decode cL_law 2624 = .ok (.iload 5, 2) := by decide +kernel
theorem dL_law_2626 : decode cL_law 2626 = .ok (.if_icmp .eq 5, 3) := by decide +kernel
theorem dL_law_2629 : decode cL_law 2629 = .ok (.iconst 0, 1) := by decide +kernel
theorem dL_law_2630 : decode cL_law 2630 = .ok (.ireturn, 1) := by decide +kernel
theorem dL_law_2631 : decode cL_law 2631 = .ok (.iload 5, 2) := by decide +kernel
theorem dL_law_2633 : decode cL_law 2633 = .ok (.ifCond .ne 15, 3) := by decide +kernel
theorem dL_law_2636 : decode cL_law 2636 = .ok (.aload_n 3, 1) := by decide +kernel
theorem dL_law_2637 : decode cL_law 2637 = .ok (.iconst 0, 1) := by decide +kernel
theorem dL_law_2638 : decode cL_law 2638 = .ok (.laload, 1) := by decide +kernel
theorem dL_law_2639 : decode cL_law 2639 = .ok (.iload 6, 2) := by decide +kernel
theorem dL_law_2641 : decode cL_law 2641 = .ok (.i2l, 1) := by decide +kernel
theorem dL_law_2642 : decode cL_law 2642 = .ok (.lcmp, 1) := by decide +kernel
theorem dL_law_2643 : decode cL_law 2643 = .ok (.ifCond .eq 5, 3) := by decide +kernel
theorem dL_law_2646 : decode cL_law 2646 = .ok (.iconst 0, 1) := by decide +kernel
theorem dL_law_2647 : decode cL_law 2647 = .ok (.ireturn, 1) := by decide +kernel
theorem dL_law_2648 : decode cL_law 2648 = .ok (.goto 339, 3) := by decide +kernel
theorem dL_law_2651 : decode cL_law 2651 = .ok (.aload_n 1, 1) := by decide +kernel
theorem dL_law_2652 : decode cL_law 2652 = .ok (.aload_n 0, 1) := by decide +kernel
theorem dL_law_2653 : decode cL_law 2653 = .ok (.iload 4, 2) := by decide +kernel
theorem dL_law_2655 : decode cL_law 2655 = .ok (.iconst 1, 1) := by decide +kernel
theorem dL_law_2656 : decode cL_law 2656 = .ok (.iadd, 1) := by decide +kernel
theorem dL_law_2657 : decode cL_law 2657 = .ok (.iaload, 1) := by decide +kernel
theorem dL_law_2658 : decode cL_law 2658 = .ok (.aload_n 0, 1) := by decide +kernel
theorem dL_law_2659 : decode cL_law 2659 = .ok (.iload 4, 2) := by decide +kernel
theorem dL_law_2661 : decode cL_law 2661 = .ok (.iconst 2, 1) := by decide +kernel
theorem dL_law_2662 : decode cL_law 2662 = .ok (.iadd, 1) := by decide +kernel
theorem dL_law_2663 : decode cL_law 2663 = .ok (.iaload, 1) := by decide +kernel
theorem dL_law_2664 : decode cL_law 2664 = .ok (.aload_n 0, 1) := by decide +kernel
theorem dL_law_2665 : decode cL_law 2665 = .ok (.iload 4, 2) := by decide +kernel
theorem dL_law_2667 : decode cL_law 2667 = .ok (.iconst 3, 1) := by decide +kernel
theorem dL_law_2668 : decode cL_law 2668 = .ok (.iadd, 1) := by decide +kernel
theorem dL_law_2669 : decode cL_law 2669 = .ok (.iaload, 1) := by decide +kernel
theorem dL_law_2670 : decode cL_law 2670 = .ok (.invokestatic 280, 3) := by decide +kernel
theorem dL_law_2673 : decode cL_law 2673 = .ok (.istore 5, 2) := by decide +kernel
theorem dL_law_2675 : decode cL_law 2675 = .ok (.aload_n 2, 1) := by decide +kernel
theorem dL_law_2676 : decode cL_law 2676 = .ok (.aload_n 0, 1) := by decide +kernel
theorem dL_law_2677 : decode cL_law 2677 = .ok (.iload 4, 2) := by decide +kernel
theorem dL_law_2679 : decode cL_law 2679 = .ok (.iconst 1, 1) := by decide +kernel
theorem dL_law_2680 : decode cL_law 2680 = .ok (.iadd, 1) := by decide +kernel
theorem dL_law_2681 : decode cL_law 2681 = .ok (.iaload, 1) := by decide +kernel
theorem dL_law_2682 : decode cL_law 2682 = .ok (.aload_n 0, 1) := by decide +kernel
theorem dL_law_2683 : decode cL_law 2683 = .ok (.iload 4, 2) := by decide +kernel
theorem dL_law_2685 : decode cL_law 2685 = .ok (.iconst 2, 1) := by decide +kernel
theorem dL_law_2686 : decode cL_law 2686 = .ok (.iadd, 1) := by decide +kernel
theorem dL_law_2687 : decode cL_law 2687 = .ok (.iaload, 1) := by decide +kernel
theorem dL_law_2688 : decode cL_law 2688 = .ok (.aload_n 0, 1) := by decide +kernel
theorem dL_law_2689 : decode cL_law 2689 = .ok (.iload 4, 2) := by decide +kernel
theorem dL_law_2691 : decode cL_law 2691 = .ok (.iconst 3, 1) := by decide +kernel
theorem dL_law_2692 : decode cL_law 2692 = .ok (.iadd, 1) := by decide +kernel
theorem dL_law_2693 : decode cL_law 2693 = .ok (.iaload, 1) := by decide +kernel
theorem dL_law_2694 : decode cL_law 2694 = .ok (.invokevirtual 283, 3) := by decide +kernel
theorem dL_law_2697 : decode cL_law 2697 = .ok (.aload_n 2, 1) := by decide +kernel
theorem dL_law_2698 : decode cL_law 2698 = .ok (.invokevirtual 155, 3) := by decide +kernel
theorem dL_law_2701 : decode cL_law 2701 = .ok (.iload 5, 2) := by decide +kernel
theorem dL_law_2703 : decode cL_law 2703 = .ok (.if_icmp .eq 5, 3) := by decide +kernel
theorem dL_law_2706 : decode cL_law 2706 = .ok (.iconst 0, 1) := by decide +kernel
theorem dL_law_2707 : decode cL_law 2707 = .ok (.ireturn, 1) := by decide +kernel
theorem dL_law_2708 : decode cL_law 2708 = .ok (.goto 279, 3) := by decide +kernel
theorem dL_law_2711 : decode cL_law 2711 = .ok (.aload_n 1, 1) := by decide +kernel
theorem dL_law_2712 : decode cL_law 2712 = .ok (.aload_n 0, 1) := by decide +kernel
theorem dL_law_2713 : decode cL_law 2713 = .ok (.iload 4, 2) := by decide +kernel
theorem dL_law_2715 : decode cL_law 2715 = .ok (.iconst 1, 1) := by decide +kernel
theorem dL_law_2716 : decode cL_law 2716 = .ok (.iadd, 1) := by decide +kernel
theorem dL_law_2717 : decode cL_law 2717 = .ok (.iaload, 1) := by decide +kernel
theorem dL_law_2718 : decode cL_law 2718 = .ok (.aload_n 0, 1) := by decide +kernel
theorem dL_law_2719 : decode cL_law 2719 = .ok (.iload 4, 2) := by decide +kernel
theorem dL_law_2721 : decode cL_law 2721 = .ok (.iconst 2, 1) := by decide +kernel
theorem dL_law_2722 : decode cL_law 2722 = .ok (.iadd, 1) := by decide +kernel
theorem dL_law_2723 : decode cL_law 2723 = .ok (.iaload, 1) := by decide +kernel
theorem dL_law_2724 : decode cL_law 2724 = .ok (.aload_n 0, 1) := by decide +kernel
theorem dL_law_2725 : decode cL_law 2725 = .ok (.iload 4, 2) := by decide +kernel
theorem dL_law_2727 : decode cL_law 2727 = .ok (.iconst 3, 1) := by decide +kernel
theorem dL_law_2728 : decode cL_law 2728 = .ok (.iadd, 1) := by decide +kernel
theorem dL_law_2729 : decode cL_law 2729 = .ok (.iaload, 1) := by decide +kernel
theorem dL_law_2730 : decode cL_law 2730 = .ok (.i2l, 1) := by decide +kernel
theorem dL_law_2731 : decode cL_law 2731 = .ok (.bipush 32, 2) := by decide +kernel
theorem dL_law_2733 : decode cL_law 2733 = .ok (.lshl, 1) := by decide +kernel
theorem dL_law_2734 : decode cL_law 2734 = .ok (.aload_n 0, 1) := by decide +kernel
theorem dL_law_2735 : decode cL_law 2735 = .ok (.iload 4, 2) := by decide +kernel
theorem dL_law_2737 : decode cL_law 2737 = .ok (.iconst 4, 1) := by decide +kernel
theorem dL_law_2738 : decode cL_law 2738 = .ok (.iadd, 1) := by decide +kernel
theorem dL_law_2739 : decode cL_law 2739 = .ok (.iaload, 1) := by decide +kernel
theorem dL_law_2740 : decode cL_law 2740 = .ok (.i2l, 1) := by decide +kernel
theorem dL_law_2741 : decode cL_law 2741 = .ok (.ldc2_w 284, 3) := by decide +kernel
theorem dL_law_2744 : decode cL_law 2744 = .ok (.land, 1) := by decide +kernel
theorem dL_law_2745 : decode cL_law 2745 = .ok (.lor, 1) := by decide +kernel
theorem dL_law_2746 : decode cL_law 2746 = .ok (.aload_n 3, 1) := by decide +kernel
theorem dL_law_2747 : decode cL_law 2747 = .ok (.invokestatic 286, 3) := by decide +kernel
theorem dL_law_2750 : decode cL_law 2750 = .ok (.istore 5, 2) := by decide +kernel
theorem dL_law_2752 : decode cL_law 2752 = .ok (.aload_n 2, 1) := by decide +kernel
theorem dL_law_2753 : decode cL_law 2753 = .ok (.aload_n 0, 1) := by decide +kernel
theorem dL_law_2754 : decode cL_law 2754 = .ok (.iload 4, 2) := by decide +kernel
theorem dL_law_2756 : decode cL_law 2756 = .ok (.iconst 1, 1) := by decide +kernel
theorem dL_law_2757 : decode cL_law 2757 = .ok (.iadd, 1) := by decide +kernel
theorem dL_law_2758 : decode cL_law 2758 = .ok (.iaload, 1) := by decide +kernel
theorem dL_law_2759 : decode cL_law 2759 = .ok (.aload_n 0, 1) := by decide +kernel
theorem dL_law_2760 : decode cL_law 2760 = .ok (.iload 4, 2) := by decide +kernel
theorem dL_law_2762 : decode cL_law 2762 = .ok (.iconst 2, 1) := by decide +kernel
theorem dL_law_2763 : decode cL_law 2763 = .ok (.iadd, 1) := by decide +kernel
theorem dL_law_2764 : decode cL_law 2764 = .ok (.iaload, 1) := by decide +kernel
theorem dL_law_2765 : decode cL_law 2765 = .ok (.aload_n 0, 1) := by decide +kernel
theorem dL_law_2766 : decode cL_law 2766 = .ok (.iload 4, 2) := by decide +kernel
theorem dL_law_2768 : decode cL_law 2768 = .ok (.iconst 3, 1) := by decide +kernel
theorem dL_law_2769 : decode cL_law 2769 = .ok (.iadd, 1) := by decide +kernel
theorem dL_law_2770 : decode cL_law 2770 = .ok (.iaload, 1) := by decide +kernel
theorem dL_law_2771 : decode cL_law 2771 = .ok (.i2l, 1) := by decide +kernel
theorem dL_law_2772 : decode cL_law 2772 = .ok (.bipush 32, 2) := by decide +kernel
theorem dL_law_2774 : decode cL_law 2774 = .ok (.lshl, 1) := by decide +kernel
theorem dL_law_2775 : decode cL_law 2775 = .ok (.aload_n 0, 1) := by decide +kernel
theorem dL_law_2776 : decode cL_law 2776 = .ok (.iload 4, 2) := by decide +kernel
theorem dL_law_2778 : decode cL_law 2778 = .ok (.iconst 4, 1) := by decide +kernel
theorem dL_law_2779 : decode cL_law 2779 = .ok (.iadd, 1) := by decide +kernel
theorem dL_law_2780 : decode cL_law 2780 = .ok (.iaload, 1) := by decide +kernel
theorem dL_law_2781 : decode cL_law 2781 = .ok (.i2l, 1) := by decide +kernel
theorem dL_law_2782 : decode cL_law 2782 = .ok (.ldc2_w 284, 3) := by decide +kernel
theorem dL_law_2785 : decode cL_law 2785 = .ok (.land, 1) := by decide +kernel
theorem dL_law_2786 : decode cL_law 2786 = .ok (.lor, 1) := by decide +kernel
theorem dL_law_2787 : decode cL_law 2787 = .ok (.invokevirtual 289, 3) := by decide +kernel
theorem dL_law_2790 : decode cL_law 2790 = .ok (.lstore 6, 2) := by decide +kernel
theorem dL_law_2792 : decode cL_law 2792 = .ok (.aload_n 2, 1) := by decide +kernel
theorem dL_law_2793 : decode cL_law 2793 = .ok (.invokevirtual 155, 3) := by decide +kernel
theorem dL_law_2796 : decode cL_law 2796 = .ok (.iload 5, 2) := by decide +kernel
theorem dL_law_2798 : decode cL_law 2798 = .ok (.if_icmp .eq 5, 3) := by decide +kernel
theorem dL_law_2801 : decode cL_law 2801 = .ok (.iconst 0, 1) := by decide +kernel
theorem dL_law_2802 : decode cL_law 2802 = .ok (.ireturn, 1) := by decide +kernel
theorem dL_law_2803 : decode cL_law 2803 = .ok (.iload 5, 2) := by decide +kernel
theorem dL_law_2805 : decode cL_law 2805 = .ok (.ifCond .ne 14, 3) := by decide +kernel
theorem dL_law_2808 : decode cL_law 2808 = .ok (.aload_n 3, 1) := by decide +kernel
theorem dL_law_2809 : decode cL_law 2809 = .ok (.iconst 0, 1) := by decide +kernel
theorem dL_law_2810 : decode cL_law 2810 = .ok (.laload, 1) := by decide +kernel
theorem dL_law_2811 : decode cL_law 2811 = .ok (.lload 6, 2) := by decide +kernel
theorem dL_law_2813 : decode cL_law 2813 = .ok (.lcmp, 1) := by decide +kernel
theorem dL_law_2814 : decode cL_law 2814 = .ok (.ifCond .eq 5, 3) := by decide +kernel
theorem dL_law_2817 : decode cL_law 2817 = .ok (.iconst 0, 1) := by decide +kernel
theorem dL_law_2818 : decode cL_law 2818 = .ok (.ireturn, 1) := by decide +kernel
theorem dL_law_2819 : decode cL_law 2819 = .ok (.goto 168, 3) := by decide +kernel
theorem dL_law_2822 : decode cL_law 2822 = .ok (.aload_n 1, 1) := by decide +kernel
theorem dL_law_2823 : decode cL_law 2823 = .ok (.aload_n 0, 1) := by decide +kernel
theorem dL_law_2824 : decode cL_law 2824 = .ok (.iload 4, 2) := by decide +kernel
theorem dL_law_2826 : decode cL_law 2826 = .ok (.iconst 1, 1) := by decide +kernel
theorem dL_law_2827 : decode cL_law 2827 = .ok (.iadd, 1) := by decide +kernel
theorem dL_law_2828 : decode cL_law 2828 = .ok (.iaload, 1) := by decide +kernel
theorem dL_law_2829 : decode cL_law 2829 = .ok (.aload_n 0, 1) := by decide +kernel
theorem dL_law_2830 : decode cL_law 2830 = .ok (.iload 4, 2) := by decide +kernel
theorem dL_law_2832 : decode cL_law 2832 = .ok (.iconst 2, 1) := by decide +kernel
theorem dL_law_2833 : decode cL_law 2833 = .ok (.iadd, 1) := by decide +kernel
theorem dL_law_2834 : decode cL_law 2834 = .ok (.iaload, 1) := by decide +kernel
theorem dL_law_2835 : decode cL_law 2835 = .ok (.aload_n 3, 1) := by decide +kernel
theorem dL_law_2836 : decode cL_law 2836 = .ok (.invokestatic 290, 3) := by decide +kernel
theorem dL_law_2839 : decode cL_law 2839 = .ok (.istore 5, 2) := by decide +kernel
theorem dL_law_2841 : decode cL_law 2841 = .ok (.aload_n 2, 1) := by decide +kernel
theorem dL_law_2842 : decode cL_law 2842 = .ok (.aload_n 0, 1) := by decide +kernel
theorem dL_law_2843 : decode cL_law 2843 = .ok (.iload 4, 2) := by decide +kernel
theorem dL_law_2845 : decode cL_law 2845 = .ok (.iconst 1, 1) := by decide +kernel
theorem dL_law_2846 : decode cL_law 2846 = .ok (.iadd, 1) := by decide +kernel
theorem dL_law_2847 : decode cL_law 2847 = .ok (.iaload, 1) := by decide +kernel
theorem dL_law_2848 : decode cL_law 2848 = .ok (.aload_n 0, 1) := by decide +kernel
theorem dL_law_2849 : decode cL_law 2849 = .ok (.iload 4, 2) := by decide +kernel
theorem dL_law_2851 : decode cL_law 2851 = .ok (.iconst 2, 1) := by decide +kernel
theorem dL_law_2852 : decode cL_law 2852 = .ok (.iadd, 1) := by decide +kernel
theorem dL_law_2853 : decode cL_law 2853 = .ok (.iaload, 1) := by decide +kernel
theorem dL_law_2854 : decode cL_law 2854 = .ok (.invokevirtual 292, 3) := by decide +kernel
theorem dL_law_2857 : decode cL_law 2857 = .ok (.istore 6, 2) := by decide +kernel
theorem dL_law_2859 : decode cL_law 2859 = .ok (.aload_n 2, 1) := by decide +kernel
theorem dL_law_2860 : decode cL_law 2860 = .ok (.invokevirtual 155, 3) := by decide +kernel
theorem dL_law_2863 : decode cL_law 2863 = .ok (.iload 5, 2) := by decide +kernel
theorem dL_law_2865 : decode cL_law 2865 = .ok (.if_icmp .eq 5, 3) := by decide +kernel
theorem dL_law_2868 : decode cL_law 2868 = .ok (.iconst 0, 1) := by decide +kernel
theorem dL_law_2869 : decode cL_law 2869 = .ok (.ireturn, 1) := by decide +kernel
theorem dL_law_2870 : decode cL_law 2870 = .ok (.iload 5, 2) := by decide +kernel
theorem dL_law_2872 : decode cL_law 2872 = .ok (.ifCond .ne 15, 3) := by decide +kernel
theorem dL_law_2875 : decode cL_law 2875 = .ok (.aload_n 3, 1) := by decide +kernel
theorem dL_law_2876 : decode cL_law 2876 = .ok (.iconst 0, 1) := by decide +kernel
theorem dL_law_2877 : decode cL_law 2877 = .ok (.laload, 1) := by decide +kernel
theorem dL_law_2878 : decode cL_law 2878 = .ok (.iload 6, 2) := by decide +kernel
theorem dL_law_2880 : decode cL_law 2880 = .ok (.i2l, 1) := by decide +kernel
theorem dL_law_2881 : decode cL_law 2881 = .ok (.lcmp, 1) := by decide +kernel
theorem dL_law_2882 : decode cL_law 2882 = .ok (.ifCond .eq 5, 3) := by decide +kernel
theorem dL_law_2885 : decode cL_law 2885 = .ok (.iconst 0, 1) := by decide +kernel
theorem dL_law_2886 : decode cL_law 2886 = .ok (.ireturn, 1) := by decide +kernel
theorem dL_law_2887 : decode cL_law 2887 = .ok (.goto 100, 3) := by decide +kernel
theorem dL_law_2890 : decode cL_law 2890 = .ok (.aload_n 1, 1) := by decide +kernel
theorem dL_law_2891 : decode cL_law 2891 = .ok (.aload_n 0, 1) := by decide +kernel
theorem dL_law_2892 : decode cL_law 2892 = .ok (.iload 4, 2) := by decide +kernel
theorem dL_law_2894 : decode cL_law 2894 = .ok (.iconst 1, 1) := by decide +kernel
theorem dL_law_2895 : decode cL_law 2895 = .ok (.iadd, 1) := by decide +kernel
theorem dL_law_2896 : decode cL_law 2896 = .ok (.iaload, 1) := by decide +kernel
theorem dL_law_2897 : decode cL_law 2897 = .ok (.invokestatic 293, 3) := by decide +kernel
theorem dL_law_2900 : decode cL_law 2900 = .ok (.istore 5, 2) := by decide +kernel
theorem dL_law_2902 : decode cL_law 2902 = .ok (.aload_n 2, 1) := by decide +kernel
theorem dL_law_2903 : decode cL_law 2903 = .ok (.aload_n 0, 1) := by decide +kernel
theorem dL_law_2904 : decode cL_law 2904 = .ok (.iload 4, 2) := by decide +kernel
theorem dL_law_2906 : decode cL_law 2906 = .ok (.iconst 1, 1) := by decide +kernel
theorem dL_law_2907 : decode cL_law 2907 = .ok (.iadd, 1) := by decide +kernel
theorem dL_law_2908 : decode cL_law 2908 = .ok (.iaload, 1) := by decide +kernel
theorem dL_law_2909 : decode cL_law 2909 = .ok (.invokevirtual 296, 3) := by decide +kernel
theorem dL_law_2912 : decode cL_law 2912 = .ok (.aload_n 2, 1) := by decide +kernel
theorem dL_law_2913 : decode cL_law 2913 = .ok (.invokevirtual 155, 3) := by decide +kernel
theorem dL_law_2916 : decode cL_law 2916 = .ok (.iload 5, 2) := by decide +kernel
theorem dL_law_2918 : decode cL_law 2918 = .ok (.if_icmp .eq 5, 3) := by decide +kernel
theorem dL_law_2921 : decode cL_law 2921 = .ok (.iconst 0, 1) := by decide +kernel
theorem dL_law_2922 : decode cL_law 2922 = .ok (.ireturn, 1) := by decide +kernel
theorem dL_law_2923 : decode cL_law 2923 = .ok (.goto 64, 3) := by decide +kernel
theorem dL_law_2926 : decode cL_law 2926 = .ok (.aload_n 1, 1) := by decide +kernel
theorem dL_law_2927 : decode cL_law 2927 = .ok (.aload_n 0, 1) := by decide +kernel
theorem dL_law_2928 : decode cL_law 2928 = .ok (.iload 4, 2) := by decide +kernel
theorem dL_law_2930 : decode cL_law 2930 = .ok (.iconst 1, 1) := by decide +kernel
theorem dL_law_2931 : decode cL_law 2931 = .ok (.iadd, 1) := by decide +kernel
theorem dL_law_2932 : decode cL_law 2932 = .ok (.iaload, 1) := by decide +kernel
theorem dL_law_2933 : decode cL_law 2933 = .ok (.invokestatic 297, 3) := by decide +kernel
theorem dL_law_2936 : decode cL_law 2936 = .ok (.istore 5, 2) := by decide +kernel
theorem dL_law_2938 : decode cL_law 2938 = .ok (.aload_n 2, 1) := by decide +kernel
theorem dL_law_2939 : decode cL_law 2939 = .ok (.aload_n 0, 1) := by decide +kernel
theorem dL_law_2940 : decode cL_law 2940 = .ok (.iload 4, 2) := by decide +kernel
theorem dL_law_2942 : decode cL_law 2942 = .ok (.iconst 1, 1) := by decide +kernel
theorem dL_law_2943 : decode cL_law 2943 = .ok (.iadd, 1) := by decide +kernel
theorem dL_law_2944 : decode cL_law 2944 = .ok (.iaload, 1) := by decide +kernel
theorem dL_law_2945 : decode cL_law 2945 = .ok (.invokevirtual 299, 3) := by decide +kernel
theorem dL_law_2948 : decode cL_law 2948 = .ok (.aload_n 2, 1) := by decide +kernel
theorem dL_law_2949 : decode cL_law 2949 = .ok (.invokevirtual 155, 3) := by decide +kernel
theorem dL_law_2952 : decode cL_law 2952 = .ok (.iload 5, 2) := by decide +kernel
theorem dL_law_2954 : decode cL_law 2954 = .ok (.if_icmp .eq 5, 3) := by decide +kernel
theorem dL_law_2957 : decode cL_law 2957 = .ok (.iconst 0, 1) := by decide +kernel
theorem dL_law_2958 : decode cL_law 2958 = .ok (.ireturn, 1) := by decide +kernel
theorem dL_law_2959 : decode cL_law 2959 = .ok (.goto 28, 3) := by decide +kernel
theorem dL_law_2962 : decode cL_law 2962 = .ok (.aload_n 1, 1) := by decide +kernel
theorem dL_law_2963 : decode cL_law 2963 = .ok (.aload_n 0, 1) := by decide +kernel
theorem dL_law_2964 : decode cL_law 2964 = .ok (.iload 4, 2) := by decide +kernel
theorem dL_law_2966 : decode cL_law 2966 = .ok (.iconst 1, 1) := by decide +kernel
theorem dL_law_2967 : decode cL_law 2967 = .ok (.iadd, 1) := by decide +kernel
theorem dL_law_2968 : decode cL_law 2968 = .ok (.iaload, 1) := by decide +kernel
theorem dL_law_2969 : decode cL_law 2969 = .ok (.invokevirtual 300, 3) := by decide +kernel
theorem dL_law_2972 : decode cL_law 2972 = .ok (.aload_n 2, 1) := by decide +kernel
theorem dL_law_2973 : decode cL_law 2973 = .ok (.aload_n 0, 1) := by decide +kernel
theorem dL_law_2974 : decode cL_law 2974 = .ok (.iload 4, 2) := by decide +kernel
theorem dL_law_2976 : decode cL_law 2976 = .ok (.iconst 1, 1) := by decide +kernel
theorem dL_law_2977 : decode cL_law 2977 = .ok (.iadd, 1) := by decide +kernel
theorem dL_law_2978 : decode cL_law 2978 = .ok (.iaload, 1) := by decide +kernel
theorem dL_law_2979 : decode cL_law 2979 = .ok (.invokevirtual 303, 3) := by decide +kernel
theorem dL_law_2982 : decode cL_law 2982 = .ok (.if_icmp .eq 5, 3) := by decide +kernel
theorem dL_law_2985 : decode cL_law 2985 = .ok (.iconst 0, 1) := by decide +kernel
theorem dL_law_2986 : decode cL_law 2986 = .ok (.ireturn, 1) := by decide +kernel
theorem dL_law_2987 : decode cL_law 2987 = .ok (.iinc 4 7, 3) := by decide +kernel
theorem dL_law_2990 : decode cL_law 2990 = .ok (.goto (-2967), 3) := by decide +kernel
theorem dL_law_2993 : decode cL_law 2993 = .ok (.iconst 1, 1) := by decide +kernel
theorem dL_law_2994 : decode cL_law 2994 = .ok (.ireturn, 1) := by decide +kernel
