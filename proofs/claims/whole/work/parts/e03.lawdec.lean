/-! the law's instructions, on -/
theorem d_Law_law_1542 : decode code 1542 = .ok (.lcmp, 1) := by decide +kernel
theorem d_Law_law_1543 : decode code 1543 = .ok (.ifCond .eq 5, 3) := by decide +kernel
theorem d_Law_law_1546 : decode code 1546 = .ok (.iconst 0, 1) := by decide +kernel
theorem d_Law_law_1547 : decode code 1547 = .ok (.ireturn, 1) := by decide +kernel
theorem d_Law_law_1548 : decode code 1548 = .ok (.goto 1681, 3) := by decide +kernel
theorem d_Law_law_1551 : decode code 1551 = .ok (.aload_n 1, 1) := by decide +kernel
theorem d_Law_law_1552 : decode code 1552 = .ok (.aload_n 0, 1) := by decide +kernel
theorem d_Law_law_1553 : decode code 1553 = .ok (.iload 4, 2) := by decide +kernel
theorem d_Law_law_1555 : decode code 1555 = .ok (.iconst 1, 1) := by decide +kernel
theorem d_Law_law_1556 : decode code 1556 = .ok (.iadd, 1) := by decide +kernel
theorem d_Law_law_1557 : decode code 1557 = .ok (.iaload, 1) := by decide +kernel
theorem d_Law_law_1558 : decode code 1558 = .ok (.aload_n 3, 1) := by decide +kernel
theorem d_Law_law_1559 : decode code 1559 = .ok (.invokestatic 219, 3) := by decide +kernel
theorem d_Law_law_1562 : decode code 1562 = .ok (.istore 5, 2) := by decide +kernel
theorem d_Law_law_1564 : decode code 1564 = .ok (.aload_n 2, 1) := by decide +kernel
theorem d_Law_law_1565 : decode code 1565 = .ok (.aload_n 0, 1) := by decide +kernel
theorem d_Law_law_1566 : decode code 1566 = .ok (.iload 4, 2) := by decide +kernel
theorem d_Law_law_1568 : decode code 1568 = .ok (.iconst 1, 1) := by decide +kernel
theorem d_Law_law_1569 : decode code 1569 = .ok (.iadd, 1) := by decide +kernel
theorem d_Law_law_1570 : decode code 1570 = .ok (.iaload, 1) := by decide +kernel
theorem d_Law_law_1571 : decode code 1571 = .ok (.invokevirtual 221, 3) := by decide +kernel
theorem d_Law_law_1574 : decode code 1574 = .ok (.istore 6, 2) := by decide +kernel
theorem d_Law_law_1576 : decode code 1576 = .ok (.aload_n 2, 1) := by decide +kernel
theorem d_Law_law_1577 : decode code 1577 = .ok (.invokevirtual 160, 3) := by decide +kernel
theorem d_Law_law_1580 : decode code 1580 = .ok (.iload 5, 2) := by decide +kernel
theorem d_Law_law_1582 : decode code 1582 = .ok (.if_icmp .eq 5, 3) := by decide +kernel
theorem d_Law_law_1585 : decode code 1585 = .ok (.iconst 0, 1) := by decide +kernel
theorem d_Law_law_1586 : decode code 1586 = .ok (.ireturn, 1) := by decide +kernel
theorem d_Law_law_1587 : decode code 1587 = .ok (.iload 5, 2) := by decide +kernel
theorem d_Law_law_1589 : decode code 1589 = .ok (.ifCond .ne 15, 3) := by decide +kernel
theorem d_Law_law_1592 : decode code 1592 = .ok (.aload_n 3, 1) := by decide +kernel
theorem d_Law_law_1593 : decode code 1593 = .ok (.iconst 0, 1) := by decide +kernel
theorem d_Law_law_1594 : decode code 1594 = .ok (.laload, 1) := by decide +kernel
theorem d_Law_law_1595 : decode code 1595 = .ok (.iload 6, 2) := by decide +kernel
theorem d_Law_law_1597 : decode code 1597 = .ok (.i2l, 1) := by decide +kernel
theorem d_Law_law_1598 : decode code 1598 = .ok (.lcmp, 1) := by decide +kernel
theorem d_Law_law_1599 : decode code 1599 = .ok (.ifCond .eq 5, 3) := by decide +kernel
theorem d_Law_law_1602 : decode code 1602 = .ok (.iconst 0, 1) := by decide +kernel
theorem d_Law_law_1603 : decode code 1603 = .ok (.ireturn, 1) := by decide +kernel
theorem d_Law_law_1604 : decode code 1604 = .ok (.goto 1625, 3) := by decide +kernel
theorem d_Law_law_1607 : decode code 1607 = .ok (.aload_n 1, 1) := by decide +kernel
theorem d_Law_law_1608 : decode code 1608 = .ok (.aload_n 0, 1) := by decide +kernel
theorem d_Law_law_1609 : decode code 1609 = .ok (.iload 4, 2) := by decide +kernel
theorem d_Law_law_1611 : decode code 1611 = .ok (.iconst 1, 1) := by decide +kernel
theorem d_Law_law_1612 : decode code 1612 = .ok (.iadd, 1) := by decide +kernel
theorem d_Law_law_1613 : decode code 1613 = .ok (.iaload, 1) := by decide +kernel
theorem d_Law_law_1614 : decode code 1614 = .ok (.aload_n 3, 1) := by decide +kernel
theorem d_Law_law_1615 : decode code 1615 = .ok (.invokestatic 222, 3) := by decide +kernel
theorem d_Law_law_1618 : decode code 1618 = .ok (.istore 5, 2) := by decide +kernel
theorem d_Law_law_1620 : decode code 1620 = .ok (.aload_n 2, 1) := by decide +kernel
theorem d_Law_law_1621 : decode code 1621 = .ok (.aload_n 0, 1) := by decide +kernel
theorem d_Law_law_1622 : decode code 1622 = .ok (.iload 4, 2) := by decide +kernel
theorem d_Law_law_1624 : decode code 1624 = .ok (.iconst 1, 1) := by decide +kernel
theorem d_Law_law_1625 : decode code 1625 = .ok (.iadd, 1) := by decide +kernel
theorem d_Law_law_1626 : decode code 1626 = .ok (.iaload, 1) := by decide +kernel
theorem d_Law_law_1627 : decode code 1627 = .ok (.invokevirtual 224, 3) := by decide +kernel
theorem d_Law_law_1630 : decode code 1630 = .ok (.istore 6, 2) := by decide +kernel
theorem d_Law_law_1632 : decode code 1632 = .ok (.aload_n 2, 1) := by decide +kernel
theorem d_Law_law_1633 : decode code 1633 = .ok (.invokevirtual 160, 3) := by decide +kernel
theorem d_Law_law_1636 : decode code 1636 = .ok (.iload 5, 2) := by decide +kernel
theorem d_Law_law_1638 : decode code 1638 = .ok (.if_icmp .eq 5, 3) := by decide +kernel
theorem d_Law_law_1641 : decode code 1641 = .ok (.iconst 0, 1) := by decide +kernel
theorem d_Law_law_1642 : decode code 1642 = .ok (.ireturn, 1) := by decide +kernel
theorem d_Law_law_1643 : decode code 1643 = .ok (.iload 5, 2) := by decide +kernel
theorem d_Law_law_1645 : decode code 1645 = .ok (.ifCond .ne 15, 3) := by decide +kernel
theorem d_Law_law_1648 : decode code 1648 = .ok (.aload_n 3, 1) := by decide +kernel
theorem d_Law_law_1649 : decode code 1649 = .ok (.iconst 0, 1) := by decide +kernel
theorem d_Law_law_1650 : decode code 1650 = .ok (.laload, 1) := by decide +kernel
theorem d_Law_law_1651 : decode code 1651 = .ok (.iload 6, 2) := by decide +kernel
theorem d_Law_law_1653 : decode code 1653 = .ok (.i2l, 1) := by decide +kernel
theorem d_Law_law_1654 : decode code 1654 = .ok (.lcmp, 1) := by decide +kernel
theorem d_Law_law_1655 : decode code 1655 = .ok (.ifCond .eq 5, 3) := by decide +kernel
theorem d_Law_law_1658 : decode code 1658 = .ok (.iconst 0, 1) := by decide +kernel
theorem d_Law_law_1659 : decode code 1659 = .ok (.ireturn, 1) := by decide +kernel
theorem d_Law_law_1660 : decode code 1660 = .ok (.goto 1569, 3) := by decide +kernel
theorem d_Law_law_1663 : decode code 1663 = .ok (.aload_n 1, 1) := by decide +kernel
theorem d_Law_law_1664 : decode code 1664 = .ok (.aload_n 0, 1) := by decide +kernel
theorem d_Law_law_1665 : decode code 1665 = .ok (.iload 4, 2) := by decide +kernel
theorem d_Law_law_1667 : decode code 1667 = .ok (.iconst 1, 1) := by decide +kernel
theorem d_Law_law_1668 : decode code 1668 = .ok (.iadd, 1) := by decide +kernel
theorem d_Law_law_1669 : decode code 1669 = .ok (.iaload, 1) := by decide +kernel
theorem d_Law_law_1670 : decode code 1670 = .ok (.aload_n 0, 1) := by decide +kernel
theorem d_Law_law_1671 : decode code 1671 = .ok (.iload 4, 2) := by decide +kernel
theorem d_Law_law_1673 : decode code 1673 = .ok (.iconst 2, 1) := by decide +kernel
theorem d_Law_law_1674 : decode code 1674 = .ok (.iadd, 1) := by decide +kernel
theorem d_Law_law_1675 : decode code 1675 = .ok (.iaload, 1) := by decide +kernel
theorem d_Law_law_1676 : decode code 1676 = .ok (.aload_n 0, 1) := by decide +kernel
theorem d_Law_law_1677 : decode code 1677 = .ok (.iload 4, 2) := by decide +kernel
theorem d_Law_law_1679 : decode code 1679 = .ok (.iconst 3, 1) := by decide +kernel
theorem d_Law_law_1680 : decode code 1680 = .ok (.iadd, 1) := by decide +kernel
theorem d_Law_law_1681 : decode code 1681 = .ok (.iaload, 1) := by decide +kernel
theorem d_Law_law_1682 : decode code 1682 = .ok (.aload_n 0, 1) := by decide +kernel
theorem d_Law_law_1683 : decode code 1683 = .ok (.iload 4, 2) := by decide +kernel
theorem d_Law_law_1685 : decode code 1685 = .ok (.iconst 4, 1) := by decide +kernel
theorem d_Law_law_1686 : decode code 1686 = .ok (.iadd, 1) := by decide +kernel
theorem d_Law_law_1687 : decode code 1687 = .ok (.iaload, 1) := by decide +kernel
theorem d_Law_law_1688 : decode code 1688 = .ok (.ifCond .eq 7, 3) := by decide +kernel
theorem d_Law_law_1691 : decode code 1691 = .ok (.iconst 1, 1) := by decide +kernel
theorem d_Law_law_1692 : decode code 1692 = .ok (.goto 4, 3) := by decide +kernel
theorem d_Law_law_1695 : decode code 1695 = .ok (.iconst 0, 1) := by decide +kernel
theorem d_Law_law_1696 : decode code 1696 = .ok (.aload_n 3, 1) := by decide +kernel
theorem d_Law_law_1697 : decode code 1697 = .ok (.invokestatic 225, 3) := by decide +kernel
theorem d_Law_law_1700 : decode code 1700 = .ok (.istore 5, 2) := by decide +kernel
theorem d_Law_law_1702 : decode code 1702 = .ok (.aload_n 2, 1) := by decide +kernel
theorem d_Law_law_1703 : decode code 1703 = .ok (.aload_n 0, 1) := by decide +kernel
theorem d_Law_law_1704 : decode code 1704 = .ok (.iload 4, 2) := by decide +kernel
theorem d_Law_law_1706 : decode code 1706 = .ok (.iconst 1, 1) := by decide +kernel
theorem d_Law_law_1707 : decode code 1707 = .ok (.iadd, 1) := by decide +kernel
theorem d_Law_law_1708 : decode code 1708 = .ok (.iaload, 1) := by decide +kernel
theorem d_Law_law_1709 : decode code 1709 = .ok (.aload_n 0, 1) := by decide +kernel
theorem d_Law_law_1710 : decode code 1710 = .ok (.iload 4, 2) := by decide +kernel
theorem d_Law_law_1712 : decode code 1712 = .ok (.iconst 2, 1) := by decide +kernel
theorem d_Law_law_1713 : decode code 1713 = .ok (.iadd, 1) := by decide +kernel
theorem d_Law_law_1714 : decode code 1714 = .ok (.iaload, 1) := by decide +kernel
theorem d_Law_law_1715 : decode code 1715 = .ok (.aload_n 0, 1) := by decide +kernel
theorem d_Law_law_1716 : decode code 1716 = .ok (.iload 4, 2) := by decide +kernel
theorem d_Law_law_1718 : decode code 1718 = .ok (.iconst 3, 1) := by decide +kernel
theorem d_Law_law_1719 : decode code 1719 = .ok (.iadd, 1) := by decide +kernel
theorem d_Law_law_1720 : decode code 1720 = .ok (.iaload, 1) := by decide +kernel
theorem d_Law_law_1721 : decode code 1721 = .ok (.aload_n 0, 1) := by decide +kernel
theorem d_Law_law_1722 : decode code 1722 = .ok (.iload 4, 2) := by decide +kernel
theorem d_Law_law_1724 : decode code 1724 = .ok (.iconst 4, 1) := by decide +kernel
theorem d_Law_law_1725 : decode code 1725 = .ok (.iadd, 1) := by decide +kernel
theorem d_Law_law_1726 : decode code 1726 = .ok (.iaload, 1) := by decide +kernel
theorem d_Law_law_1727 : decode code 1727 = .ok (.ifCond .eq 7, 3) := by decide +kernel
theorem d_Law_law_1730 : decode code 1730 = .ok (.iconst 1, 1) := by decide +kernel
theorem d_Law_law_1731 : decode code 1731 = .ok (.goto 4, 3) := by decide +kernel
theorem d_Law_law_1734 : decode code 1734 = .ok (.iconst 0, 1) := by decide +kernel
theorem d_Law_law_1735 : decode code 1735 = .ok (.invokevirtual 228, 3) := by decide +kernel
theorem d_Law_law_1738 : decode code 1738 = .ok (.istore 6, 2) := by decide +kernel
theorem d_Law_law_1740 : decode code 1740 = .ok (.aload_n 2, 1) := by decide +kernel
theorem d_Law_law_1741 : decode code 1741 = .ok (.invokevirtual 160, 3) := by decide +kernel
theorem d_Law_law_1744 : decode code 1744 = .ok (.iload 5, 2) := by decide +kernel
theorem d_Law_law_1746 : decode code 1746 = .ok (.if_icmp .eq 5, 3) := by decide +kernel
theorem d_Law_law_1749 : decode code 1749 = .ok (.iconst 0, 1) := by decide +kernel
theorem d_Law_law_1750 : decode code 1750 = .ok (.ireturn, 1) := by decide +kernel
theorem d_Law_law_1751 : decode code 1751 = .ok (.iload 5, 2) := by decide +kernel
theorem d_Law_law_1753 : decode code 1753 = .ok (.ifCond .ne 15, 3) := by decide +kernel
theorem d_Law_law_1756 : decode code 1756 = .ok (.aload_n 3, 1) := by decide +kernel
theorem d_Law_law_1757 : decode code 1757 = .ok (.iconst 0, 1) := by decide +kernel
theorem d_Law_law_1758 : decode code 1758 = .ok (.laload, 1) := by decide +kernel
theorem d_Law_law_1759 : decode code 1759 = .ok (.iload 6, 2) := by decide +kernel
theorem d_Law_law_1761 : decode code 1761 = .ok (.i2l, 1) := by decide +kernel
theorem d_Law_law_1762 : decode code 1762 = .ok (.lcmp, 1) := by decide +kernel
theorem d_Law_law_1763 : decode code 1763 = .ok (.ifCond .eq 5, 3) := by decide +kernel
theorem d_Law_law_1766 : decode code 1766 = .ok (.iconst 0, 1) := by decide +kernel
theorem d_Law_law_1767 : decode code 1767 = .ok (.ireturn, 1) := by decide +kernel
theorem d_Law_law_1768 : decode code 1768 = .ok (.goto 1461, 3) := by decide +kernel
theorem d_Law_law_1771 : decode code 1771 = .ok (.aload_n 1, 1) := by decide +kernel
theorem d_Law_law_1772 : decode code 1772 = .ok (.aload_n 0, 1) := by decide +kernel
theorem d_Law_law_1773 : decode code 1773 = .ok (.iload 4, 2) := by decide +kernel
theorem d_Law_law_1775 : decode code 1775 = .ok (.iconst 1, 1) := by decide +kernel
theorem d_Law_law_1776 : decode code 1776 = .ok (.iadd, 1) := by decide +kernel
theorem d_Law_law_1777 : decode code 1777 = .ok (.iaload, 1) := by decide +kernel
theorem d_Law_law_1778 : decode code 1778 = .ok (.aload_n 0, 1) := by decide +kernel
theorem d_Law_law_1779 : decode code 1779 = .ok (.iload 4, 2) := by decide +kernel
theorem d_Law_law_1781 : decode code 1781 = .ok (.iconst 2, 1) := by decide +kernel
theorem d_Law_law_1782 : decode code 1782 = .ok (.iadd, 1) := by decide +kernel
theorem d_Law_law_1783 : decode code 1783 = .ok (.iaload, 1) := by decide +kernel
theorem d_Law_law_1784 : decode code 1784 = .ok (.aload_n 0, 1) := by decide +kernel
theorem d_Law_law_1785 : decode code 1785 = .ok (.iload 4, 2) := by decide +kernel
theorem d_Law_law_1787 : decode code 1787 = .ok (.iconst 3, 1) := by decide +kernel
theorem d_Law_law_1788 : decode code 1788 = .ok (.iadd, 1) := by decide +kernel
theorem d_Law_law_1789 : decode code 1789 = .ok (.iaload, 1) := by decide +kernel
theorem d_Law_law_1790 : decode code 1790 = .ok (.aload_n 0, 1) := by decide +kernel
theorem d_Law_law_1791 : decode code 1791 = .ok (.iload 4, 2) := by decide +kernel
theorem d_Law_law_1793 : decode code 1793 = .ok (.iconst 4, 1) := by decide +kernel
theorem d_Law_law_1794 : decode code 1794 = .ok (.iadd, 1) := by decide +kernel
theorem d_Law_law_1795 : decode code 1795 = .ok (.iaload, 1) := by decide +kernel
theorem d_Law_law_1796 : decode code 1796 = .ok (.ifCond .eq 7, 3) := by decide +kernel
theorem d_Law_law_1799 : decode code 1799 = .ok (.iconst 1, 1) := by decide +kernel
theorem d_Law_law_1800 : decode code 1800 = .ok (.goto 4, 3) := by decide +kernel
theorem d_Law_law_1803 : decode code 1803 = .ok (.iconst 0, 1) := by decide +kernel
theorem d_Law_law_1804 : decode code 1804 = .ok (.aload_n 3, 1) := by decide +kernel
theorem d_Law_law_1805 : decode code 1805 = .ok (.invokestatic 229, 3) := by decide +kernel
theorem d_Law_law_1808 : decode code 1808 = .ok (.istore 5, 2) := by decide +kernel
theorem d_Law_law_1810 : decode code 1810 = .ok (.aload_n 2, 1) := by decide +kernel
theorem d_Law_law_1811 : decode code 1811 = .ok (.aload_n 0, 1) := by decide +kernel
theorem d_Law_law_1812 : decode code 1812 = .ok (.iload 4, 2) := by decide +kernel
theorem d_Law_law_1814 : decode code 1814 = .ok (.iconst 1, 1) := by decide +kernel
theorem d_Law_law_1815 : decode code 1815 = .ok (.iadd, 1) := by decide +kernel
theorem d_Law_law_1816 : decode code 1816 = .ok (.iaload, 1) := by decide +kernel
theorem d_Law_law_1817 : decode code 1817 = .ok (.aload_n 0, 1) := by decide +kernel
theorem d_Law_law_1818 : decode code 1818 = .ok (.iload 4, 2) := by decide +kernel
theorem d_Law_law_1820 : decode code 1820 = .ok (.iconst 2, 1) := by decide +kernel
theorem d_Law_law_1821 : decode code 1821 = .ok (.iadd, 1) := by decide +kernel
theorem d_Law_law_1822 : decode code 1822 = .ok (.iaload, 1) := by decide +kernel
theorem d_Law_law_1823 : decode code 1823 = .ok (.aload_n 0, 1) := by decide +kernel
theorem d_Law_law_1824 : decode code 1824 = .ok (.iload 4, 2) := by decide +kernel
theorem d_Law_law_1826 : decode code 1826 = .ok (.iconst 3, 1) := by decide +kernel
theorem d_Law_law_1827 : decode code 1827 = .ok (.iadd, 1) := by decide +kernel
theorem d_Law_law_1828 : decode code 1828 = .ok (.iaload, 1) := by decide +kernel
theorem d_Law_law_1829 : decode code 1829 = .ok (.aload_n 0, 1) := by decide +kernel
theorem d_Law_law_1830 : decode code 1830 = .ok (.iload 4, 2) := by decide +kernel
theorem d_Law_law_1832 : decode code 1832 = .ok (.iconst 4, 1) := by decide +kernel
theorem d_Law_law_1833 : decode code 1833 = .ok (.iadd, 1) := by decide +kernel
theorem d_Law_law_1834 : decode code 1834 = .ok (.iaload, 1) := by decide +kernel
theorem d_Law_law_1835 : decode code 1835 = .ok (.ifCond .eq 7, 3) := by decide +kernel
theorem d_Law_law_1838 : decode code 1838 = .ok (.iconst 1, 1) := by decide +kernel
theorem d_Law_law_1839 : decode code 1839 = .ok (.goto 4, 3) := by decide +kernel
theorem d_Law_law_1842 : decode code 1842 = .ok (.iconst 0, 1) := by decide +kernel
theorem d_Law_law_1843 : decode code 1843 = .ok (.invokevirtual 231, 3) := by decide +kernel
theorem d_Law_law_1846 : decode code 1846 = .ok (.istore 6, 2) := by decide +kernel
theorem d_Law_law_1848 : decode code 1848 = .ok (.aload_n 2, 1) := by decide +kernel
theorem d_Law_law_1849 : decode code 1849 = .ok (.invokevirtual 160, 3) := by decide +kernel
theorem d_Law_law_1852 : decode code 1852 = .ok (.iload 5, 2) := by decide +kernel
theorem d_Law_law_1854 : decode code 1854 = .ok (.if_icmp .eq 5, 3) := by decide +kernel
theorem d_Law_law_1857 : decode code 1857 = .ok (.iconst 0, 1) := by decide +kernel
theorem d_Law_law_1858 : decode code 1858 = .ok (.ireturn, 1) := by decide +kernel
theorem d_Law_law_1859 : decode code 1859 = .ok (.iload 5, 2) := by decide +kernel
theorem d_Law_law_1861 : decode code 1861 = .ok (.ifCond .ne 15, 3) := by decide +kernel
theorem d_Law_law_1864 : decode code 1864 = .ok (.aload_n 3, 1) := by decide +kernel
theorem d_Law_law_1865 : decode code 1865 = .ok (.iconst 0, 1) := by decide +kernel
theorem d_Law_law_1866 : decode code 1866 = .ok (.laload, 1) := by decide +kernel
theorem d_Law_law_1867 : decode code 1867 = .ok (.iload 6, 2) := by decide +kernel
theorem d_Law_law_1869 : decode code 1869 = .ok (.i2l, 1) := by decide +kernel
theorem d_Law_law_1870 : decode code 1870 = .ok (.lcmp, 1) := by decide +kernel
theorem d_Law_law_1871 : decode code 1871 = .ok (.ifCond .eq 5, 3) := by decide +kernel
theorem d_Law_law_1874 : decode code 1874 = .ok (.iconst 0, 1) := by decide +kernel
theorem d_Law_law_1875 : decode code 1875 = .ok (.ireturn, 1) := by decide +kernel
theorem d_Law_law_1876 : decode code 1876 = .ok (.goto 1353, 3) := by decide +kernel
theorem d_Law_law_1879 : decode code 1879 = .ok (.aload_n 1, 1) := by decide +kernel
theorem d_Law_law_1880 : decode code 1880 = .ok (.aload_n 0, 1) := by decide +kernel
theorem d_Law_law_1881 : decode code 1881 = .ok (.iload 4, 2) := by decide +kernel
theorem d_Law_law_1883 : decode code 1883 = .ok (.iconst 1, 1) := by decide +kernel
theorem d_Law_law_1884 : decode code 1884 = .ok (.iadd, 1) := by decide +kernel
theorem d_Law_law_1885 : decode code 1885 = .ok (.iaload, 1) := by decide +kernel
theorem d_Law_law_1886 : decode code 1886 = .ok (.aload_n 0, 1) := by decide +kernel
theorem d_Law_law_1887 : decode code 1887 = .ok (.iload 4, 2) := by decide +kernel
theorem d_Law_law_1889 : decode code 1889 = .ok (.iconst 2, 1) := by decide +kernel
theorem d_Law_law_1890 : decode code 1890 = .ok (.iadd, 1) := by decide +kernel
theorem d_Law_law_1891 : decode code 1891 = .ok (.iaload, 1) := by decide +kernel
theorem d_Law_law_1892 : decode code 1892 = .ok (.aload_n 0, 1) := by decide +kernel
theorem d_Law_law_1893 : decode code 1893 = .ok (.iload 4, 2) := by decide +kernel
theorem d_Law_law_1895 : decode code 1895 = .ok (.iconst 3, 1) := by decide +kernel
theorem d_Law_law_1896 : decode code 1896 = .ok (.iadd, 1) := by decide +kernel
theorem d_Law_law_1897 : decode code 1897 = .ok (.iaload, 1) := by decide +kernel
theorem d_Law_law_1898 : decode code 1898 = .ok (.aload_n 3, 1) := by decide +kernel
theorem d_Law_law_1899 : decode code 1899 = .ok (.invokestatic 232, 3) := by decide +kernel
theorem d_Law_law_1902 : decode code 1902 = .ok (.istore 5, 2) := by decide +kernel
theorem d_Law_law_1904 : decode code 1904 = .ok (.aload_n 2, 1) := by decide +kernel
theorem d_Law_law_1905 : decode code 1905 = .ok (.aload_n 0, 1) := by decide +kernel
theorem d_Law_law_1906 : decode code 1906 = .ok (.iload 4, 2) := by decide +kernel
theorem d_Law_law_1908 : decode code 1908 = .ok (.iconst 1, 1) := by decide +kernel
theorem d_Law_law_1909 : decode code 1909 = .ok (.iadd, 1) := by decide +kernel
theorem d_Law_law_1910 : decode code 1910 = .ok (.iaload, 1) := by decide +kernel
theorem d_Law_law_1911 : decode code 1911 = .ok (.aload_n 0, 1) := by decide +kernel
theorem d_Law_law_1912 : decode code 1912 = .ok (.iload 4, 2) := by decide +kernel
theorem d_Law_law_1914 : decode code 1914 = .ok (.iconst 2, 1) := by decide +kernel
theorem d_Law_law_1915 : decode code 1915 = .ok (.iadd, 1) := by decide +kernel
theorem d_Law_law_1916 : decode code 1916 = .ok (.iaload, 1) := by decide +kernel
theorem d_Law_law_1917 : decode code 1917 = .ok (.aload_n 0, 1) := by decide +kernel
theorem d_Law_law_1918 : decode code 1918 = .ok (.iload 4, 2) := by decide +kernel
theorem d_Law_law_1920 : decode code 1920 = .ok (.iconst 3, 1) := by decide +kernel
theorem d_Law_law_1921 : decode code 1921 = .ok (.iadd, 1) := by decide +kernel
theorem d_Law_law_1922 : decode code 1922 = .ok (.iaload, 1) := by decide +kernel
theorem d_Law_law_1923 : decode code 1923 = .ok (.invokevirtual 234, 3) := by decide +kernel
theorem d_Law_law_1926 : decode code 1926 = .ok (.istore 6, 2) := by decide +kernel
theorem d_Law_law_1928 : decode code 1928 = .ok (.aload_n 2, 1) := by decide +kernel
theorem d_Law_law_1929 : decode code 1929 = .ok (.invokevirtual 160, 3) := by decide +kernel
theorem d_Law_law_1932 : decode code 1932 = .ok (.iload 5, 2) := by decide +kernel
theorem d_Law_law_1934 : decode code 1934 = .ok (.if_icmp .eq 5, 3) := by decide +kernel
theorem d_Law_law_1937 : decode code 1937 = .ok (.iconst 0, 1) := by decide +kernel
theorem d_Law_law_1938 : decode code 1938 = .ok (.ireturn, 1) := by decide +kernel
theorem d_Law_law_1939 : decode code 1939 = .ok (.iload 5, 2) := by decide +kernel
theorem d_Law_law_1941 : decode code 1941 = .ok (.ifCond .ne 15, 3) := by decide +kernel
theorem d_Law_law_1944 : decode code 1944 = .ok (.aload_n 3, 1) := by decide +kernel
theorem d_Law_law_1945 : decode code 1945 = .ok (.iconst 0, 1) := by decide +kernel
theorem d_Law_law_1946 : decode code 1946 = .ok (.laload, 1) := by decide +kernel
theorem d_Law_law_1947 : decode code 1947 = .ok (.iload 6, 2) := by decide +kernel
theorem d_Law_law_1949 : decode code 1949 = .ok (.i2l, 1) := by decide +kernel
theorem d_Law_law_1950 : decode code 1950 = .ok (.lcmp, 1) := by decide +kernel
theorem d_Law_law_1951 : decode code 1951 = .ok (.ifCond .eq 5, 3) := by decide +kernel
theorem d_Law_law_1954 : decode code 1954 = .ok (.iconst 0, 1) := by decide +kernel
theorem d_Law_law_1955 : decode code 1955 = .ok (.ireturn, 1) := by decide +kernel
theorem d_Law_law_1956 : decode code 1956 = .ok (.goto 1273, 3) := by decide +kernel
theorem d_Law_law_1959 : decode code 1959 = .ok (.aload_n 1, 1) := by decide +kernel
theorem d_Law_law_1960 : decode code 1960 = .ok (.aload_n 0, 1) := by decide +kernel
theorem d_Law_law_1961 : decode code 1961 = .ok (.iload 4, 2) := by decide +kernel
theorem d_Law_law_1963 : decode code 1963 = .ok (.iconst 1, 1) := by decide +kernel
theorem d_Law_law_1964 : decode code 1964 = .ok (.iadd, 1) := by decide +kernel
theorem d_Law_law_1965 : decode code 1965 = .ok (.iaload, 1) := by decide +kernel
theorem d_Law_law_1966 : decode code 1966 = .ok (.aload_n 0, 1) := by decide +kernel
theorem d_Law_law_1967 : decode code 1967 = .ok (.iload 4, 2) := by decide +kernel
theorem d_Law_law_1969 : decode code 1969 = .ok (.iconst 2, 1) := by decide +kernel
theorem d_Law_law_1970 : decode code 1970 = .ok (.iadd, 1) := by decide +kernel
theorem d_Law_law_1971 : decode code 1971 = .ok (.iaload, 1) := by decide +kernel
theorem d_Law_law_1972 : decode code 1972 = .ok (.aload_n 0, 1) := by decide +kernel
theorem d_Law_law_1973 : decode code 1973 = .ok (.iload 4, 2) := by decide +kernel
theorem d_Law_law_1975 : decode code 1975 = .ok (.iconst 3, 1) := by decide +kernel
theorem d_Law_law_1976 : decode code 1976 = .ok (.iadd, 1) := by decide +kernel
theorem d_Law_law_1977 : decode code 1977 = .ok (.iaload, 1) := by decide +kernel
theorem d_Law_law_1978 : decode code 1978 = .ok (.aload_n 3, 1) := by decide +kernel
theorem d_Law_law_1979 : decode code 1979 = .ok (.invokestatic 235, 3) := by decide +kernel
theorem d_Law_law_1982 : decode code 1982 = .ok (.istore 5, 2) := by decide +kernel
theorem d_Law_law_1984 : decode code 1984 = .ok (.aload_n 2, 1) := by decide +kernel
theorem d_Law_law_1985 : decode code 1985 = .ok (.aload_n 0, 1) := by decide +kernel
theorem d_Law_law_1986 : decode code 1986 = .ok (.iload 4, 2) := by decide +kernel
theorem d_Law_law_1988 : decode code 1988 = .ok (.iconst 1, 1) := by decide +kernel
theorem d_Law_law_1989 : decode code 1989 = .ok (.iadd, 1) := by decide +kernel
theorem d_Law_law_1990 : decode code 1990 = .ok (.iaload, 1) := by decide +kernel
theorem d_Law_law_1991 : decode code 1991 = .ok (.aload_n 0, 1) := by decide +kernel
theorem d_Law_law_1992 : decode code 1992 = .ok (.iload 4, 2) := by decide +kernel
theorem d_Law_law_1994 : decode code 1994 = .ok (.iconst 2, 1) := by decide +kernel
theorem d_Law_law_1995 : decode code 1995 = .ok (.iadd, 1) := by decide +kernel
theorem d_Law_law_1996 : decode code 1996 = .ok (.iaload, 1) := by decide +kernel
theorem d_Law_law_1997 : decode code 1997 = .ok (.aload_n 0, 1) := by decide +kernel
theorem d_Law_law_1998 : decode code 1998 = .ok (.iload 4, 2) := by decide +kernel
theorem d_Law_law_2000 : decode code 2000 = .ok (.iconst 3, 1) := by decide +kernel
theorem d_Law_law_2001 : decode code 2001 = .ok (.iadd, 1) := by decide +kernel
theorem d_Law_law_2002 : decode code 2002 = .ok (.iaload, 1) := by decide +kernel
theorem d_Law_law_2003 : decode code 2003 = .ok (.invokevirtual 237, 3) := by decide +kernel
theorem d_Law_law_2006 : decode code 2006 = .ok (.istore 6, 2) := by decide +kernel
theorem d_Law_law_2008 : decode code 2008 = .ok (.aload_n 2, 1) := by decide +kernel
theorem d_Law_law_2009 : decode code 2009 = .ok (.invokevirtual 160, 3) := by decide +kernel
theorem d_Law_law_2012 : decode code 2012 = .ok (.iload 5, 2) := by decide +kernel
theorem d_Law_law_2014 : decode code 2014 = .ok (.if_icmp .eq 5, 3) := by decide +kernel
theorem d_Law_law_2017 : decode code 2017 = .ok (.iconst 0, 1) := by decide +kernel
theorem d_Law_law_2018 : decode code 2018 = .ok (.ireturn, 1) := by decide +kernel
theorem d_Law_law_2019 : decode code 2019 = .ok (.iload 5, 2) := by decide +kernel
theorem d_Law_law_2021 : decode code 2021 = .ok (.ifCond .ne 15, 3) := by decide +kernel
theorem d_Law_law_2024 : decode code 2024 = .ok (.aload_n 3, 1) := by decide +kernel
theorem d_Law_law_2025 : decode code 2025 = .ok (.iconst 0, 1) := by decide +kernel
theorem d_Law_law_2026 : decode code 2026 = .ok (.laload, 1) := by decide +kernel
theorem d_Law_law_2027 : decode code 2027 = .ok (.iload 6, 2) := by decide +kernel
theorem d_Law_law_2029 : decode code 2029 = .ok (.i2l, 1) := by decide +kernel
theorem d_Law_law_2030 : decode code 2030 = .ok (.lcmp, 1) := by decide +kernel
theorem d_Law_law_2031 : decode code 2031 = .ok (.ifCond .eq 5, 3) := by decide +kernel
theorem d_Law_law_2034 : decode code 2034 = .ok (.iconst 0, 1) := by decide +kernel
theorem d_Law_law_2035 : decode code 2035 = .ok (.ireturn, 1) := by decide +kernel
theorem d_Law_law_2036 : decode code 2036 = .ok (.goto 1193, 3) := by decide +kernel
theorem d_Law_law_2039 : decode code 2039 = .ok (.aload_n 1, 1) := by decide +kernel
theorem d_Law_law_2040 : decode code 2040 = .ok (.aload_n 0, 1) := by decide +kernel
theorem d_Law_law_2041 : decode code 2041 = .ok (.iload 4, 2) := by decide +kernel
theorem d_Law_law_2043 : decode code 2043 = .ok (.iconst 1, 1) := by decide +kernel
theorem d_Law_law_2044 : decode code 2044 = .ok (.iadd, 1) := by decide +kernel
theorem d_Law_law_2045 : decode code 2045 = .ok (.iaload, 1) := by decide +kernel
theorem d_Law_law_2046 : decode code 2046 = .ok (.aload_n 3, 1) := by decide +kernel
theorem d_Law_law_2047 : decode code 2047 = .ok (.invokestatic 238, 3) := by decide +kernel
theorem d_Law_law_2050 : decode code 2050 = .ok (.istore 5, 2) := by decide +kernel
theorem d_Law_law_2052 : decode code 2052 = .ok (.aload_n 2, 1) := by decide +kernel
theorem d_Law_law_2053 : decode code 2053 = .ok (.aload_n 0, 1) := by decide +kernel
theorem d_Law_law_2054 : decode code 2054 = .ok (.iload 4, 2) := by decide +kernel
theorem d_Law_law_2056 : decode code 2056 = .ok (.iconst 1, 1) := by decide +kernel
theorem d_Law_law_2057 : decode code 2057 = .ok (.iadd, 1) := by decide +kernel
theorem d_Law_law_2058 : decode code 2058 = .ok (.iaload, 1) := by decide +kernel
theorem d_Law_law_2059 : decode code 2059 = .ok (.invokevirtual 240, 3) := by decide +kernel
theorem d_Law_law_2062 : decode code 2062 = .ok (.istore 6, 2) := by decide +kernel
theorem d_Law_law_2064 : decode code 2064 = .ok (.aload_n 2, 1) := by decide +kernel
theorem d_Law_law_2065 : decode code 2065 = .ok (.invokevirtual 160, 3) := by decide +kernel
theorem d_Law_law_2068 : decode code 2068 = .ok (.iload 5, 2) := by decide +kernel
theorem d_Law_law_2070 : decode code 2070 = .ok (.if_icmp .eq 5, 3) := by decide +kernel
theorem d_Law_law_2073 : decode code 2073 = .ok (.iconst 0, 1) := by decide +kernel
theorem d_Law_law_2074 : decode code 2074 = .ok (.ireturn, 1) := by decide +kernel
theorem d_Law_law_2075 : decode code 2075 = .ok (.iload 5, 2) := by decide +kernel
theorem d_Law_law_2077 : decode code 2077 = .ok (.ifCond .ne 15, 3) := by decide +kernel
theorem d_Law_law_2080 : decode code 2080 = .ok (.aload_n 3, 1) := by decide +kernel
theorem d_Law_law_2081 : decode code 2081 = .ok (.iconst 0, 1) := by decide +kernel
theorem d_Law_law_2082 : decode code 2082 = .ok (.laload, 1) := by decide +kernel
theorem d_Law_law_2083 : decode code 2083 = .ok (.iload 6, 2) := by decide +kernel
theorem d_Law_law_2085 : decode code 2085 = .ok (.i2l, 1) := by decide +kernel
theorem d_Law_law_2086 : decode code 2086 = .ok (.lcmp, 1) := by decide +kernel
theorem d_Law_law_2087 : decode code 2087 = .ok (.ifCond .eq 5, 3) := by decide +kernel
theorem d_Law_law_2090 : decode code 2090 = .ok (.iconst 0, 1) := by decide +kernel
theorem d_Law_law_2091 : decode code 2091 = .ok (.ireturn, 1) := by decide +kernel
theorem d_Law_law_2092 : decode code 2092 = .ok (.goto 1137, 3) := by decide +kernel
theorem d_Law_law_2095 : decode code 2095 = .ok (.aload_n 1, 1) := by decide +kernel
theorem d_Law_law_2096 : decode code 2096 = .ok (.aload_n 0, 1) := by decide +kernel
theorem d_Law_law_2097 : decode code 2097 = .ok (.iload 4, 2) := by decide +kernel
theorem d_Law_law_2099 : decode code 2099 = .ok (.iconst 1, 1) := by decide +kernel
theorem d_Law_law_2100 : decode code 2100 = .ok (.iadd, 1) := by decide +kernel
theorem d_Law_law_2101 : decode code 2101 = .ok (.iaload, 1) := by decide +kernel
theorem d_Law_law_2102 : decode code 2102 = .ok (.aload_n 0, 1) := by decide +kernel
theorem d_Law_law_2103 : decode code 2103 = .ok (.iload 4, 2) := by decide +kernel
theorem d_Law_law_2105 : decode code 2105 = .ok (.iconst 2, 1) := by decide +kernel
theorem d_Law_law_2106 : decode code 2106 = .ok (.iadd, 1) := by decide +kernel
theorem d_Law_law_2107 : decode code 2107 = .ok (.iaload, 1) := by decide +kernel
theorem d_Law_law_2108 : decode code 2108 = .ok (.aload_n 0, 1) := by decide +kernel
theorem d_Law_law_2109 : decode code 2109 = .ok (.iload 4, 2) := by decide +kernel
theorem d_Law_law_2111 : decode code 2111 = .ok (.iconst 3, 1) := by decide +kernel
theorem d_Law_law_2112 : decode code 2112 = .ok (.iadd, 1) := by decide +kernel
theorem d_Law_law_2113 : decode code 2113 = .ok (.iaload, 1) := by decide +kernel
theorem d_Law_law_2114 : decode code 2114 = .ok (.aload_n 3, 1) := by decide +kernel
theorem d_Law_law_2115 : decode code 2115 = .ok (.invokestatic 241, 3) := by decide +kernel
theorem d_Law_law_2118 : decode code 2118 = .ok (.istore 5, 2) := by decide +kernel
theorem d_Law_law_2120 : decode code 2120 = .ok (.aload_n 2, 1) := by decide +kernel
theorem d_Law_law_2121 : decode code 2121 = .ok (.aload_n 0, 1) := by decide +kernel
theorem d_Law_law_2122 : decode code 2122 = .ok (.iload 4, 2) := by decide +kernel
theorem d_Law_law_2124 : decode code 2124 = .ok (.iconst 1, 1) := by decide +kernel
theorem d_Law_law_2125 : decode code 2125 = .ok (.iadd, 1) := by decide +kernel
theorem d_Law_law_2126 : decode code 2126 = .ok (.iaload, 1) := by decide +kernel
theorem d_Law_law_2127 : decode code 2127 = .ok (.aload_n 0, 1) := by decide +kernel
theorem d_Law_law_2128 : decode code 2128 = .ok (.iload 4, 2) := by decide +kernel
theorem d_Law_law_2130 : decode code 2130 = .ok (.iconst 2, 1) := by decide +kernel
theorem d_Law_law_2131 : decode code 2131 = .ok (.iadd, 1) := by decide +kernel
theorem d_Law_law_2132 : decode code 2132 = .ok (.iaload, 1) := by decide +kernel
theorem d_Law_law_2133 : decode code 2133 = .ok (.aload_n 0, 1) := by decide +kernel
theorem d_Law_law_2134 : decode code 2134 = .ok (.iload 4, 2) := by decide +kernel
theorem d_Law_law_2136 : decode code 2136 = .ok (.iconst 3, 1) := by decide +kernel
theorem d_Law_law_2137 : decode code 2137 = .ok (.iadd, 1) := by decide +kernel
theorem d_Law_law_2138 : decode code 2138 = .ok (.iaload, 1) := by decide +kernel
theorem d_Law_law_2139 : decode code 2139 = .ok (.invokevirtual 243, 3) := by decide +kernel
theorem d_Law_law_2142 : decode code 2142 = .ok (.istore 6, 2) := by decide +kernel
theorem d_Law_law_2144 : decode code 2144 = .ok (.aload_n 2, 1) := by decide +kernel
theorem d_Law_law_2145 : decode code 2145 = .ok (.invokevirtual 160, 3) := by decide +kernel
theorem d_Law_law_2148 : decode code 2148 = .ok (.iload 5, 2) := by decide +kernel
theorem d_Law_law_2150 : decode code 2150 = .ok (.if_icmp .eq 5, 3) := by decide +kernel
theorem d_Law_law_2153 : decode code 2153 = .ok (.iconst 0, 1) := by decide +kernel
theorem d_Law_law_2154 : decode code 2154 = .ok (.ireturn, 1) := by decide +kernel
theorem d_Law_law_2155 : decode code 2155 = .ok (.iload 5, 2) := by decide +kernel
theorem d_Law_law_2157 : decode code 2157 = .ok (.ifCond .ne 15, 3) := by decide +kernel
theorem d_Law_law_2160 : decode code 2160 = .ok (.aload_n 3, 1) := by decide +kernel
theorem d_Law_law_2161 : decode code 2161 = .ok (.iconst 0, 1) := by decide +kernel
theorem d_Law_law_2162 : decode code 2162 = .ok (.laload, 1) := by decide +kernel
theorem d_Law_law_2163 : decode code 2163 = .ok (.iload 6, 2) := by decide +kernel
theorem d_Law_law_2165 : decode code 2165 = .ok (.i2l, 1) := by decide +kernel
theorem d_Law_law_2166 : decode code 2166 = .ok (.lcmp, 1) := by decide +kernel
theorem d_Law_law_2167 : decode code 2167 = .ok (.ifCond .eq 5, 3) := by decide +kernel
theorem d_Law_law_2170 : decode code 2170 = .ok (.iconst 0, 1) := by decide +kernel
theorem d_Law_law_2171 : decode code 2171 = .ok (.ireturn, 1) := by decide +kernel
theorem d_Law_law_2172 : decode code 2172 = .ok (.goto 1057, 3) := by decide +kernel
theorem d_Law_law_2175 : decode code 2175 = .ok (.aload_n 1, 1) := by decide +kernel
theorem d_Law_law_2176 : decode code 2176 = .ok (.aload_n 0, 1) := by decide +kernel
theorem d_Law_law_2177 : decode code 2177 = .ok (.iload 4, 2) := by decide +kernel
theorem d_Law_law_2179 : decode code 2179 = .ok (.iconst 1, 1) := by decide +kernel
theorem d_Law_law_2180 : decode code 2180 = .ok (.iadd, 1) := by decide +kernel
theorem d_Law_law_2181 : decode code 2181 = .ok (.iaload, 1) := by decide +kernel
theorem d_Law_law_2182 : decode code 2182 = .ok (.aload_n 3, 1) := by decide +kernel
theorem d_Law_law_2183 : decode code 2183 = .ok (.invokestatic 244, 3) := by decide +kernel
theorem d_Law_law_2186 : decode code 2186 = .ok (.istore 5, 2) := by decide +kernel
theorem d_Law_law_2188 : decode code 2188 = .ok (.aload_n 2, 1) := by decide +kernel
theorem d_Law_law_2189 : decode code 2189 = .ok (.aload_n 0, 1) := by decide +kernel
theorem d_Law_law_2190 : decode code 2190 = .ok (.iload 4, 2) := by decide +kernel
theorem d_Law_law_2192 : decode code 2192 = .ok (.iconst 1, 1) := by decide +kernel
theorem d_Law_law_2193 : decode code 2193 = .ok (.iadd, 1) := by decide +kernel
theorem d_Law_law_2194 : decode code 2194 = .ok (.iaload, 1) := by decide +kernel
theorem d_Law_law_2195 : decode code 2195 = .ok (.invokevirtual 246, 3) := by decide +kernel
theorem d_Law_law_2198 : decode code 2198 = .ok (.istore 6, 2) := by decide +kernel
theorem d_Law_law_2200 : decode code 2200 = .ok (.aload_n 2, 1) := by decide +kernel
theorem d_Law_law_2201 : decode code 2201 = .ok (.invokevirtual 160, 3) := by decide +kernel
theorem d_Law_law_2204 : decode code 2204 = .ok (.iload 5, 2) := by decide +kernel
theorem d_Law_law_2206 : decode code 2206 = .ok (.if_icmp .eq 5, 3) := by decide +kernel
theorem d_Law_law_2209 : decode code 2209 = .ok (.iconst 0, 1) := by decide +kernel
theorem d_Law_law_2210 : decode code 2210 = .ok (.ireturn, 1) := by decide +kernel
theorem d_Law_law_2211 : decode code 2211 = .ok (.iload 5, 2) := by decide +kernel
theorem d_Law_law_2213 : decode code 2213 = .ok (.ifCond .ne 15, 3) := by decide +kernel
theorem d_Law_law_2216 : decode code 2216 = .ok (.aload_n 3, 1) := by decide +kernel
theorem d_Law_law_2217 : decode code 2217 = .ok (.iconst 0, 1) := by decide +kernel
theorem d_Law_law_2218 : decode code 2218 = .ok (.laload, 1) := by decide +kernel
theorem d_Law_law_2219 : decode code 2219 = .ok (.iload 6, 2) := by decide +kernel
