-- words of the tables, and what stands at each place of the methods' code (laid by program)
/-! what stands at each place of the law's entry (4 of 4) -/
theorem dw_1541 : decode code 1541 = .ok (.iconst 0, 1) := by decide +kernel
theorem dw_1542 : decode code 1542 = .ok (.laload, 1) := by decide +kernel
theorem dw_1543 : decode code 1543 = .ok (.iload 7, 2) := by decide +kernel
theorem dw_1545 : decode code 1545 = .ok (.i2l, 1) := by decide +kernel
theorem dw_1546 : decode code 1546 = .ok (.lcmp, 1) := by decide +kernel
theorem dw_1547 : decode code 1547 = .ok (.ifCond .eq 5, 3) := by decide +kernel
theorem dw_1552 : decode code 1552 = .ok (.goto 478, 3) := by decide +kernel
theorem dw_1555 : decode code 1555 = .ok (.aload_n 1, 1) := by decide +kernel
theorem dw_1556 : decode code 1556 = .ok (.aload_n 0, 1) := by decide +kernel
theorem dw_1557 : decode code 1557 = .ok (.iload 5, 2) := by decide +kernel
theorem dw_1559 : decode code 1559 = .ok (.iconst 1, 1) := by decide +kernel
theorem dw_1560 : decode code 1560 = .ok (.iadd, 1) := by decide +kernel
theorem dw_1561 : decode code 1561 = .ok (.iaload, 1) := by decide +kernel
theorem dw_1562 : decode code 1562 = .ok (.aload_n 3, 1) := by decide +kernel
theorem dw_1563 : decode code 1563 = .ok (.invokestatic 174, 3) := by decide +kernel
theorem dw_1566 : decode code 1566 = .ok (.istore 6, 2) := by decide +kernel
theorem dw_1568 : decode code 1568 = .ok (.aload_n 2, 1) := by decide +kernel
theorem dw_1569 : decode code 1569 = .ok (.aload_n 0, 1) := by decide +kernel
theorem dw_1570 : decode code 1570 = .ok (.iload 5, 2) := by decide +kernel
theorem dw_1572 : decode code 1572 = .ok (.iconst 1, 1) := by decide +kernel
theorem dw_1573 : decode code 1573 = .ok (.iadd, 1) := by decide +kernel
theorem dw_1574 : decode code 1574 = .ok (.iaload, 1) := by decide +kernel
theorem dw_1575 : decode code 1575 = .ok (.invokevirtual 176, 3) := by decide +kernel
theorem dw_1578 : decode code 1578 = .ok (.istore 7, 2) := by decide +kernel
theorem dw_1580 : decode code 1580 = .ok (.aload_n 2, 1) := by decide +kernel
theorem dw_1581 : decode code 1581 = .ok (.invokevirtual 111, 3) := by decide +kernel
theorem dw_1584 : decode code 1584 = .ok (.iload 6, 2) := by decide +kernel
theorem dw_1586 : decode code 1586 = .ok (.if_icmp .eq 5, 3) := by decide +kernel
theorem dw_1591 : decode code 1591 = .ok (.iload 6, 2) := by decide +kernel
theorem dw_1593 : decode code 1593 = .ok (.ifCond .ne 15, 3) := by decide +kernel
theorem dw_1596 : decode code 1596 = .ok (.aload_n 3, 1) := by decide +kernel
theorem dw_1597 : decode code 1597 = .ok (.iconst 0, 1) := by decide +kernel
theorem dw_1598 : decode code 1598 = .ok (.laload, 1) := by decide +kernel
theorem dw_1599 : decode code 1599 = .ok (.iload 7, 2) := by decide +kernel
theorem dw_1601 : decode code 1601 = .ok (.i2l, 1) := by decide +kernel
theorem dw_1602 : decode code 1602 = .ok (.lcmp, 1) := by decide +kernel
theorem dw_1603 : decode code 1603 = .ok (.ifCond .eq 5, 3) := by decide +kernel
theorem dw_1608 : decode code 1608 = .ok (.goto 422, 3) := by decide +kernel
theorem dw_1611 : decode code 1611 = .ok (.aload_n 1, 1) := by decide +kernel
theorem dw_1612 : decode code 1612 = .ok (.aload_n 0, 1) := by decide +kernel
theorem dw_1613 : decode code 1613 = .ok (.iload 5, 2) := by decide +kernel
theorem dw_1615 : decode code 1615 = .ok (.iconst 1, 1) := by decide +kernel
theorem dw_1616 : decode code 1616 = .ok (.iadd, 1) := by decide +kernel
theorem dw_1617 : decode code 1617 = .ok (.iaload, 1) := by decide +kernel
theorem dw_1618 : decode code 1618 = .ok (.aload_n 3, 1) := by decide +kernel
theorem dw_1619 : decode code 1619 = .ok (.invokestatic 177, 3) := by decide +kernel
theorem dw_1622 : decode code 1622 = .ok (.istore 6, 2) := by decide +kernel
theorem dw_1624 : decode code 1624 = .ok (.aload_n 2, 1) := by decide +kernel
theorem dw_1625 : decode code 1625 = .ok (.aload_n 0, 1) := by decide +kernel
theorem dw_1626 : decode code 1626 = .ok (.iload 5, 2) := by decide +kernel
theorem dw_1628 : decode code 1628 = .ok (.iconst 1, 1) := by decide +kernel
theorem dw_1629 : decode code 1629 = .ok (.iadd, 1) := by decide +kernel
theorem dw_1630 : decode code 1630 = .ok (.iaload, 1) := by decide +kernel
theorem dw_1631 : decode code 1631 = .ok (.invokevirtual 179, 3) := by decide +kernel
theorem dw_1634 : decode code 1634 = .ok (.istore 7, 2) := by decide +kernel
theorem dw_1636 : decode code 1636 = .ok (.aload_n 2, 1) := by decide +kernel
theorem dw_1637 : decode code 1637 = .ok (.invokevirtual 111, 3) := by decide +kernel
theorem dw_1640 : decode code 1640 = .ok (.iload 6, 2) := by decide +kernel
theorem dw_1642 : decode code 1642 = .ok (.if_icmp .eq 5, 3) := by decide +kernel
theorem dw_1647 : decode code 1647 = .ok (.iload 6, 2) := by decide +kernel
theorem dw_1649 : decode code 1649 = .ok (.ifCond .ne 15, 3) := by decide +kernel
theorem dw_1652 : decode code 1652 = .ok (.aload_n 3, 1) := by decide +kernel
theorem dw_1653 : decode code 1653 = .ok (.iconst 0, 1) := by decide +kernel
theorem dw_1654 : decode code 1654 = .ok (.laload, 1) := by decide +kernel
theorem dw_1655 : decode code 1655 = .ok (.iload 7, 2) := by decide +kernel
theorem dw_1657 : decode code 1657 = .ok (.i2l, 1) := by decide +kernel
theorem dw_1658 : decode code 1658 = .ok (.lcmp, 1) := by decide +kernel
theorem dw_1659 : decode code 1659 = .ok (.ifCond .eq 5, 3) := by decide +kernel
theorem dw_1664 : decode code 1664 = .ok (.goto 366, 3) := by decide +kernel
theorem dw_1667 : decode code 1667 = .ok (.aload_n 1, 1) := by decide +kernel
theorem dw_1668 : decode code 1668 = .ok (.aload_n 0, 1) := by decide +kernel
theorem dw_1669 : decode code 1669 = .ok (.iload 5, 2) := by decide +kernel
theorem dw_1671 : decode code 1671 = .ok (.iconst 1, 1) := by decide +kernel
theorem dw_1672 : decode code 1672 = .ok (.iadd, 1) := by decide +kernel
theorem dw_1673 : decode code 1673 = .ok (.iaload, 1) := by decide +kernel
theorem dw_1674 : decode code 1674 = .ok (.aload_n 0, 1) := by decide +kernel
theorem dw_1675 : decode code 1675 = .ok (.iload 5, 2) := by decide +kernel
theorem dw_1677 : decode code 1677 = .ok (.iconst 2, 1) := by decide +kernel
theorem dw_1678 : decode code 1678 = .ok (.iadd, 1) := by decide +kernel
theorem dw_1679 : decode code 1679 = .ok (.iaload, 1) := by decide +kernel
theorem dw_1680 : decode code 1680 = .ok (.aload_n 3, 1) := by decide +kernel
theorem dw_1681 : decode code 1681 = .ok (.invokestatic 180, 3) := by decide +kernel
theorem dw_1684 : decode code 1684 = .ok (.istore 6, 2) := by decide +kernel
theorem dw_1686 : decode code 1686 = .ok (.aload_n 2, 1) := by decide +kernel
theorem dw_1687 : decode code 1687 = .ok (.aload_n 0, 1) := by decide +kernel
theorem dw_1688 : decode code 1688 = .ok (.iload 5, 2) := by decide +kernel
theorem dw_1690 : decode code 1690 = .ok (.iconst 1, 1) := by decide +kernel
theorem dw_1691 : decode code 1691 = .ok (.iadd, 1) := by decide +kernel
theorem dw_1692 : decode code 1692 = .ok (.iaload, 1) := by decide +kernel
theorem dw_1693 : decode code 1693 = .ok (.aload_n 0, 1) := by decide +kernel
theorem dw_1694 : decode code 1694 = .ok (.iload 5, 2) := by decide +kernel
theorem dw_1696 : decode code 1696 = .ok (.iconst 2, 1) := by decide +kernel
theorem dw_1697 : decode code 1697 = .ok (.iadd, 1) := by decide +kernel
theorem dw_1698 : decode code 1698 = .ok (.iaload, 1) := by decide +kernel
theorem dw_1699 : decode code 1699 = .ok (.invokevirtual 182, 3) := by decide +kernel
theorem dw_1702 : decode code 1702 = .ok (.istore 7, 2) := by decide +kernel
theorem dw_1704 : decode code 1704 = .ok (.aload_n 2, 1) := by decide +kernel
theorem dw_1705 : decode code 1705 = .ok (.invokevirtual 111, 3) := by decide +kernel
theorem dw_1708 : decode code 1708 = .ok (.iload 6, 2) := by decide +kernel
theorem dw_1710 : decode code 1710 = .ok (.if_icmp .eq 5, 3) := by decide +kernel
theorem dw_1715 : decode code 1715 = .ok (.iload 6, 2) := by decide +kernel
theorem dw_1717 : decode code 1717 = .ok (.ifCond .ne 15, 3) := by decide +kernel
theorem dw_1720 : decode code 1720 = .ok (.aload_n 3, 1) := by decide +kernel
theorem dw_1721 : decode code 1721 = .ok (.iconst 0, 1) := by decide +kernel
theorem dw_1722 : decode code 1722 = .ok (.laload, 1) := by decide +kernel
theorem dw_1723 : decode code 1723 = .ok (.iload 7, 2) := by decide +kernel
theorem dw_1725 : decode code 1725 = .ok (.i2l, 1) := by decide +kernel
theorem dw_1726 : decode code 1726 = .ok (.lcmp, 1) := by decide +kernel
theorem dw_1727 : decode code 1727 = .ok (.ifCond .eq 5, 3) := by decide +kernel
theorem dw_1732 : decode code 1732 = .ok (.goto 298, 3) := by decide +kernel
theorem dw_1735 : decode code 1735 = .ok (.aload_n 1, 1) := by decide +kernel
theorem dw_1736 : decode code 1736 = .ok (.aload_n 0, 1) := by decide +kernel
theorem dw_1737 : decode code 1737 = .ok (.iload 5, 2) := by decide +kernel
theorem dw_1739 : decode code 1739 = .ok (.iconst 1, 1) := by decide +kernel
theorem dw_1740 : decode code 1740 = .ok (.iadd, 1) := by decide +kernel
theorem dw_1741 : decode code 1741 = .ok (.iaload, 1) := by decide +kernel
theorem dw_1742 : decode code 1742 = .ok (.aload_n 3, 1) := by decide +kernel
theorem dw_1743 : decode code 1743 = .ok (.invokestatic 183, 3) := by decide +kernel
theorem dw_1746 : decode code 1746 = .ok (.istore 6, 2) := by decide +kernel
theorem dw_1748 : decode code 1748 = .ok (.aload_n 2, 1) := by decide +kernel
theorem dw_1749 : decode code 1749 = .ok (.aload_n 0, 1) := by decide +kernel
theorem dw_1750 : decode code 1750 = .ok (.iload 5, 2) := by decide +kernel
theorem dw_1752 : decode code 1752 = .ok (.iconst 1, 1) := by decide +kernel
theorem dw_1753 : decode code 1753 = .ok (.iadd, 1) := by decide +kernel
theorem dw_1754 : decode code 1754 = .ok (.iaload, 1) := by decide +kernel
theorem dw_1755 : decode code 1755 = .ok (.invokevirtual 185, 3) := by decide +kernel
theorem dw_1758 : decode code 1758 = .ok (.istore 7, 2) := by decide +kernel
theorem dw_1760 : decode code 1760 = .ok (.aload_n 2, 1) := by decide +kernel
theorem dw_1761 : decode code 1761 = .ok (.invokevirtual 111, 3) := by decide +kernel
theorem dw_1764 : decode code 1764 = .ok (.iload 6, 2) := by decide +kernel
theorem dw_1766 : decode code 1766 = .ok (.if_icmp .eq 5, 3) := by decide +kernel
theorem dw_1771 : decode code 1771 = .ok (.iload 6, 2) := by decide +kernel
theorem dw_1773 : decode code 1773 = .ok (.ifCond .ne 15, 3) := by decide +kernel
theorem dw_1776 : decode code 1776 = .ok (.aload_n 3, 1) := by decide +kernel
theorem dw_1777 : decode code 1777 = .ok (.iconst 0, 1) := by decide +kernel
theorem dw_1778 : decode code 1778 = .ok (.laload, 1) := by decide +kernel
theorem dw_1779 : decode code 1779 = .ok (.iload 7, 2) := by decide +kernel
theorem dw_1781 : decode code 1781 = .ok (.i2l, 1) := by decide +kernel
theorem dw_1782 : decode code 1782 = .ok (.lcmp, 1) := by decide +kernel
theorem dw_1783 : decode code 1783 = .ok (.ifCond .eq 5, 3) := by decide +kernel
theorem dw_1788 : decode code 1788 = .ok (.goto 242, 3) := by decide +kernel
theorem dw_1791 : decode code 1791 = .ok (.aload_n 1, 1) := by decide +kernel
theorem dw_1792 : decode code 1792 = .ok (.aload_n 0, 1) := by decide +kernel
theorem dw_1793 : decode code 1793 = .ok (.iload 5, 2) := by decide +kernel
theorem dw_1795 : decode code 1795 = .ok (.iconst 1, 1) := by decide +kernel
theorem dw_1796 : decode code 1796 = .ok (.iadd, 1) := by decide +kernel
theorem dw_1797 : decode code 1797 = .ok (.iaload, 1) := by decide +kernel
theorem dw_1798 : decode code 1798 = .ok (.aload 4, 2) := by decide +kernel
theorem dw_1800 : decode code 1800 = .ok (.invokestatic 186, 3) := by decide +kernel
theorem dw_1803 : decode code 1803 = .ok (.istore 6, 2) := by decide +kernel
theorem dw_1805 : decode code 1805 = .ok (.aload_n 2, 1) := by decide +kernel
theorem dw_1806 : decode code 1806 = .ok (.aload_n 0, 1) := by decide +kernel
theorem dw_1807 : decode code 1807 = .ok (.iload 5, 2) := by decide +kernel
theorem dw_1809 : decode code 1809 = .ok (.iconst 1, 1) := by decide +kernel
theorem dw_1810 : decode code 1810 = .ok (.iadd, 1) := by decide +kernel
theorem dw_1811 : decode code 1811 = .ok (.iaload, 1) := by decide +kernel
theorem dw_1812 : decode code 1812 = .ok (.invokevirtual 189, 3) := by decide +kernel
theorem dw_1815 : decode code 1815 = .ok (.dstore 7, 2) := by decide +kernel
theorem dw_1817 : decode code 1817 = .ok (.aload_n 2, 1) := by decide +kernel
theorem dw_1818 : decode code 1818 = .ok (.invokevirtual 111, 3) := by decide +kernel
theorem dw_1821 : decode code 1821 = .ok (.iload 6, 2) := by decide +kernel
theorem dw_1823 : decode code 1823 = .ok (.if_icmp .eq 5, 3) := by decide +kernel
theorem dw_1828 : decode code 1828 = .ok (.iload 6, 2) := by decide +kernel
theorem dw_1830 : decode code 1830 = .ok (.ifCond .ne 35, 3) := by decide +kernel
theorem dw_1833 : decode code 1833 = .ok (.aload 4, 2) := by decide +kernel
theorem dw_1835 : decode code 1835 = .ok (.iconst 0, 1) := by decide +kernel
theorem dw_1836 : decode code 1836 = .ok (.daload, 1) := by decide +kernel
theorem dw_1837 : decode code 1837 = .ok (.dload 7, 2) := by decide +kernel
theorem dw_1839 : decode code 1839 = .ok (.dcmp .l, 1) := by decide +kernel
theorem dw_1840 : decode code 1840 = .ok (.ifCond .eq 25, 3) := by decide +kernel
theorem dw_1843 : decode code 1843 = .ok (.aload 4, 2) := by decide +kernel
theorem dw_1845 : decode code 1845 = .ok (.iconst 0, 1) := by decide +kernel
theorem dw_1846 : decode code 1846 = .ok (.daload, 1) := by decide +kernel
theorem dw_1847 : decode code 1847 = .ok (.aload 4, 2) := by decide +kernel
theorem dw_1849 : decode code 1849 = .ok (.iconst 0, 1) := by decide +kernel
theorem dw_1850 : decode code 1850 = .ok (.daload, 1) := by decide +kernel
theorem dw_1851 : decode code 1851 = .ok (.dcmp .l, 1) := by decide +kernel
theorem dw_1852 : decode code 1852 = .ok (.ifCond .eq 11, 3) := by decide +kernel
theorem dw_1855 : decode code 1855 = .ok (.dload 7, 2) := by decide +kernel
theorem dw_1857 : decode code 1857 = .ok (.dload 7, 2) := by decide +kernel
theorem dw_1859 : decode code 1859 = .ok (.dcmp .l, 1) := by decide +kernel
theorem dw_1860 : decode code 1860 = .ok (.ifCond .ne 5, 3) := by decide +kernel
theorem dw_1865 : decode code 1865 = .ok (.goto 165, 3) := by decide +kernel
theorem dw_1868 : decode code 1868 = .ok (.aload_n 1, 1) := by decide +kernel
theorem dw_1869 : decode code 1869 = .ok (.aload_n 0, 1) := by decide +kernel
theorem dw_1870 : decode code 1870 = .ok (.iload 5, 2) := by decide +kernel
theorem dw_1872 : decode code 1872 = .ok (.iconst 1, 1) := by decide +kernel
theorem dw_1873 : decode code 1873 = .ok (.iadd, 1) := by decide +kernel
theorem dw_1874 : decode code 1874 = .ok (.iaload, 1) := by decide +kernel
theorem dw_1875 : decode code 1875 = .ok (.aload_n 0, 1) := by decide +kernel
theorem dw_1876 : decode code 1876 = .ok (.iload 5, 2) := by decide +kernel
theorem dw_1878 : decode code 1878 = .ok (.iconst 2, 1) := by decide +kernel
theorem dw_1879 : decode code 1879 = .ok (.iadd, 1) := by decide +kernel
theorem dw_1880 : decode code 1880 = .ok (.iaload, 1) := by decide +kernel
theorem dw_1881 : decode code 1881 = .ok (.aload_n 3, 1) := by decide +kernel
theorem dw_1882 : decode code 1882 = .ok (.invokestatic 190, 3) := by decide +kernel
theorem dw_1885 : decode code 1885 = .ok (.istore 6, 2) := by decide +kernel
theorem dw_1887 : decode code 1887 = .ok (.aload_n 2, 1) := by decide +kernel
theorem dw_1888 : decode code 1888 = .ok (.aload_n 0, 1) := by decide +kernel
theorem dw_1889 : decode code 1889 = .ok (.iload 5, 2) := by decide +kernel
theorem dw_1891 : decode code 1891 = .ok (.iconst 1, 1) := by decide +kernel
theorem dw_1892 : decode code 1892 = .ok (.iadd, 1) := by decide +kernel
theorem dw_1893 : decode code 1893 = .ok (.iaload, 1) := by decide +kernel
theorem dw_1894 : decode code 1894 = .ok (.aload_n 0, 1) := by decide +kernel
theorem dw_1895 : decode code 1895 = .ok (.iload 5, 2) := by decide +kernel
theorem dw_1897 : decode code 1897 = .ok (.iconst 2, 1) := by decide +kernel
theorem dw_1898 : decode code 1898 = .ok (.iadd, 1) := by decide +kernel
theorem dw_1899 : decode code 1899 = .ok (.iaload, 1) := by decide +kernel
theorem dw_1900 : decode code 1900 = .ok (.invokevirtual 192, 3) := by decide +kernel
theorem dw_1903 : decode code 1903 = .ok (.istore 7, 2) := by decide +kernel
theorem dw_1905 : decode code 1905 = .ok (.aload_n 2, 1) := by decide +kernel
theorem dw_1906 : decode code 1906 = .ok (.invokevirtual 111, 3) := by decide +kernel
theorem dw_1909 : decode code 1909 = .ok (.iload 6, 2) := by decide +kernel
theorem dw_1911 : decode code 1911 = .ok (.if_icmp .eq 5, 3) := by decide +kernel
theorem dw_1916 : decode code 1916 = .ok (.iload 6, 2) := by decide +kernel
theorem dw_1918 : decode code 1918 = .ok (.ifCond .ne 15, 3) := by decide +kernel
theorem dw_1921 : decode code 1921 = .ok (.aload_n 3, 1) := by decide +kernel
theorem dw_1922 : decode code 1922 = .ok (.iconst 0, 1) := by decide +kernel
theorem dw_1923 : decode code 1923 = .ok (.laload, 1) := by decide +kernel
theorem dw_1924 : decode code 1924 = .ok (.iload 7, 2) := by decide +kernel
theorem dw_1926 : decode code 1926 = .ok (.i2l, 1) := by decide +kernel
theorem dw_1927 : decode code 1927 = .ok (.lcmp, 1) := by decide +kernel
theorem dw_1928 : decode code 1928 = .ok (.ifCond .eq 5, 3) := by decide +kernel
theorem dw_1933 : decode code 1933 = .ok (.goto 97, 3) := by decide +kernel
theorem dw_1936 : decode code 1936 = .ok (.aload_n 1, 1) := by decide +kernel
theorem dw_1937 : decode code 1937 = .ok (.aload_n 0, 1) := by decide +kernel
theorem dw_1938 : decode code 1938 = .ok (.iload 5, 2) := by decide +kernel
theorem dw_1940 : decode code 1940 = .ok (.iconst 1, 1) := by decide +kernel
theorem dw_1941 : decode code 1941 = .ok (.iadd, 1) := by decide +kernel
theorem dw_1942 : decode code 1942 = .ok (.iaload, 1) := by decide +kernel
theorem dw_1943 : decode code 1943 = .ok (.aload_n 0, 1) := by decide +kernel
theorem dw_1944 : decode code 1944 = .ok (.iload 5, 2) := by decide +kernel
theorem dw_1946 : decode code 1946 = .ok (.iconst 2, 1) := by decide +kernel
theorem dw_1947 : decode code 1947 = .ok (.iadd, 1) := by decide +kernel
theorem dw_1948 : decode code 1948 = .ok (.iaload, 1) := by decide +kernel
theorem dw_1949 : decode code 1949 = .ok (.aload_n 0, 1) := by decide +kernel
theorem dw_1950 : decode code 1950 = .ok (.iload 5, 2) := by decide +kernel
theorem dw_1952 : decode code 1952 = .ok (.iconst 3, 1) := by decide +kernel
theorem dw_1953 : decode code 1953 = .ok (.iadd, 1) := by decide +kernel
theorem dw_1954 : decode code 1954 = .ok (.iaload, 1) := by decide +kernel
theorem dw_1955 : decode code 1955 = .ok (.aload_n 3, 1) := by decide +kernel
theorem dw_1956 : decode code 1956 = .ok (.invokestatic 193, 3) := by decide +kernel
theorem dw_1959 : decode code 1959 = .ok (.istore 6, 2) := by decide +kernel
theorem dw_1961 : decode code 1961 = .ok (.aload_n 2, 1) := by decide +kernel
theorem dw_1962 : decode code 1962 = .ok (.aload_n 0, 1) := by decide +kernel
theorem dw_1963 : decode code 1963 = .ok (.iload 5, 2) := by decide +kernel
theorem dw_1965 : decode code 1965 = .ok (.iconst 1, 1) := by decide +kernel
theorem dw_1966 : decode code 1966 = .ok (.iadd, 1) := by decide +kernel
theorem dw_1967 : decode code 1967 = .ok (.iaload, 1) := by decide +kernel
theorem dw_1968 : decode code 1968 = .ok (.aload_n 0, 1) := by decide +kernel
theorem dw_1969 : decode code 1969 = .ok (.iload 5, 2) := by decide +kernel
theorem dw_1971 : decode code 1971 = .ok (.iconst 2, 1) := by decide +kernel
theorem dw_1972 : decode code 1972 = .ok (.iadd, 1) := by decide +kernel
theorem dw_1973 : decode code 1973 = .ok (.iaload, 1) := by decide +kernel
theorem dw_1974 : decode code 1974 = .ok (.aload_n 0, 1) := by decide +kernel
theorem dw_1975 : decode code 1975 = .ok (.iload 5, 2) := by decide +kernel
theorem dw_1977 : decode code 1977 = .ok (.iconst 3, 1) := by decide +kernel
theorem dw_1978 : decode code 1978 = .ok (.iadd, 1) := by decide +kernel
theorem dw_1979 : decode code 1979 = .ok (.iaload, 1) := by decide +kernel
theorem dw_1980 : decode code 1980 = .ok (.invokevirtual 195, 3) := by decide +kernel
theorem dw_1983 : decode code 1983 = .ok (.istore 7, 2) := by decide +kernel
theorem dw_1985 : decode code 1985 = .ok (.aload_n 2, 1) := by decide +kernel
theorem dw_1986 : decode code 1986 = .ok (.invokevirtual 111, 3) := by decide +kernel
theorem dw_1989 : decode code 1989 = .ok (.iload 6, 2) := by decide +kernel
theorem dw_1991 : decode code 1991 = .ok (.if_icmp .eq 5, 3) := by decide +kernel
theorem dw_1996 : decode code 1996 = .ok (.iload 6, 2) := by decide +kernel
theorem dw_1998 : decode code 1998 = .ok (.ifCond .ne 15, 3) := by decide +kernel
theorem dw_2001 : decode code 2001 = .ok (.aload_n 3, 1) := by decide +kernel
theorem dw_2002 : decode code 2002 = .ok (.iconst 0, 1) := by decide +kernel
theorem dw_2003 : decode code 2003 = .ok (.laload, 1) := by decide +kernel
theorem dw_2004 : decode code 2004 = .ok (.iload 7, 2) := by decide +kernel
theorem dw_2006 : decode code 2006 = .ok (.i2l, 1) := by decide +kernel
theorem dw_2007 : decode code 2007 = .ok (.lcmp, 1) := by decide +kernel
theorem dw_2008 : decode code 2008 = .ok (.ifCond .eq 5, 3) := by decide +kernel
theorem dw_2013 : decode code 2013 = .ok (.goto 17, 3) := by decide +kernel
theorem dw_2016 : decode code 2016 = .ok (.aload_n 1, 1) := by decide +kernel
theorem dw_2017 : decode code 2017 = .ok (.invokevirtual 196, 3) := by decide +kernel
theorem dw_2020 : decode code 2020 = .ok (.aload_n 2, 1) := by decide +kernel
theorem dw_2021 : decode code 2021 = .ok (.invokevirtual 200, 3) := by decide +kernel
theorem dw_2024 : decode code 2024 = .ok (.lcmp, 1) := by decide +kernel
theorem dw_2025 : decode code 2025 = .ok (.ifCond .eq 5, 3) := by decide +kernel
theorem dw_2030 : decode code 2030 = .ok (.iinc 5 6, 3) := by decide +kernel
theorem dw_2033 : decode code 2033 = .ok (.goto (-2005), 3) := by decide +kernel
theorem dw_2036 : decode code 2036 = .ok (.iconst 1, 1) := by decide +kernel
theorem dw_2037 : decode code 2037 = .ok (.ireturn, 1) := by decide +kernel
