theorem dL_law_1633 : decode cL_law 1633 = .ok (.iconst 0, 1) := by decide +kernel
theorem dL_law_1634 : decode cL_law 1634 = .ok (.istore 19, 2) := by decide +kernel
theorem dL_law_1636 : decode cL_law 1636 = .ok (.iload 19, 2) := by decide +kernel
theorem dL_law_1638 : decode cL_law 1638 = .ok (.iload 18, 2) := by decide +kernel
theorem dL_law_1640 : decode cL_law 1640 = .ok (.if_icmp .ge 49, 3) := by decide +kernel
theorem dL_law_1643 : decode cL_law 1643 = .ok (.aload 17, 2) := by decide +kernel
theorem dL_law_1645 : decode cL_law 1645 = .ok (.iload 19, 2) := by decide +kernel
theorem dL_law_1647 : decode cL_law 1647 = .ok (.iaload, 1) := by decide +kernel
theorem dL_law_1648 : decode cL_law 1648 = .ok (.istore 20, 2) := by decide +kernel
theorem dL_law_1650 : decode cL_law 1650 = .ok (.iload 16, 2) := by decide +kernel
theorem dL_law_1652 : decode cL_law 1652 = .ok (.aload_n 2, 1) := by decide +kernel
theorem dL_law_1653 : decode cL_law 1653 = .ok (.iload 20, 2) := by decide +kernel
theorem dL_law_1655 : decode cL_law 1655 = .ok (.aaload, 1) := by decide +kernel
theorem dL_law_1656 : decode cL_law 1656 = .ok (.invokestatic 32, 3) := by decide +kernel
theorem dL_law_1659 : decode cL_law 1659 = .ok (.aload_n 2, 1) := by decide +kernel
theorem dL_law_1660 : decode cL_law 1660 = .ok (.iload 20, 2) := by decide +kernel
theorem dL_law_1662 : decode cL_law 1662 = .ok (.aaload, 1) := by decide +kernel
theorem dL_law_1663 : decode cL_law 1663 = .ok (.arraylength, 1) := by decide +kernel
theorem dL_law_1664 : decode cL_law 1664 = .ok (.ifCond .ne 7, 3) := by decide +kernel
theorem dL_law_1667 : decode cL_law 1667 = .ok (.iconst 0, 1) := by decide +kernel
theorem dL_law_1668 : decode cL_law 1668 = .ok (.goto 9, 3) := by decide +kernel
theorem dL_law_1671 : decode cL_law 1671 = .ok (.aload_n 2, 1) := by decide +kernel
theorem dL_law_1672 : decode cL_law 1672 = .ok (.iload 20, 2) := by decide +kernel
theorem dL_law_1674 : decode cL_law 1674 = .ok (.aaload, 1) := by decide +kernel
theorem dL_law_1675 : decode cL_law 1675 = .ok (.iconst 0, 1) := by decide +kernel
theorem dL_law_1676 : decode cL_law 1676 = .ok (.iaload, 1) := by decide +kernel
theorem dL_law_1677 : decode cL_law 1677 = .ok (.iadd, 1) := by decide +kernel
theorem dL_law_1678 : decode cL_law 1678 = .ok (.invokestatic 139, 3) := by decide +kernel
theorem dL_law_1681 : decode cL_law 1681 = .ok (.istore 16, 2) := by decide +kernel
theorem dL_law_1683 : decode cL_law 1683 = .ok (.iinc 19 1, 3) := by decide +kernel
theorem dL_law_1686 : decode cL_law 1686 = .ok (.goto (-50), 3) := by decide +kernel
theorem dL_law_1689 : decode cL_law 1689 = .ok (.bipush 8, 2) := by decide +kernel
theorem dL_law_1691 : decode cL_law 1691 = .ok (.istore 17, 2) := by decide +kernel
theorem dL_law_1693 : decode cL_law 1693 = .ok (.iconst 0, 1) := by decide +kernel
theorem dL_law_1694 : decode cL_law 1694 = .ok (.istore 18, 2) := by decide +kernel
theorem dL_law_1696 : decode cL_law 1696 = .ok (.bipush 8, 2) := by decide +kernel
theorem dL_law_1698 : decode cL_law 1698 = .ok (.istore 19, 2) := by decide +kernel
theorem dL_law_1700 : decode cL_law 1700 = .ok (.iload 19, 2) := by decide +kernel
theorem dL_law_1702 : decode cL_law 1702 = .ok (.iload 16, 2) := by decide +kernel
theorem dL_law_1704 : decode cL_law 1704 = .ok (.if_icmp .lt 70, 3) := by decide +kernel
theorem dL_law_1707 : decode cL_law 1707 = .ok (.aload_n 1, 1) := by decide +kernel
theorem dL_law_1708 : decode cL_law 1708 = .ok (.aload_n 1, 1) := by decide +kernel
theorem dL_law_1709 : decode cL_law 1709 = .ok (.aload 15, 2) := by decide +kernel
theorem dL_law_1711 : decode cL_law 1711 = .ok (.iconst 0, 1) := by decide +kernel
theorem dL_law_1712 : decode cL_law 1712 = .ok (.iaload, 1) := by decide +kernel
theorem dL_law_1713 : decode cL_law 1713 = .ok (.iload 19, 2) := by decide +kernel
theorem dL_law_1715 : decode cL_law 1715 = .ok (.invokevirtual 175, 3) := by decide +kernel
theorem dL_law_1718 : decode cL_law 1718 = .ok (.aload_n 1, 1) := by decide +kernel
theorem dL_law_1719 : decode cL_law 1719 = .ok (.aload 15, 2) := by decide +kernel
theorem dL_law_1721 : decode cL_law 1721 = .ok (.iconst 1, 1) := by decide +kernel
theorem dL_law_1722 : decode cL_law 1722 = .ok (.iaload, 1) := by decide +kernel
theorem dL_law_1723 : decode cL_law 1723 = .ok (.iload 19, 2) := by decide +kernel
theorem dL_law_1725 : decode cL_law 1725 = .ok (.invokevirtual 175, 3) := by decide +kernel
theorem dL_law_1728 : decode cL_law 1728 = .ok (.aload_n 1, 1) := by decide +kernel
theorem dL_law_1729 : decode cL_law 1729 = .ok (.aload 15, 2) := by decide +kernel
theorem dL_law_1731 : decode cL_law 1731 = .ok (.iconst 2, 1) := by decide +kernel
theorem dL_law_1732 : decode cL_law 1732 = .ok (.iaload, 1) := by decide +kernel
theorem dL_law_1733 : decode cL_law 1733 = .ok (.iload 19, 2) := by decide +kernel
theorem dL_law_1735 : decode cL_law 1735 = .ok (.invokevirtual 175, 3) := by decide +kernel
theorem dL_law_1738 : decode cL_law 1738 = .ok (.invokevirtual 132, 3) := by decide +kernel
theorem dL_law_1741 : decode cL_law 1741 = .ok (.istore 20, 2) := by decide +kernel
theorem dL_law_1743 : decode cL_law 1743 = .ok (.iload 19, 2) := by decide +kernel
theorem dL_law_1745 : decode cL_law 1745 = .ok (.bipush 8, 2) := by decide +kernel
theorem dL_law_1747 : decode cL_law 1747 = .ok (.if_icmp .ne 7, 3) := by decide +kernel
theorem dL_law_1750 : decode cL_law 1750 = .ok (.iload 20, 2) := by decide +kernel
theorem dL_law_1752 : decode cL_law 1752 = .ok (.istore 18, 2) := by decide +kernel
theorem dL_law_1754 : decode cL_law 1754 = .ok (.iload 20, 2) := by decide +kernel
theorem dL_law_1756 : decode cL_law 1756 = .ok (.iload 18, 2) := by decide +kernel
theorem dL_law_1758 : decode cL_law 1758 = .ok (.if_icmp .eq 6, 3) := by decide +kernel
theorem dL_law_1761 : decode cL_law 1761 = .ok (.goto 13, 3) := by decide +kernel
theorem dL_law_1764 : decode cL_law 1764 = .ok (.iload 19, 2) := by decide +kernel
theorem dL_law_1766 : decode cL_law 1766 = .ok (.istore 17, 2) := by decide +kernel
theorem dL_law_1768 : decode cL_law 1768 = .ok (.iinc 19 (-1), 3) := by decide +kernel
theorem dL_law_1771 : decode cL_law 1771 = .ok (.goto (-71), 3) := by decide +kernel
theorem dL_law_1774 : decode cL_law 1774 = .ok (.aload 15, 2) := by decide +kernel
theorem dL_law_1776 : decode cL_law 1776 = .ok (.astore 19, 2) := by decide +kernel
theorem dL_law_1778 : decode cL_law 1778 = .ok (.aload 19, 2) := by decide +kernel
theorem dL_law_1780 : decode cL_law 1780 = .ok (.arraylength, 1) := by decide +kernel
theorem dL_law_1781 : decode cL_law 1781 = .ok (.istore 20, 2) := by decide +kernel
theorem dL_law_1783 : decode cL_law 1783 = .ok (.iconst 0, 1) := by decide +kernel
theorem dL_law_1784 : decode cL_law 1784 = .ok (.istore 21, 2) := by decide +kernel
theorem dL_law_1786 : decode cL_law 1786 = .ok (.iload 21, 2) := by decide +kernel
theorem dL_law_1788 : decode cL_law 1788 = .ok (.iload 20, 2) := by decide +kernel
theorem dL_law_1790 : decode cL_law 1790 = .ok (.if_icmp .ge 137, 3) := by decide +kernel
theorem dL_law_1793 : decode cL_law 1793 = .ok (.aload 19, 2) := by decide +kernel
theorem dL_law_1795 : decode cL_law 1795 = .ok (.iload 21, 2) := by decide +kernel
theorem dL_law_1797 : decode cL_law 1797 = .ok (.iaload, 1) := by decide +kernel
theorem dL_law_1798 : decode cL_law 1798 = .ok (.istore 22, 2) := by decide +kernel
theorem dL_law_1800 : decode cL_law 1800 = .ok (.iconst 0, 1) := by decide +kernel
theorem dL_law_1801 : decode cL_law 1801 = .ok (.istore 23, 2) := by decide +kernel
theorem dL_law_1803 : decode cL_law 1803 = .ok (.iload 23, 2) := by decide +kernel
theorem dL_law_1805 : decode cL_law 1805 = .ok (.bipush 9, 2) := by decide +kernel
theorem dL_law_1807 : decode cL_law 1807 = .ok (.if_icmp .ge 114, 3) := by decide +kernel
theorem dL_law_1810 : decode cL_law 1810 = .ok (.aload_n 2, 1) := by decide +kernel
theorem dL_law_1811 : decode cL_law 1811 = .ok (.iload 22, 2) := by decide +kernel
theorem dL_law_1813 : decode cL_law 1813 = .ok (.aaload, 1) := by decide +kernel
theorem dL_law_1814 : decode cL_law 1814 = .ok (.astore 24, 2) := by decide +kernel
theorem dL_law_1816 : decode cL_law 1816 = .ok (.iload 23, 2) := by decide +kernel
theorem dL_law_1818 : decode cL_law 1818 = .ok (.aload 24, 2) := by decide +kernel
theorem dL_law_1820 : decode cL_law 1820 = .ok (.invokestatic 32, 3) := by decide +kernel
theorem dL_law_1823 : decode cL_law 1823 = .ok (.isub, 1) := by decide +kernel
theorem dL_law_1824 : decode cL_law 1824 = .ok (.istore 25, 2) := by decide +kernel
theorem dL_law_1826 : decode cL_law 1826 = .ok (.aload 24, 2) := by decide +kernel
theorem dL_law_1828 : decode cL_law 1828 = .ok (.arraylength, 1) := by decide +kernel
theorem dL_law_1829 : decode cL_law 1829 = .ok (.iconst 1, 1) := by decide +kernel
theorem dL_law_1830 : decode cL_law 1830 = .ok (.iadd, 1) := by decide +kernel
theorem dL_law_1831 : decode cL_law 1831 = .ok (.newarray .int, 2) := by decide +kernel
theorem dL_law_1833 : decode cL_law 1833 = .ok (.astore 26, 2) := by decide +kernel
theorem dL_law_1835 : decode cL_law 1835 = .ok (.aload 26, 2) := by decide +kernel
theorem dL_law_1837 : decode cL_law 1837 = .ok (.iconst 0, 1) := by decide +kernel
theorem dL_law_1838 : decode cL_law 1838 = .ok (.iload 25, 2) := by decide +kernel
theorem dL_law_1840 : decode cL_law 1840 = .ok (.iastore, 1) := by decide +kernel
theorem dL_law_1841 : decode cL_law 1841 = .ok (.aload 24, 2) := by decide +kernel
theorem dL_law_1843 : decode cL_law 1843 = .ok (.iconst 0, 1) := by decide +kernel
theorem dL_law_1844 : decode cL_law 1844 = .ok (.aload 26, 2) := by decide +kernel
theorem dL_law_1846 : decode cL_law 1846 = .ok (.iconst 1, 1) := by decide +kernel
theorem dL_law_1847 : decode cL_law 1847 = .ok (.aload 24, 2) := by decide +kernel
theorem dL_law_1849 : decode cL_law 1849 = .ok (.arraylength, 1) := by decide +kernel
theorem dL_law_1850 : decode cL_law 1850 = .ok (.invokestatic 8, 3) := by decide +kernel
theorem dL_law_1853 : decode cL_law 1853 = .ok (.aload 24, 2) := by decide +kernel
theorem dL_law_1855 : decode cL_law 1855 = .ok (.arraylength, 1) := by decide +kernel
theorem dL_law_1856 : decode cL_law 1856 = .ok (.ifCond .ne 12, 3) := by decide +kernel
theorem dL_law_1859 : decode cL_law 1859 = .ok (.iload 23, 2) := by decide +kernel
theorem dL_law_1861 : decode cL_law 1861 = .ok (.ifCond .ne 7, 3) := by decide +kernel
theorem dL_law_1864 : decode cL_law 1864 = .ok (.iconst 0, 1) := by decide +kernel
theorem dL_law_1865 : decode cL_law 1865 = .ok (.goto 33, 3) := by decide +kernel
theorem dL_law_1868 : decode cL_law 1868 = .ok (.iload 25, 2) := by decide +kernel
theorem dL_law_1870 : decode cL_law 1870 = .ok (.aload 24, 2) := by decide +kernel
theorem dL_law_1872 : decode cL_law 1872 = .ok (.arraylength, 1) := by decide +kernel
theorem dL_law_1873 : decode cL_law 1873 = .ok (.ifCond .ne 7, 3) := by decide +kernel
theorem dL_law_1876 : decode cL_law 1876 = .ok (.iconst 0, 1) := by decide +kernel
theorem dL_law_1877 : decode cL_law 1877 = .ok (.goto 7, 3) := by decide +kernel
theorem dL_law_1880 : decode cL_law 1880 = .ok (.aload 24, 2) := by decide +kernel
theorem dL_law_1882 : decode cL_law 1882 = .ok (.iconst 0, 1) := by decide +kernel
theorem dL_law_1883 : decode cL_law 1883 = .ok (.iaload, 1) := by decide +kernel
theorem dL_law_1884 : decode cL_law 1884 = .ok (.if_icmp .ge 8, 3) := by decide +kernel
theorem dL_law_1887 : decode cL_law 1887 = .ok (.bipush (-9), 2) := by decide +kernel
theorem dL_law_1889 : decode cL_law 1889 = .ok (.goto 9, 3) := by decide +kernel
theorem dL_law_1892 : decode cL_law 1892 = .ok (.aload_n 2, 1) := by decide +kernel
theorem dL_law_1893 : decode cL_law 1893 = .ok (.aload 26, 2) := by decide +kernel
theorem dL_law_1895 : decode cL_law 1895 = .ok (.invokestatic 123, 3) := by decide +kernel
theorem dL_law_1898 : decode cL_law 1898 = .ok (.istore 27, 2) := by decide +kernel
theorem dL_law_1900 : decode cL_law 1900 = .ok (.aload_n 1, 1) := by decide +kernel
theorem dL_law_1901 : decode cL_law 1901 = .ok (.iload 22, 2) := by decide +kernel
theorem dL_law_1903 : decode cL_law 1903 = .ok (.iload 23, 2) := by decide +kernel
theorem dL_law_1905 : decode cL_law 1905 = .ok (.invokevirtual 175, 3) := by decide +kernel
theorem dL_law_1908 : decode cL_law 1908 = .ok (.iload 27, 2) := by decide +kernel
theorem dL_law_1910 : decode cL_law 1910 = .ok (.if_icmp .eq 5, 3) := by decide +kernel
theorem dL_law_1913 : decode cL_law 1913 = .ok (.iconst 0, 1) := by decide +kernel
theorem dL_law_1914 : decode cL_law 1914 = .ok (.ireturn, 1) := by decide +kernel
theorem dL_law_1915 : decode cL_law 1915 = .ok (.iinc 23 1, 3) := by decide +kernel
theorem dL_law_1918 : decode cL_law 1918 = .ok (.goto (-115), 3) := by decide +kernel
theorem dL_law_1921 : decode cL_law 1921 = .ok (.iinc 21 1, 3) := by decide +kernel
theorem dL_law_1924 : decode cL_law 1924 = .ok (.goto (-138), 3) := by decide +kernel
theorem dL_law_1927 : decode cL_law 1927 = .ok (.aload_n 1, 1) := by decide +kernel
theorem dL_law_1928 : decode cL_law 1928 = .ok (.aload 15, 2) := by decide +kernel
theorem dL_law_1930 : decode cL_law 1930 = .ok (.iconst 0, 1) := by decide +kernel
theorem dL_law_1931 : decode cL_law 1931 = .ok (.iaload, 1) := by decide +kernel
theorem dL_law_1932 : decode cL_law 1932 = .ok (.aload 15, 2) := by decide +kernel
theorem dL_law_1934 : decode cL_law 1934 = .ok (.iconst 1, 1) := by decide +kernel
theorem dL_law_1935 : decode cL_law 1935 = .ok (.iaload, 1) := by decide +kernel
theorem dL_law_1936 : decode cL_law 1936 = .ok (.aload 15, 2) := by decide +kernel
theorem dL_law_1938 : decode cL_law 1938 = .ok (.iconst 2, 1) := by decide +kernel
theorem dL_law_1939 : decode cL_law 1939 = .ok (.iaload, 1) := by decide +kernel
theorem dL_law_1940 : decode cL_law 1940 = .ok (.iconst 0, 1) := by decide +kernel
theorem dL_law_1941 : decode cL_law 1941 = .ok (.invokevirtual 178, 3) := by decide +kernel
theorem dL_law_1944 : decode cL_law 1944 = .ok (.iload 17, 2) := by decide +kernel
theorem dL_law_1946 : decode cL_law 1946 = .ok (.if_icmp .ne 29, 3) := by decide +kernel
theorem dL_law_1949 : decode cL_law 1949 = .ok (.aload_n 1, 1) := by decide +kernel
theorem dL_law_1950 : decode cL_law 1950 = .ok (.aload 15, 2) := by decide +kernel
theorem dL_law_1952 : decode cL_law 1952 = .ok (.iconst 2, 1) := by decide +kernel
theorem dL_law_1953 : decode cL_law 1953 = .ok (.iaload, 1) := by decide +kernel
theorem dL_law_1954 : decode cL_law 1954 = .ok (.aload 15, 2) := by decide +kernel
theorem dL_law_1956 : decode cL_law 1956 = .ok (.iconst 0, 1) := by decide +kernel
theorem dL_law_1957 : decode cL_law 1957 = .ok (.iaload, 1) := by decide +kernel
theorem dL_law_1958 : decode cL_law 1958 = .ok (.aload 15, 2) := by decide +kernel
theorem dL_law_1960 : decode cL_law 1960 = .ok (.iconst 1, 1) := by decide +kernel
theorem dL_law_1961 : decode cL_law 1961 = .ok (.iaload, 1) := by decide +kernel
theorem dL_law_1962 : decode cL_law 1962 = .ok (.iconst 1, 1) := by decide +kernel
theorem dL_law_1963 : decode cL_law 1963 = .ok (.invokevirtual 178, 3) := by decide +kernel
theorem dL_law_1966 : decode cL_law 1966 = .ok (.iload 18, 2) := by decide +kernel
theorem dL_law_1968 : decode cL_law 1968 = .ok (.if_icmp .ne 7, 3) := by decide +kernel
theorem dL_law_1971 : decode cL_law 1971 = .ok (.iconst 1, 1) := by decide +kernel
theorem dL_law_1972 : decode cL_law 1972 = .ok (.goto 4, 3) := by decide +kernel
theorem dL_law_1975 : decode cL_law 1975 = .ok (.iconst 0, 1) := by decide +kernel
theorem dL_law_1976 : decode cL_law 1976 = .ok (.ireturn, 1) := by decide +kernel
