theorem dL_law_1630 : decode cL_law 1630 = .ok (.aload_n 3, 1) := by decide +kernel
theorem dL_law_1631 : decode cL_law 1631 = .ok (.invokestatic 180, 3) := by decide +kernel
theorem dL_law_1634 : decode cL_law 1634 = .ok (.istore 5, 2) := by decide +kernel
theorem dL_law_1636 : decode cL_law 1636 = .ok (.aload_n 2, 1) := by decide +kernel
theorem dL_law_1637 : decode cL_law 1637 = .ok (.aload_n 0, 1) := by decide +kernel
theorem dL_law_1638 : decode cL_law 1638 = .ok (.iload 4, 2) := by decide +kernel
theorem dL_law_1640 : decode cL_law 1640 = .ok (.iconst 1, 1) := by decide +kernel
theorem dL_law_1641 : decode cL_law 1641 = .ok (.iadd, 1) := by decide +kernel
theorem dL_law_1642 : decode cL_law 1642 = .ok (.iaload, 1) := by decide +kernel
theorem dL_law_1643 : decode cL_law 1643 = .ok (.invokevirtual 182, 3) := by decide +kernel
theorem dL_law_1646 : decode cL_law 1646 = .ok (.istore 6, 2) := by decide +kernel
theorem dL_law_1648 : decode cL_law 1648 = .ok (.aload_n 2, 1) := by decide +kernel
theorem dL_law_1649 : decode cL_law 1649 = .ok (.invokevirtual 116, 3) := by decide +kernel
theorem dL_law_1652 : decode cL_law 1652 = .ok (.iload 5, 2) := by decide +kernel
theorem dL_law_1654 : decode cL_law 1654 = .ok (.if_icmp .eq 5, 3) := by decide +kernel
theorem dL_law_1657 : decode cL_law 1657 = .ok (.iconst 0, 1) := by decide +kernel
theorem dL_law_1658 : decode cL_law 1658 = .ok (.ireturn, 1) := by decide +kernel
theorem dL_law_1659 : decode cL_law 1659 = .ok (.iload 5, 2) := by decide +kernel
theorem dL_law_1661 : decode cL_law 1661 = .ok (.ifCond .ne 15, 3) := by decide +kernel
theorem dL_law_1664 : decode cL_law 1664 = .ok (.aload_n 3, 1) := by decide +kernel
theorem dL_law_1665 : decode cL_law 1665 = .ok (.iconst 0, 1) := by decide +kernel
theorem dL_law_1666 : decode cL_law 1666 = .ok (.laload, 1) := by decide +kernel
theorem dL_law_1667 : decode cL_law 1667 = .ok (.iload 6, 2) := by decide +kernel
theorem dL_law_1669 : decode cL_law 1669 = .ok (.i2l, 1) := by decide +kernel
theorem dL_law_1670 : decode cL_law 1670 = .ok (.lcmp, 1) := by decide +kernel
theorem dL_law_1671 : decode cL_law 1671 = .ok (.ifCond .eq 5, 3) := by decide +kernel
theorem dL_law_1674 : decode cL_law 1674 = .ok (.iconst 0, 1) := by decide +kernel
theorem dL_law_1675 : decode cL_law 1675 = .ok (.ireturn, 1) := by decide +kernel
theorem dL_law_1676 : decode cL_law 1676 = .ok (.goto 434, 3) := by decide +kernel
theorem dL_law_1679 : decode cL_law 1679 = .ok (.aload_n 1, 1) := by decide +kernel
theorem dL_law_1680 : decode cL_law 1680 = .ok (.aload_n 0, 1) := by decide +kernel
theorem dL_law_1681 : decode cL_law 1681 = .ok (.iload 4, 2) := by decide +kernel
theorem dL_law_1683 : decode cL_law 1683 = .ok (.iconst 1, 1) := by decide +kernel
theorem dL_law_1684 : decode cL_law 1684 = .ok (.iadd, 1) := by decide +kernel
theorem dL_law_1685 : decode cL_law 1685 = .ok (.iaload, 1) := by decide +kernel
theorem dL_law_1686 : decode cL_law 1686 = .ok (.aload_n 3, 1) := by decide +kernel
theorem dL_law_1687 : decode cL_law 1687 = .ok (.invokestatic 183, 3) := by decide +kernel
theorem dL_law_1690 : decode cL_law 1690 = .ok (.istore 5, 2) := by decide +kernel
theorem dL_law_1692 : decode cL_law 1692 = .ok (.aload_n 2, 1) := by decide +kernel
theorem dL_law_1693 : decode cL_law 1693 = .ok (.aload_n 0, 1) := by decide +kernel
theorem dL_law_1694 : decode cL_law 1694 = .ok (.iload 4, 2) := by decide +kernel
theorem dL_law_1696 : decode cL_law 1696 = .ok (.iconst 1, 1) := by decide +kernel
theorem dL_law_1697 : decode cL_law 1697 = .ok (.iadd, 1) := by decide +kernel
theorem dL_law_1698 : decode cL_law 1698 = .ok (.iaload, 1) := by decide +kernel
theorem dL_law_1699 : decode cL_law 1699 = .ok (.invokevirtual 185, 3) := by decide +kernel
theorem dL_law_1702 : decode cL_law 1702 = .ok (.istore 6, 2) := by decide +kernel
theorem dL_law_1704 : decode cL_law 1704 = .ok (.aload_n 2, 1) := by decide +kernel
theorem dL_law_1705 : decode cL_law 1705 = .ok (.invokevirtual 116, 3) := by decide +kernel
theorem dL_law_1708 : decode cL_law 1708 = .ok (.iload 5, 2) := by decide +kernel
theorem dL_law_1710 : decode cL_law 1710 = .ok (.if_icmp .eq 5, 3) := by decide +kernel
theorem dL_law_1713 : decode cL_law 1713 = .ok (.iconst 0, 1) := by decide +kernel
theorem dL_law_1714 : decode cL_law 1714 = .ok (.ireturn, 1) := by decide +kernel
theorem dL_law_1715 : decode cL_law 1715 = .ok (.iload 5, 2) := by decide +kernel
theorem dL_law_1717 : decode cL_law 1717 = .ok (.ifCond .ne 15, 3) := by decide +kernel
theorem dL_law_1720 : decode cL_law 1720 = .ok (.aload_n 3, 1) := by decide +kernel
theorem dL_law_1721 : decode cL_law 1721 = .ok (.iconst 0, 1) := by decide +kernel
theorem dL_law_1722 : decode cL_law 1722 = .ok (.laload, 1) := by decide +kernel
theorem dL_law_1723 : decode cL_law 1723 = .ok (.iload 6, 2) := by decide +kernel
theorem dL_law_1725 : decode cL_law 1725 = .ok (.i2l, 1) := by decide +kernel
theorem dL_law_1726 : decode cL_law 1726 = .ok (.lcmp, 1) := by decide +kernel
theorem dL_law_1727 : decode cL_law 1727 = .ok (.ifCond .eq 5, 3) := by decide +kernel
theorem dL_law_1730 : decode cL_law 1730 = .ok (.iconst 0, 1) := by decide +kernel
theorem dL_law_1731 : decode cL_law 1731 = .ok (.ireturn, 1) := by decide +kernel
theorem dL_law_1732 : decode cL_law 1732 = .ok (.goto 378, 3) := by decide +kernel
theorem dL_law_1735 : decode cL_law 1735 = .ok (.aload_n 1, 1) := by decide +kernel
theorem dL_law_1736 : decode cL_law 1736 = .ok (.aload_n 0, 1) := by decide +kernel
theorem dL_law_1737 : decode cL_law 1737 = .ok (.iload 4, 2) := by decide +kernel
theorem dL_law_1739 : decode cL_law 1739 = .ok (.iconst 1, 1) := by decide +kernel
theorem dL_law_1740 : decode cL_law 1740 = .ok (.iadd, 1) := by decide +kernel
theorem dL_law_1741 : decode cL_law 1741 = .ok (.iaload, 1) := by decide +kernel
theorem dL_law_1742 : decode cL_law 1742 = .ok (.aload_n 0, 1) := by decide +kernel
theorem dL_law_1743 : decode cL_law 1743 = .ok (.iload 4, 2) := by decide +kernel
theorem dL_law_1745 : decode cL_law 1745 = .ok (.iconst 2, 1) := by decide +kernel
theorem dL_law_1746 : decode cL_law 1746 = .ok (.iadd, 1) := by decide +kernel
theorem dL_law_1747 : decode cL_law 1747 = .ok (.iaload, 1) := by decide +kernel
theorem dL_law_1748 : decode cL_law 1748 = .ok (.aload_n 3, 1) := by decide +kernel
theorem dL_law_1749 : decode cL_law 1749 = .ok (.invokestatic 186, 3) := by decide +kernel
theorem dL_law_1752 : decode cL_law 1752 = .ok (.istore 5, 2) := by decide +kernel
theorem dL_law_1754 : decode cL_law 1754 = .ok (.aload_n 2, 1) := by decide +kernel
theorem dL_law_1755 : decode cL_law 1755 = .ok (.aload_n 0, 1) := by decide +kernel
theorem dL_law_1756 : decode cL_law 1756 = .ok (.iload 4, 2) := by decide +kernel
theorem dL_law_1758 : decode cL_law 1758 = .ok (.iconst 1, 1) := by decide +kernel
theorem dL_law_1759 : decode cL_law 1759 = .ok (.iadd, 1) := by decide +kernel
theorem dL_law_1760 : decode cL_law 1760 = .ok (.iaload, 1) := by decide +kernel
theorem dL_law_1761 : decode cL_law 1761 = .ok (.aload_n 0, 1) := by decide +kernel
theorem dL_law_1762 : decode cL_law 1762 = .ok (.iload 4, 2) := by decide +kernel
theorem dL_law_1764 : decode cL_law 1764 = .ok (.iconst 2, 1) := by decide +kernel
theorem dL_law_1765 : decode cL_law 1765 = .ok (.iadd, 1) := by decide +kernel
theorem dL_law_1766 : decode cL_law 1766 = .ok (.iaload, 1) := by decide +kernel
theorem dL_law_1767 : decode cL_law 1767 = .ok (.invokevirtual 188, 3) := by decide +kernel
theorem dL_law_1770 : decode cL_law 1770 = .ok (.istore 6, 2) := by decide +kernel
theorem dL_law_1772 : decode cL_law 1772 = .ok (.aload_n 2, 1) := by decide +kernel
theorem dL_law_1773 : decode cL_law 1773 = .ok (.invokevirtual 116, 3) := by decide +kernel
theorem dL_law_1776 : decode cL_law 1776 = .ok (.iload 5, 2) := by decide +kernel
theorem dL_law_1778 : decode cL_law 1778 = .ok (.if_icmp .eq 5, 3) := by decide +kernel
theorem dL_law_1781 : decode cL_law 1781 = .ok (.iconst 0, 1) := by decide +kernel
theorem dL_law_1782 : decode cL_law 1782 = .ok (.ireturn, 1) := by decide +kernel
theorem dL_law_1783 : decode cL_law 1783 = .ok (.iload 5, 2) := by decide +kernel
theorem dL_law_1785 : decode cL_law 1785 = .ok (.ifCond .ne 15, 3) := by decide +kernel
theorem dL_law_1788 : decode cL_law 1788 = .ok (.aload_n 3, 1) := by decide +kernel
theorem dL_law_1789 : decode cL_law 1789 = .ok (.iconst 0, 1) := by decide +kernel
theorem dL_law_1790 : decode cL_law 1790 = .ok (.laload, 1) := by decide +kernel
theorem dL_law_1791 : decode cL_law 1791 = .ok (.iload 6, 2) := by decide +kernel
theorem dL_law_1793 : decode cL_law 1793 = .ok (.i2l, 1) := by decide +kernel
theorem dL_law_1794 : decode cL_law 1794 = .ok (.lcmp, 1) := by decide +kernel
theorem dL_law_1795 : decode cL_law 1795 = .ok (.ifCond .eq 5, 3) := by decide +kernel
theorem dL_law_1798 : decode cL_law 1798 = .ok (.iconst 0, 1) := by decide +kernel
theorem dL_law_1799 : decode cL_law 1799 = .ok (.ireturn, 1) := by decide +kernel
theorem dL_law_1800 : decode cL_law 1800 = .ok (.goto 310, 3) := by decide +kernel
theorem dL_law_1803 : decode cL_law 1803 = .ok (.aload_n 1, 1) := by decide +kernel
theorem dL_law_1804 : decode cL_law 1804 = .ok (.aload_n 0, 1) := by decide +kernel
theorem dL_law_1805 : decode cL_law 1805 = .ok (.iload 4, 2) := by decide +kernel
theorem dL_law_1807 : decode cL_law 1807 = .ok (.iconst 1, 1) := by decide +kernel
theorem dL_law_1808 : decode cL_law 1808 = .ok (.iadd, 1) := by decide +kernel
theorem dL_law_1809 : decode cL_law 1809 = .ok (.iaload, 1) := by decide +kernel
theorem dL_law_1810 : decode cL_law 1810 = .ok (.aload_n 3, 1) := by decide +kernel
theorem dL_law_1811 : decode cL_law 1811 = .ok (.invokestatic 189, 3) := by decide +kernel
theorem dL_law_1814 : decode cL_law 1814 = .ok (.istore 5, 2) := by decide +kernel
theorem dL_law_1816 : decode cL_law 1816 = .ok (.aload_n 2, 1) := by decide +kernel
theorem dL_law_1817 : decode cL_law 1817 = .ok (.aload_n 0, 1) := by decide +kernel
theorem dL_law_1818 : decode cL_law 1818 = .ok (.iload 4, 2) := by decide +kernel
theorem dL_law_1820 : decode cL_law 1820 = .ok (.iconst 1, 1) := by decide +kernel
theorem dL_law_1821 : decode cL_law 1821 = .ok (.iadd, 1) := by decide +kernel
theorem dL_law_1822 : decode cL_law 1822 = .ok (.iaload, 1) := by decide +kernel
theorem dL_law_1823 : decode cL_law 1823 = .ok (.invokevirtual 191, 3) := by decide +kernel
theorem dL_law_1826 : decode cL_law 1826 = .ok (.istore 6, 2) := by decide +kernel
theorem dL_law_1828 : decode cL_law 1828 = .ok (.aload_n 2, 1) := by decide +kernel
theorem dL_law_1829 : decode cL_law 1829 = .ok (.invokevirtual 116, 3) := by decide +kernel
theorem dL_law_1832 : decode cL_law 1832 = .ok (.iload 5, 2) := by decide +kernel
theorem dL_law_1834 : decode cL_law 1834 = .ok (.if_icmp .eq 5, 3) := by decide +kernel
theorem dL_law_1837 : decode cL_law 1837 = .ok (.iconst 0, 1) := by decide +kernel
theorem dL_law_1838 : decode cL_law 1838 = .ok (.ireturn, 1) := by decide +kernel
theorem dL_law_1839 : decode cL_law 1839 = .ok (.iload 5, 2) := by decide +kernel
theorem dL_law_1841 : decode cL_law 1841 = .ok (.ifCond .ne 15, 3) := by decide +kernel
theorem dL_law_1844 : decode cL_law 1844 = .ok (.aload_n 3, 1) := by decide +kernel
theorem dL_law_1845 : decode cL_law 1845 = .ok (.iconst 0, 1) := by decide +kernel
theorem dL_law_1846 : decode cL_law 1846 = .ok (.laload, 1) := by decide +kernel
theorem dL_law_1847 : decode cL_law 1847 = .ok (.iload 6, 2) := by decide +kernel
theorem dL_law_1849 : decode cL_law 1849 = .ok (.i2l, 1) := by decide +kernel
theorem dL_law_1850 : decode cL_law 1850 = .ok (.lcmp, 1) := by decide +kernel
theorem dL_law_1851 : decode cL_law 1851 = .ok (.ifCond .eq 5, 3) := by decide +kernel
theorem dL_law_1854 : decode cL_law 1854 = .ok (.iconst 0, 1) := by decide +kernel
theorem dL_law_1855 : decode cL_law 1855 = .ok (.ireturn, 1) := by decide +kernel
theorem dL_law_1856 : decode cL_law 1856 = .ok (.goto 254, 3) := by decide +kernel
theorem dL_law_1859 : decode cL_law 1859 = .ok (.aload_n 1, 1) := by decide +kernel
theorem dL_law_1860 : decode cL_law 1860 = .ok (.aload_n 0, 1) := by decide +kernel
theorem dL_law_1861 : decode cL_law 1861 = .ok (.iload 4, 2) := by decide +kernel
theorem dL_law_1863 : decode cL_law 1863 = .ok (.iconst 1, 1) := by decide +kernel
theorem dL_law_1864 : decode cL_law 1864 = .ok (.iadd, 1) := by decide +kernel
theorem dL_law_1865 : decode cL_law 1865 = .ok (.iaload, 1) := by decide +kernel
theorem dL_law_1866 : decode cL_law 1866 = .ok (.aload_n 0, 1) := by decide +kernel
theorem dL_law_1867 : decode cL_law 1867 = .ok (.iload 4, 2) := by decide +kernel
theorem dL_law_1869 : decode cL_law 1869 = .ok (.iconst 2, 1) := by decide +kernel
theorem dL_law_1870 : decode cL_law 1870 = .ok (.iadd, 1) := by decide +kernel
theorem dL_law_1871 : decode cL_law 1871 = .ok (.iaload, 1) := by decide +kernel
theorem dL_law_1872 : decode cL_law 1872 = .ok (.aload_n 3, 1) := by decide +kernel
theorem dL_law_1873 : decode cL_law 1873 = .ok (.invokestatic 192, 3) := by decide +kernel
theorem dL_law_1876 : decode cL_law 1876 = .ok (.istore 5, 2) := by decide +kernel
theorem dL_law_1878 : decode cL_law 1878 = .ok (.aload_n 2, 1) := by decide +kernel
theorem dL_law_1879 : decode cL_law 1879 = .ok (.aload_n 0, 1) := by decide +kernel
theorem dL_law_1880 : decode cL_law 1880 = .ok (.iload 4, 2) := by decide +kernel
theorem dL_law_1882 : decode cL_law 1882 = .ok (.iconst 1, 1) := by decide +kernel
theorem dL_law_1883 : decode cL_law 1883 = .ok (.iadd, 1) := by decide +kernel
theorem dL_law_1884 : decode cL_law 1884 = .ok (.iaload, 1) := by decide +kernel
theorem dL_law_1885 : decode cL_law 1885 = .ok (.aload_n 0, 1) := by decide +kernel
theorem dL_law_1886 : decode cL_law 1886 = .ok (.iload 4, 2) := by decide +kernel
theorem dL_law_1888 : decode cL_law 1888 = .ok (.iconst 2, 1) := by decide +kernel
theorem dL_law_1889 : decode cL_law 1889 = .ok (.iadd, 1) := by decide +kernel
theorem dL_law_1890 : decode cL_law 1890 = .ok (.iaload, 1) := by decide +kernel
theorem dL_law_1891 : decode cL_law 1891 = .ok (.invokevirtual 194, 3) := by decide +kernel
theorem dL_law_1894 : decode cL_law 1894 = .ok (.istore 6, 2) := by decide +kernel
theorem dL_law_1896 : decode cL_law 1896 = .ok (.aload_n 2, 1) := by decide +kernel
theorem dL_law_1897 : decode cL_law 1897 = .ok (.invokevirtual 116, 3) := by decide +kernel
theorem dL_law_1900 : decode cL_law 1900 = .ok (.iload 5, 2) := by decide +kernel
theorem dL_law_1902 : decode cL_law 1902 = .ok (.if_icmp .eq 5, 3) := by decide +kernel
theorem dL_law_1905 : decode cL_law 1905 = .ok (.iconst 0, 1) := by decide +kernel
theorem dL_law_1906 : decode cL_law 1906 = .ok (.ireturn, 1) := by decide +kernel
theorem dL_law_1907 : decode cL_law 1907 = .ok (.iload 5, 2) := by decide +kernel
theorem dL_law_1909 : decode cL_law 1909 = .ok (.ifCond .ne 15, 3) := by decide +kernel
theorem dL_law_1912 : decode cL_law 1912 = .ok (.aload_n 3, 1) := by decide +kernel
theorem dL_law_1913 : decode cL_law 1913 = .ok (.iconst 0, 1) := by decide +kernel
theorem dL_law_1914 : decode cL_law 1914 = .ok (.laload, 1) := by decide +kernel
theorem dL_law_1915 : decode cL_law 1915 = .ok (.iload 6, 2) := by decide +kernel
theorem dL_law_1917 : decode cL_law 1917 = .ok (.i2l, 1) := by decide +kernel
theorem dL_law_1918 : decode cL_law 1918 = .ok (.lcmp, 1) := by decide +kernel
theorem dL_law_1919 : decode cL_law 1919 = .ok (.ifCond .eq 5, 3) := by decide +kernel
theorem dL_law_1922 : decode cL_law 1922 = .ok (.iconst 0, 1) := by decide +kernel
theorem dL_law_1923 : decode cL_law 1923 = .ok (.ireturn, 1) := by decide +kernel
theorem dL_law_1924 : decode cL_law 1924 = .ok (.goto 186, 3) := by decide +kernel
theorem dL_law_1927 : decode cL_law 1927 = .ok (.aload_n 1, 1) := by decide +kernel
theorem dL_law_1928 : decode cL_law 1928 = .ok (.aload_n 0, 1) := by decide +kernel
theorem dL_law_1929 : decode cL_law 1929 = .ok (.iload 4, 2) := by decide +kernel
theorem dL_law_1931 : decode cL_law 1931 = .ok (.iconst 1, 1) := by decide +kernel
theorem dL_law_1932 : decode cL_law 1932 = .ok (.iadd, 1) := by decide +kernel
theorem dL_law_1933 : decode cL_law 1933 = .ok (.iaload, 1) := by decide +kernel
theorem dL_law_1934 : decode cL_law 1934 = .ok (.aload_n 3, 1) := by decide +kernel
theorem dL_law_1935 : decode cL_law 1935 = .ok (.invokestatic 195, 3) := by decide +kernel
theorem dL_law_1938 : decode cL_law 1938 = .ok (.istore 5, 2) := by decide +kernel
theorem dL_law_1940 : decode cL_law 1940 = .ok (.aload_n 2, 1) := by decide +kernel
theorem dL_law_1941 : decode cL_law 1941 = .ok (.aload_n 0, 1) := by decide +kernel
theorem dL_law_1942 : decode cL_law 1942 = .ok (.iload 4, 2) := by decide +kernel
theorem dL_law_1944 : decode cL_law 1944 = .ok (.iconst 1, 1) := by decide +kernel
theorem dL_law_1945 : decode cL_law 1945 = .ok (.iadd, 1) := by decide +kernel
theorem dL_law_1946 : decode cL_law 1946 = .ok (.iaload, 1) := by decide +kernel
theorem dL_law_1947 : decode cL_law 1947 = .ok (.invokevirtual 197, 3) := by decide +kernel
theorem dL_law_1950 : decode cL_law 1950 = .ok (.istore 6, 2) := by decide +kernel
theorem dL_law_1952 : decode cL_law 1952 = .ok (.aload_n 2, 1) := by decide +kernel
theorem dL_law_1953 : decode cL_law 1953 = .ok (.invokevirtual 116, 3) := by decide +kernel
theorem dL_law_1956 : decode cL_law 1956 = .ok (.iload 5, 2) := by decide +kernel
theorem dL_law_1958 : decode cL_law 1958 = .ok (.if_icmp .eq 5, 3) := by decide +kernel
theorem dL_law_1961 : decode cL_law 1961 = .ok (.iconst 0, 1) := by decide +kernel
theorem dL_law_1962 : decode cL_law 1962 = .ok (.ireturn, 1) := by decide +kernel
theorem dL_law_1963 : decode cL_law 1963 = .ok (.iload 5, 2) := by decide +kernel
theorem dL_law_1965 : decode cL_law 1965 = .ok (.ifCond .ne 15, 3) := by decide +kernel
theorem dL_law_1968 : decode cL_law 1968 = .ok (.aload_n 3, 1) := by decide +kernel
theorem dL_law_1969 : decode cL_law 1969 = .ok (.iconst 0, 1) := by decide +kernel
theorem dL_law_1970 : decode cL_law 1970 = .ok (.laload, 1) := by decide +kernel
theorem dL_law_1971 : decode cL_law 1971 = .ok (.iload 6, 2) := by decide +kernel
theorem dL_law_1973 : decode cL_law 1973 = .ok (.i2l, 1) := by decide +kernel
theorem dL_law_1974 : decode cL_law 1974 = .ok (.lcmp, 1) := by decide +kernel
theorem dL_law_1975 : decode cL_law 1975 = .ok (.ifCond .eq 5, 3) := by decide +kernel
theorem dL_law_1978 : decode cL_law 1978 = .ok (.iconst 0, 1) := by decide +kernel
theorem dL_law_1979 : decode cL_law 1979 = .ok (.ireturn, 1) := by decide +kernel
theorem dL_law_1980 : decode cL_law 1980 = .ok (.goto 130, 3) := by decide +kernel
theorem dL_law_1983 : decode cL_law 1983 = .ok (.aload_n 1, 1) := by decide +kernel
theorem dL_law_1984 : decode cL_law 1984 = .ok (.invokevirtual 198, 3) := by decide +kernel
theorem dL_law_1987 : decode cL_law 1987 = .ok (.aload_n 2, 1) := by decide +kernel
theorem dL_law_1988 : decode cL_law 1988 = .ok (.invokevirtual 201, 3) := by decide +kernel
theorem dL_law_1991 : decode cL_law 1991 = .ok (.if_icmp .eq 119, 3) := by decide +kernel
theorem dL_law_1994 : decode cL_law 1994 = .ok (.iconst 0, 1) := by decide +kernel
theorem dL_law_1995 : decode cL_law 1995 = .ok (.ireturn, 1) := by decide +kernel
theorem dL_law_1996 : decode cL_law 1996 = .ok (.aload_n 1, 1) := by decide +kernel
theorem dL_law_1997 : decode cL_law 1997 = .ok (.aload_n 0, 1) := by decide +kernel
theorem dL_law_1998 : decode cL_law 1998 = .ok (.iload 4, 2) := by decide +kernel
theorem dL_law_2000 : decode cL_law 2000 = .ok (.iconst 1, 1) := by decide +kernel
theorem dL_law_2001 : decode cL_law 2001 = .ok (.iadd, 1) := by decide +kernel
theorem dL_law_2002 : decode cL_law 2002 = .ok (.iaload, 1) := by decide +kernel
theorem dL_law_2003 : decode cL_law 2003 = .ok (.aload_n 3, 1) := by decide +kernel
theorem dL_law_2004 : decode cL_law 2004 = .ok (.invokestatic 202, 3) := by decide +kernel
theorem dL_law_2007 : decode cL_law 2007 = .ok (.istore 5, 2) := by decide +kernel
theorem dL_law_2009 : decode cL_law 2009 = .ok (.aload_n 2, 1) := by decide +kernel
theorem dL_law_2010 : decode cL_law 2010 = .ok (.aload_n 0, 1) := by decide +kernel
theorem dL_law_2011 : decode cL_law 2011 = .ok (.iload 4, 2) := by decide +kernel
theorem dL_law_2013 : decode cL_law 2013 = .ok (.iconst 1, 1) := by decide +kernel
theorem dL_law_2014 : decode cL_law 2014 = .ok (.iadd, 1) := by decide +kernel
theorem dL_law_2015 : decode cL_law 2015 = .ok (.iaload, 1) := by decide +kernel
theorem dL_law_2016 : decode cL_law 2016 = .ok (.invokevirtual 204, 3) := by decide +kernel
theorem dL_law_2019 : decode cL_law 2019 = .ok (.istore 6, 2) := by decide +kernel
theorem dL_law_2021 : decode cL_law 2021 = .ok (.aload_n 2, 1) := by decide +kernel
theorem dL_law_2022 : decode cL_law 2022 = .ok (.invokevirtual 116, 3) := by decide +kernel
theorem dL_law_2025 : decode cL_law 2025 = .ok (.iload 5, 2) := by decide +kernel
theorem dL_law_2027 : decode cL_law 2027 = .ok (.if_icmp .eq 5, 3) := by decide +kernel
theorem dL_law_2030 : decode cL_law 2030 = .ok (.iconst 0, 1) := by decide +kernel
theorem dL_law_2031 : decode cL_law 2031 = .ok (.ireturn, 1) := by decide +kernel
theorem dL_law_2032 : decode cL_law 2032 = .ok (.iload 5, 2) := by decide +kernel
theorem dL_law_2034 : decode cL_law 2034 = .ok (.ifCond .ne 15, 3) := by decide +kernel
theorem dL_law_2037 : decode cL_law 2037 = .ok (.aload_n 3, 1) := by decide +kernel
theorem dL_law_2038 : decode cL_law 2038 = .ok (.iconst 0, 1) := by decide +kernel
theorem dL_law_2039 : decode cL_law 2039 = .ok (.laload, 1) := by decide +kernel
theorem dL_law_2040 : decode cL_law 2040 = .ok (.iload 6, 2) := by decide +kernel
theorem dL_law_2042 : decode cL_law 2042 = .ok (.i2l, 1) := by decide +kernel
theorem dL_law_2043 : decode cL_law 2043 = .ok (.lcmp, 1) := by decide +kernel
theorem dL_law_2044 : decode cL_law 2044 = .ok (.ifCond .eq 5, 3) := by decide +kernel
theorem dL_law_2047 : decode cL_law 2047 = .ok (.iconst 0, 1) := by decide +kernel
theorem dL_law_2048 : decode cL_law 2048 = .ok (.ireturn, 1) := by decide +kernel
theorem dL_law_2049 : decode cL_law 2049 = .ok (.goto 61, 3) := by decide +kernel
theorem dL_law_2052 : decode cL_law 2052 = .ok (.aload_n 1, 1) := by decide +kernel
theorem dL_law_2053 : decode cL_law 2053 = .ok (.aload_n 3, 1) := by decide +kernel
theorem dL_law_2054 : decode cL_law 2054 = .ok (.invokestatic 205, 3) := by decide +kernel
theorem dL_law_2057 : decode cL_law 2057 = .ok (.istore 5, 2) := by decide +kernel
theorem dL_law_2059 : decode cL_law 2059 = .ok (.aload_n 2, 1) := by decide +kernel
theorem dL_law_2060 : decode cL_law 2060 = .ok (.invokevirtual 208, 3) := by decide +kernel
theorem dL_law_2063 : decode cL_law 2063 = .ok (.istore 6, 2) := by decide +kernel
theorem dL_law_2065 : decode cL_law 2065 = .ok (.aload_n 2, 1) := by decide +kernel
theorem dL_law_2066 : decode cL_law 2066 = .ok (.invokevirtual 116, 3) := by decide +kernel
theorem dL_law_2069 : decode cL_law 2069 = .ok (.iload 5, 2) := by decide +kernel
theorem dL_law_2071 : decode cL_law 2071 = .ok (.if_icmp .eq 5, 3) := by decide +kernel
theorem dL_law_2074 : decode cL_law 2074 = .ok (.iconst 0, 1) := by decide +kernel
theorem dL_law_2075 : decode cL_law 2075 = .ok (.ireturn, 1) := by decide +kernel
theorem dL_law_2076 : decode cL_law 2076 = .ok (.iload 5, 2) := by decide +kernel
theorem dL_law_2078 : decode cL_law 2078 = .ok (.ifCond .ne 15, 3) := by decide +kernel
theorem dL_law_2081 : decode cL_law 2081 = .ok (.aload_n 3, 1) := by decide +kernel
theorem dL_law_2082 : decode cL_law 2082 = .ok (.iconst 0, 1) := by decide +kernel
theorem dL_law_2083 : decode cL_law 2083 = .ok (.laload, 1) := by decide +kernel
theorem dL_law_2084 : decode cL_law 2084 = .ok (.iload 6, 2) := by decide +kernel
theorem dL_law_2086 : decode cL_law 2086 = .ok (.i2l, 1) := by decide +kernel
theorem dL_law_2087 : decode cL_law 2087 = .ok (.lcmp, 1) := by decide +kernel
theorem dL_law_2088 : decode cL_law 2088 = .ok (.ifCond .eq 5, 3) := by decide +kernel
theorem dL_law_2091 : decode cL_law 2091 = .ok (.iconst 0, 1) := by decide +kernel
theorem dL_law_2092 : decode cL_law 2092 = .ok (.ireturn, 1) := by decide +kernel
theorem dL_law_2093 : decode cL_law 2093 = .ok (.goto 17, 3) := by decide +kernel
theorem dL_law_2096 : decode cL_law 2096 = .ok (.aload_n 1, 1) := by decide +kernel
theorem dL_law_2097 : decode cL_law 2097 = .ok (.invokevirtual 209, 3) := by decide +kernel
theorem dL_law_2100 : decode cL_law 2100 = .ok (.aload_n 2, 1) := by decide +kernel
theorem dL_law_2101 : decode cL_law 2101 = .ok (.invokevirtual 213, 3) := by decide +kernel
theorem dL_law_2104 : decode cL_law 2104 = .ok (.lcmp, 1) := by decide +kernel
theorem dL_law_2105 : decode cL_law 2105 = .ok (.ifCond .eq 5, 3) := by decide +kernel
theorem dL_law_2108 : decode cL_law 2108 = .ok (.iconst 0, 1) := by decide +kernel
theorem dL_law_2109 : decode cL_law 2109 = .ok (.ireturn, 1) := by decide +kernel
theorem dL_law_2110 : decode cL_law 2110 = .ok (.iinc 4 5, 3) := by decide +kernel
theorem dL_law_2113 : decode cL_law 2113 = .ok (.goto (-2090), 3) := by decide +kernel
theorem dL_law_2116 : decode cL_law 2116 = .ok (.iconst 1, 1) := by decide +kernel
theorem dL_law_2117 : decode cL_law 2117 = .ok (.ireturn, 1) := by decide +kernel
