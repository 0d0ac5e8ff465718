/-! decode rows of the law (by program) -/
theorem d_Law_main_1737 : decode M_Law_main.2.1 1737 = .ok (.iconst 0, 1) := by decide +kernel
theorem d_Law_main_1738 : decode M_Law_main.2.1 1738 = .ok (.laload, 1) := by decide +kernel
theorem d_Law_main_1739 : decode M_Law_main.2.1 1739 = .ok (.iload 6, 2) := by decide +kernel
theorem d_Law_main_1741 : decode M_Law_main.2.1 1741 = .ok (.i2l, 1) := by decide +kernel
theorem d_Law_main_1742 : decode M_Law_main.2.1 1742 = .ok (.lcmp, 1) := by decide +kernel
theorem d_Law_main_1743 : decode M_Law_main.2.1 1743 = .ok (.ifCond .eq 5, 3) := by decide +kernel
theorem d_Law_main_1746 : decode M_Law_main.2.1 1746 = .ok (.iconst 0, 1) := by decide +kernel
theorem d_Law_main_1747 : decode M_Law_main.2.1 1747 = .ok (.ireturn, 1) := by decide +kernel
theorem d_Law_main_1748 : decode M_Law_main.2.1 1748 = .ok (.goto 565, 3) := by decide +kernel
theorem d_Law_main_1751 : decode M_Law_main.2.1 1751 = .ok (.aload_n 1, 1) := by decide +kernel
theorem d_Law_main_1752 : decode M_Law_main.2.1 1752 = .ok (.aload_n 0, 1) := by decide +kernel
theorem d_Law_main_1753 : decode M_Law_main.2.1 1753 = .ok (.iload 4, 2) := by decide +kernel
theorem d_Law_main_1755 : decode M_Law_main.2.1 1755 = .ok (.iconst 1, 1) := by decide +kernel
theorem d_Law_main_1756 : decode M_Law_main.2.1 1756 = .ok (.iadd, 1) := by decide +kernel
theorem d_Law_main_1757 : decode M_Law_main.2.1 1757 = .ok (.iaload, 1) := by decide +kernel
theorem d_Law_main_1758 : decode M_Law_main.2.1 1758 = .ok (.aload_n 3, 1) := by decide +kernel
theorem d_Law_main_1759 : decode M_Law_main.2.1 1759 = .ok (.invokestatic 213, 3) := by decide +kernel
theorem d_Law_main_1762 : decode M_Law_main.2.1 1762 = .ok (.istore 5, 2) := by decide +kernel
theorem d_Law_main_1764 : decode M_Law_main.2.1 1764 = .ok (.aload_n 2, 1) := by decide +kernel
theorem d_Law_main_1765 : decode M_Law_main.2.1 1765 = .ok (.aload_n 0, 1) := by decide +kernel
theorem d_Law_main_1766 : decode M_Law_main.2.1 1766 = .ok (.iload 4, 2) := by decide +kernel
theorem d_Law_main_1768 : decode M_Law_main.2.1 1768 = .ok (.iconst 1, 1) := by decide +kernel
theorem d_Law_main_1769 : decode M_Law_main.2.1 1769 = .ok (.iadd, 1) := by decide +kernel
theorem d_Law_main_1770 : decode M_Law_main.2.1 1770 = .ok (.iaload, 1) := by decide +kernel
theorem d_Law_main_1771 : decode M_Law_main.2.1 1771 = .ok (.invokevirtual 215, 3) := by decide +kernel
theorem d_Law_main_1774 : decode M_Law_main.2.1 1774 = .ok (.istore 6, 2) := by decide +kernel
theorem d_Law_main_1776 : decode M_Law_main.2.1 1776 = .ok (.aload_n 2, 1) := by decide +kernel
theorem d_Law_main_1777 : decode M_Law_main.2.1 1777 = .ok (.invokevirtual 122, 3) := by decide +kernel
theorem d_Law_main_1780 : decode M_Law_main.2.1 1780 = .ok (.iload 5, 2) := by decide +kernel
theorem d_Law_main_1782 : decode M_Law_main.2.1 1782 = .ok (.if_icmp .eq 5, 3) := by decide +kernel
theorem d_Law_main_1785 : decode M_Law_main.2.1 1785 = .ok (.iconst 0, 1) := by decide +kernel
theorem d_Law_main_1786 : decode M_Law_main.2.1 1786 = .ok (.ireturn, 1) := by decide +kernel
theorem d_Law_main_1787 : decode M_Law_main.2.1 1787 = .ok (.iload 5, 2) := by decide +kernel
theorem d_Law_main_1789 : decode M_Law_main.2.1 1789 = .ok (.ifCond .ne 15, 3) := by decide +kernel
theorem d_Law_main_1792 : decode M_Law_main.2.1 1792 = .ok (.aload_n 3, 1) := by decide +kernel
theorem d_Law_main_1793 : decode M_Law_main.2.1 1793 = .ok (.iconst 0, 1) := by decide +kernel
theorem d_Law_main_1794 : decode M_Law_main.2.1 1794 = .ok (.laload, 1) := by decide +kernel
theorem d_Law_main_1795 : decode M_Law_main.2.1 1795 = .ok (.iload 6, 2) := by decide +kernel
theorem d_Law_main_1797 : decode M_Law_main.2.1 1797 = .ok (.i2l, 1) := by decide +kernel
theorem d_Law_main_1798 : decode M_Law_main.2.1 1798 = .ok (.lcmp, 1) := by decide +kernel
theorem d_Law_main_1799 : decode M_Law_main.2.1 1799 = .ok (.ifCond .eq 5, 3) := by decide +kernel
theorem d_Law_main_1802 : decode M_Law_main.2.1 1802 = .ok (.iconst 0, 1) := by decide +kernel
theorem d_Law_main_1803 : decode M_Law_main.2.1 1803 = .ok (.ireturn, 1) := by decide +kernel
theorem d_Law_main_1804 : decode M_Law_main.2.1 1804 = .ok (.goto 509, 3) := by decide +kernel
theorem d_Law_main_1807 : decode M_Law_main.2.1 1807 = .ok (.aload_n 1, 1) := by decide +kernel
theorem d_Law_main_1808 : decode M_Law_main.2.1 1808 = .ok (.aload_n 0, 1) := by decide +kernel
theorem d_Law_main_1809 : decode M_Law_main.2.1 1809 = .ok (.iload 4, 2) := by decide +kernel
theorem d_Law_main_1811 : decode M_Law_main.2.1 1811 = .ok (.iconst 1, 1) := by decide +kernel
theorem d_Law_main_1812 : decode M_Law_main.2.1 1812 = .ok (.iadd, 1) := by decide +kernel
theorem d_Law_main_1813 : decode M_Law_main.2.1 1813 = .ok (.iaload, 1) := by decide +kernel
theorem d_Law_main_1814 : decode M_Law_main.2.1 1814 = .ok (.aload_n 3, 1) := by decide +kernel
theorem d_Law_main_1815 : decode M_Law_main.2.1 1815 = .ok (.invokestatic 216, 3) := by decide +kernel
theorem d_Law_main_1818 : decode M_Law_main.2.1 1818 = .ok (.istore 5, 2) := by decide +kernel
theorem d_Law_main_1820 : decode M_Law_main.2.1 1820 = .ok (.aload_n 2, 1) := by decide +kernel
theorem d_Law_main_1821 : decode M_Law_main.2.1 1821 = .ok (.aload_n 0, 1) := by decide +kernel
theorem d_Law_main_1822 : decode M_Law_main.2.1 1822 = .ok (.iload 4, 2) := by decide +kernel
theorem d_Law_main_1824 : decode M_Law_main.2.1 1824 = .ok (.iconst 1, 1) := by decide +kernel
theorem d_Law_main_1825 : decode M_Law_main.2.1 1825 = .ok (.iadd, 1) := by decide +kernel
theorem d_Law_main_1826 : decode M_Law_main.2.1 1826 = .ok (.iaload, 1) := by decide +kernel
theorem d_Law_main_1827 : decode M_Law_main.2.1 1827 = .ok (.invokevirtual 218, 3) := by decide +kernel
theorem d_Law_main_1830 : decode M_Law_main.2.1 1830 = .ok (.istore 6, 2) := by decide +kernel
theorem d_Law_main_1832 : decode M_Law_main.2.1 1832 = .ok (.aload_n 2, 1) := by decide +kernel
theorem d_Law_main_1833 : decode M_Law_main.2.1 1833 = .ok (.invokevirtual 122, 3) := by decide +kernel
theorem d_Law_main_1836 : decode M_Law_main.2.1 1836 = .ok (.iload 5, 2) := by decide +kernel
theorem d_Law_main_1838 : decode M_Law_main.2.1 1838 = .ok (.if_icmp .eq 5, 3) := by decide +kernel
theorem d_Law_main_1841 : decode M_Law_main.2.1 1841 = .ok (.iconst 0, 1) := by decide +kernel
theorem d_Law_main_1842 : decode M_Law_main.2.1 1842 = .ok (.ireturn, 1) := by decide +kernel
theorem d_Law_main_1843 : decode M_Law_main.2.1 1843 = .ok (.iload 5, 2) := by decide +kernel
theorem d_Law_main_1845 : decode M_Law_main.2.1 1845 = .ok (.ifCond .ne 15, 3) := by decide +kernel
theorem d_Law_main_1848 : decode M_Law_main.2.1 1848 = .ok (.aload_n 3, 1) := by decide +kernel
theorem d_Law_main_1849 : decode M_Law_main.2.1 1849 = .ok (.iconst 0, 1) := by decide +kernel
theorem d_Law_main_1850 : decode M_Law_main.2.1 1850 = .ok (.laload, 1) := by decide +kernel
theorem d_Law_main_1851 : decode M_Law_main.2.1 1851 = .ok (.iload 6, 2) := by decide +kernel
theorem d_Law_main_1853 : decode M_Law_main.2.1 1853 = .ok (.i2l, 1) := by decide +kernel
theorem d_Law_main_1854 : decode M_Law_main.2.1 1854 = .ok (.lcmp, 1) := by decide +kernel
theorem d_Law_main_1855 : decode M_Law_main.2.1 1855 = .ok (.ifCond .eq 5, 3) := by decide +kernel
theorem d_Law_main_1858 : decode M_Law_main.2.1 1858 = .ok (.iconst 0, 1) := by decide +kernel
theorem d_Law_main_1859 : decode M_Law_main.2.1 1859 = .ok (.ireturn, 1) := by decide +kernel
theorem d_Law_main_1860 : decode M_Law_main.2.1 1860 = .ok (.goto 453, 3) := by decide +kernel
theorem d_Law_main_1863 : decode M_Law_main.2.1 1863 = .ok (.aload_n 1, 1) := by decide +kernel
theorem d_Law_main_1864 : decode M_Law_main.2.1 1864 = .ok (.invokevirtual 219, 3) := by decide +kernel
theorem d_Law_main_1867 : decode M_Law_main.2.1 1867 = .ok (.aload_n 2, 1) := by decide +kernel
theorem d_Law_main_1868 : decode M_Law_main.2.1 1868 = .ok (.invokevirtual 222, 3) := by decide +kernel
theorem d_Law_main_1871 : decode M_Law_main.2.1 1871 = .ok (.if_icmp .eq 442, 3) := by decide +kernel
theorem d_Law_main_1874 : decode M_Law_main.2.1 1874 = .ok (.iconst 0, 1) := by decide +kernel
theorem d_Law_main_1875 : decode M_Law_main.2.1 1875 = .ok (.ireturn, 1) := by decide +kernel
theorem d_Law_main_1876 : decode M_Law_main.2.1 1876 = .ok (.aload_n 1, 1) := by decide +kernel
theorem d_Law_main_1877 : decode M_Law_main.2.1 1877 = .ok (.aload_n 0, 1) := by decide +kernel
theorem d_Law_main_1878 : decode M_Law_main.2.1 1878 = .ok (.iload 4, 2) := by decide +kernel
theorem d_Law_main_1880 : decode M_Law_main.2.1 1880 = .ok (.iconst 1, 1) := by decide +kernel
theorem d_Law_main_1881 : decode M_Law_main.2.1 1881 = .ok (.iadd, 1) := by decide +kernel
theorem d_Law_main_1882 : decode M_Law_main.2.1 1882 = .ok (.iaload, 1) := by decide +kernel
theorem d_Law_main_1883 : decode M_Law_main.2.1 1883 = .ok (.aload_n 3, 1) := by decide +kernel
theorem d_Law_main_1884 : decode M_Law_main.2.1 1884 = .ok (.invokestatic 223, 3) := by decide +kernel
theorem d_Law_main_1887 : decode M_Law_main.2.1 1887 = .ok (.istore 5, 2) := by decide +kernel
theorem d_Law_main_1889 : decode M_Law_main.2.1 1889 = .ok (.aload_n 2, 1) := by decide +kernel
theorem d_Law_main_1890 : decode M_Law_main.2.1 1890 = .ok (.aload_n 0, 1) := by decide +kernel
theorem d_Law_main_1891 : decode M_Law_main.2.1 1891 = .ok (.iload 4, 2) := by decide +kernel
theorem d_Law_main_1893 : decode M_Law_main.2.1 1893 = .ok (.iconst 1, 1) := by decide +kernel
theorem d_Law_main_1894 : decode M_Law_main.2.1 1894 = .ok (.iadd, 1) := by decide +kernel
theorem d_Law_main_1895 : decode M_Law_main.2.1 1895 = .ok (.iaload, 1) := by decide +kernel
theorem d_Law_main_1896 : decode M_Law_main.2.1 1896 = .ok (.invokevirtual 225, 3) := by decide +kernel
theorem d_Law_main_1899 : decode M_Law_main.2.1 1899 = .ok (.istore 6, 2) := by decide +kernel
theorem d_Law_main_1901 : decode M_Law_main.2.1 1901 = .ok (.aload_n 2, 1) := by decide +kernel
theorem d_Law_main_1902 : decode M_Law_main.2.1 1902 = .ok (.invokevirtual 122, 3) := by decide +kernel
theorem d_Law_main_1905 : decode M_Law_main.2.1 1905 = .ok (.iload 5, 2) := by decide +kernel
theorem d_Law_main_1907 : decode M_Law_main.2.1 1907 = .ok (.if_icmp .eq 5, 3) := by decide +kernel
theorem d_Law_main_1910 : decode M_Law_main.2.1 1910 = .ok (.iconst 0, 1) := by decide +kernel
theorem d_Law_main_1911 : decode M_Law_main.2.1 1911 = .ok (.ireturn, 1) := by decide +kernel
theorem d_Law_main_1912 : decode M_Law_main.2.1 1912 = .ok (.iload 5, 2) := by decide +kernel
theorem d_Law_main_1914 : decode M_Law_main.2.1 1914 = .ok (.ifCond .ne 15, 3) := by decide +kernel
theorem d_Law_main_1917 : decode M_Law_main.2.1 1917 = .ok (.aload_n 3, 1) := by decide +kernel
theorem d_Law_main_1918 : decode M_Law_main.2.1 1918 = .ok (.iconst 0, 1) := by decide +kernel
theorem d_Law_main_1919 : decode M_Law_main.2.1 1919 = .ok (.laload, 1) := by decide +kernel
theorem d_Law_main_1920 : decode M_Law_main.2.1 1920 = .ok (.iload 6, 2) := by decide +kernel
theorem d_Law_main_1922 : decode M_Law_main.2.1 1922 = .ok (.i2l, 1) := by decide +kernel
theorem d_Law_main_1923 : decode M_Law_main.2.1 1923 = .ok (.lcmp, 1) := by decide +kernel
theorem d_Law_main_1924 : decode M_Law_main.2.1 1924 = .ok (.ifCond .eq 5, 3) := by decide +kernel
theorem d_Law_main_1927 : decode M_Law_main.2.1 1927 = .ok (.iconst 0, 1) := by decide +kernel
theorem d_Law_main_1928 : decode M_Law_main.2.1 1928 = .ok (.ireturn, 1) := by decide +kernel
theorem d_Law_main_1929 : decode M_Law_main.2.1 1929 = .ok (.goto 384, 3) := by decide +kernel
theorem d_Law_main_1932 : decode M_Law_main.2.1 1932 = .ok (.aload_n 1, 1) := by decide +kernel
theorem d_Law_main_1933 : decode M_Law_main.2.1 1933 = .ok (.aload_n 0, 1) := by decide +kernel
theorem d_Law_main_1934 : decode M_Law_main.2.1 1934 = .ok (.iload 4, 2) := by decide +kernel
theorem d_Law_main_1936 : decode M_Law_main.2.1 1936 = .ok (.iconst 1, 1) := by decide +kernel
theorem d_Law_main_1937 : decode M_Law_main.2.1 1937 = .ok (.iadd, 1) := by decide +kernel
theorem d_Law_main_1938 : decode M_Law_main.2.1 1938 = .ok (.iaload, 1) := by decide +kernel
theorem d_Law_main_1939 : decode M_Law_main.2.1 1939 = .ok (.aload_n 3, 1) := by decide +kernel
theorem d_Law_main_1940 : decode M_Law_main.2.1 1940 = .ok (.invokestatic 226, 3) := by decide +kernel
theorem d_Law_main_1943 : decode M_Law_main.2.1 1943 = .ok (.istore 5, 2) := by decide +kernel
theorem d_Law_main_1945 : decode M_Law_main.2.1 1945 = .ok (.aload_n 2, 1) := by decide +kernel
theorem d_Law_main_1946 : decode M_Law_main.2.1 1946 = .ok (.aload_n 0, 1) := by decide +kernel
theorem d_Law_main_1947 : decode M_Law_main.2.1 1947 = .ok (.iload 4, 2) := by decide +kernel
theorem d_Law_main_1949 : decode M_Law_main.2.1 1949 = .ok (.iconst 1, 1) := by decide +kernel
theorem d_Law_main_1950 : decode M_Law_main.2.1 1950 = .ok (.iadd, 1) := by decide +kernel
theorem d_Law_main_1951 : decode M_Law_main.2.1 1951 = .ok (.iaload, 1) := by decide +kernel
theorem d_Law_main_1952 : decode M_Law_main.2.1 1952 = .ok (.invokevirtual 228, 3) := by decide +kernel
theorem d_Law_main_1955 : decode M_Law_main.2.1 1955 = .ok (.istore 6, 2) := by decide +kernel
theorem d_Law_main_1957 : decode M_Law_main.2.1 1957 = .ok (.aload_n 2, 1) := by decide +kernel
theorem d_Law_main_1958 : decode M_Law_main.2.1 1958 = .ok (.invokevirtual 122, 3) := by decide +kernel
theorem d_Law_main_1961 : decode M_Law_main.2.1 1961 = .ok (.iload 5, 2) := by decide +kernel
theorem d_Law_main_1963 : decode M_Law_main.2.1 1963 = .ok (.if_icmp .eq 5, 3) := by decide +kernel
theorem d_Law_main_1966 : decode M_Law_main.2.1 1966 = .ok (.iconst 0, 1) := by decide +kernel
theorem d_Law_main_1967 : decode M_Law_main.2.1 1967 = .ok (.ireturn, 1) := by decide +kernel
theorem d_Law_main_1968 : decode M_Law_main.2.1 1968 = .ok (.iload 5, 2) := by decide +kernel
theorem d_Law_main_1970 : decode M_Law_main.2.1 1970 = .ok (.ifCond .ne 15, 3) := by decide +kernel
theorem d_Law_main_1973 : decode M_Law_main.2.1 1973 = .ok (.aload_n 3, 1) := by decide +kernel
theorem d_Law_main_1974 : decode M_Law_main.2.1 1974 = .ok (.iconst 0, 1) := by decide +kernel
theorem d_Law_main_1975 : decode M_Law_main.2.1 1975 = .ok (.laload, 1) := by decide +kernel
theorem d_Law_main_1976 : decode M_Law_main.2.1 1976 = .ok (.iload 6, 2) := by decide +kernel
theorem d_Law_main_1978 : decode M_Law_main.2.1 1978 = .ok (.i2l, 1) := by decide +kernel
theorem d_Law_main_1979 : decode M_Law_main.2.1 1979 = .ok (.lcmp, 1) := by decide +kernel
theorem d_Law_main_1980 : decode M_Law_main.2.1 1980 = .ok (.ifCond .eq 5, 3) := by decide +kernel
theorem d_Law_main_1983 : decode M_Law_main.2.1 1983 = .ok (.iconst 0, 1) := by decide +kernel
theorem d_Law_main_1984 : decode M_Law_main.2.1 1984 = .ok (.ireturn, 1) := by decide +kernel
theorem d_Law_main_1985 : decode M_Law_main.2.1 1985 = .ok (.goto 328, 3) := by decide +kernel
theorem d_Law_main_1988 : decode M_Law_main.2.1 1988 = .ok (.aload_n 1, 1) := by decide +kernel
theorem d_Law_main_1989 : decode M_Law_main.2.1 1989 = .ok (.aload_n 0, 1) := by decide +kernel
theorem d_Law_main_1990 : decode M_Law_main.2.1 1990 = .ok (.iload 4, 2) := by decide +kernel
theorem d_Law_main_1992 : decode M_Law_main.2.1 1992 = .ok (.iconst 1, 1) := by decide +kernel
theorem d_Law_main_1993 : decode M_Law_main.2.1 1993 = .ok (.iadd, 1) := by decide +kernel
theorem d_Law_main_1994 : decode M_Law_main.2.1 1994 = .ok (.iaload, 1) := by decide +kernel
theorem d_Law_main_1995 : decode M_Law_main.2.1 1995 = .ok (.aload_n 0, 1) := by decide +kernel
theorem d_Law_main_1996 : decode M_Law_main.2.1 1996 = .ok (.iload 4, 2) := by decide +kernel
theorem d_Law_main_1998 : decode M_Law_main.2.1 1998 = .ok (.iconst 2, 1) := by decide +kernel
theorem d_Law_main_1999 : decode M_Law_main.2.1 1999 = .ok (.iadd, 1) := by decide +kernel
theorem d_Law_main_2000 : decode M_Law_main.2.1 2000 = .ok (.iaload, 1) := by decide +kernel
theorem d_Law_main_2001 : decode M_Law_main.2.1 2001 = .ok (.ifCond .eq 7, 3) := by decide +kernel
theorem d_Law_main_2004 : decode M_Law_main.2.1 2004 = .ok (.iconst 1, 1) := by decide +kernel
theorem d_Law_main_2005 : decode M_Law_main.2.1 2005 = .ok (.goto 4, 3) := by decide +kernel
theorem d_Law_main_2008 : decode M_Law_main.2.1 2008 = .ok (.iconst 0, 1) := by decide +kernel
theorem d_Law_main_2009 : decode M_Law_main.2.1 2009 = .ok (.aload_n 3, 1) := by decide +kernel
theorem d_Law_main_2010 : decode M_Law_main.2.1 2010 = .ok (.invokestatic 229, 3) := by decide +kernel
theorem d_Law_main_2013 : decode M_Law_main.2.1 2013 = .ok (.istore 5, 2) := by decide +kernel
theorem d_Law_main_2015 : decode M_Law_main.2.1 2015 = .ok (.aload_n 2, 1) := by decide +kernel
theorem d_Law_main_2016 : decode M_Law_main.2.1 2016 = .ok (.aload_n 0, 1) := by decide +kernel
theorem d_Law_main_2017 : decode M_Law_main.2.1 2017 = .ok (.iload 4, 2) := by decide +kernel
theorem d_Law_main_2019 : decode M_Law_main.2.1 2019 = .ok (.iconst 1, 1) := by decide +kernel
theorem d_Law_main_2020 : decode M_Law_main.2.1 2020 = .ok (.iadd, 1) := by decide +kernel
theorem d_Law_main_2021 : decode M_Law_main.2.1 2021 = .ok (.iaload, 1) := by decide +kernel
theorem d_Law_main_2022 : decode M_Law_main.2.1 2022 = .ok (.aload_n 0, 1) := by decide +kernel
theorem d_Law_main_2023 : decode M_Law_main.2.1 2023 = .ok (.iload 4, 2) := by decide +kernel
theorem d_Law_main_2025 : decode M_Law_main.2.1 2025 = .ok (.iconst 2, 1) := by decide +kernel
theorem d_Law_main_2026 : decode M_Law_main.2.1 2026 = .ok (.iadd, 1) := by decide +kernel
theorem d_Law_main_2027 : decode M_Law_main.2.1 2027 = .ok (.iaload, 1) := by decide +kernel
theorem d_Law_main_2028 : decode M_Law_main.2.1 2028 = .ok (.ifCond .eq 7, 3) := by decide +kernel
theorem d_Law_main_2031 : decode M_Law_main.2.1 2031 = .ok (.iconst 1, 1) := by decide +kernel
theorem d_Law_main_2032 : decode M_Law_main.2.1 2032 = .ok (.goto 4, 3) := by decide +kernel
theorem d_Law_main_2035 : decode M_Law_main.2.1 2035 = .ok (.iconst 0, 1) := by decide +kernel
theorem d_Law_main_2036 : decode M_Law_main.2.1 2036 = .ok (.invokevirtual 232, 3) := by decide +kernel
theorem d_Law_main_2039 : decode M_Law_main.2.1 2039 = .ok (.istore 6, 2) := by decide +kernel
theorem d_Law_main_2041 : decode M_Law_main.2.1 2041 = .ok (.aload_n 2, 1) := by decide +kernel
theorem d_Law_main_2042 : decode M_Law_main.2.1 2042 = .ok (.invokevirtual 122, 3) := by decide +kernel
theorem d_Law_main_2045 : decode M_Law_main.2.1 2045 = .ok (.iload 5, 2) := by decide +kernel
theorem d_Law_main_2047 : decode M_Law_main.2.1 2047 = .ok (.if_icmp .eq 5, 3) := by decide +kernel
theorem d_Law_main_2050 : decode M_Law_main.2.1 2050 = .ok (.iconst 0, 1) := by decide +kernel
theorem d_Law_main_2051 : decode M_Law_main.2.1 2051 = .ok (.ireturn, 1) := by decide +kernel
theorem d_Law_main_2052 : decode M_Law_main.2.1 2052 = .ok (.iload 5, 2) := by decide +kernel
theorem d_Law_main_2054 : decode M_Law_main.2.1 2054 = .ok (.ifCond .ne 15, 3) := by decide +kernel
theorem d_Law_main_2057 : decode M_Law_main.2.1 2057 = .ok (.aload_n 3, 1) := by decide +kernel
theorem d_Law_main_2058 : decode M_Law_main.2.1 2058 = .ok (.iconst 0, 1) := by decide +kernel
theorem d_Law_main_2059 : decode M_Law_main.2.1 2059 = .ok (.laload, 1) := by decide +kernel
theorem d_Law_main_2060 : decode M_Law_main.2.1 2060 = .ok (.iload 6, 2) := by decide +kernel
theorem d_Law_main_2062 : decode M_Law_main.2.1 2062 = .ok (.i2l, 1) := by decide +kernel
theorem d_Law_main_2063 : decode M_Law_main.2.1 2063 = .ok (.lcmp, 1) := by decide +kernel
theorem d_Law_main_2064 : decode M_Law_main.2.1 2064 = .ok (.ifCond .eq 5, 3) := by decide +kernel
theorem d_Law_main_2067 : decode M_Law_main.2.1 2067 = .ok (.iconst 0, 1) := by decide +kernel
theorem d_Law_main_2068 : decode M_Law_main.2.1 2068 = .ok (.ireturn, 1) := by decide +kernel
theorem d_Law_main_2069 : decode M_Law_main.2.1 2069 = .ok (.goto 244, 3) := by decide +kernel
theorem d_Law_main_2072 : decode M_Law_main.2.1 2072 = .ok (.aload_n 1, 1) := by decide +kernel
theorem d_Law_main_2073 : decode M_Law_main.2.1 2073 = .ok (.aload_n 0, 1) := by decide +kernel
theorem d_Law_main_2074 : decode M_Law_main.2.1 2074 = .ok (.iload 4, 2) := by decide +kernel
theorem d_Law_main_2076 : decode M_Law_main.2.1 2076 = .ok (.iconst 1, 1) := by decide +kernel
theorem d_Law_main_2077 : decode M_Law_main.2.1 2077 = .ok (.iadd, 1) := by decide +kernel
theorem d_Law_main_2078 : decode M_Law_main.2.1 2078 = .ok (.iaload, 1) := by decide +kernel
theorem d_Law_main_2079 : decode M_Law_main.2.1 2079 = .ok (.aload_n 0, 1) := by decide +kernel
theorem d_Law_main_2080 : decode M_Law_main.2.1 2080 = .ok (.iload 4, 2) := by decide +kernel
theorem d_Law_main_2082 : decode M_Law_main.2.1 2082 = .ok (.iconst 2, 1) := by decide +kernel
theorem d_Law_main_2083 : decode M_Law_main.2.1 2083 = .ok (.iadd, 1) := by decide +kernel
theorem d_Law_main_2084 : decode M_Law_main.2.1 2084 = .ok (.iaload, 1) := by decide +kernel
theorem d_Law_main_2085 : decode M_Law_main.2.1 2085 = .ok (.aload_n 3, 1) := by decide +kernel
theorem d_Law_main_2086 : decode M_Law_main.2.1 2086 = .ok (.invokestatic 233, 3) := by decide +kernel
theorem d_Law_main_2089 : decode M_Law_main.2.1 2089 = .ok (.istore 5, 2) := by decide +kernel
theorem d_Law_main_2091 : decode M_Law_main.2.1 2091 = .ok (.aload_n 2, 1) := by decide +kernel
theorem d_Law_main_2092 : decode M_Law_main.2.1 2092 = .ok (.aload_n 0, 1) := by decide +kernel
theorem d_Law_main_2093 : decode M_Law_main.2.1 2093 = .ok (.iload 4, 2) := by decide +kernel
theorem d_Law_main_2095 : decode M_Law_main.2.1 2095 = .ok (.iconst 1, 1) := by decide +kernel
theorem d_Law_main_2096 : decode M_Law_main.2.1 2096 = .ok (.iadd, 1) := by decide +kernel
theorem d_Law_main_2097 : decode M_Law_main.2.1 2097 = .ok (.iaload, 1) := by decide +kernel
theorem d_Law_main_2098 : decode M_Law_main.2.1 2098 = .ok (.aload_n 0, 1) := by decide +kernel
theorem d_Law_main_2099 : decode M_Law_main.2.1 2099 = .ok (.iload 4, 2) := by decide +kernel
theorem d_Law_main_2101 : decode M_Law_main.2.1 2101 = .ok (.iconst 2, 1) := by decide +kernel
theorem d_Law_main_2102 : decode M_Law_main.2.1 2102 = .ok (.iadd, 1) := by decide +kernel
theorem d_Law_main_2103 : decode M_Law_main.2.1 2103 = .ok (.iaload, 1) := by decide +kernel
theorem d_Law_main_2104 : decode M_Law_main.2.1 2104 = .ok (.invokevirtual 235, 3) := by decide +kernel
theorem d_Law_main_2107 : decode M_Law_main.2.1 2107 = .ok (.istore 6, 2) := by decide +kernel
theorem d_Law_main_2109 : decode M_Law_main.2.1 2109 = .ok (.aload_n 2, 1) := by decide +kernel
theorem d_Law_main_2110 : decode M_Law_main.2.1 2110 = .ok (.invokevirtual 122, 3) := by decide +kernel
theorem d_Law_main_2113 : decode M_Law_main.2.1 2113 = .ok (.iload 5, 2) := by decide +kernel
theorem d_Law_main_2115 : decode M_Law_main.2.1 2115 = .ok (.if_icmp .eq 5, 3) := by decide +kernel
theorem d_Law_main_2118 : decode M_Law_main.2.1 2118 = .ok (.iconst 0, 1) := by decide +kernel
theorem d_Law_main_2119 : decode M_Law_main.2.1 2119 = .ok (.ireturn, 1) := by decide +kernel
theorem d_Law_main_2120 : decode M_Law_main.2.1 2120 = .ok (.iload 5, 2) := by decide +kernel
theorem d_Law_main_2122 : decode M_Law_main.2.1 2122 = .ok (.ifCond .ne 15, 3) := by decide +kernel
theorem d_Law_main_2125 : decode M_Law_main.2.1 2125 = .ok (.aload_n 3, 1) := by decide +kernel
theorem d_Law_main_2126 : decode M_Law_main.2.1 2126 = .ok (.iconst 0, 1) := by decide +kernel
theorem d_Law_main_2127 : decode M_Law_main.2.1 2127 = .ok (.laload, 1) := by decide +kernel
theorem d_Law_main_2128 : decode M_Law_main.2.1 2128 = .ok (.iload 6, 2) := by decide +kernel
theorem d_Law_main_2130 : decode M_Law_main.2.1 2130 = .ok (.i2l, 1) := by decide +kernel
theorem d_Law_main_2131 : decode M_Law_main.2.1 2131 = .ok (.lcmp, 1) := by decide +kernel
theorem d_Law_main_2132 : decode M_Law_main.2.1 2132 = .ok (.ifCond .eq 5, 3) := by decide +kernel
theorem d_Law_main_2135 : decode M_Law_main.2.1 2135 = .ok (.iconst 0, 1) := by decide +kernel
theorem d_Law_main_2136 : decode M_Law_main.2.1 2136 = .ok (.ireturn, 1) := by decide +kernel
theorem d_Law_main_2137 : decode M_Law_main.2.1 2137 = .ok (.goto 176, 3) := by decide +kernel
theorem d_Law_main_2140 : decode M_Law_main.2.1 2140 = .ok (.aload_n 1, 1) := by decide +kernel
theorem d_Law_main_2141 : decode M_Law_main.2.1 2141 = .ok (.invokevirtual 236, 3) := by decide +kernel
theorem d_Law_main_2144 : decode M_Law_main.2.1 2144 = .ok (.aload_n 2, 1) := by decide +kernel
theorem d_Law_main_2145 : decode M_Law_main.2.1 2145 = .ok (.invokevirtual 239, 3) := by decide +kernel
theorem d_Law_main_2148 : decode M_Law_main.2.1 2148 = .ok (.if_icmp .eq 165, 3) := by decide +kernel
theorem d_Law_main_2151 : decode M_Law_main.2.1 2151 = .ok (.iconst 0, 1) := by decide +kernel
theorem d_Law_main_2152 : decode M_Law_main.2.1 2152 = .ok (.ireturn, 1) := by decide +kernel
theorem d_Law_main_2153 : decode M_Law_main.2.1 2153 = .ok (.aload_n 1, 1) := by decide +kernel
theorem d_Law_main_2154 : decode M_Law_main.2.1 2154 = .ok (.aload_n 0, 1) := by decide +kernel
theorem d_Law_main_2155 : decode M_Law_main.2.1 2155 = .ok (.iload 4, 2) := by decide +kernel
theorem d_Law_main_2157 : decode M_Law_main.2.1 2157 = .ok (.iconst 1, 1) := by decide +kernel
theorem d_Law_main_2158 : decode M_Law_main.2.1 2158 = .ok (.iadd, 1) := by decide +kernel
theorem d_Law_main_2159 : decode M_Law_main.2.1 2159 = .ok (.iaload, 1) := by decide +kernel
theorem d_Law_main_2160 : decode M_Law_main.2.1 2160 = .ok (.aload_n 3, 1) := by decide +kernel
theorem d_Law_main_2161 : decode M_Law_main.2.1 2161 = .ok (.invokestatic 240, 3) := by decide +kernel
theorem d_Law_main_2164 : decode M_Law_main.2.1 2164 = .ok (.istore 5, 2) := by decide +kernel
theorem d_Law_main_2166 : decode M_Law_main.2.1 2166 = .ok (.aload_n 2, 1) := by decide +kernel
theorem d_Law_main_2167 : decode M_Law_main.2.1 2167 = .ok (.aload_n 0, 1) := by decide +kernel
theorem d_Law_main_2168 : decode M_Law_main.2.1 2168 = .ok (.iload 4, 2) := by decide +kernel
theorem d_Law_main_2170 : decode M_Law_main.2.1 2170 = .ok (.iconst 1, 1) := by decide +kernel
theorem d_Law_main_2171 : decode M_Law_main.2.1 2171 = .ok (.iadd, 1) := by decide +kernel
theorem d_Law_main_2172 : decode M_Law_main.2.1 2172 = .ok (.iaload, 1) := by decide +kernel
theorem d_Law_main_2173 : decode M_Law_main.2.1 2173 = .ok (.invokevirtual 242, 3) := by decide +kernel
theorem d_Law_main_2176 : decode M_Law_main.2.1 2176 = .ok (.istore 6, 2) := by decide +kernel
theorem d_Law_main_2178 : decode M_Law_main.2.1 2178 = .ok (.aload_n 2, 1) := by decide +kernel
theorem d_Law_main_2179 : decode M_Law_main.2.1 2179 = .ok (.invokevirtual 122, 3) := by decide +kernel
theorem d_Law_main_2182 : decode M_Law_main.2.1 2182 = .ok (.iload 5, 2) := by decide +kernel
theorem d_Law_main_2184 : decode M_Law_main.2.1 2184 = .ok (.if_icmp .eq 5, 3) := by decide +kernel
theorem d_Law_main_2187 : decode M_Law_main.2.1 2187 = .ok (.iconst 0, 1) := by decide +kernel
theorem d_Law_main_2188 : decode M_Law_main.2.1 2188 = .ok (.ireturn, 1) := by decide +kernel
theorem d_Law_main_2189 : decode M_Law_main.2.1 2189 = .ok (.iload 5, 2) := by decide +kernel
theorem d_Law_main_2191 : decode M_Law_main.2.1 2191 = .ok (.ifCond .ne 15, 3) := by decide +kernel
theorem d_Law_main_2194 : decode M_Law_main.2.1 2194 = .ok (.aload_n 3, 1) := by decide +kernel
theorem d_Law_main_2195 : decode M_Law_main.2.1 2195 = .ok (.iconst 0, 1) := by decide +kernel
theorem d_Law_main_2196 : decode M_Law_main.2.1 2196 = .ok (.laload, 1) := by decide +kernel
theorem d_Law_main_2197 : decode M_Law_main.2.1 2197 = .ok (.iload 6, 2) := by decide +kernel
theorem d_Law_main_2199 : decode M_Law_main.2.1 2199 = .ok (.i2l, 1) := by decide +kernel
theorem d_Law_main_2200 : decode M_Law_main.2.1 2200 = .ok (.lcmp, 1) := by decide +kernel
theorem d_Law_main_2201 : decode M_Law_main.2.1 2201 = .ok (.ifCond .eq 5, 3) := by decide +kernel
theorem d_Law_main_2204 : decode M_Law_main.2.1 2204 = .ok (.iconst 0, 1) := by decide +kernel
theorem d_Law_main_2205 : decode M_Law_main.2.1 2205 = .ok (.ireturn, 1) := by decide +kernel
theorem d_Law_main_2206 : decode M_Law_main.2.1 2206 = .ok (.goto 107, 3) := by decide +kernel
theorem d_Law_main_2209 : decode M_Law_main.2.1 2209 = .ok (.aload_n 1, 1) := by decide +kernel
theorem d_Law_main_2210 : decode M_Law_main.2.1 2210 = .ok (.aload_n 0, 1) := by decide +kernel
theorem d_Law_main_2211 : decode M_Law_main.2.1 2211 = .ok (.iload 4, 2) := by decide +kernel
theorem d_Law_main_2213 : decode M_Law_main.2.1 2213 = .ok (.iconst 1, 1) := by decide +kernel
theorem d_Law_main_2214 : decode M_Law_main.2.1 2214 = .ok (.iadd, 1) := by decide +kernel
theorem d_Law_main_2215 : decode M_Law_main.2.1 2215 = .ok (.iaload, 1) := by decide +kernel
theorem d_Law_main_2216 : decode M_Law_main.2.1 2216 = .ok (.aload_n 0, 1) := by decide +kernel
theorem d_Law_main_2217 : decode M_Law_main.2.1 2217 = .ok (.iload 4, 2) := by decide +kernel
theorem d_Law_main_2219 : decode M_Law_main.2.1 2219 = .ok (.iconst 2, 1) := by decide +kernel
theorem d_Law_main_2220 : decode M_Law_main.2.1 2220 = .ok (.iadd, 1) := by decide +kernel
theorem d_Law_main_2221 : decode M_Law_main.2.1 2221 = .ok (.iaload, 1) := by decide +kernel
theorem d_Law_main_2222 : decode M_Law_main.2.1 2222 = .ok (.aload_n 0, 1) := by decide +kernel
theorem d_Law_main_2223 : decode M_Law_main.2.1 2223 = .ok (.iload 4, 2) := by decide +kernel
theorem d_Law_main_2225 : decode M_Law_main.2.1 2225 = .ok (.iconst 3, 1) := by decide +kernel
theorem d_Law_main_2226 : decode M_Law_main.2.1 2226 = .ok (.iadd, 1) := by decide +kernel
theorem d_Law_main_2227 : decode M_Law_main.2.1 2227 = .ok (.iaload, 1) := by decide +kernel
theorem d_Law_main_2228 : decode M_Law_main.2.1 2228 = .ok (.aload_n 3, 1) := by decide +kernel
theorem d_Law_main_2229 : decode M_Law_main.2.1 2229 = .ok (.invokestatic 243, 3) := by decide +kernel
theorem d_Law_main_2232 : decode M_Law_main.2.1 2232 = .ok (.istore 5, 2) := by decide +kernel
theorem d_Law_main_2234 : decode M_Law_main.2.1 2234 = .ok (.aload_n 2, 1) := by decide +kernel
theorem d_Law_main_2235 : decode M_Law_main.2.1 2235 = .ok (.aload_n 0, 1) := by decide +kernel
theorem d_Law_main_2236 : decode M_Law_main.2.1 2236 = .ok (.iload 4, 2) := by decide +kernel
theorem d_Law_main_2238 : decode M_Law_main.2.1 2238 = .ok (.iconst 1, 1) := by decide +kernel
theorem d_Law_main_2239 : decode M_Law_main.2.1 2239 = .ok (.iadd, 1) := by decide +kernel
theorem d_Law_main_2240 : decode M_Law_main.2.1 2240 = .ok (.iaload, 1) := by decide +kernel
theorem d_Law_main_2241 : decode M_Law_main.2.1 2241 = .ok (.aload_n 0, 1) := by decide +kernel
theorem d_Law_main_2242 : decode M_Law_main.2.1 2242 = .ok (.iload 4, 2) := by decide +kernel
theorem d_Law_main_2244 : decode M_Law_main.2.1 2244 = .ok (.iconst 2, 1) := by decide +kernel
theorem d_Law_main_2245 : decode M_Law_main.2.1 2245 = .ok (.iadd, 1) := by decide +kernel
theorem d_Law_main_2246 : decode M_Law_main.2.1 2246 = .ok (.iaload, 1) := by decide +kernel
theorem d_Law_main_2247 : decode M_Law_main.2.1 2247 = .ok (.aload_n 0, 1) := by decide +kernel
theorem d_Law_main_2248 : decode M_Law_main.2.1 2248 = .ok (.iload 4, 2) := by decide +kernel
theorem d_Law_main_2250 : decode M_Law_main.2.1 2250 = .ok (.iconst 3, 1) := by decide +kernel
theorem d_Law_main_2251 : decode M_Law_main.2.1 2251 = .ok (.iadd, 1) := by decide +kernel
theorem d_Law_main_2252 : decode M_Law_main.2.1 2252 = .ok (.iaload, 1) := by decide +kernel
theorem d_Law_main_2253 : decode M_Law_main.2.1 2253 = .ok (.invokevirtual 245, 3) := by decide +kernel
theorem d_Law_main_2256 : decode M_Law_main.2.1 2256 = .ok (.istore 6, 2) := by decide +kernel
theorem d_Law_main_2258 : decode M_Law_main.2.1 2258 = .ok (.aload_n 2, 1) := by decide +kernel
theorem d_Law_main_2259 : decode M_Law_main.2.1 2259 = .ok (.invokevirtual 122, 3) := by decide +kernel
theorem d_Law_main_2262 : decode M_Law_main.2.1 2262 = .ok (.iload 5, 2) := by decide +kernel
theorem d_Law_main_2264 : decode M_Law_main.2.1 2264 = .ok (.if_icmp .eq 5, 3) := by decide +kernel
theorem d_Law_main_2267 : decode M_Law_main.2.1 2267 = .ok (.iconst 0, 1) := by decide +kernel
theorem d_Law_main_2268 : decode M_Law_main.2.1 2268 = .ok (.ireturn, 1) := by decide +kernel
theorem d_Law_main_2269 : decode M_Law_main.2.1 2269 = .ok (.iload 5, 2) := by decide +kernel
theorem d_Law_main_2271 : decode M_Law_main.2.1 2271 = .ok (.ifCond .ne 15, 3) := by decide +kernel
theorem d_Law_main_2274 : decode M_Law_main.2.1 2274 = .ok (.aload_n 3, 1) := by decide +kernel
theorem d_Law_main_2275 : decode M_Law_main.2.1 2275 = .ok (.iconst 0, 1) := by decide +kernel
theorem d_Law_main_2276 : decode M_Law_main.2.1 2276 = .ok (.laload, 1) := by decide +kernel
theorem d_Law_main_2277 : decode M_Law_main.2.1 2277 = .ok (.iload 6, 2) := by decide +kernel
theorem d_Law_main_2279 : decode M_Law_main.2.1 2279 = .ok (.i2l, 1) := by decide +kernel
theorem d_Law_main_2280 : decode M_Law_main.2.1 2280 = .ok (.lcmp, 1) := by decide +kernel
theorem d_Law_main_2281 : decode M_Law_main.2.1 2281 = .ok (.ifCond .eq 5, 3) := by decide +kernel
theorem d_Law_main_2284 : decode M_Law_main.2.1 2284 = .ok (.iconst 0, 1) := by decide +kernel
theorem d_Law_main_2285 : decode M_Law_main.2.1 2285 = .ok (.ireturn, 1) := by decide +kernel
theorem d_Law_main_2286 : decode M_Law_main.2.1 2286 = .ok (.goto 27, 3) := by decide +kernel
theorem d_Law_main_2289 : decode M_Law_main.2.1 2289 = .ok (.aload_n 1, 1) := by decide +kernel
theorem d_Law_main_2290 : decode M_Law_main.2.1 2290 = .ok (.invokevirtual 246, 3) := by decide +kernel
theorem d_Law_main_2293 : decode M_Law_main.2.1 2293 = .ok (.aload_n 2, 1) := by decide +kernel
theorem d_Law_main_2294 : decode M_Law_main.2.1 2294 = .ok (.invokevirtual 249, 3) := by decide +kernel
theorem d_Law_main_2297 : decode M_Law_main.2.1 2297 = .ok (.goto 16, 3) := by decide +kernel
theorem d_Law_main_2300 : decode M_Law_main.2.1 2300 = .ok (.aload_n 1, 1) := by decide +kernel
theorem d_Law_main_2301 : decode M_Law_main.2.1 2301 = .ok (.invokevirtual 250, 3) := by decide +kernel
theorem d_Law_main_2304 : decode M_Law_main.2.1 2304 = .ok (.aload_n 2, 1) := by decide +kernel
theorem d_Law_main_2305 : decode M_Law_main.2.1 2305 = .ok (.invokevirtual 254, 3) := by decide +kernel
theorem d_Law_main_2308 : decode M_Law_main.2.1 2308 = .ok (.if_icmp .eq 5, 3) := by decide +kernel
theorem d_Law_main_2311 : decode M_Law_main.2.1 2311 = .ok (.iconst 0, 1) := by decide +kernel
theorem d_Law_main_2312 : decode M_Law_main.2.1 2312 = .ok (.ireturn, 1) := by decide +kernel
theorem d_Law_main_2313 : decode M_Law_main.2.1 2313 = .ok (.iinc 4 6, 3) := by decide +kernel
theorem d_Law_main_2316 : decode M_Law_main.2.1 2316 = .ok (.goto (-2293), 3) := by decide +kernel
theorem d_Law_main_2319 : decode M_Law_main.2.1 2319 = .ok (.iconst 1, 1) := by decide +kernel
theorem d_Law_main_2320 : decode M_Law_main.2.1 2320 = .ok (.ireturn, 1) := by decide +kernel
