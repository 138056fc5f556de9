/-! THE LAW: its code, on -/
theorem d_LAW_1770 : decode (mC m_LAW) 1770 = .ok (.aload_n 2, 1) := by decide +kernel
theorem d_LAW_1771 : decode (mC m_LAW) 1771 = .ok (.invokevirtual 171, 3) := by decide +kernel
theorem d_LAW_1774 : decode (mC m_LAW) 1774 = .ok (.iload 5, 2) := by decide +kernel
theorem d_LAW_1776 : decode (mC m_LAW) 1776 = .ok (.if_icmp .eq 5, 3) := by decide +kernel
theorem d_LAW_1779 : decode (mC m_LAW) 1779 = .ok (.iconst 0, 1) := by decide +kernel
theorem d_LAW_1780 : decode (mC m_LAW) 1780 = .ok (.ireturn, 1) := by decide +kernel
theorem d_LAW_1781 : decode (mC m_LAW) 1781 = .ok (.iload 5, 2) := by decide +kernel
theorem d_LAW_1783 : decode (mC m_LAW) 1783 = .ok (.ifCond .ne 22, 3) := by decide +kernel
theorem d_LAW_1786 : decode (mC m_LAW) 1786 = .ok (.aload_n 3, 1) := by decide +kernel
theorem d_LAW_1787 : decode (mC m_LAW) 1787 = .ok (.iconst 0, 1) := by decide +kernel
theorem d_LAW_1788 : decode (mC m_LAW) 1788 = .ok (.laload, 1) := by decide +kernel
theorem d_LAW_1789 : decode (mC m_LAW) 1789 = .ok (.iload 6, 2) := by decide +kernel
theorem d_LAW_1791 : decode (mC m_LAW) 1791 = .ok (.ifCond .eq 7, 3) := by decide +kernel
theorem d_LAW_1794 : decode (mC m_LAW) 1794 = .ok (.lconst 1, 1) := by decide +kernel
theorem d_LAW_1795 : decode (mC m_LAW) 1795 = .ok (.goto 4, 3) := by decide +kernel
theorem d_LAW_1798 : decode (mC m_LAW) 1798 = .ok (.lconst 0, 1) := by decide +kernel
theorem d_LAW_1799 : decode (mC m_LAW) 1799 = .ok (.lcmp, 1) := by decide +kernel
theorem d_LAW_1800 : decode (mC m_LAW) 1800 = .ok (.ifCond .eq 5, 3) := by decide +kernel
theorem d_LAW_1803 : decode (mC m_LAW) 1803 = .ok (.iconst 0, 1) := by decide +kernel
theorem d_LAW_1804 : decode (mC m_LAW) 1804 = .ok (.ireturn, 1) := by decide +kernel
theorem d_LAW_1805 : decode (mC m_LAW) 1805 = .ok (.goto 1479, 3) := by decide +kernel
theorem d_LAW_1808 : decode (mC m_LAW) 1808 = .ok (.aload_n 1, 1) := by decide +kernel
theorem d_LAW_1809 : decode (mC m_LAW) 1809 = .ok (.aload_n 0, 1) := by decide +kernel
theorem d_LAW_1810 : decode (mC m_LAW) 1810 = .ok (.iload 4, 2) := by decide +kernel
theorem d_LAW_1812 : decode (mC m_LAW) 1812 = .ok (.iconst 1, 1) := by decide +kernel
theorem d_LAW_1813 : decode (mC m_LAW) 1813 = .ok (.iadd, 1) := by decide +kernel
theorem d_LAW_1814 : decode (mC m_LAW) 1814 = .ok (.iaload, 1) := by decide +kernel
theorem d_LAW_1815 : decode (mC m_LAW) 1815 = .ok (.aload_n 3, 1) := by decide +kernel
theorem d_LAW_1816 : decode (mC m_LAW) 1816 = .ok (.invokestatic 283, 3) := by decide +kernel
theorem d_LAW_1819 : decode (mC m_LAW) 1819 = .ok (.istore 5, 2) := by decide +kernel
theorem d_LAW_1821 : decode (mC m_LAW) 1821 = .ok (.aload_n 2, 1) := by decide +kernel
theorem d_LAW_1822 : decode (mC m_LAW) 1822 = .ok (.aload_n 0, 1) := by decide +kernel
theorem d_LAW_1823 : decode (mC m_LAW) 1823 = .ok (.iload 4, 2) := by decide +kernel
theorem d_LAW_1825 : decode (mC m_LAW) 1825 = .ok (.iconst 1, 1) := by decide +kernel
theorem d_LAW_1826 : decode (mC m_LAW) 1826 = .ok (.iadd, 1) := by decide +kernel
theorem d_LAW_1827 : decode (mC m_LAW) 1827 = .ok (.iaload, 1) := by decide +kernel
theorem d_LAW_1828 : decode (mC m_LAW) 1828 = .ok (.invokevirtual 285, 3) := by decide +kernel
theorem d_LAW_1831 : decode (mC m_LAW) 1831 = .ok (.istore 6, 2) := by decide +kernel
theorem d_LAW_1833 : decode (mC m_LAW) 1833 = .ok (.aload_n 2, 1) := by decide +kernel
theorem d_LAW_1834 : decode (mC m_LAW) 1834 = .ok (.invokevirtual 171, 3) := by decide +kernel
theorem d_LAW_1837 : decode (mC m_LAW) 1837 = .ok (.iload 5, 2) := by decide +kernel
theorem d_LAW_1839 : decode (mC m_LAW) 1839 = .ok (.if_icmp .eq 5, 3) := by decide +kernel
theorem d_LAW_1842 : decode (mC m_LAW) 1842 = .ok (.iconst 0, 1) := by decide +kernel
theorem d_LAW_1843 : decode (mC m_LAW) 1843 = .ok (.ireturn, 1) := by decide +kernel
theorem d_LAW_1844 : decode (mC m_LAW) 1844 = .ok (.iload 5, 2) := by decide +kernel
theorem d_LAW_1846 : decode (mC m_LAW) 1846 = .ok (.ifCond .ne 15, 3) := by decide +kernel
theorem d_LAW_1849 : decode (mC m_LAW) 1849 = .ok (.aload_n 3, 1) := by decide +kernel
theorem d_LAW_1850 : decode (mC m_LAW) 1850 = .ok (.iconst 0, 1) := by decide +kernel
theorem d_LAW_1851 : decode (mC m_LAW) 1851 = .ok (.laload, 1) := by decide +kernel
theorem d_LAW_1852 : decode (mC m_LAW) 1852 = .ok (.iload 6, 2) := by decide +kernel
theorem d_LAW_1854 : decode (mC m_LAW) 1854 = .ok (.i2l, 1) := by decide +kernel
theorem d_LAW_1855 : decode (mC m_LAW) 1855 = .ok (.lcmp, 1) := by decide +kernel
theorem d_LAW_1856 : decode (mC m_LAW) 1856 = .ok (.ifCond .eq 5, 3) := by decide +kernel
theorem d_LAW_1859 : decode (mC m_LAW) 1859 = .ok (.iconst 0, 1) := by decide +kernel
theorem d_LAW_1860 : decode (mC m_LAW) 1860 = .ok (.ireturn, 1) := by decide +kernel
theorem d_LAW_1861 : decode (mC m_LAW) 1861 = .ok (.goto 1423, 3) := by decide +kernel
theorem d_LAW_1864 : decode (mC m_LAW) 1864 = .ok (.aload_n 1, 1) := by decide +kernel
theorem d_LAW_1865 : decode (mC m_LAW) 1865 = .ok (.aload_n 0, 1) := by decide +kernel
theorem d_LAW_1866 : decode (mC m_LAW) 1866 = .ok (.iload 4, 2) := by decide +kernel
theorem d_LAW_1868 : decode (mC m_LAW) 1868 = .ok (.iconst 1, 1) := by decide +kernel
theorem d_LAW_1869 : decode (mC m_LAW) 1869 = .ok (.iadd, 1) := by decide +kernel
theorem d_LAW_1870 : decode (mC m_LAW) 1870 = .ok (.iaload, 1) := by decide +kernel
theorem d_LAW_1871 : decode (mC m_LAW) 1871 = .ok (.aload_n 3, 1) := by decide +kernel
theorem d_LAW_1872 : decode (mC m_LAW) 1872 = .ok (.invokestatic 286, 3) := by decide +kernel
theorem d_LAW_1875 : decode (mC m_LAW) 1875 = .ok (.istore 5, 2) := by decide +kernel
theorem d_LAW_1877 : decode (mC m_LAW) 1877 = .ok (.aload_n 2, 1) := by decide +kernel
theorem d_LAW_1878 : decode (mC m_LAW) 1878 = .ok (.aload_n 0, 1) := by decide +kernel
theorem d_LAW_1879 : decode (mC m_LAW) 1879 = .ok (.iload 4, 2) := by decide +kernel
theorem d_LAW_1881 : decode (mC m_LAW) 1881 = .ok (.iconst 1, 1) := by decide +kernel
theorem d_LAW_1882 : decode (mC m_LAW) 1882 = .ok (.iadd, 1) := by decide +kernel
theorem d_LAW_1883 : decode (mC m_LAW) 1883 = .ok (.iaload, 1) := by decide +kernel
theorem d_LAW_1884 : decode (mC m_LAW) 1884 = .ok (.invokevirtual 288, 3) := by decide +kernel
theorem d_LAW_1887 : decode (mC m_LAW) 1887 = .ok (.istore 6, 2) := by decide +kernel
theorem d_LAW_1889 : decode (mC m_LAW) 1889 = .ok (.aload_n 2, 1) := by decide +kernel
theorem d_LAW_1890 : decode (mC m_LAW) 1890 = .ok (.invokevirtual 171, 3) := by decide +kernel
theorem d_LAW_1893 : decode (mC m_LAW) 1893 = .ok (.iload 5, 2) := by decide +kernel
theorem d_LAW_1895 : decode (mC m_LAW) 1895 = .ok (.if_icmp .eq 5, 3) := by decide +kernel
theorem d_LAW_1898 : decode (mC m_LAW) 1898 = .ok (.iconst 0, 1) := by decide +kernel
theorem d_LAW_1899 : decode (mC m_LAW) 1899 = .ok (.ireturn, 1) := by decide +kernel
theorem d_LAW_1900 : decode (mC m_LAW) 1900 = .ok (.iload 5, 2) := by decide +kernel
theorem d_LAW_1902 : decode (mC m_LAW) 1902 = .ok (.ifCond .ne 15, 3) := by decide +kernel
theorem d_LAW_1905 : decode (mC m_LAW) 1905 = .ok (.aload_n 3, 1) := by decide +kernel
theorem d_LAW_1906 : decode (mC m_LAW) 1906 = .ok (.iconst 0, 1) := by decide +kernel
theorem d_LAW_1907 : decode (mC m_LAW) 1907 = .ok (.laload, 1) := by decide +kernel
theorem d_LAW_1908 : decode (mC m_LAW) 1908 = .ok (.iload 6, 2) := by decide +kernel
theorem d_LAW_1910 : decode (mC m_LAW) 1910 = .ok (.i2l, 1) := by decide +kernel
theorem d_LAW_1911 : decode (mC m_LAW) 1911 = .ok (.lcmp, 1) := by decide +kernel
theorem d_LAW_1912 : decode (mC m_LAW) 1912 = .ok (.ifCond .eq 5, 3) := by decide +kernel
theorem d_LAW_1915 : decode (mC m_LAW) 1915 = .ok (.iconst 0, 1) := by decide +kernel
theorem d_LAW_1916 : decode (mC m_LAW) 1916 = .ok (.ireturn, 1) := by decide +kernel
theorem d_LAW_1917 : decode (mC m_LAW) 1917 = .ok (.goto 1367, 3) := by decide +kernel
theorem d_LAW_1920 : decode (mC m_LAW) 1920 = .ok (.aload_n 1, 1) := by decide +kernel
theorem d_LAW_1921 : decode (mC m_LAW) 1921 = .ok (.aload_n 0, 1) := by decide +kernel
theorem d_LAW_1922 : decode (mC m_LAW) 1922 = .ok (.iload 4, 2) := by decide +kernel
theorem d_LAW_1924 : decode (mC m_LAW) 1924 = .ok (.iconst 1, 1) := by decide +kernel
theorem d_LAW_1925 : decode (mC m_LAW) 1925 = .ok (.iadd, 1) := by decide +kernel
theorem d_LAW_1926 : decode (mC m_LAW) 1926 = .ok (.iaload, 1) := by decide +kernel
theorem d_LAW_1927 : decode (mC m_LAW) 1927 = .ok (.aload_n 3, 1) := by decide +kernel
theorem d_LAW_1928 : decode (mC m_LAW) 1928 = .ok (.invokestatic 289, 3) := by decide +kernel
theorem d_LAW_1931 : decode (mC m_LAW) 1931 = .ok (.istore 5, 2) := by decide +kernel
theorem d_LAW_1933 : decode (mC m_LAW) 1933 = .ok (.aload_n 2, 1) := by decide +kernel
theorem d_LAW_1934 : decode (mC m_LAW) 1934 = .ok (.aload_n 0, 1) := by decide +kernel
theorem d_LAW_1935 : decode (mC m_LAW) 1935 = .ok (.iload 4, 2) := by decide +kernel
theorem d_LAW_1937 : decode (mC m_LAW) 1937 = .ok (.iconst 1, 1) := by decide +kernel
theorem d_LAW_1938 : decode (mC m_LAW) 1938 = .ok (.iadd, 1) := by decide +kernel
theorem d_LAW_1939 : decode (mC m_LAW) 1939 = .ok (.iaload, 1) := by decide +kernel
theorem d_LAW_1940 : decode (mC m_LAW) 1940 = .ok (.invokevirtual 291, 3) := by decide +kernel
theorem d_LAW_1943 : decode (mC m_LAW) 1943 = .ok (.istore 6, 2) := by decide +kernel
theorem d_LAW_1945 : decode (mC m_LAW) 1945 = .ok (.aload_n 2, 1) := by decide +kernel
theorem d_LAW_1946 : decode (mC m_LAW) 1946 = .ok (.invokevirtual 171, 3) := by decide +kernel
theorem d_LAW_1949 : decode (mC m_LAW) 1949 = .ok (.iload 5, 2) := by decide +kernel
theorem d_LAW_1951 : decode (mC m_LAW) 1951 = .ok (.if_icmp .eq 5, 3) := by decide +kernel
theorem d_LAW_1954 : decode (mC m_LAW) 1954 = .ok (.iconst 0, 1) := by decide +kernel
theorem d_LAW_1955 : decode (mC m_LAW) 1955 = .ok (.ireturn, 1) := by decide +kernel
theorem d_LAW_1956 : decode (mC m_LAW) 1956 = .ok (.iload 5, 2) := by decide +kernel
theorem d_LAW_1958 : decode (mC m_LAW) 1958 = .ok (.ifCond .ne 22, 3) := by decide +kernel
theorem d_LAW_1961 : decode (mC m_LAW) 1961 = .ok (.aload_n 3, 1) := by decide +kernel
theorem d_LAW_1962 : decode (mC m_LAW) 1962 = .ok (.iconst 0, 1) := by decide +kernel
theorem d_LAW_1963 : decode (mC m_LAW) 1963 = .ok (.laload, 1) := by decide +kernel
theorem d_LAW_1964 : decode (mC m_LAW) 1964 = .ok (.iload 6, 2) := by decide +kernel
theorem d_LAW_1966 : decode (mC m_LAW) 1966 = .ok (.ifCond .eq 7, 3) := by decide +kernel
theorem d_LAW_1969 : decode (mC m_LAW) 1969 = .ok (.lconst 1, 1) := by decide +kernel
theorem d_LAW_1970 : decode (mC m_LAW) 1970 = .ok (.goto 4, 3) := by decide +kernel
theorem d_LAW_1973 : decode (mC m_LAW) 1973 = .ok (.lconst 0, 1) := by decide +kernel
theorem d_LAW_1974 : decode (mC m_LAW) 1974 = .ok (.lcmp, 1) := by decide +kernel
theorem d_LAW_1975 : decode (mC m_LAW) 1975 = .ok (.ifCond .eq 5, 3) := by decide +kernel
theorem d_LAW_1978 : decode (mC m_LAW) 1978 = .ok (.iconst 0, 1) := by decide +kernel
theorem d_LAW_1979 : decode (mC m_LAW) 1979 = .ok (.ireturn, 1) := by decide +kernel
theorem d_LAW_1980 : decode (mC m_LAW) 1980 = .ok (.goto 1304, 3) := by decide +kernel
theorem d_LAW_1983 : decode (mC m_LAW) 1983 = .ok (.aload_n 1, 1) := by decide +kernel
theorem d_LAW_1984 : decode (mC m_LAW) 1984 = .ok (.invokevirtual 292, 3) := by decide +kernel
theorem d_LAW_1987 : decode (mC m_LAW) 1987 = .ok (.aload_n 2, 1) := by decide +kernel
theorem d_LAW_1988 : decode (mC m_LAW) 1988 = .ok (.invokevirtual 295, 3) := by decide +kernel
theorem d_LAW_1991 : decode (mC m_LAW) 1991 = .ok (.if_icmp .eq 1293, 3) := by decide +kernel
theorem d_LAW_1994 : decode (mC m_LAW) 1994 = .ok (.iconst 0, 1) := by decide +kernel
theorem d_LAW_1995 : decode (mC m_LAW) 1995 = .ok (.ireturn, 1) := by decide +kernel
theorem d_LAW_1996 : decode (mC m_LAW) 1996 = .ok (.aload_n 1, 1) := by decide +kernel
theorem d_LAW_1997 : decode (mC m_LAW) 1997 = .ok (.invokevirtual 296, 3) := by decide +kernel
theorem d_LAW_2000 : decode (mC m_LAW) 2000 = .ok (.aload_n 2, 1) := by decide +kernel
theorem d_LAW_2001 : decode (mC m_LAW) 2001 = .ok (.invokevirtual 299, 3) := by decide +kernel
theorem d_LAW_2004 : decode (mC m_LAW) 2004 = .ok (.if_icmp .eq 1280, 3) := by decide +kernel
theorem d_LAW_2007 : decode (mC m_LAW) 2007 = .ok (.iconst 0, 1) := by decide +kernel
theorem d_LAW_2008 : decode (mC m_LAW) 2008 = .ok (.ireturn, 1) := by decide +kernel
theorem d_LAW_2009 : decode (mC m_LAW) 2009 = .ok (.aload_n 1, 1) := by decide +kernel
theorem d_LAW_2010 : decode (mC m_LAW) 2010 = .ok (.aload_n 0, 1) := by decide +kernel
theorem d_LAW_2011 : decode (mC m_LAW) 2011 = .ok (.iload 4, 2) := by decide +kernel
theorem d_LAW_2013 : decode (mC m_LAW) 2013 = .ok (.iconst 1, 1) := by decide +kernel
theorem d_LAW_2014 : decode (mC m_LAW) 2014 = .ok (.iadd, 1) := by decide +kernel
theorem d_LAW_2015 : decode (mC m_LAW) 2015 = .ok (.iaload, 1) := by decide +kernel
theorem d_LAW_2016 : decode (mC m_LAW) 2016 = .ok (.aload_n 3, 1) := by decide +kernel
theorem d_LAW_2017 : decode (mC m_LAW) 2017 = .ok (.invokestatic 300, 3) := by decide +kernel
theorem d_LAW_2020 : decode (mC m_LAW) 2020 = .ok (.istore 5, 2) := by decide +kernel
theorem d_LAW_2022 : decode (mC m_LAW) 2022 = .ok (.aload_n 2, 1) := by decide +kernel
theorem d_LAW_2023 : decode (mC m_LAW) 2023 = .ok (.aload_n 0, 1) := by decide +kernel
theorem d_LAW_2024 : decode (mC m_LAW) 2024 = .ok (.iload 4, 2) := by decide +kernel
theorem d_LAW_2026 : decode (mC m_LAW) 2026 = .ok (.iconst 1, 1) := by decide +kernel
theorem d_LAW_2027 : decode (mC m_LAW) 2027 = .ok (.iadd, 1) := by decide +kernel
theorem d_LAW_2028 : decode (mC m_LAW) 2028 = .ok (.iaload, 1) := by decide +kernel
theorem d_LAW_2029 : decode (mC m_LAW) 2029 = .ok (.invokevirtual 302, 3) := by decide +kernel
theorem d_LAW_2032 : decode (mC m_LAW) 2032 = .ok (.istore 6, 2) := by decide +kernel
theorem d_LAW_2034 : decode (mC m_LAW) 2034 = .ok (.aload_n 2, 1) := by decide +kernel
theorem d_LAW_2035 : decode (mC m_LAW) 2035 = .ok (.invokevirtual 171, 3) := by decide +kernel
theorem d_LAW_2038 : decode (mC m_LAW) 2038 = .ok (.iload 5, 2) := by decide +kernel
theorem d_LAW_2040 : decode (mC m_LAW) 2040 = .ok (.if_icmp .eq 5, 3) := by decide +kernel
theorem d_LAW_2043 : decode (mC m_LAW) 2043 = .ok (.iconst 0, 1) := by decide +kernel
theorem d_LAW_2044 : decode (mC m_LAW) 2044 = .ok (.ireturn, 1) := by decide +kernel
theorem d_LAW_2045 : decode (mC m_LAW) 2045 = .ok (.iload 5, 2) := by decide +kernel
theorem d_LAW_2047 : decode (mC m_LAW) 2047 = .ok (.ifCond .ne 22, 3) := by decide +kernel
theorem d_LAW_2050 : decode (mC m_LAW) 2050 = .ok (.aload_n 3, 1) := by decide +kernel
theorem d_LAW_2051 : decode (mC m_LAW) 2051 = .ok (.iconst 0, 1) := by decide +kernel
theorem d_LAW_2052 : decode (mC m_LAW) 2052 = .ok (.laload, 1) := by decide +kernel
theorem d_LAW_2053 : decode (mC m_LAW) 2053 = .ok (.iload 6, 2) := by decide +kernel
theorem d_LAW_2055 : decode (mC m_LAW) 2055 = .ok (.ifCond .eq 7, 3) := by decide +kernel
theorem d_LAW_2058 : decode (mC m_LAW) 2058 = .ok (.lconst 1, 1) := by decide +kernel
theorem d_LAW_2059 : decode (mC m_LAW) 2059 = .ok (.goto 4, 3) := by decide +kernel
theorem d_LAW_2062 : decode (mC m_LAW) 2062 = .ok (.lconst 0, 1) := by decide +kernel
theorem d_LAW_2063 : decode (mC m_LAW) 2063 = .ok (.lcmp, 1) := by decide +kernel
theorem d_LAW_2064 : decode (mC m_LAW) 2064 = .ok (.ifCond .eq 5, 3) := by decide +kernel
theorem d_LAW_2067 : decode (mC m_LAW) 2067 = .ok (.iconst 0, 1) := by decide +kernel
theorem d_LAW_2068 : decode (mC m_LAW) 2068 = .ok (.ireturn, 1) := by decide +kernel
theorem d_LAW_2069 : decode (mC m_LAW) 2069 = .ok (.goto 1215, 3) := by decide +kernel
theorem d_LAW_2072 : decode (mC m_LAW) 2072 = .ok (.aload_n 1, 1) := by decide +kernel
theorem d_LAW_2073 : decode (mC m_LAW) 2073 = .ok (.aload_n 0, 1) := by decide +kernel
theorem d_LAW_2074 : decode (mC m_LAW) 2074 = .ok (.iload 4, 2) := by decide +kernel
theorem d_LAW_2076 : decode (mC m_LAW) 2076 = .ok (.iconst 1, 1) := by decide +kernel
theorem d_LAW_2077 : decode (mC m_LAW) 2077 = .ok (.iadd, 1) := by decide +kernel
theorem d_LAW_2078 : decode (mC m_LAW) 2078 = .ok (.iaload, 1) := by decide +kernel
theorem d_LAW_2079 : decode (mC m_LAW) 2079 = .ok (.aload_n 3, 1) := by decide +kernel
theorem d_LAW_2080 : decode (mC m_LAW) 2080 = .ok (.invokestatic 303, 3) := by decide +kernel
theorem d_LAW_2083 : decode (mC m_LAW) 2083 = .ok (.istore 5, 2) := by decide +kernel
theorem d_LAW_2085 : decode (mC m_LAW) 2085 = .ok (.aload_n 2, 1) := by decide +kernel
theorem d_LAW_2086 : decode (mC m_LAW) 2086 = .ok (.aload_n 0, 1) := by decide +kernel
theorem d_LAW_2087 : decode (mC m_LAW) 2087 = .ok (.iload 4, 2) := by decide +kernel
theorem d_LAW_2089 : decode (mC m_LAW) 2089 = .ok (.iconst 1, 1) := by decide +kernel
theorem d_LAW_2090 : decode (mC m_LAW) 2090 = .ok (.iadd, 1) := by decide +kernel
theorem d_LAW_2091 : decode (mC m_LAW) 2091 = .ok (.iaload, 1) := by decide +kernel
theorem d_LAW_2092 : decode (mC m_LAW) 2092 = .ok (.invokevirtual 305, 3) := by decide +kernel
theorem d_LAW_2095 : decode (mC m_LAW) 2095 = .ok (.istore 6, 2) := by decide +kernel
theorem d_LAW_2097 : decode (mC m_LAW) 2097 = .ok (.aload_n 2, 1) := by decide +kernel
theorem d_LAW_2098 : decode (mC m_LAW) 2098 = .ok (.invokevirtual 171, 3) := by decide +kernel
theorem d_LAW_2101 : decode (mC m_LAW) 2101 = .ok (.iload 5, 2) := by decide +kernel
theorem d_LAW_2103 : decode (mC m_LAW) 2103 = .ok (.if_icmp .eq 5, 3) := by decide +kernel
theorem d_LAW_2106 : decode (mC m_LAW) 2106 = .ok (.iconst 0, 1) := by decide +kernel
theorem d_LAW_2107 : decode (mC m_LAW) 2107 = .ok (.ireturn, 1) := by decide +kernel
theorem d_LAW_2108 : decode (mC m_LAW) 2108 = .ok (.iload 5, 2) := by decide +kernel
theorem d_LAW_2110 : decode (mC m_LAW) 2110 = .ok (.ifCond .ne 15, 3) := by decide +kernel
theorem d_LAW_2113 : decode (mC m_LAW) 2113 = .ok (.aload_n 3, 1) := by decide +kernel
theorem d_LAW_2114 : decode (mC m_LAW) 2114 = .ok (.iconst 0, 1) := by decide +kernel
theorem d_LAW_2115 : decode (mC m_LAW) 2115 = .ok (.laload, 1) := by decide +kernel
theorem d_LAW_2116 : decode (mC m_LAW) 2116 = .ok (.iload 6, 2) := by decide +kernel
theorem d_LAW_2118 : decode (mC m_LAW) 2118 = .ok (.i2l, 1) := by decide +kernel
theorem d_LAW_2119 : decode (mC m_LAW) 2119 = .ok (.lcmp, 1) := by decide +kernel
theorem d_LAW_2120 : decode (mC m_LAW) 2120 = .ok (.ifCond .eq 5, 3) := by decide +kernel
theorem d_LAW_2123 : decode (mC m_LAW) 2123 = .ok (.iconst 0, 1) := by decide +kernel
theorem d_LAW_2124 : decode (mC m_LAW) 2124 = .ok (.ireturn, 1) := by decide +kernel
theorem d_LAW_2125 : decode (mC m_LAW) 2125 = .ok (.goto 1159, 3) := by decide +kernel
theorem d_LAW_2128 : decode (mC m_LAW) 2128 = .ok (.aload_n 1, 1) := by decide +kernel
theorem d_LAW_2129 : decode (mC m_LAW) 2129 = .ok (.aload_n 0, 1) := by decide +kernel
theorem d_LAW_2130 : decode (mC m_LAW) 2130 = .ok (.iload 4, 2) := by decide +kernel
theorem d_LAW_2132 : decode (mC m_LAW) 2132 = .ok (.iconst 1, 1) := by decide +kernel
theorem d_LAW_2133 : decode (mC m_LAW) 2133 = .ok (.iadd, 1) := by decide +kernel
theorem d_LAW_2134 : decode (mC m_LAW) 2134 = .ok (.iaload, 1) := by decide +kernel
theorem d_LAW_2135 : decode (mC m_LAW) 2135 = .ok (.aload_n 3, 1) := by decide +kernel
theorem d_LAW_2136 : decode (mC m_LAW) 2136 = .ok (.invokestatic 306, 3) := by decide +kernel
theorem d_LAW_2139 : decode (mC m_LAW) 2139 = .ok (.istore 5, 2) := by decide +kernel
theorem d_LAW_2141 : decode (mC m_LAW) 2141 = .ok (.aload_n 2, 1) := by decide +kernel
theorem d_LAW_2142 : decode (mC m_LAW) 2142 = .ok (.aload_n 0, 1) := by decide +kernel
theorem d_LAW_2143 : decode (mC m_LAW) 2143 = .ok (.iload 4, 2) := by decide +kernel
theorem d_LAW_2145 : decode (mC m_LAW) 2145 = .ok (.iconst 1, 1) := by decide +kernel
theorem d_LAW_2146 : decode (mC m_LAW) 2146 = .ok (.iadd, 1) := by decide +kernel
theorem d_LAW_2147 : decode (mC m_LAW) 2147 = .ok (.iaload, 1) := by decide +kernel
theorem d_LAW_2148 : decode (mC m_LAW) 2148 = .ok (.invokevirtual 308, 3) := by decide +kernel
theorem d_LAW_2151 : decode (mC m_LAW) 2151 = .ok (.istore 6, 2) := by decide +kernel
theorem d_LAW_2153 : decode (mC m_LAW) 2153 = .ok (.aload_n 2, 1) := by decide +kernel
theorem d_LAW_2154 : decode (mC m_LAW) 2154 = .ok (.invokevirtual 171, 3) := by decide +kernel
theorem d_LAW_2157 : decode (mC m_LAW) 2157 = .ok (.iload 5, 2) := by decide +kernel
theorem d_LAW_2159 : decode (mC m_LAW) 2159 = .ok (.if_icmp .eq 5, 3) := by decide +kernel
theorem d_LAW_2162 : decode (mC m_LAW) 2162 = .ok (.iconst 0, 1) := by decide +kernel
theorem d_LAW_2163 : decode (mC m_LAW) 2163 = .ok (.ireturn, 1) := by decide +kernel
theorem d_LAW_2164 : decode (mC m_LAW) 2164 = .ok (.iload 5, 2) := by decide +kernel
theorem d_LAW_2166 : decode (mC m_LAW) 2166 = .ok (.ifCond .ne 15, 3) := by decide +kernel
theorem d_LAW_2169 : decode (mC m_LAW) 2169 = .ok (.aload_n 3, 1) := by decide +kernel
theorem d_LAW_2170 : decode (mC m_LAW) 2170 = .ok (.iconst 0, 1) := by decide +kernel
theorem d_LAW_2171 : decode (mC m_LAW) 2171 = .ok (.laload, 1) := by decide +kernel
theorem d_LAW_2172 : decode (mC m_LAW) 2172 = .ok (.iload 6, 2) := by decide +kernel
theorem d_LAW_2174 : decode (mC m_LAW) 2174 = .ok (.i2l, 1) := by decide +kernel
theorem d_LAW_2175 : decode (mC m_LAW) 2175 = .ok (.lcmp, 1) := by decide +kernel
theorem d_LAW_2176 : decode (mC m_LAW) 2176 = .ok (.ifCond .eq 5, 3) := by decide +kernel
theorem d_LAW_2179 : decode (mC m_LAW) 2179 = .ok (.iconst 0, 1) := by decide +kernel
theorem d_LAW_2180 : decode (mC m_LAW) 2180 = .ok (.ireturn, 1) := by decide +kernel
theorem d_LAW_2181 : decode (mC m_LAW) 2181 = .ok (.goto 1103, 3) := by decide +kernel
theorem d_LAW_2184 : decode (mC m_LAW) 2184 = .ok (.aload_n 1, 1) := by decide +kernel
theorem d_LAW_2185 : decode (mC m_LAW) 2185 = .ok (.aload_n 0, 1) := by decide +kernel
theorem d_LAW_2186 : decode (mC m_LAW) 2186 = .ok (.iload 4, 2) := by decide +kernel
theorem d_LAW_2188 : decode (mC m_LAW) 2188 = .ok (.iconst 1, 1) := by decide +kernel
theorem d_LAW_2189 : decode (mC m_LAW) 2189 = .ok (.iadd, 1) := by decide +kernel
theorem d_LAW_2190 : decode (mC m_LAW) 2190 = .ok (.iaload, 1) := by decide +kernel
theorem d_LAW_2191 : decode (mC m_LAW) 2191 = .ok (.aload_n 3, 1) := by decide +kernel
theorem d_LAW_2192 : decode (mC m_LAW) 2192 = .ok (.invokestatic 309, 3) := by decide +kernel
theorem d_LAW_2195 : decode (mC m_LAW) 2195 = .ok (.istore 5, 2) := by decide +kernel
theorem d_LAW_2197 : decode (mC m_LAW) 2197 = .ok (.aload_n 2, 1) := by decide +kernel
theorem d_LAW_2198 : decode (mC m_LAW) 2198 = .ok (.aload_n 0, 1) := by decide +kernel
theorem d_LAW_2199 : decode (mC m_LAW) 2199 = .ok (.iload 4, 2) := by decide +kernel
theorem d_LAW_2201 : decode (mC m_LAW) 2201 = .ok (.iconst 1, 1) := by decide +kernel
theorem d_LAW_2202 : decode (mC m_LAW) 2202 = .ok (.iadd, 1) := by decide +kernel
theorem d_LAW_2203 : decode (mC m_LAW) 2203 = .ok (.iaload, 1) := by decide +kernel
theorem d_LAW_2204 : decode (mC m_LAW) 2204 = .ok (.invokevirtual 311, 3) := by decide +kernel
theorem d_LAW_2207 : decode (mC m_LAW) 2207 = .ok (.istore 6, 2) := by decide +kernel
theorem d_LAW_2209 : decode (mC m_LAW) 2209 = .ok (.aload_n 2, 1) := by decide +kernel
theorem d_LAW_2210 : decode (mC m_LAW) 2210 = .ok (.invokevirtual 171, 3) := by decide +kernel
theorem d_LAW_2213 : decode (mC m_LAW) 2213 = .ok (.iload 5, 2) := by decide +kernel
theorem d_LAW_2215 : decode (mC m_LAW) 2215 = .ok (.if_icmp .eq 5, 3) := by decide +kernel
theorem d_LAW_2218 : decode (mC m_LAW) 2218 = .ok (.iconst 0, 1) := by decide +kernel
theorem d_LAW_2219 : decode (mC m_LAW) 2219 = .ok (.ireturn, 1) := by decide +kernel
theorem d_LAW_2220 : decode (mC m_LAW) 2220 = .ok (.iload 5, 2) := by decide +kernel
theorem d_LAW_2222 : decode (mC m_LAW) 2222 = .ok (.ifCond .ne 15, 3) := by decide +kernel
theorem d_LAW_2225 : decode (mC m_LAW) 2225 = .ok (.aload_n 3, 1) := by decide +kernel
theorem d_LAW_2226 : decode (mC m_LAW) 2226 = .ok (.iconst 0, 1) := by decide +kernel
theorem d_LAW_2227 : decode (mC m_LAW) 2227 = .ok (.laload, 1) := by decide +kernel
theorem d_LAW_2228 : decode (mC m_LAW) 2228 = .ok (.iload 6, 2) := by decide +kernel
theorem d_LAW_2230 : decode (mC m_LAW) 2230 = .ok (.i2l, 1) := by decide +kernel
theorem d_LAW_2231 : decode (mC m_LAW) 2231 = .ok (.lcmp, 1) := by decide +kernel
theorem d_LAW_2232 : decode (mC m_LAW) 2232 = .ok (.ifCond .eq 5, 3) := by decide +kernel
theorem d_LAW_2235 : decode (mC m_LAW) 2235 = .ok (.iconst 0, 1) := by decide +kernel
theorem d_LAW_2236 : decode (mC m_LAW) 2236 = .ok (.ireturn, 1) := by decide +kernel
theorem d_LAW_2237 : decode (mC m_LAW) 2237 = .ok (.goto 1047, 3) := by decide +kernel
theorem d_LAW_2240 : decode (mC m_LAW) 2240 = .ok (.aload_n 1, 1) := by decide +kernel
theorem d_LAW_2241 : decode (mC m_LAW) 2241 = .ok (.aload_n 0, 1) := by decide +kernel
theorem d_LAW_2242 : decode (mC m_LAW) 2242 = .ok (.iload 4, 2) := by decide +kernel
theorem d_LAW_2244 : decode (mC m_LAW) 2244 = .ok (.iconst 1, 1) := by decide +kernel
theorem d_LAW_2245 : decode (mC m_LAW) 2245 = .ok (.iadd, 1) := by decide +kernel
theorem d_LAW_2246 : decode (mC m_LAW) 2246 = .ok (.iaload, 1) := by decide +kernel
theorem d_LAW_2247 : decode (mC m_LAW) 2247 = .ok (.aload_n 3, 1) := by decide +kernel
theorem d_LAW_2248 : decode (mC m_LAW) 2248 = .ok (.invokestatic 312, 3) := by decide +kernel
theorem d_LAW_2251 : decode (mC m_LAW) 2251 = .ok (.istore 5, 2) := by decide +kernel
theorem d_LAW_2253 : decode (mC m_LAW) 2253 = .ok (.aload_n 2, 1) := by decide +kernel
theorem d_LAW_2254 : decode (mC m_LAW) 2254 = .ok (.aload_n 0, 1) := by decide +kernel
theorem d_LAW_2255 : decode (mC m_LAW) 2255 = .ok (.iload 4, 2) := by decide +kernel
theorem d_LAW_2257 : decode (mC m_LAW) 2257 = .ok (.iconst 1, 1) := by decide +kernel
theorem d_LAW_2258 : decode (mC m_LAW) 2258 = .ok (.iadd, 1) := by decide +kernel
theorem d_LAW_2259 : decode (mC m_LAW) 2259 = .ok (.iaload, 1) := by decide +kernel
theorem d_LAW_2260 : decode (mC m_LAW) 2260 = .ok (.invokevirtual 314, 3) := by decide +kernel
theorem d_LAW_2263 : decode (mC m_LAW) 2263 = .ok (.istore 6, 2) := by decide +kernel
theorem d_LAW_2265 : decode (mC m_LAW) 2265 = .ok (.aload_n 2, 1) := by decide +kernel
theorem d_LAW_2266 : decode (mC m_LAW) 2266 = .ok (.invokevirtual 171, 3) := by decide +kernel
theorem d_LAW_2269 : decode (mC m_LAW) 2269 = .ok (.iload 5, 2) := by decide +kernel
theorem d_LAW_2271 : decode (mC m_LAW) 2271 = .ok (.if_icmp .eq 5, 3) := by decide +kernel
theorem d_LAW_2274 : decode (mC m_LAW) 2274 = .ok (.iconst 0, 1) := by decide +kernel
theorem d_LAW_2275 : decode (mC m_LAW) 2275 = .ok (.ireturn, 1) := by decide +kernel
theorem d_LAW_2276 : decode (mC m_LAW) 2276 = .ok (.iload 5, 2) := by decide +kernel
theorem d_LAW_2278 : decode (mC m_LAW) 2278 = .ok (.ifCond .ne 15, 3) := by decide +kernel
theorem d_LAW_2281 : decode (mC m_LAW) 2281 = .ok (.aload_n 3, 1) := by decide +kernel
theorem d_LAW_2282 : decode (mC m_LAW) 2282 = .ok (.iconst 0, 1) := by decide +kernel
theorem d_LAW_2283 : decode (mC m_LAW) 2283 = .ok (.laload, 1) := by decide +kernel
theorem d_LAW_2284 : decode (mC m_LAW) 2284 = .ok (.iload 6, 2) := by decide +kernel
theorem d_LAW_2286 : decode (mC m_LAW) 2286 = .ok (.i2l, 1) := by decide +kernel
theorem d_LAW_2287 : decode (mC m_LAW) 2287 = .ok (.lcmp, 1) := by decide +kernel
theorem d_LAW_2288 : decode (mC m_LAW) 2288 = .ok (.ifCond .eq 5, 3) := by decide +kernel
theorem d_LAW_2291 : decode (mC m_LAW) 2291 = .ok (.iconst 0, 1) := by decide +kernel
theorem d_LAW_2292 : decode (mC m_LAW) 2292 = .ok (.ireturn, 1) := by decide +kernel
theorem d_LAW_2293 : decode (mC m_LAW) 2293 = .ok (.goto 991, 3) := by decide +kernel
theorem d_LAW_2296 : decode (mC m_LAW) 2296 = .ok (.aload_n 1, 1) := by decide +kernel
theorem d_LAW_2297 : decode (mC m_LAW) 2297 = .ok (.aload_n 0, 1) := by decide +kernel
theorem d_LAW_2298 : decode (mC m_LAW) 2298 = .ok (.iload 4, 2) := by decide +kernel
theorem d_LAW_2300 : decode (mC m_LAW) 2300 = .ok (.iconst 1, 1) := by decide +kernel
theorem d_LAW_2301 : decode (mC m_LAW) 2301 = .ok (.iadd, 1) := by decide +kernel
theorem d_LAW_2302 : decode (mC m_LAW) 2302 = .ok (.iaload, 1) := by decide +kernel
theorem d_LAW_2303 : decode (mC m_LAW) 2303 = .ok (.aload_n 3, 1) := by decide +kernel
theorem d_LAW_2304 : decode (mC m_LAW) 2304 = .ok (.invokestatic 315, 3) := by decide +kernel
theorem d_LAW_2307 : decode (mC m_LAW) 2307 = .ok (.istore 5, 2) := by decide +kernel
theorem d_LAW_2309 : decode (mC m_LAW) 2309 = .ok (.aload_n 2, 1) := by decide +kernel
theorem d_LAW_2310 : decode (mC m_LAW) 2310 = .ok (.aload_n 0, 1) := by decide +kernel
theorem d_LAW_2311 : decode (mC m_LAW) 2311 = .ok (.iload 4, 2) := by decide +kernel
theorem d_LAW_2313 : decode (mC m_LAW) 2313 = .ok (.iconst 1, 1) := by decide +kernel
theorem d_LAW_2314 : decode (mC m_LAW) 2314 = .ok (.iadd, 1) := by decide +kernel
theorem d_LAW_2315 : decode (mC m_LAW) 2315 = .ok (.iaload, 1) := by decide +kernel
theorem d_LAW_2316 : decode (mC m_LAW) 2316 = .ok (.invokevirtual 317, 3) := by decide +kernel
theorem d_LAW_2319 : decode (mC m_LAW) 2319 = .ok (.istore 6, 2) := by decide +kernel
theorem d_LAW_2321 : decode (mC m_LAW) 2321 = .ok (.aload_n 2, 1) := by decide +kernel
theorem d_LAW_2322 : decode (mC m_LAW) 2322 = .ok (.invokevirtual 171, 3) := by decide +kernel
theorem d_LAW_2325 : decode (mC m_LAW) 2325 = .ok (.iload 5, 2) := by decide +kernel
theorem d_LAW_2327 : decode (mC m_LAW) 2327 = .ok (.if_icmp .eq 5, 3) := by decide +kernel
theorem d_LAW_2330 : decode (mC m_LAW) 2330 = .ok (.iconst 0, 1) := by decide +kernel
theorem d_LAW_2331 : decode (mC m_LAW) 2331 = .ok (.ireturn, 1) := by decide +kernel
theorem d_LAW_2332 : decode (mC m_LAW) 2332 = .ok (.iload 5, 2) := by decide +kernel
theorem d_LAW_2334 : decode (mC m_LAW) 2334 = .ok (.ifCond .ne 15, 3) := by decide +kernel
theorem d_LAW_2337 : decode (mC m_LAW) 2337 = .ok (.aload_n 3, 1) := by decide +kernel
theorem d_LAW_2338 : decode (mC m_LAW) 2338 = .ok (.iconst 0, 1) := by decide +kernel
theorem d_LAW_2339 : decode (mC m_LAW) 2339 = .ok (.laload, 1) := by decide +kernel
theorem d_LAW_2340 : decode (mC m_LAW) 2340 = .ok (.iload 6, 2) := by decide +kernel
theorem d_LAW_2342 : decode (mC m_LAW) 2342 = .ok (.i2l, 1) := by decide +kernel
theorem d_LAW_2343 : decode (mC m_LAW) 2343 = .ok (.lcmp, 1) := by decide +kernel
theorem d_LAW_2344 : decode (mC m_LAW) 2344 = .ok (.ifCond .eq 5, 3) := by decide +kernel
theorem d_LAW_2347 : decode (mC m_LAW) 2347 = .ok (.iconst 0, 1) := by decide +kernel
theorem d_LAW_2348 : decode (mC m_LAW) 2348 = .ok (.ireturn, 1) := by decide +kernel
theorem d_LAW_2349 : decode (mC m_LAW) 2349 = .ok (.goto 935, 3) := by decide +kernel
theorem d_LAW_2352 : decode (mC m_LAW) 2352 = .ok (.aload_n 1, 1) := by decide +kernel
theorem d_LAW_2353 : decode (mC m_LAW) 2353 = .ok (.aload_n 0, 1) := by decide +kernel
theorem d_LAW_2354 : decode (mC m_LAW) 2354 = .ok (.iload 4, 2) := by decide +kernel
theorem d_LAW_2356 : decode (mC m_LAW) 2356 = .ok (.iconst 1, 1) := by decide +kernel
theorem d_LAW_2357 : decode (mC m_LAW) 2357 = .ok (.iadd, 1) := by decide +kernel
theorem d_LAW_2358 : decode (mC m_LAW) 2358 = .ok (.iaload, 1) := by decide +kernel
theorem d_LAW_2359 : decode (mC m_LAW) 2359 = .ok (.aload_n 3, 1) := by decide +kernel
theorem d_LAW_2360 : decode (mC m_LAW) 2360 = .ok (.invokestatic 318, 3) := by decide +kernel
theorem d_LAW_2363 : decode (mC m_LAW) 2363 = .ok (.istore 5, 2) := by decide +kernel
theorem d_LAW_2365 : decode (mC m_LAW) 2365 = .ok (.aload_n 2, 1) := by decide +kernel
theorem d_LAW_2366 : decode (mC m_LAW) 2366 = .ok (.aload_n 0, 1) := by decide +kernel
theorem d_LAW_2367 : decode (mC m_LAW) 2367 = .ok (.iload 4, 2) := by decide +kernel
theorem d_LAW_2369 : decode (mC m_LAW) 2369 = .ok (.iconst 1, 1) := by decide +kernel
theorem d_LAW_2370 : decode (mC m_LAW) 2370 = .ok (.iadd, 1) := by decide +kernel
theorem d_LAW_2371 : decode (mC m_LAW) 2371 = .ok (.iaload, 1) := by decide +kernel
theorem d_LAW_2372 : decode (mC m_LAW) 2372 = .ok (.invokevirtual 320, 3) := by decide +kernel
theorem d_LAW_2375 : decode (mC m_LAW) 2375 = .ok (.istore 6, 2) := by decide +kernel
theorem d_LAW_2377 : decode (mC m_LAW) 2377 = .ok (.aload_n 2, 1) := by decide +kernel
theorem d_LAW_2378 : decode (mC m_LAW) 2378 = .ok (.invokevirtual 171, 3) := by decide +kernel
theorem d_LAW_2381 : decode (mC m_LAW) 2381 = .ok (.iload 5, 2) := by decide +kernel
theorem d_LAW_2383 : decode (mC m_LAW) 2383 = .ok (.if_icmp .eq 5, 3) := by decide +kernel
theorem d_LAW_2386 : decode (mC m_LAW) 2386 = .ok (.iconst 0, 1) := by decide +kernel
theorem d_LAW_2387 : decode (mC m_LAW) 2387 = .ok (.ireturn, 1) := by decide +kernel
theorem d_LAW_2388 : decode (mC m_LAW) 2388 = .ok (.iload 5, 2) := by decide +kernel
theorem d_LAW_2390 : decode (mC m_LAW) 2390 = .ok (.ifCond .ne 15, 3) := by decide +kernel
theorem d_LAW_2393 : decode (mC m_LAW) 2393 = .ok (.aload_n 3, 1) := by decide +kernel
theorem d_LAW_2394 : decode (mC m_LAW) 2394 = .ok (.iconst 0, 1) := by decide +kernel
theorem d_LAW_2395 : decode (mC m_LAW) 2395 = .ok (.laload, 1) := by decide +kernel
theorem d_LAW_2396 : decode (mC m_LAW) 2396 = .ok (.iload 6, 2) := by decide +kernel
theorem d_LAW_2398 : decode (mC m_LAW) 2398 = .ok (.i2l, 1) := by decide +kernel
theorem d_LAW_2399 : decode (mC m_LAW) 2399 = .ok (.lcmp, 1) := by decide +kernel
theorem d_LAW_2400 : decode (mC m_LAW) 2400 = .ok (.ifCond .eq 5, 3) := by decide +kernel
theorem d_LAW_2403 : decode (mC m_LAW) 2403 = .ok (.iconst 0, 1) := by decide +kernel
theorem d_LAW_2404 : decode (mC m_LAW) 2404 = .ok (.ireturn, 1) := by decide +kernel
theorem d_LAW_2405 : decode (mC m_LAW) 2405 = .ok (.goto 879, 3) := by decide +kernel
theorem d_LAW_2408 : decode (mC m_LAW) 2408 = .ok (.aload_n 1, 1) := by decide +kernel
theorem d_LAW_2409 : decode (mC m_LAW) 2409 = .ok (.aload_n 0, 1) := by decide +kernel
theorem d_LAW_2410 : decode (mC m_LAW) 2410 = .ok (.iload 4, 2) := by decide +kernel
theorem d_LAW_2412 : decode (mC m_LAW) 2412 = .ok (.iconst 1, 1) := by decide +kernel
theorem d_LAW_2413 : decode (mC m_LAW) 2413 = .ok (.iadd, 1) := by decide +kernel
theorem d_LAW_2414 : decode (mC m_LAW) 2414 = .ok (.iaload, 1) := by decide +kernel
theorem d_LAW_2415 : decode (mC m_LAW) 2415 = .ok (.aload_n 3, 1) := by decide +kernel
theorem d_LAW_2416 : decode (mC m_LAW) 2416 = .ok (.invokestatic 321, 3) := by decide +kernel
theorem d_LAW_2419 : decode (mC m_LAW) 2419 = .ok (.istore 5, 2) := by decide +kernel
theorem d_LAW_2421 : decode (mC m_LAW) 2421 = .ok (.aload_n 2, 1) := by decide +kernel
theorem d_LAW_2422 : decode (mC m_LAW) 2422 = .ok (.aload_n 0, 1) := by decide +kernel
theorem d_LAW_2423 : decode (mC m_LAW) 2423 = .ok (.iload 4, 2) := by decide +kernel
theorem d_LAW_2425 : decode (mC m_LAW) 2425 = .ok (.iconst 1, 1) := by decide +kernel
theorem d_LAW_2426 : decode (mC m_LAW) 2426 = .ok (.iadd, 1) := by decide +kernel
theorem d_LAW_2427 : decode (mC m_LAW) 2427 = .ok (.iaload, 1) := by decide +kernel
theorem d_LAW_2428 : decode (mC m_LAW) 2428 = .ok (.invokevirtual 323, 3) := by decide +kernel
theorem d_LAW_2431 : decode (mC m_LAW) 2431 = .ok (.istore 6, 2) := by decide +kernel
theorem d_LAW_2433 : decode (mC m_LAW) 2433 = .ok (.aload_n 2, 1) := by decide +kernel
theorem d_LAW_2434 : decode (mC m_LAW) 2434 = .ok (.invokevirtual 171, 3) := by decide +kernel
theorem d_LAW_2437 : decode (mC m_LAW) 2437 = .ok (.iload 5, 2) := by decide +kernel
theorem d_LAW_2439 : decode (mC m_LAW) 2439 = .ok (.if_icmp .eq 5, 3) := by decide +kernel
theorem d_LAW_2442 : decode (mC m_LAW) 2442 = .ok (.iconst 0, 1) := by decide +kernel
theorem d_LAW_2443 : decode (mC m_LAW) 2443 = .ok (.ireturn, 1) := by decide +kernel
theorem d_LAW_2444 : decode (mC m_LAW) 2444 = .ok (.iload 5, 2) := by decide +kernel
theorem d_LAW_2446 : decode (mC m_LAW) 2446 = .ok (.ifCond .ne 15, 3) := by decide +kernel
theorem d_LAW_2449 : decode (mC m_LAW) 2449 = .ok (.aload_n 3, 1) := by decide +kernel
theorem d_LAW_2450 : decode (mC m_LAW) 2450 = .ok (.iconst 0, 1) := by decide +kernel
theorem d_LAW_2451 : decode (mC m_LAW) 2451 = .ok (.laload, 1) := by decide +kernel
theorem d_LAW_2452 : decode (mC m_LAW) 2452 = .ok (.iload 6, 2) := by decide +kernel
theorem d_LAW_2454 : decode (mC m_LAW) 2454 = .ok (.i2l, 1) := by decide +kernel
theorem d_LAW_2455 : decode (mC m_LAW) 2455 = .ok (.lcmp, 1) := by decide +kernel
theorem d_LAW_2456 : decode (mC m_LAW) 2456 = .ok (.ifCond .eq 5, 3) := by decide +kernel
theorem d_LAW_2459 : decode (mC m_LAW) 2459 = .ok (.iconst 0, 1) := by decide +kernel
theorem d_LAW_2460 : decode (mC m_LAW) 2460 = .ok (.ireturn, 1) := by decide +kernel
theorem d_LAW_2461 : decode (mC m_LAW) 2461 = .ok (.goto 823, 3) := by decide +kernel
theorem d_LAW_2464 : decode (mC m_LAW) 2464 = .ok (.aload_n 1, 1) := by decide +kernel
theorem d_LAW_2465 : decode (mC m_LAW) 2465 = .ok (.aload_n 0, 1) := by decide +kernel
theorem d_LAW_2466 : decode (mC m_LAW) 2466 = .ok (.iload 4, 2) := by decide +kernel
theorem d_LAW_2468 : decode (mC m_LAW) 2468 = .ok (.iconst 1, 1) := by decide +kernel
theorem d_LAW_2469 : decode (mC m_LAW) 2469 = .ok (.iadd, 1) := by decide +kernel
theorem d_LAW_2470 : decode (mC m_LAW) 2470 = .ok (.iaload, 1) := by decide +kernel
theorem d_LAW_2471 : decode (mC m_LAW) 2471 = .ok (.invokevirtual 324, 3) := by decide +kernel
theorem d_LAW_2474 : decode (mC m_LAW) 2474 = .ok (.aload_n 2, 1) := by decide +kernel
theorem d_LAW_2475 : decode (mC m_LAW) 2475 = .ok (.aload_n 0, 1) := by decide +kernel
theorem d_LAW_2476 : decode (mC m_LAW) 2476 = .ok (.iload 4, 2) := by decide +kernel
theorem d_LAW_2478 : decode (mC m_LAW) 2478 = .ok (.iconst 1, 1) := by decide +kernel
theorem d_LAW_2479 : decode (mC m_LAW) 2479 = .ok (.iadd, 1) := by decide +kernel
theorem d_LAW_2480 : decode (mC m_LAW) 2480 = .ok (.iaload, 1) := by decide +kernel
theorem d_LAW_2481 : decode (mC m_LAW) 2481 = .ok (.invokevirtual 327, 3) := by decide +kernel
theorem d_LAW_2484 : decode (mC m_LAW) 2484 = .ok (.if_icmp .eq 800, 3) := by decide +kernel
theorem d_LAW_2487 : decode (mC m_LAW) 2487 = .ok (.iconst 0, 1) := by decide +kernel
theorem d_LAW_2488 : decode (mC m_LAW) 2488 = .ok (.ireturn, 1) := by decide +kernel
theorem d_LAW_2489 : decode (mC m_LAW) 2489 = .ok (.aload_n 1, 1) := by decide +kernel
theorem d_LAW_2490 : decode (mC m_LAW) 2490 = .ok (.aload_n 0, 1) := by decide +kernel
theorem d_LAW_2491 : decode (mC m_LAW) 2491 = .ok (.iload 4, 2) := by decide +kernel
theorem d_LAW_2493 : decode (mC m_LAW) 2493 = .ok (.iconst 1, 1) := by decide +kernel
theorem d_LAW_2494 : decode (mC m_LAW) 2494 = .ok (.iadd, 1) := by decide +kernel
theorem d_LAW_2495 : decode (mC m_LAW) 2495 = .ok (.iaload, 1) := by decide +kernel
theorem d_LAW_2496 : decode (mC m_LAW) 2496 = .ok (.aload_n 3, 1) := by decide +kernel
theorem d_LAW_2497 : decode (mC m_LAW) 2497 = .ok (.invokestatic 328, 3) := by decide +kernel
theorem d_LAW_2500 : decode (mC m_LAW) 2500 = .ok (.istore 5, 2) := by decide +kernel
theorem d_LAW_2502 : decode (mC m_LAW) 2502 = .ok (.aload_n 2, 1) := by decide +kernel
theorem d_LAW_2503 : decode (mC m_LAW) 2503 = .ok (.aload_n 0, 1) := by decide +kernel
theorem d_LAW_2504 : decode (mC m_LAW) 2504 = .ok (.iload 4, 2) := by decide +kernel
theorem d_LAW_2506 : decode (mC m_LAW) 2506 = .ok (.iconst 1, 1) := by decide +kernel
theorem d_LAW_2507 : decode (mC m_LAW) 2507 = .ok (.iadd, 1) := by decide +kernel
theorem d_LAW_2508 : decode (mC m_LAW) 2508 = .ok (.iaload, 1) := by decide +kernel
theorem d_LAW_2509 : decode (mC m_LAW) 2509 = .ok (.invokevirtual 330, 3) := by decide +kernel
theorem d_LAW_2512 : decode (mC m_LAW) 2512 = .ok (.istore 6, 2) := by decide +kernel
theorem d_LAW_2514 : decode (mC m_LAW) 2514 = .ok (.aload_n 2, 1) := by decide +kernel
theorem d_LAW_2515 : decode (mC m_LAW) 2515 = .ok (.invokevirtual 171, 3) := by decide +kernel
theorem d_LAW_2518 : decode (mC m_LAW) 2518 = .ok (.iload 5, 2) := by decide +kernel
theorem d_LAW_2520 : decode (mC m_LAW) 2520 = .ok (.if_icmp .eq 5, 3) := by decide +kernel
theorem d_LAW_2523 : decode (mC m_LAW) 2523 = .ok (.iconst 0, 1) := by decide +kernel
theorem d_LAW_2524 : decode (mC m_LAW) 2524 = .ok (.ireturn, 1) := by decide +kernel
theorem d_LAW_2525 : decode (mC m_LAW) 2525 = .ok (.iload 5, 2) := by decide +kernel
theorem d_LAW_2527 : decode (mC m_LAW) 2527 = .ok (.ifCond .ne 22, 3) := by decide +kernel
theorem d_LAW_2530 : decode (mC m_LAW) 2530 = .ok (.aload_n 3, 1) := by decide +kernel
theorem d_LAW_2531 : decode (mC m_LAW) 2531 = .ok (.iconst 0, 1) := by decide +kernel
theorem d_LAW_2532 : decode (mC m_LAW) 2532 = .ok (.laload, 1) := by decide +kernel
theorem d_LAW_2533 : decode (mC m_LAW) 2533 = .ok (.iload 6, 2) := by decide +kernel
theorem d_LAW_2535 : decode (mC m_LAW) 2535 = .ok (.ifCond .eq 7, 3) := by decide +kernel
theorem d_LAW_2538 : decode (mC m_LAW) 2538 = .ok (.lconst 1, 1) := by decide +kernel
theorem d_LAW_2539 : decode (mC m_LAW) 2539 = .ok (.goto 4, 3) := by decide +kernel
theorem d_LAW_2542 : decode (mC m_LAW) 2542 = .ok (.lconst 0, 1) := by decide +kernel
theorem d_LAW_2543 : decode (mC m_LAW) 2543 = .ok (.lcmp, 1) := by decide +kernel
theorem d_LAW_2544 : decode (mC m_LAW) 2544 = .ok (.ifCond .eq 5, 3) := by decide +kernel
theorem d_LAW_2547 : decode (mC m_LAW) 2547 = .ok (.iconst 0, 1) := by decide +kernel
theorem d_LAW_2548 : decode (mC m_LAW) 2548 = .ok (.ireturn, 1) := by decide +kernel
theorem d_LAW_2549 : decode (mC m_LAW) 2549 = .ok (.goto 735, 3) := by decide +kernel
theorem d_LAW_2552 : decode (mC m_LAW) 2552 = .ok (.aload_n 1, 1) := by decide +kernel
theorem d_LAW_2553 : decode (mC m_LAW) 2553 = .ok (.aload_n 0, 1) := by decide +kernel
theorem d_LAW_2554 : decode (mC m_LAW) 2554 = .ok (.iload 4, 2) := by decide +kernel
theorem d_LAW_2556 : decode (mC m_LAW) 2556 = .ok (.iconst 1, 1) := by decide +kernel
theorem d_LAW_2557 : decode (mC m_LAW) 2557 = .ok (.iadd, 1) := by decide +kernel
theorem d_LAW_2558 : decode (mC m_LAW) 2558 = .ok (.iaload, 1) := by decide +kernel
theorem d_LAW_2559 : decode (mC m_LAW) 2559 = .ok (.aload_n 3, 1) := by decide +kernel
theorem d_LAW_2560 : decode (mC m_LAW) 2560 = .ok (.invokestatic 331, 3) := by decide +kernel
theorem d_LAW_2563 : decode (mC m_LAW) 2563 = .ok (.istore 5, 2) := by decide +kernel
theorem d_LAW_2565 : decode (mC m_LAW) 2565 = .ok (.aload_n 2, 1) := by decide +kernel
theorem d_LAW_2566 : decode (mC m_LAW) 2566 = .ok (.aload_n 0, 1) := by decide +kernel
theorem d_LAW_2567 : decode (mC m_LAW) 2567 = .ok (.iload 4, 2) := by decide +kernel
theorem d_LAW_2569 : decode (mC m_LAW) 2569 = .ok (.iconst 1, 1) := by decide +kernel
theorem d_LAW_2570 : decode (mC m_LAW) 2570 = .ok (.iadd, 1) := by decide +kernel
theorem d_LAW_2571 : decode (mC m_LAW) 2571 = .ok (.iaload, 1) := by decide +kernel
theorem d_LAW_2572 : decode (mC m_LAW) 2572 = .ok (.invokevirtual 333, 3) := by decide +kernel
theorem d_LAW_2575 : decode (mC m_LAW) 2575 = .ok (.istore 6, 2) := by decide +kernel
theorem d_LAW_2577 : decode (mC m_LAW) 2577 = .ok (.aload_n 2, 1) := by decide +kernel
theorem d_LAW_2578 : decode (mC m_LAW) 2578 = .ok (.invokevirtual 171, 3) := by decide +kernel
theorem d_LAW_2581 : decode (mC m_LAW) 2581 = .ok (.iload 5, 2) := by decide +kernel
theorem d_LAW_2583 : decode (mC m_LAW) 2583 = .ok (.if_icmp .eq 5, 3) := by decide +kernel
theorem d_LAW_2586 : decode (mC m_LAW) 2586 = .ok (.iconst 0, 1) := by decide +kernel
theorem d_LAW_2587 : decode (mC m_LAW) 2587 = .ok (.ireturn, 1) := by decide +kernel
theorem d_LAW_2588 : decode (mC m_LAW) 2588 = .ok (.iload 5, 2) := by decide +kernel
theorem d_LAW_2590 : decode (mC m_LAW) 2590 = .ok (.ifCond .ne 15, 3) := by decide +kernel
theorem d_LAW_2593 : decode (mC m_LAW) 2593 = .ok (.aload_n 3, 1) := by decide +kernel
theorem d_LAW_2594 : decode (mC m_LAW) 2594 = .ok (.iconst 0, 1) := by decide +kernel
theorem d_LAW_2595 : decode (mC m_LAW) 2595 = .ok (.laload, 1) := by decide +kernel
theorem d_LAW_2596 : decode (mC m_LAW) 2596 = .ok (.iload 6, 2) := by decide +kernel
theorem d_LAW_2598 : decode (mC m_LAW) 2598 = .ok (.i2l, 1) := by decide +kernel
theorem d_LAW_2599 : decode (mC m_LAW) 2599 = .ok (.lcmp, 1) := by decide +kernel
theorem d_LAW_2600 : decode (mC m_LAW) 2600 = .ok (.ifCond .eq 5, 3) := by decide +kernel
theorem d_LAW_2603 : decode (mC m_LAW) 2603 = .ok (.iconst 0, 1) := by decide +kernel
theorem d_LAW_2604 : decode (mC m_LAW) 2604 = .ok (.ireturn, 1) := by decide +kernel
theorem d_LAW_2605 : decode (mC m_LAW) 2605 = .ok (.goto 679, 3) := by decide +kernel
theorem d_LAW_2608 : decode (mC m_LAW) 2608 = .ok (.aload_n 1, 1) := by decide +kernel
theorem d_LAW_2609 : decode (mC m_LAW) 2609 = .ok (.aload_n 0, 1) := by decide +kernel
theorem d_LAW_2610 : decode (mC m_LAW) 2610 = .ok (.iload 4, 2) := by decide +kernel
theorem d_LAW_2612 : decode (mC m_LAW) 2612 = .ok (.iconst 1, 1) := by decide +kernel
theorem d_LAW_2613 : decode (mC m_LAW) 2613 = .ok (.iadd, 1) := by decide +kernel
theorem d_LAW_2614 : decode (mC m_LAW) 2614 = .ok (.iaload, 1) := by decide +kernel
theorem d_LAW_2615 : decode (mC m_LAW) 2615 = .ok (.aload_n 3, 1) := by decide +kernel
theorem d_LAW_2616 : decode (mC m_LAW) 2616 = .ok (.invokestatic 334, 3) := by decide +kernel
theorem d_LAW_2619 : decode (mC m_LAW) 2619 = .ok (.istore 5, 2) := by decide +kernel
theorem d_LAW_2621 : decode (mC m_LAW) 2621 = .ok (.aload_n 2, 1) := by decide +kernel
theorem d_LAW_2622 : decode (mC m_LAW) 2622 = .ok (.aload_n 0, 1) := by decide +kernel
theorem d_LAW_2623 : decode (mC m_LAW) 2623 = .ok (.iload 4, 2) := by decide +kernel
theorem d_LAW_2625 : decode (mC m_LAW) 2625 = .ok (.iconst 1, 1) := by decide +kernel
theorem d_LAW_2626 : decode (mC m_LAW) 2626 = .ok (.iadd, 1) := by decide +kernel
theorem d_LAW_2627 : decode (mC m_LAW) 2627 = .ok (.iaload, 1) := by decide +kernel
theorem d_LAW_2628 : decode (mC m_LAW) 2628 = .ok (.invokevirtual 336, 3) := by decide +kernel
theorem d_LAW_2631 : decode (mC m_LAW) 2631 = .ok (.istore 6, 2) := by decide +kernel
theorem d_LAW_2633 : decode (mC m_LAW) 2633 = .ok (.aload_n 2, 1) := by decide +kernel
theorem d_LAW_2634 : decode (mC m_LAW) 2634 = .ok (.invokevirtual 171, 3) := by decide +kernel
theorem d_LAW_2637 : decode (mC m_LAW) 2637 = .ok (.iload 5, 2) := by decide +kernel
theorem d_LAW_2639 : decode (mC m_LAW) 2639 = .ok (.if_icmp .eq 5, 3) := by decide +kernel
theorem d_LAW_2642 : decode (mC m_LAW) 2642 = .ok (.iconst 0, 1) := by decide +kernel
theorem d_LAW_2643 : decode (mC m_LAW) 2643 = .ok (.ireturn, 1) := by decide +kernel
theorem d_LAW_2644 : decode (mC m_LAW) 2644 = .ok (.iload 5, 2) := by decide +kernel
theorem d_LAW_2646 : decode (mC m_LAW) 2646 = .ok (.ifCond .ne 15, 3) := by decide +kernel
theorem d_LAW_2649 : decode (mC m_LAW) 2649 = .ok (.aload_n 3, 1) := by decide +kernel
theorem d_LAW_2650 : decode (mC m_LAW) 2650 = .ok (.iconst 0, 1) := by decide +kernel
theorem d_LAW_2651 : decode (mC m_LAW) 2651 = .ok (.laload, 1) := by decide +kernel
theorem d_LAW_2652 : decode (mC m_LAW) 2652 = .ok (.iload 6, 2) := by decide +kernel
theorem d_LAW_2654 : decode (mC m_LAW) 2654 = .ok (.i2l, 1) := by decide +kernel
theorem d_LAW_2655 : decode (mC m_LAW) 2655 = .ok (.lcmp, 1) := by decide +kernel
theorem d_LAW_2656 : decode (mC m_LAW) 2656 = .ok (.ifCond .eq 5, 3) := by decide +kernel
theorem d_LAW_2659 : decode (mC m_LAW) 2659 = .ok (.iconst 0, 1) := by decide +kernel
theorem d_LAW_2660 : decode (mC m_LAW) 2660 = .ok (.ireturn, 1) := by decide +kernel
theorem d_LAW_2661 : decode (mC m_LAW) 2661 = .ok (.goto 623, 3) := by decide +kernel
theorem d_LAW_2664 : decode (mC m_LAW) 2664 = .ok (.aload_n 1, 1) := by decide +kernel
theorem d_LAW_2665 : decode (mC m_LAW) 2665 = .ok (.aload_n 0, 1) := by decide +kernel
theorem d_LAW_2666 : decode (mC m_LAW) 2666 = .ok (.iload 4, 2) := by decide +kernel
theorem d_LAW_2668 : decode (mC m_LAW) 2668 = .ok (.iconst 1, 1) := by decide +kernel
theorem d_LAW_2669 : decode (mC m_LAW) 2669 = .ok (.iadd, 1) := by decide +kernel
theorem d_LAW_2670 : decode (mC m_LAW) 2670 = .ok (.iaload, 1) := by decide +kernel
theorem d_LAW_2671 : decode (mC m_LAW) 2671 = .ok (.aload_n 3, 1) := by decide +kernel
theorem d_LAW_2672 : decode (mC m_LAW) 2672 = .ok (.invokestatic 337, 3) := by decide +kernel
theorem d_LAW_2675 : decode (mC m_LAW) 2675 = .ok (.istore 5, 2) := by decide +kernel
theorem d_LAW_2677 : decode (mC m_LAW) 2677 = .ok (.aload_n 2, 1) := by decide +kernel
theorem d_LAW_2678 : decode (mC m_LAW) 2678 = .ok (.aload_n 0, 1) := by decide +kernel
theorem d_LAW_2679 : decode (mC m_LAW) 2679 = .ok (.iload 4, 2) := by decide +kernel
theorem d_LAW_2681 : decode (mC m_LAW) 2681 = .ok (.iconst 1, 1) := by decide +kernel
theorem d_LAW_2682 : decode (mC m_LAW) 2682 = .ok (.iadd, 1) := by decide +kernel
theorem d_LAW_2683 : decode (mC m_LAW) 2683 = .ok (.iaload, 1) := by decide +kernel
theorem d_LAW_2684 : decode (mC m_LAW) 2684 = .ok (.invokevirtual 339, 3) := by decide +kernel
theorem d_LAW_2687 : decode (mC m_LAW) 2687 = .ok (.istore 6, 2) := by decide +kernel
theorem d_LAW_2689 : decode (mC m_LAW) 2689 = .ok (.aload_n 2, 1) := by decide +kernel
theorem d_LAW_2690 : decode (mC m_LAW) 2690 = .ok (.invokevirtual 171, 3) := by decide +kernel
theorem d_LAW_2693 : decode (mC m_LAW) 2693 = .ok (.iload 5, 2) := by decide +kernel
theorem d_LAW_2695 : decode (mC m_LAW) 2695 = .ok (.if_icmp .eq 5, 3) := by decide +kernel
theorem d_LAW_2698 : decode (mC m_LAW) 2698 = .ok (.iconst 0, 1) := by decide +kernel
theorem d_LAW_2699 : decode (mC m_LAW) 2699 = .ok (.ireturn, 1) := by decide +kernel
theorem d_LAW_2700 : decode (mC m_LAW) 2700 = .ok (.iload 5, 2) := by decide +kernel
theorem d_LAW_2702 : decode (mC m_LAW) 2702 = .ok (.ifCond .ne 15, 3) := by decide +kernel
theorem d_LAW_2705 : decode (mC m_LAW) 2705 = .ok (.aload_n 3, 1) := by decide +kernel
theorem d_LAW_2706 : decode (mC m_LAW) 2706 = .ok (.iconst 0, 1) := by decide +kernel
theorem d_LAW_2707 : decode (mC m_LAW) 2707 = .ok (.laload, 1) := by decide +kernel
theorem d_LAW_2708 : decode (mC m_LAW) 2708 = .ok (.iload 6, 2) := by decide +kernel
theorem d_LAW_2710 : decode (mC m_LAW) 2710 = .ok (.i2l, 1) := by decide +kernel
theorem d_LAW_2711 : decode (mC m_LAW) 2711 = .ok (.lcmp, 1) := by decide +kernel
theorem d_LAW_2712 : decode (mC m_LAW) 2712 = .ok (.ifCond .eq 5, 3) := by decide +kernel
theorem d_LAW_2715 : decode (mC m_LAW) 2715 = .ok (.iconst 0, 1) := by decide +kernel
theorem d_LAW_2716 : decode (mC m_LAW) 2716 = .ok (.ireturn, 1) := by decide +kernel
theorem d_LAW_2717 : decode (mC m_LAW) 2717 = .ok (.goto 567, 3) := by decide +kernel
theorem d_LAW_2720 : decode (mC m_LAW) 2720 = .ok (.aload_n 1, 1) := by decide +kernel
theorem d_LAW_2721 : decode (mC m_LAW) 2721 = .ok (.invokevirtual 340, 3) := by decide +kernel
theorem d_LAW_2724 : decode (mC m_LAW) 2724 = .ok (.aload_n 2, 1) := by decide +kernel
theorem d_LAW_2725 : decode (mC m_LAW) 2725 = .ok (.invokevirtual 343, 3) := by decide +kernel
theorem d_LAW_2728 : decode (mC m_LAW) 2728 = .ok (.if_icmp .eq 556, 3) := by decide +kernel
theorem d_LAW_2731 : decode (mC m_LAW) 2731 = .ok (.iconst 0, 1) := by decide +kernel
theorem d_LAW_2732 : decode (mC m_LAW) 2732 = .ok (.ireturn, 1) := by decide +kernel
theorem d_LAW_2733 : decode (mC m_LAW) 2733 = .ok (.aload_n 1, 1) := by decide +kernel
theorem d_LAW_2734 : decode (mC m_LAW) 2734 = .ok (.aload_n 0, 1) := by decide +kernel
theorem d_LAW_2735 : decode (mC m_LAW) 2735 = .ok (.iload 4, 2) := by decide +kernel
theorem d_LAW_2737 : decode (mC m_LAW) 2737 = .ok (.iconst 1, 1) := by decide +kernel
theorem d_LAW_2738 : decode (mC m_LAW) 2738 = .ok (.iadd, 1) := by decide +kernel
theorem d_LAW_2739 : decode (mC m_LAW) 2739 = .ok (.iaload, 1) := by decide +kernel
theorem d_LAW_2740 : decode (mC m_LAW) 2740 = .ok (.aload_n 3, 1) := by decide +kernel
theorem d_LAW_2741 : decode (mC m_LAW) 2741 = .ok (.invokestatic 344, 3) := by decide +kernel
theorem d_LAW_2744 : decode (mC m_LAW) 2744 = .ok (.istore 5, 2) := by decide +kernel
theorem d_LAW_2746 : decode (mC m_LAW) 2746 = .ok (.aload_n 2, 1) := by decide +kernel
theorem d_LAW_2747 : decode (mC m_LAW) 2747 = .ok (.aload_n 0, 1) := by decide +kernel
theorem d_LAW_2748 : decode (mC m_LAW) 2748 = .ok (.iload 4, 2) := by decide +kernel
theorem d_LAW_2750 : decode (mC m_LAW) 2750 = .ok (.iconst 1, 1) := by decide +kernel
theorem d_LAW_2751 : decode (mC m_LAW) 2751 = .ok (.iadd, 1) := by decide +kernel
theorem d_LAW_2752 : decode (mC m_LAW) 2752 = .ok (.iaload, 1) := by decide +kernel
theorem d_LAW_2753 : decode (mC m_LAW) 2753 = .ok (.invokevirtual 346, 3) := by decide +kernel
theorem d_LAW_2756 : decode (mC m_LAW) 2756 = .ok (.istore 6, 2) := by decide +kernel
theorem d_LAW_2758 : decode (mC m_LAW) 2758 = .ok (.aload_n 2, 1) := by decide +kernel
theorem d_LAW_2759 : decode (mC m_LAW) 2759 = .ok (.invokevirtual 171, 3) := by decide +kernel
theorem d_LAW_2762 : decode (mC m_LAW) 2762 = .ok (.iload 5, 2) := by decide +kernel
theorem d_LAW_2764 : decode (mC m_LAW) 2764 = .ok (.if_icmp .eq 5, 3) := by decide +kernel
theorem d_LAW_2767 : decode (mC m_LAW) 2767 = .ok (.iconst 0, 1) := by decide +kernel
theorem d_LAW_2768 : decode (mC m_LAW) 2768 = .ok (.ireturn, 1) := by decide +kernel
theorem d_LAW_2769 : decode (mC m_LAW) 2769 = .ok (.iload 5, 2) := by decide +kernel
theorem d_LAW_2771 : decode (mC m_LAW) 2771 = .ok (.ifCond .ne 15, 3) := by decide +kernel
theorem d_LAW_2774 : decode (mC m_LAW) 2774 = .ok (.aload_n 3, 1) := by decide +kernel
theorem d_LAW_2775 : decode (mC m_LAW) 2775 = .ok (.iconst 0, 1) := by decide +kernel
theorem d_LAW_2776 : decode (mC m_LAW) 2776 = .ok (.laload, 1) := by decide +kernel
theorem d_LAW_2777 : decode (mC m_LAW) 2777 = .ok (.iload 6, 2) := by decide +kernel
theorem d_LAW_2779 : decode (mC m_LAW) 2779 = .ok (.i2l, 1) := by decide +kernel
theorem d_LAW_2780 : decode (mC m_LAW) 2780 = .ok (.lcmp, 1) := by decide +kernel
theorem d_LAW_2781 : decode (mC m_LAW) 2781 = .ok (.ifCond .eq 5, 3) := by decide +kernel
theorem d_LAW_2784 : decode (mC m_LAW) 2784 = .ok (.iconst 0, 1) := by decide +kernel
theorem d_LAW_2785 : decode (mC m_LAW) 2785 = .ok (.ireturn, 1) := by decide +kernel
theorem d_LAW_2786 : decode (mC m_LAW) 2786 = .ok (.goto 498, 3) := by decide +kernel
theorem d_LAW_2789 : decode (mC m_LAW) 2789 = .ok (.aload_n 1, 1) := by decide +kernel
theorem d_LAW_2790 : decode (mC m_LAW) 2790 = .ok (.aload_n 0, 1) := by decide +kernel
theorem d_LAW_2791 : decode (mC m_LAW) 2791 = .ok (.iload 4, 2) := by decide +kernel
theorem d_LAW_2793 : decode (mC m_LAW) 2793 = .ok (.iconst 1, 1) := by decide +kernel
theorem d_LAW_2794 : decode (mC m_LAW) 2794 = .ok (.iadd, 1) := by decide +kernel
theorem d_LAW_2795 : decode (mC m_LAW) 2795 = .ok (.iaload, 1) := by decide +kernel
theorem d_LAW_2796 : decode (mC m_LAW) 2796 = .ok (.aload_n 0, 1) := by decide +kernel
theorem d_LAW_2797 : decode (mC m_LAW) 2797 = .ok (.iload 4, 2) := by decide +kernel
theorem d_LAW_2799 : decode (mC m_LAW) 2799 = .ok (.iconst 2, 1) := by decide +kernel
theorem d_LAW_2800 : decode (mC m_LAW) 2800 = .ok (.iadd, 1) := by decide +kernel
theorem d_LAW_2801 : decode (mC m_LAW) 2801 = .ok (.iaload, 1) := by decide +kernel
theorem d_LAW_2802 : decode (mC m_LAW) 2802 = .ok (.aload_n 3, 1) := by decide +kernel
theorem d_LAW_2803 : decode (mC m_LAW) 2803 = .ok (.invokestatic 347, 3) := by decide +kernel
theorem d_LAW_2806 : decode (mC m_LAW) 2806 = .ok (.istore 5, 2) := by decide +kernel
theorem d_LAW_2808 : decode (mC m_LAW) 2808 = .ok (.aload_n 2, 1) := by decide +kernel
theorem d_LAW_2809 : decode (mC m_LAW) 2809 = .ok (.aload_n 0, 1) := by decide +kernel
theorem d_LAW_2810 : decode (mC m_LAW) 2810 = .ok (.iload 4, 2) := by decide +kernel
theorem d_LAW_2812 : decode (mC m_LAW) 2812 = .ok (.iconst 1, 1) := by decide +kernel
theorem d_LAW_2813 : decode (mC m_LAW) 2813 = .ok (.iadd, 1) := by decide +kernel
theorem d_LAW_2814 : decode (mC m_LAW) 2814 = .ok (.iaload, 1) := by decide +kernel
theorem d_LAW_2815 : decode (mC m_LAW) 2815 = .ok (.aload_n 0, 1) := by decide +kernel
theorem d_LAW_2816 : decode (mC m_LAW) 2816 = .ok (.iload 4, 2) := by decide +kernel
theorem d_LAW_2818 : decode (mC m_LAW) 2818 = .ok (.iconst 2, 1) := by decide +kernel
theorem d_LAW_2819 : decode (mC m_LAW) 2819 = .ok (.iadd, 1) := by decide +kernel
theorem d_LAW_2820 : decode (mC m_LAW) 2820 = .ok (.iaload, 1) := by decide +kernel
theorem d_LAW_2821 : decode (mC m_LAW) 2821 = .ok (.invokevirtual 349, 3) := by decide +kernel
theorem d_LAW_2824 : decode (mC m_LAW) 2824 = .ok (.istore 6, 2) := by decide +kernel
theorem d_LAW_2826 : decode (mC m_LAW) 2826 = .ok (.aload_n 2, 1) := by decide +kernel
theorem d_LAW_2827 : decode (mC m_LAW) 2827 = .ok (.invokevirtual 171, 3) := by decide +kernel
theorem d_LAW_2830 : decode (mC m_LAW) 2830 = .ok (.iload 5, 2) := by decide +kernel
theorem d_LAW_2832 : decode (mC m_LAW) 2832 = .ok (.if_icmp .eq 5, 3) := by decide +kernel
theorem d_LAW_2835 : decode (mC m_LAW) 2835 = .ok (.iconst 0, 1) := by decide +kernel
theorem d_LAW_2836 : decode (mC m_LAW) 2836 = .ok (.ireturn, 1) := by decide +kernel
theorem d_LAW_2837 : decode (mC m_LAW) 2837 = .ok (.iload 5, 2) := by decide +kernel
theorem d_LAW_2839 : decode (mC m_LAW) 2839 = .ok (.ifCond .ne 15, 3) := by decide +kernel
theorem d_LAW_2842 : decode (mC m_LAW) 2842 = .ok (.aload_n 3, 1) := by decide +kernel
theorem d_LAW_2843 : decode (mC m_LAW) 2843 = .ok (.iconst 0, 1) := by decide +kernel
theorem d_LAW_2844 : decode (mC m_LAW) 2844 = .ok (.laload, 1) := by decide +kernel
theorem d_LAW_2845 : decode (mC m_LAW) 2845 = .ok (.iload 6, 2) := by decide +kernel
theorem d_LAW_2847 : decode (mC m_LAW) 2847 = .ok (.i2l, 1) := by decide +kernel
theorem d_LAW_2848 : decode (mC m_LAW) 2848 = .ok (.lcmp, 1) := by decide +kernel
theorem d_LAW_2849 : decode (mC m_LAW) 2849 = .ok (.ifCond .eq 5, 3) := by decide +kernel
theorem d_LAW_2852 : decode (mC m_LAW) 2852 = .ok (.iconst 0, 1) := by decide +kernel
theorem d_LAW_2853 : decode (mC m_LAW) 2853 = .ok (.ireturn, 1) := by decide +kernel
theorem d_LAW_2854 : decode (mC m_LAW) 2854 = .ok (.goto 430, 3) := by decide +kernel
theorem d_LAW_2857 : decode (mC m_LAW) 2857 = .ok (.aload_n 1, 1) := by decide +kernel
theorem d_LAW_2858 : decode (mC m_LAW) 2858 = .ok (.aload_n 0, 1) := by decide +kernel
theorem d_LAW_2859 : decode (mC m_LAW) 2859 = .ok (.iload 4, 2) := by decide +kernel
theorem d_LAW_2861 : decode (mC m_LAW) 2861 = .ok (.iconst 1, 1) := by decide +kernel
theorem d_LAW_2862 : decode (mC m_LAW) 2862 = .ok (.iadd, 1) := by decide +kernel
theorem d_LAW_2863 : decode (mC m_LAW) 2863 = .ok (.iaload, 1) := by decide +kernel
theorem d_LAW_2864 : decode (mC m_LAW) 2864 = .ok (.aload_n 0, 1) := by decide +kernel
theorem d_LAW_2865 : decode (mC m_LAW) 2865 = .ok (.iload 4, 2) := by decide +kernel
theorem d_LAW_2867 : decode (mC m_LAW) 2867 = .ok (.iconst 2, 1) := by decide +kernel
theorem d_LAW_2868 : decode (mC m_LAW) 2868 = .ok (.iadd, 1) := by decide +kernel
theorem d_LAW_2869 : decode (mC m_LAW) 2869 = .ok (.iaload, 1) := by decide +kernel
theorem d_LAW_2870 : decode (mC m_LAW) 2870 = .ok (.aload_n 3, 1) := by decide +kernel
theorem d_LAW_2871 : decode (mC m_LAW) 2871 = .ok (.invokestatic 350, 3) := by decide +kernel
theorem d_LAW_2874 : decode (mC m_LAW) 2874 = .ok (.istore 5, 2) := by decide +kernel
theorem d_LAW_2876 : decode (mC m_LAW) 2876 = .ok (.aload_n 2, 1) := by decide +kernel
theorem d_LAW_2877 : decode (mC m_LAW) 2877 = .ok (.aload_n 0, 1) := by decide +kernel
theorem d_LAW_2878 : decode (mC m_LAW) 2878 = .ok (.iload 4, 2) := by decide +kernel
theorem d_LAW_2880 : decode (mC m_LAW) 2880 = .ok (.iconst 1, 1) := by decide +kernel
theorem d_LAW_2881 : decode (mC m_LAW) 2881 = .ok (.iadd, 1) := by decide +kernel
theorem d_LAW_2882 : decode (mC m_LAW) 2882 = .ok (.iaload, 1) := by decide +kernel
theorem d_LAW_2883 : decode (mC m_LAW) 2883 = .ok (.aload_n 0, 1) := by decide +kernel
theorem d_LAW_2884 : decode (mC m_LAW) 2884 = .ok (.iload 4, 2) := by decide +kernel
theorem d_LAW_2886 : decode (mC m_LAW) 2886 = .ok (.iconst 2, 1) := by decide +kernel
theorem d_LAW_2887 : decode (mC m_LAW) 2887 = .ok (.iadd, 1) := by decide +kernel
theorem d_LAW_2888 : decode (mC m_LAW) 2888 = .ok (.iaload, 1) := by decide +kernel
theorem d_LAW_2889 : decode (mC m_LAW) 2889 = .ok (.invokevirtual 352, 3) := by decide +kernel
theorem d_LAW_2892 : decode (mC m_LAW) 2892 = .ok (.istore 6, 2) := by decide +kernel
theorem d_LAW_2894 : decode (mC m_LAW) 2894 = .ok (.aload_n 2, 1) := by decide +kernel
theorem d_LAW_2895 : decode (mC m_LAW) 2895 = .ok (.invokevirtual 171, 3) := by decide +kernel
theorem d_LAW_2898 : decode (mC m_LAW) 2898 = .ok (.iload 5, 2) := by decide +kernel
theorem d_LAW_2900 : decode (mC m_LAW) 2900 = .ok (.if_icmp .eq 5, 3) := by decide +kernel
theorem d_LAW_2903 : decode (mC m_LAW) 2903 = .ok (.iconst 0, 1) := by decide +kernel
theorem d_LAW_2904 : decode (mC m_LAW) 2904 = .ok (.ireturn, 1) := by decide +kernel
theorem d_LAW_2905 : decode (mC m_LAW) 2905 = .ok (.iload 5, 2) := by decide +kernel
theorem d_LAW_2907 : decode (mC m_LAW) 2907 = .ok (.ifCond .ne 15, 3) := by decide +kernel
theorem d_LAW_2910 : decode (mC m_LAW) 2910 = .ok (.aload_n 3, 1) := by decide +kernel
theorem d_LAW_2911 : decode (mC m_LAW) 2911 = .ok (.iconst 0, 1) := by decide +kernel
theorem d_LAW_2912 : decode (mC m_LAW) 2912 = .ok (.laload, 1) := by decide +kernel
theorem d_LAW_2913 : decode (mC m_LAW) 2913 = .ok (.iload 6, 2) := by decide +kernel
theorem d_LAW_2915 : decode (mC m_LAW) 2915 = .ok (.i2l, 1) := by decide +kernel
theorem d_LAW_2916 : decode (mC m_LAW) 2916 = .ok (.lcmp, 1) := by decide +kernel
theorem d_LAW_2917 : decode (mC m_LAW) 2917 = .ok (.ifCond .eq 5, 3) := by decide +kernel
theorem d_LAW_2920 : decode (mC m_LAW) 2920 = .ok (.iconst 0, 1) := by decide +kernel
theorem d_LAW_2921 : decode (mC m_LAW) 2921 = .ok (.ireturn, 1) := by decide +kernel
theorem d_LAW_2922 : decode (mC m_LAW) 2922 = .ok (.goto 362, 3) := by decide +kernel
theorem d_LAW_2925 : decode (mC m_LAW) 2925 = .ok (.aload_n 1, 1) := by decide +kernel
theorem d_LAW_2926 : decode (mC m_LAW) 2926 = .ok (.invokevirtual 353, 3) := by decide +kernel
theorem d_LAW_2929 : decode (mC m_LAW) 2929 = .ok (.aload_n 2, 1) := by decide +kernel
theorem d_LAW_2930 : decode (mC m_LAW) 2930 = .ok (.invokevirtual 356, 3) := by decide +kernel
theorem d_LAW_2933 : decode (mC m_LAW) 2933 = .ok (.if_icmp .eq 351, 3) := by decide +kernel
theorem d_LAW_2936 : decode (mC m_LAW) 2936 = .ok (.iconst 0, 1) := by decide +kernel
theorem d_LAW_2937 : decode (mC m_LAW) 2937 = .ok (.ireturn, 1) := by decide +kernel
theorem d_LAW_2938 : decode (mC m_LAW) 2938 = .ok (.aload_n 1, 1) := by decide +kernel
theorem d_LAW_2939 : decode (mC m_LAW) 2939 = .ok (.aload_n 0, 1) := by decide +kernel
theorem d_LAW_2940 : decode (mC m_LAW) 2940 = .ok (.iload 4, 2) := by decide +kernel
theorem d_LAW_2942 : decode (mC m_LAW) 2942 = .ok (.iconst 1, 1) := by decide +kernel
theorem d_LAW_2943 : decode (mC m_LAW) 2943 = .ok (.iadd, 1) := by decide +kernel
theorem d_LAW_2944 : decode (mC m_LAW) 2944 = .ok (.iaload, 1) := by decide +kernel
theorem d_LAW_2945 : decode (mC m_LAW) 2945 = .ok (.aload_n 3, 1) := by decide +kernel
theorem d_LAW_2946 : decode (mC m_LAW) 2946 = .ok (.invokestatic 357, 3) := by decide +kernel
theorem d_LAW_2949 : decode (mC m_LAW) 2949 = .ok (.istore 5, 2) := by decide +kernel
theorem d_LAW_2951 : decode (mC m_LAW) 2951 = .ok (.aload_n 2, 1) := by decide +kernel
theorem d_LAW_2952 : decode (mC m_LAW) 2952 = .ok (.aload_n 0, 1) := by decide +kernel
theorem d_LAW_2953 : decode (mC m_LAW) 2953 = .ok (.iload 4, 2) := by decide +kernel
theorem d_LAW_2955 : decode (mC m_LAW) 2955 = .ok (.iconst 1, 1) := by decide +kernel
theorem d_LAW_2956 : decode (mC m_LAW) 2956 = .ok (.iadd, 1) := by decide +kernel
theorem d_LAW_2957 : decode (mC m_LAW) 2957 = .ok (.iaload, 1) := by decide +kernel
theorem d_LAW_2958 : decode (mC m_LAW) 2958 = .ok (.invokevirtual 359, 3) := by decide +kernel
theorem d_LAW_2961 : decode (mC m_LAW) 2961 = .ok (.istore 6, 2) := by decide +kernel
theorem d_LAW_2963 : decode (mC m_LAW) 2963 = .ok (.aload_n 2, 1) := by decide +kernel
theorem d_LAW_2964 : decode (mC m_LAW) 2964 = .ok (.invokevirtual 171, 3) := by decide +kernel
theorem d_LAW_2967 : decode (mC m_LAW) 2967 = .ok (.iload 5, 2) := by decide +kernel
theorem d_LAW_2969 : decode (mC m_LAW) 2969 = .ok (.if_icmp .eq 5, 3) := by decide +kernel
theorem d_LAW_2972 : decode (mC m_LAW) 2972 = .ok (.iconst 0, 1) := by decide +kernel
theorem d_LAW_2973 : decode (mC m_LAW) 2973 = .ok (.ireturn, 1) := by decide +kernel
theorem d_LAW_2974 : decode (mC m_LAW) 2974 = .ok (.iload 5, 2) := by decide +kernel
theorem d_LAW_2976 : decode (mC m_LAW) 2976 = .ok (.ifCond .ne 15, 3) := by decide +kernel
theorem d_LAW_2979 : decode (mC m_LAW) 2979 = .ok (.aload_n 3, 1) := by decide +kernel
theorem d_LAW_2980 : decode (mC m_LAW) 2980 = .ok (.iconst 0, 1) := by decide +kernel
theorem d_LAW_2981 : decode (mC m_LAW) 2981 = .ok (.laload, 1) := by decide +kernel
theorem d_LAW_2982 : decode (mC m_LAW) 2982 = .ok (.iload 6, 2) := by decide +kernel
theorem d_LAW_2984 : decode (mC m_LAW) 2984 = .ok (.i2l, 1) := by decide +kernel
theorem d_LAW_2985 : decode (mC m_LAW) 2985 = .ok (.lcmp, 1) := by decide +kernel
theorem d_LAW_2986 : decode (mC m_LAW) 2986 = .ok (.ifCond .eq 5, 3) := by decide +kernel
theorem d_LAW_2989 : decode (mC m_LAW) 2989 = .ok (.iconst 0, 1) := by decide +kernel
theorem d_LAW_2990 : decode (mC m_LAW) 2990 = .ok (.ireturn, 1) := by decide +kernel
theorem d_LAW_2991 : decode (mC m_LAW) 2991 = .ok (.goto 293, 3) := by decide +kernel
theorem d_LAW_2994 : decode (mC m_LAW) 2994 = .ok (.aload_n 1, 1) := by decide +kernel
theorem d_LAW_2995 : decode (mC m_LAW) 2995 = .ok (.aload_n 0, 1) := by decide +kernel
theorem d_LAW_2996 : decode (mC m_LAW) 2996 = .ok (.iload 4, 2) := by decide +kernel
theorem d_LAW_2998 : decode (mC m_LAW) 2998 = .ok (.iconst 1, 1) := by decide +kernel
theorem d_LAW_2999 : decode (mC m_LAW) 2999 = .ok (.iadd, 1) := by decide +kernel
theorem d_LAW_3000 : decode (mC m_LAW) 3000 = .ok (.iaload, 1) := by decide +kernel
theorem d_LAW_3001 : decode (mC m_LAW) 3001 = .ok (.aload_n 3, 1) := by decide +kernel
theorem d_LAW_3002 : decode (mC m_LAW) 3002 = .ok (.invokestatic 360, 3) := by decide +kernel
theorem d_LAW_3005 : decode (mC m_LAW) 3005 = .ok (.istore 5, 2) := by decide +kernel
theorem d_LAW_3007 : decode (mC m_LAW) 3007 = .ok (.aload_n 2, 1) := by decide +kernel
theorem d_LAW_3008 : decode (mC m_LAW) 3008 = .ok (.aload_n 0, 1) := by decide +kernel
theorem d_LAW_3009 : decode (mC m_LAW) 3009 = .ok (.iload 4, 2) := by decide +kernel
theorem d_LAW_3011 : decode (mC m_LAW) 3011 = .ok (.iconst 1, 1) := by decide +kernel
theorem d_LAW_3012 : decode (mC m_LAW) 3012 = .ok (.iadd, 1) := by decide +kernel
theorem d_LAW_3013 : decode (mC m_LAW) 3013 = .ok (.iaload, 1) := by decide +kernel
theorem d_LAW_3014 : decode (mC m_LAW) 3014 = .ok (.invokevirtual 362, 3) := by decide +kernel
theorem d_LAW_3017 : decode (mC m_LAW) 3017 = .ok (.istore 6, 2) := by decide +kernel
theorem d_LAW_3019 : decode (mC m_LAW) 3019 = .ok (.aload_n 2, 1) := by decide +kernel
theorem d_LAW_3020 : decode (mC m_LAW) 3020 = .ok (.invokevirtual 171, 3) := by decide +kernel
theorem d_LAW_3023 : decode (mC m_LAW) 3023 = .ok (.iload 5, 2) := by decide +kernel
theorem d_LAW_3025 : decode (mC m_LAW) 3025 = .ok (.if_icmp .eq 5, 3) := by decide +kernel
theorem d_LAW_3028 : decode (mC m_LAW) 3028 = .ok (.iconst 0, 1) := by decide +kernel
theorem d_LAW_3029 : decode (mC m_LAW) 3029 = .ok (.ireturn, 1) := by decide +kernel
theorem d_LAW_3030 : decode (mC m_LAW) 3030 = .ok (.iload 5, 2) := by decide +kernel
theorem d_LAW_3032 : decode (mC m_LAW) 3032 = .ok (.ifCond .ne 15, 3) := by decide +kernel
theorem d_LAW_3035 : decode (mC m_LAW) 3035 = .ok (.aload_n 3, 1) := by decide +kernel
theorem d_LAW_3036 : decode (mC m_LAW) 3036 = .ok (.iconst 0, 1) := by decide +kernel
theorem d_LAW_3037 : decode (mC m_LAW) 3037 = .ok (.laload, 1) := by decide +kernel
theorem d_LAW_3038 : decode (mC m_LAW) 3038 = .ok (.iload 6, 2) := by decide +kernel
theorem d_LAW_3040 : decode (mC m_LAW) 3040 = .ok (.i2l, 1) := by decide +kernel
theorem d_LAW_3041 : decode (mC m_LAW) 3041 = .ok (.lcmp, 1) := by decide +kernel
theorem d_LAW_3042 : decode (mC m_LAW) 3042 = .ok (.ifCond .eq 5, 3) := by decide +kernel
theorem d_LAW_3045 : decode (mC m_LAW) 3045 = .ok (.iconst 0, 1) := by decide +kernel
theorem d_LAW_3046 : decode (mC m_LAW) 3046 = .ok (.ireturn, 1) := by decide +kernel
theorem d_LAW_3047 : decode (mC m_LAW) 3047 = .ok (.goto 237, 3) := by decide +kernel
theorem d_LAW_3050 : decode (mC m_LAW) 3050 = .ok (.aload_n 1, 1) := by decide +kernel
theorem d_LAW_3051 : decode (mC m_LAW) 3051 = .ok (.aload_n 0, 1) := by decide +kernel
theorem d_LAW_3052 : decode (mC m_LAW) 3052 = .ok (.iload 4, 2) := by decide +kernel
theorem d_LAW_3054 : decode (mC m_LAW) 3054 = .ok (.iconst 1, 1) := by decide +kernel
theorem d_LAW_3055 : decode (mC m_LAW) 3055 = .ok (.iadd, 1) := by decide +kernel
theorem d_LAW_3056 : decode (mC m_LAW) 3056 = .ok (.iaload, 1) := by decide +kernel
theorem d_LAW_3057 : decode (mC m_LAW) 3057 = .ok (.aload_n 3, 1) := by decide +kernel
theorem d_LAW_3058 : decode (mC m_LAW) 3058 = .ok (.invokestatic 363, 3) := by decide +kernel
theorem d_LAW_3061 : decode (mC m_LAW) 3061 = .ok (.istore 5, 2) := by decide +kernel
theorem d_LAW_3063 : decode (mC m_LAW) 3063 = .ok (.aload_n 2, 1) := by decide +kernel
theorem d_LAW_3064 : decode (mC m_LAW) 3064 = .ok (.aload_n 0, 1) := by decide +kernel
theorem d_LAW_3065 : decode (mC m_LAW) 3065 = .ok (.iload 4, 2) := by decide +kernel
theorem d_LAW_3067 : decode (mC m_LAW) 3067 = .ok (.iconst 1, 1) := by decide +kernel
theorem d_LAW_3068 : decode (mC m_LAW) 3068 = .ok (.iadd, 1) := by decide +kernel
theorem d_LAW_3069 : decode (mC m_LAW) 3069 = .ok (.iaload, 1) := by decide +kernel
theorem d_LAW_3070 : decode (mC m_LAW) 3070 = .ok (.invokevirtual 365, 3) := by decide +kernel
theorem d_LAW_3073 : decode (mC m_LAW) 3073 = .ok (.istore 6, 2) := by decide +kernel
theorem d_LAW_3075 : decode (mC m_LAW) 3075 = .ok (.aload_n 2, 1) := by decide +kernel
theorem d_LAW_3076 : decode (mC m_LAW) 3076 = .ok (.invokevirtual 171, 3) := by decide +kernel
theorem d_LAW_3079 : decode (mC m_LAW) 3079 = .ok (.iload 5, 2) := by decide +kernel
theorem d_LAW_3081 : decode (mC m_LAW) 3081 = .ok (.if_icmp .eq 5, 3) := by decide +kernel
theorem d_LAW_3084 : decode (mC m_LAW) 3084 = .ok (.iconst 0, 1) := by decide +kernel
theorem d_LAW_3085 : decode (mC m_LAW) 3085 = .ok (.ireturn, 1) := by decide +kernel
theorem d_LAW_3086 : decode (mC m_LAW) 3086 = .ok (.iload 5, 2) := by decide +kernel
theorem d_LAW_3088 : decode (mC m_LAW) 3088 = .ok (.ifCond .ne 15, 3) := by decide +kernel
theorem d_LAW_3091 : decode (mC m_LAW) 3091 = .ok (.aload_n 3, 1) := by decide +kernel
theorem d_LAW_3092 : decode (mC m_LAW) 3092 = .ok (.iconst 0, 1) := by decide +kernel
theorem d_LAW_3093 : decode (mC m_LAW) 3093 = .ok (.laload, 1) := by decide +kernel
theorem d_LAW_3094 : decode (mC m_LAW) 3094 = .ok (.iload 6, 2) := by decide +kernel
theorem d_LAW_3096 : decode (mC m_LAW) 3096 = .ok (.i2l, 1) := by decide +kernel
theorem d_LAW_3097 : decode (mC m_LAW) 3097 = .ok (.lcmp, 1) := by decide +kernel
theorem d_LAW_3098 : decode (mC m_LAW) 3098 = .ok (.ifCond .eq 5, 3) := by decide +kernel
theorem d_LAW_3101 : decode (mC m_LAW) 3101 = .ok (.iconst 0, 1) := by decide +kernel
theorem d_LAW_3102 : decode (mC m_LAW) 3102 = .ok (.ireturn, 1) := by decide +kernel
theorem d_LAW_3103 : decode (mC m_LAW) 3103 = .ok (.goto 181, 3) := by decide +kernel
theorem d_LAW_3106 : decode (mC m_LAW) 3106 = .ok (.aload_n 1, 1) := by decide +kernel
theorem d_LAW_3107 : decode (mC m_LAW) 3107 = .ok (.invokevirtual 366, 3) := by decide +kernel
theorem d_LAW_3110 : decode (mC m_LAW) 3110 = .ok (.aload_n 2, 1) := by decide +kernel
theorem d_LAW_3111 : decode (mC m_LAW) 3111 = .ok (.invokevirtual 369, 3) := by decide +kernel
theorem d_LAW_3114 : decode (mC m_LAW) 3114 = .ok (.if_icmp .eq 170, 3) := by decide +kernel
theorem d_LAW_3117 : decode (mC m_LAW) 3117 = .ok (.iconst 0, 1) := by decide +kernel
theorem d_LAW_3118 : decode (mC m_LAW) 3118 = .ok (.ireturn, 1) := by decide +kernel
theorem d_LAW_3119 : decode (mC m_LAW) 3119 = .ok (.aload_n 1, 1) := by decide +kernel
theorem d_LAW_3120 : decode (mC m_LAW) 3120 = .ok (.invokevirtual 370, 3) := by decide +kernel
theorem d_LAW_3123 : decode (mC m_LAW) 3123 = .ok (.dstore 5, 2) := by decide +kernel
theorem d_LAW_3125 : decode (mC m_LAW) 3125 = .ok (.aload_n 2, 1) := by decide +kernel
theorem d_LAW_3126 : decode (mC m_LAW) 3126 = .ok (.invokevirtual 374, 3) := by decide +kernel
theorem d_LAW_3129 : decode (mC m_LAW) 3129 = .ok (.dstore 7, 2) := by decide +kernel
theorem d_LAW_3131 : decode (mC m_LAW) 3131 = .ok (.dload 5, 2) := by decide +kernel
theorem d_LAW_3133 : decode (mC m_LAW) 3133 = .ok (.dload 7, 2) := by decide +kernel
theorem d_LAW_3135 : decode (mC m_LAW) 3135 = .ok (.dcmp .l, 1) := by decide +kernel
theorem d_LAW_3136 : decode (mC m_LAW) 3136 = .ok (.ifCond .eq 21, 3) := by decide +kernel
theorem d_LAW_3139 : decode (mC m_LAW) 3139 = .ok (.dload 5, 2) := by decide +kernel
theorem d_LAW_3141 : decode (mC m_LAW) 3141 = .ok (.dload 5, 2) := by decide +kernel
theorem d_LAW_3143 : decode (mC m_LAW) 3143 = .ok (.dcmp .l, 1) := by decide +kernel
theorem d_LAW_3144 : decode (mC m_LAW) 3144 = .ok (.ifCond .eq 11, 3) := by decide +kernel
theorem d_LAW_3147 : decode (mC m_LAW) 3147 = .ok (.dload 7, 2) := by decide +kernel
theorem d_LAW_3149 : decode (mC m_LAW) 3149 = .ok (.dload 7, 2) := by decide +kernel
theorem d_LAW_3151 : decode (mC m_LAW) 3151 = .ok (.dcmp .l, 1) := by decide +kernel
theorem d_LAW_3152 : decode (mC m_LAW) 3152 = .ok (.ifCond .ne 5, 3) := by decide +kernel
theorem d_LAW_3155 : decode (mC m_LAW) 3155 = .ok (.iconst 0, 1) := by decide +kernel
theorem d_LAW_3156 : decode (mC m_LAW) 3156 = .ok (.ireturn, 1) := by decide +kernel
theorem d_LAW_3157 : decode (mC m_LAW) 3157 = .ok (.goto 127, 3) := by decide +kernel
theorem d_LAW_3160 : decode (mC m_LAW) 3160 = .ok (.aload_n 1, 1) := by decide +kernel
theorem d_LAW_3161 : decode (mC m_LAW) 3161 = .ok (.invokevirtual 375, 3) := by decide +kernel
theorem d_LAW_3164 : decode (mC m_LAW) 3164 = .ok (.f2d, 1) := by decide +kernel
theorem d_LAW_3165 : decode (mC m_LAW) 3165 = .ok (.dstore 5, 2) := by decide +kernel
theorem d_LAW_3167 : decode (mC m_LAW) 3167 = .ok (.aload_n 2, 1) := by decide +kernel
theorem d_LAW_3168 : decode (mC m_LAW) 3168 = .ok (.invokevirtual 379, 3) := by decide +kernel
theorem d_LAW_3171 : decode (mC m_LAW) 3171 = .ok (.f2d, 1) := by decide +kernel
theorem d_LAW_3172 : decode (mC m_LAW) 3172 = .ok (.dstore 7, 2) := by decide +kernel
theorem d_LAW_3174 : decode (mC m_LAW) 3174 = .ok (.dload 5, 2) := by decide +kernel
theorem d_LAW_3176 : decode (mC m_LAW) 3176 = .ok (.dload 7, 2) := by decide +kernel
theorem d_LAW_3178 : decode (mC m_LAW) 3178 = .ok (.dcmp .l, 1) := by decide +kernel
theorem d_LAW_3179 : decode (mC m_LAW) 3179 = .ok (.ifCond .eq 21, 3) := by decide +kernel
theorem d_LAW_3182 : decode (mC m_LAW) 3182 = .ok (.dload 5, 2) := by decide +kernel
theorem d_LAW_3184 : decode (mC m_LAW) 3184 = .ok (.dload 5, 2) := by decide +kernel
theorem d_LAW_3186 : decode (mC m_LAW) 3186 = .ok (.dcmp .l, 1) := by decide +kernel
theorem d_LAW_3187 : decode (mC m_LAW) 3187 = .ok (.ifCond .eq 11, 3) := by decide +kernel
theorem d_LAW_3190 : decode (mC m_LAW) 3190 = .ok (.dload 7, 2) := by decide +kernel
theorem d_LAW_3192 : decode (mC m_LAW) 3192 = .ok (.dload 7, 2) := by decide +kernel
theorem d_LAW_3194 : decode (mC m_LAW) 3194 = .ok (.dcmp .l, 1) := by decide +kernel
theorem d_LAW_3195 : decode (mC m_LAW) 3195 = .ok (.ifCond .ne 5, 3) := by decide +kernel
theorem d_LAW_3198 : decode (mC m_LAW) 3198 = .ok (.iconst 0, 1) := by decide +kernel
theorem d_LAW_3199 : decode (mC m_LAW) 3199 = .ok (.ireturn, 1) := by decide +kernel
theorem d_LAW_3200 : decode (mC m_LAW) 3200 = .ok (.goto 84, 3) := by decide +kernel
theorem d_LAW_3203 : decode (mC m_LAW) 3203 = .ok (.aload_n 1, 1) := by decide +kernel
theorem d_LAW_3204 : decode (mC m_LAW) 3204 = .ok (.aload_n 0, 1) := by decide +kernel
theorem d_LAW_3205 : decode (mC m_LAW) 3205 = .ok (.iload 4, 2) := by decide +kernel
theorem d_LAW_3207 : decode (mC m_LAW) 3207 = .ok (.iconst 1, 1) := by decide +kernel
theorem d_LAW_3208 : decode (mC m_LAW) 3208 = .ok (.iadd, 1) := by decide +kernel
theorem d_LAW_3209 : decode (mC m_LAW) 3209 = .ok (.iaload, 1) := by decide +kernel
theorem d_LAW_3210 : decode (mC m_LAW) 3210 = .ok (.aload_n 3, 1) := by decide +kernel
theorem d_LAW_3211 : decode (mC m_LAW) 3211 = .ok (.invokestatic 380, 3) := by decide +kernel
theorem d_LAW_3214 : decode (mC m_LAW) 3214 = .ok (.istore 5, 2) := by decide +kernel
theorem d_LAW_3216 : decode (mC m_LAW) 3216 = .ok (.aload_n 2, 1) := by decide +kernel
theorem d_LAW_3217 : decode (mC m_LAW) 3217 = .ok (.aload_n 0, 1) := by decide +kernel
theorem d_LAW_3218 : decode (mC m_LAW) 3218 = .ok (.iload 4, 2) := by decide +kernel
theorem d_LAW_3220 : decode (mC m_LAW) 3220 = .ok (.iconst 1, 1) := by decide +kernel
theorem d_LAW_3221 : decode (mC m_LAW) 3221 = .ok (.iadd, 1) := by decide +kernel
theorem d_LAW_3222 : decode (mC m_LAW) 3222 = .ok (.iaload, 1) := by decide +kernel
theorem d_LAW_3223 : decode (mC m_LAW) 3223 = .ok (.invokevirtual 382, 3) := by decide +kernel
theorem d_LAW_3226 : decode (mC m_LAW) 3226 = .ok (.istore 6, 2) := by decide +kernel
theorem d_LAW_3228 : decode (mC m_LAW) 3228 = .ok (.aload_n 2, 1) := by decide +kernel
theorem d_LAW_3229 : decode (mC m_LAW) 3229 = .ok (.invokevirtual 171, 3) := by decide +kernel
theorem d_LAW_3232 : decode (mC m_LAW) 3232 = .ok (.iload 5, 2) := by decide +kernel
theorem d_LAW_3234 : decode (mC m_LAW) 3234 = .ok (.if_icmp .eq 5, 3) := by decide +kernel
theorem d_LAW_3237 : decode (mC m_LAW) 3237 = .ok (.iconst 0, 1) := by decide +kernel
theorem d_LAW_3238 : decode (mC m_LAW) 3238 = .ok (.ireturn, 1) := by decide +kernel
theorem d_LAW_3239 : decode (mC m_LAW) 3239 = .ok (.iload 5, 2) := by decide +kernel
theorem d_LAW_3241 : decode (mC m_LAW) 3241 = .ok (.ifCond .ne 15, 3) := by decide +kernel
theorem d_LAW_3244 : decode (mC m_LAW) 3244 = .ok (.aload_n 3, 1) := by decide +kernel
theorem d_LAW_3245 : decode (mC m_LAW) 3245 = .ok (.iconst 0, 1) := by decide +kernel
theorem d_LAW_3246 : decode (mC m_LAW) 3246 = .ok (.laload, 1) := by decide +kernel
theorem d_LAW_3247 : decode (mC m_LAW) 3247 = .ok (.iload 6, 2) := by decide +kernel
theorem d_LAW_3249 : decode (mC m_LAW) 3249 = .ok (.i2l, 1) := by decide +kernel
theorem d_LAW_3250 : decode (mC m_LAW) 3250 = .ok (.lcmp, 1) := by decide +kernel
theorem d_LAW_3251 : decode (mC m_LAW) 3251 = .ok (.ifCond .eq 5, 3) := by decide +kernel
theorem d_LAW_3254 : decode (mC m_LAW) 3254 = .ok (.iconst 0, 1) := by decide +kernel
theorem d_LAW_3255 : decode (mC m_LAW) 3255 = .ok (.ireturn, 1) := by decide +kernel
theorem d_LAW_3256 : decode (mC m_LAW) 3256 = .ok (.goto 28, 3) := by decide +kernel
theorem d_LAW_3259 : decode (mC m_LAW) 3259 = .ok (.aload_n 1, 1) := by decide +kernel
theorem d_LAW_3260 : decode (mC m_LAW) 3260 = .ok (.aload_n 0, 1) := by decide +kernel
theorem d_LAW_3261 : decode (mC m_LAW) 3261 = .ok (.iload 4, 2) := by decide +kernel
theorem d_LAW_3263 : decode (mC m_LAW) 3263 = .ok (.iconst 1, 1) := by decide +kernel
theorem d_LAW_3264 : decode (mC m_LAW) 3264 = .ok (.iadd, 1) := by decide +kernel
theorem d_LAW_3265 : decode (mC m_LAW) 3265 = .ok (.iaload, 1) := by decide +kernel
theorem d_LAW_3266 : decode (mC m_LAW) 3266 = .ok (.invokevirtual 383, 3) := by decide +kernel
theorem d_LAW_3269 : decode (mC m_LAW) 3269 = .ok (.aload_n 2, 1) := by decide +kernel
theorem d_LAW_3270 : decode (mC m_LAW) 3270 = .ok (.aload_n 0, 1) := by decide +kernel
theorem d_LAW_3271 : decode (mC m_LAW) 3271 = .ok (.iload 4, 2) := by decide +kernel
theorem d_LAW_3273 : decode (mC m_LAW) 3273 = .ok (.iconst 1, 1) := by decide +kernel
theorem d_LAW_3274 : decode (mC m_LAW) 3274 = .ok (.iadd, 1) := by decide +kernel
theorem d_LAW_3275 : decode (mC m_LAW) 3275 = .ok (.iaload, 1) := by decide +kernel
theorem d_LAW_3276 : decode (mC m_LAW) 3276 = .ok (.invokevirtual 386, 3) := by decide +kernel
theorem d_LAW_3279 : decode (mC m_LAW) 3279 = .ok (.if_icmp .eq 5, 3) := by decide +kernel
theorem d_LAW_3282 : decode (mC m_LAW) 3282 = .ok (.iconst 0, 1) := by decide +kernel
theorem d_LAW_3283 : decode (mC m_LAW) 3283 = .ok (.ireturn, 1) := by decide +kernel
theorem d_LAW_3284 : decode (mC m_LAW) 3284 = .ok (.iinc 4 6, 3) := by decide +kernel
theorem d_LAW_3287 : decode (mC m_LAW) 3287 = .ok (.goto (-3264), 3) := by decide +kernel
theorem d_LAW_3290 : decode (mC m_LAW) 3290 = .ok (.iconst 1, 1) := by decide +kernel
theorem d_LAW_3291 : decode (mC m_LAW) 3291 = .ok (.ireturn, 1) := by decide +kernel
