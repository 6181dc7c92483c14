/-! the law: what its bytes say, 7 -/
theorem dl_1778 : decode code 1778 = .ok (.invokevirtual 231, 3) := by decide +kernel
theorem dl_1781 : decode code 1781 = .ok (.lcmp, 1) := by decide +kernel
theorem dl_1782 : decode code 1782 = .ok (.ifCond .eq 243, 3) := by decide +kernel
theorem dl_1785 : decode code 1785 = .ok (.iconst 0, 1) := by decide +kernel
theorem dl_1786 : decode code 1786 = .ok (.ireturn, 1) := by decide +kernel
theorem dl_1787 : decode code 1787 = .ok (.aload_n 1, 1) := by decide +kernel
theorem dl_1788 : decode code 1788 = .ok (.aload_n 0, 1) := by decide +kernel
theorem dl_1789 : decode code 1789 = .ok (.iload_n 3, 1) := by decide +kernel
theorem dl_1790 : decode code 1790 = .ok (.iconst 1, 1) := by decide +kernel
theorem dl_1791 : decode code 1791 = .ok (.iadd, 1) := by decide +kernel
theorem dl_1792 : decode code 1792 = .ok (.iaload, 1) := by decide +kernel
theorem dl_1793 : decode code 1793 = .ok (.aload_n 0, 1) := by decide +kernel
theorem dl_1794 : decode code 1794 = .ok (.iload_n 3, 1) := by decide +kernel
theorem dl_1795 : decode code 1795 = .ok (.iconst 2, 1) := by decide +kernel
theorem dl_1796 : decode code 1796 = .ok (.iadd, 1) := by decide +kernel
theorem dl_1797 : decode code 1797 = .ok (.iaload, 1) := by decide +kernel
theorem dl_1798 : decode code 1798 = .ok (.invokevirtual 232, 3) := by decide +kernel
theorem dl_1801 : decode code 1801 = .ok (.aload_n 2, 1) := by decide +kernel
theorem dl_1802 : decode code 1802 = .ok (.aload_n 0, 1) := by decide +kernel
theorem dl_1803 : decode code 1803 = .ok (.iload_n 3, 1) := by decide +kernel
theorem dl_1804 : decode code 1804 = .ok (.iconst 1, 1) := by decide +kernel
theorem dl_1805 : decode code 1805 = .ok (.iadd, 1) := by decide +kernel
theorem dl_1806 : decode code 1806 = .ok (.iaload, 1) := by decide +kernel
theorem dl_1807 : decode code 1807 = .ok (.aload_n 0, 1) := by decide +kernel
theorem dl_1808 : decode code 1808 = .ok (.iload_n 3, 1) := by decide +kernel
theorem dl_1809 : decode code 1809 = .ok (.iconst 2, 1) := by decide +kernel
theorem dl_1810 : decode code 1810 = .ok (.iadd, 1) := by decide +kernel
theorem dl_1811 : decode code 1811 = .ok (.iaload, 1) := by decide +kernel
theorem dl_1812 : decode code 1812 = .ok (.invokevirtual 235, 3) := by decide +kernel
theorem dl_1815 : decode code 1815 = .ok (.if_icmp .eq 210, 3) := by decide +kernel
theorem dl_1818 : decode code 1818 = .ok (.iconst 0, 1) := by decide +kernel
theorem dl_1819 : decode code 1819 = .ok (.ireturn, 1) := by decide +kernel
theorem dl_1820 : decode code 1820 = .ok (.aload_n 1, 1) := by decide +kernel
theorem dl_1821 : decode code 1821 = .ok (.aload_n 0, 1) := by decide +kernel
theorem dl_1822 : decode code 1822 = .ok (.iload_n 3, 1) := by decide +kernel
theorem dl_1823 : decode code 1823 = .ok (.iconst 1, 1) := by decide +kernel
theorem dl_1824 : decode code 1824 = .ok (.iadd, 1) := by decide +kernel
theorem dl_1825 : decode code 1825 = .ok (.iaload, 1) := by decide +kernel
theorem dl_1826 : decode code 1826 = .ok (.aload_n 0, 1) := by decide +kernel
theorem dl_1827 : decode code 1827 = .ok (.iload_n 3, 1) := by decide +kernel
theorem dl_1828 : decode code 1828 = .ok (.iconst 2, 1) := by decide +kernel
theorem dl_1829 : decode code 1829 = .ok (.iadd, 1) := by decide +kernel
theorem dl_1830 : decode code 1830 = .ok (.iaload, 1) := by decide +kernel
theorem dl_1831 : decode code 1831 = .ok (.invokevirtual 236, 3) := by decide +kernel
theorem dl_1834 : decode code 1834 = .ok (.aload_n 2, 1) := by decide +kernel
theorem dl_1835 : decode code 1835 = .ok (.aload_n 0, 1) := by decide +kernel
theorem dl_1836 : decode code 1836 = .ok (.iload_n 3, 1) := by decide +kernel
theorem dl_1837 : decode code 1837 = .ok (.iconst 1, 1) := by decide +kernel
theorem dl_1838 : decode code 1838 = .ok (.iadd, 1) := by decide +kernel
theorem dl_1839 : decode code 1839 = .ok (.iaload, 1) := by decide +kernel
theorem dl_1840 : decode code 1840 = .ok (.aload_n 0, 1) := by decide +kernel
theorem dl_1841 : decode code 1841 = .ok (.iload_n 3, 1) := by decide +kernel
theorem dl_1842 : decode code 1842 = .ok (.iconst 2, 1) := by decide +kernel
theorem dl_1843 : decode code 1843 = .ok (.iadd, 1) := by decide +kernel
theorem dl_1844 : decode code 1844 = .ok (.iaload, 1) := by decide +kernel
theorem dl_1845 : decode code 1845 = .ok (.invokevirtual 239, 3) := by decide +kernel
theorem dl_1848 : decode code 1848 = .ok (.lcmp, 1) := by decide +kernel
theorem dl_1849 : decode code 1849 = .ok (.ifCond .eq 176, 3) := by decide +kernel
theorem dl_1852 : decode code 1852 = .ok (.iconst 0, 1) := by decide +kernel
theorem dl_1853 : decode code 1853 = .ok (.ireturn, 1) := by decide +kernel
theorem dl_1854 : decode code 1854 = .ok (.aload_n 1, 1) := by decide +kernel
theorem dl_1855 : decode code 1855 = .ok (.aload_n 0, 1) := by decide +kernel
theorem dl_1856 : decode code 1856 = .ok (.iload_n 3, 1) := by decide +kernel
theorem dl_1857 : decode code 1857 = .ok (.iconst 1, 1) := by decide +kernel
theorem dl_1858 : decode code 1858 = .ok (.iadd, 1) := by decide +kernel
theorem dl_1859 : decode code 1859 = .ok (.iaload, 1) := by decide +kernel
theorem dl_1860 : decode code 1860 = .ok (.invokevirtual 240, 3) := by decide +kernel
theorem dl_1863 : decode code 1863 = .ok (.aload_n 2, 1) := by decide +kernel
theorem dl_1864 : decode code 1864 = .ok (.aload_n 0, 1) := by decide +kernel
theorem dl_1865 : decode code 1865 = .ok (.iload_n 3, 1) := by decide +kernel
theorem dl_1866 : decode code 1866 = .ok (.iconst 1, 1) := by decide +kernel
theorem dl_1867 : decode code 1867 = .ok (.iadd, 1) := by decide +kernel
theorem dl_1868 : decode code 1868 = .ok (.iaload, 1) := by decide +kernel
theorem dl_1869 : decode code 1869 = .ok (.invokevirtual 243, 3) := by decide +kernel
theorem dl_1872 : decode code 1872 = .ok (.if_icmp .eq 153, 3) := by decide +kernel
theorem dl_1875 : decode code 1875 = .ok (.iconst 0, 1) := by decide +kernel
theorem dl_1876 : decode code 1876 = .ok (.ireturn, 1) := by decide +kernel
theorem dl_1877 : decode code 1877 = .ok (.aload_n 1, 1) := by decide +kernel
theorem dl_1878 : decode code 1878 = .ok (.aload_n 0, 1) := by decide +kernel
theorem dl_1879 : decode code 1879 = .ok (.iload_n 3, 1) := by decide +kernel
theorem dl_1880 : decode code 1880 = .ok (.iconst 1, 1) := by decide +kernel
theorem dl_1881 : decode code 1881 = .ok (.iadd, 1) := by decide +kernel
theorem dl_1882 : decode code 1882 = .ok (.iaload, 1) := by decide +kernel
theorem dl_1883 : decode code 1883 = .ok (.aload_n 0, 1) := by decide +kernel
theorem dl_1884 : decode code 1884 = .ok (.iload_n 3, 1) := by decide +kernel
theorem dl_1885 : decode code 1885 = .ok (.iconst 2, 1) := by decide +kernel
theorem dl_1886 : decode code 1886 = .ok (.iadd, 1) := by decide +kernel
theorem dl_1887 : decode code 1887 = .ok (.iaload, 1) := by decide +kernel
theorem dl_1888 : decode code 1888 = .ok (.invokevirtual 244, 3) := by decide +kernel
theorem dl_1891 : decode code 1891 = .ok (.aload_n 2, 1) := by decide +kernel
theorem dl_1892 : decode code 1892 = .ok (.aload_n 0, 1) := by decide +kernel
theorem dl_1893 : decode code 1893 = .ok (.iload_n 3, 1) := by decide +kernel
theorem dl_1894 : decode code 1894 = .ok (.iconst 1, 1) := by decide +kernel
theorem dl_1895 : decode code 1895 = .ok (.iadd, 1) := by decide +kernel
theorem dl_1896 : decode code 1896 = .ok (.iaload, 1) := by decide +kernel
theorem dl_1897 : decode code 1897 = .ok (.aload_n 0, 1) := by decide +kernel
theorem dl_1898 : decode code 1898 = .ok (.iload_n 3, 1) := by decide +kernel
theorem dl_1899 : decode code 1899 = .ok (.iconst 2, 1) := by decide +kernel
theorem dl_1900 : decode code 1900 = .ok (.iadd, 1) := by decide +kernel
theorem dl_1901 : decode code 1901 = .ok (.iaload, 1) := by decide +kernel
theorem dl_1902 : decode code 1902 = .ok (.invokevirtual 248, 3) := by decide +kernel
theorem dl_1905 : decode code 1905 = .ok (.if_icmp .eq 120, 3) := by decide +kernel
theorem dl_1908 : decode code 1908 = .ok (.iconst 0, 1) := by decide +kernel
theorem dl_1909 : decode code 1909 = .ok (.ireturn, 1) := by decide +kernel
theorem dl_1910 : decode code 1910 = .ok (.aload_n 1, 1) := by decide +kernel
theorem dl_1911 : decode code 1911 = .ok (.aload_n 0, 1) := by decide +kernel
theorem dl_1912 : decode code 1912 = .ok (.iload_n 3, 1) := by decide +kernel
theorem dl_1913 : decode code 1913 = .ok (.iconst 1, 1) := by decide +kernel
theorem dl_1914 : decode code 1914 = .ok (.iadd, 1) := by decide +kernel
theorem dl_1915 : decode code 1915 = .ok (.iaload, 1) := by decide +kernel
theorem dl_1916 : decode code 1916 = .ok (.invokevirtual 249, 3) := by decide +kernel
theorem dl_1919 : decode code 1919 = .ok (.aload_n 2, 1) := by decide +kernel
theorem dl_1920 : decode code 1920 = .ok (.aload_n 0, 1) := by decide +kernel
theorem dl_1921 : decode code 1921 = .ok (.iload_n 3, 1) := by decide +kernel
theorem dl_1922 : decode code 1922 = .ok (.iconst 1, 1) := by decide +kernel
theorem dl_1923 : decode code 1923 = .ok (.iadd, 1) := by decide +kernel
theorem dl_1924 : decode code 1924 = .ok (.iaload, 1) := by decide +kernel
theorem dl_1925 : decode code 1925 = .ok (.invokevirtual 252, 3) := by decide +kernel
theorem dl_1928 : decode code 1928 = .ok (.if_icmp .eq 97, 3) := by decide +kernel
theorem dl_1931 : decode code 1931 = .ok (.iconst 0, 1) := by decide +kernel
theorem dl_1932 : decode code 1932 = .ok (.ireturn, 1) := by decide +kernel
theorem dl_1933 : decode code 1933 = .ok (.aload_n 1, 1) := by decide +kernel
theorem dl_1934 : decode code 1934 = .ok (.aload_n 0, 1) := by decide +kernel
theorem dl_1935 : decode code 1935 = .ok (.iload_n 3, 1) := by decide +kernel
theorem dl_1936 : decode code 1936 = .ok (.iconst 1, 1) := by decide +kernel
theorem dl_1937 : decode code 1937 = .ok (.iadd, 1) := by decide +kernel
theorem dl_1938 : decode code 1938 = .ok (.iaload, 1) := by decide +kernel
theorem dl_1939 : decode code 1939 = .ok (.invokevirtual 253, 3) := by decide +kernel
theorem dl_1942 : decode code 1942 = .ok (.aload_n 2, 1) := by decide +kernel
theorem dl_1943 : decode code 1943 = .ok (.aload_n 0, 1) := by decide +kernel
theorem dl_1944 : decode code 1944 = .ok (.iload_n 3, 1) := by decide +kernel
theorem dl_1945 : decode code 1945 = .ok (.iconst 1, 1) := by decide +kernel
theorem dl_1946 : decode code 1946 = .ok (.iadd, 1) := by decide +kernel
theorem dl_1947 : decode code 1947 = .ok (.iaload, 1) := by decide +kernel
theorem dl_1948 : decode code 1948 = .ok (.invokevirtual 256, 3) := by decide +kernel
theorem dl_1951 : decode code 1951 = .ok (.if_icmp .eq 74, 3) := by decide +kernel
theorem dl_1954 : decode code 1954 = .ok (.iconst 0, 1) := by decide +kernel
theorem dl_1955 : decode code 1955 = .ok (.ireturn, 1) := by decide +kernel
theorem dl_1956 : decode code 1956 = .ok (.aload_n 1, 1) := by decide +kernel
theorem dl_1957 : decode code 1957 = .ok (.aload_n 0, 1) := by decide +kernel
theorem dl_1958 : decode code 1958 = .ok (.iload_n 3, 1) := by decide +kernel
theorem dl_1959 : decode code 1959 = .ok (.iconst 1, 1) := by decide +kernel
theorem dl_1960 : decode code 1960 = .ok (.iadd, 1) := by decide +kernel
theorem dl_1961 : decode code 1961 = .ok (.iaload, 1) := by decide +kernel
theorem dl_1962 : decode code 1962 = .ok (.aload_n 0, 1) := by decide +kernel
theorem dl_1963 : decode code 1963 = .ok (.iload_n 3, 1) := by decide +kernel
theorem dl_1964 : decode code 1964 = .ok (.iconst 2, 1) := by decide +kernel
theorem dl_1965 : decode code 1965 = .ok (.iadd, 1) := by decide +kernel
theorem dl_1966 : decode code 1966 = .ok (.iaload, 1) := by decide +kernel
theorem dl_1967 : decode code 1967 = .ok (.aload_n 0, 1) := by decide +kernel
theorem dl_1968 : decode code 1968 = .ok (.iload_n 3, 1) := by decide +kernel
theorem dl_1969 : decode code 1969 = .ok (.iconst 3, 1) := by decide +kernel
theorem dl_1970 : decode code 1970 = .ok (.iadd, 1) := by decide +kernel
theorem dl_1971 : decode code 1971 = .ok (.iaload, 1) := by decide +kernel
theorem dl_1972 : decode code 1972 = .ok (.invokevirtual 257, 3) := by decide +kernel
theorem dl_1975 : decode code 1975 = .ok (.aload_n 2, 1) := by decide +kernel
theorem dl_1976 : decode code 1976 = .ok (.aload_n 0, 1) := by decide +kernel
theorem dl_1977 : decode code 1977 = .ok (.iload_n 3, 1) := by decide +kernel
theorem dl_1978 : decode code 1978 = .ok (.iconst 1, 1) := by decide +kernel
theorem dl_1979 : decode code 1979 = .ok (.iadd, 1) := by decide +kernel
theorem dl_1980 : decode code 1980 = .ok (.iaload, 1) := by decide +kernel
theorem dl_1981 : decode code 1981 = .ok (.aload_n 0, 1) := by decide +kernel
theorem dl_1982 : decode code 1982 = .ok (.iload_n 3, 1) := by decide +kernel
theorem dl_1983 : decode code 1983 = .ok (.iconst 2, 1) := by decide +kernel
theorem dl_1984 : decode code 1984 = .ok (.iadd, 1) := by decide +kernel
theorem dl_1985 : decode code 1985 = .ok (.iaload, 1) := by decide +kernel
theorem dl_1986 : decode code 1986 = .ok (.aload_n 0, 1) := by decide +kernel
theorem dl_1987 : decode code 1987 = .ok (.iload_n 3, 1) := by decide +kernel
theorem dl_1988 : decode code 1988 = .ok (.iconst 3, 1) := by decide +kernel
theorem dl_1989 : decode code 1989 = .ok (.iadd, 1) := by decide +kernel
theorem dl_1990 : decode code 1990 = .ok (.iaload, 1) := by decide +kernel
theorem dl_1991 : decode code 1991 = .ok (.invokevirtual 260, 3) := by decide +kernel
theorem dl_1994 : decode code 1994 = .ok (.if_icmp .eq 31, 3) := by decide +kernel
theorem dl_1997 : decode code 1997 = .ok (.iconst 0, 1) := by decide +kernel
theorem dl_1998 : decode code 1998 = .ok (.ireturn, 1) := by decide +kernel
theorem dl_1999 : decode code 1999 = .ok (.aload_n 1, 1) := by decide +kernel
theorem dl_2000 : decode code 2000 = .ok (.invokevirtual 261, 3) := by decide +kernel
theorem dl_2003 : decode code 2003 = .ok (.aload_n 2, 1) := by decide +kernel
theorem dl_2004 : decode code 2004 = .ok (.invokevirtual 264, 3) := by decide +kernel
theorem dl_2007 : decode code 2007 = .ok (.if_icmp .eq 18, 3) := by decide +kernel
theorem dl_2010 : decode code 2010 = .ok (.iconst 0, 1) := by decide +kernel
theorem dl_2011 : decode code 2011 = .ok (.ireturn, 1) := by decide +kernel
theorem dl_2012 : decode code 2012 = .ok (.aload_n 1, 1) := by decide +kernel
theorem dl_2013 : decode code 2013 = .ok (.invokevirtual 265, 3) := by decide +kernel
theorem dl_2016 : decode code 2016 = .ok (.aload_n 2, 1) := by decide +kernel
theorem dl_2017 : decode code 2017 = .ok (.invokevirtual 268, 3) := by decide +kernel
theorem dl_2020 : decode code 2020 = .ok (.if_icmp .eq 5, 3) := by decide +kernel
theorem dl_2023 : decode code 2023 = .ok (.iconst 0, 1) := by decide +kernel
theorem dl_2024 : decode code 2024 = .ok (.ireturn, 1) := by decide +kernel
theorem dl_2025 : decode code 2025 = .ok (.iinc 3 6, 3) := by decide +kernel
theorem dl_2028 : decode code 2028 = .ok (.goto (-2010), 3) := by decide +kernel
theorem dl_2031 : decode code 2031 = .ok (.iconst 1, 1) := by decide +kernel
theorem dl_2032 : decode code 2032 = .ok (.ireturn, 1) := by decide +kernel
