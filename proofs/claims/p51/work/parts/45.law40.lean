theorem dL_law_1814 : decode cL_law 1814 = .ok (.aload_n 1, 1) := by decide +kernel
theorem dL_law_1815 : decode cL_law 1815 = .ok (.aload_n 0, 1) := by decide +kernel
theorem dL_law_1816 : decode cL_law 1816 = .ok (.iload_n 3, 1) := by decide +kernel
theorem dL_law_1817 : decode cL_law 1817 = .ok (.iconst 1, 1) := by decide +kernel
theorem dL_law_1818 : decode cL_law 1818 = .ok (.iadd, 1) := by decide +kernel
theorem dL_law_1819 : decode cL_law 1819 = .ok (.iaload, 1) := by decide +kernel
theorem dL_law_1820 : decode cL_law 1820 = .ok (.aload_n 0, 1) := by decide +kernel
theorem dL_law_1821 : decode cL_law 1821 = .ok (.iload_n 3, 1) := by decide +kernel
theorem dL_law_1822 : decode cL_law 1822 = .ok (.iconst 2, 1) := by decide +kernel
theorem dL_law_1823 : decode cL_law 1823 = .ok (.iadd, 1) := by decide +kernel
theorem dL_law_1824 : decode cL_law 1824 = .ok (.iaload, 1) := by decide +kernel
theorem dL_law_1825 : decode cL_law 1825 = .ok (.aload_n 0, 1) := by decide +kernel
theorem dL_law_1826 : decode cL_law 1826 = .ok (.iload_n 3, 1) := by decide +kernel
theorem dL_law_1827 : decode cL_law 1827 = .ok (.iconst 3, 1) := by decide +kernel
theorem dL_law_1828 : decode cL_law 1828 = .ok (.iadd, 1) := by decide +kernel
theorem dL_law_1829 : decode cL_law 1829 = .ok (.iaload, 1) := by decide +kernel
theorem dL_law_1830 : decode cL_law 1830 = .ok (.aload_n 0, 1) := by decide +kernel
theorem dL_law_1831 : decode cL_law 1831 = .ok (.iload_n 3, 1) := by decide +kernel
theorem dL_law_1832 : decode cL_law 1832 = .ok (.iconst 4, 1) := by decide +kernel
theorem dL_law_1833 : decode cL_law 1833 = .ok (.iadd, 1) := by decide +kernel
theorem dL_law_1834 : decode cL_law 1834 = .ok (.iaload, 1) := by decide +kernel
theorem dL_law_1835 : decode cL_law 1835 = .ok (.invokevirtual 185, 3) := by decide +kernel
theorem dL_law_1838 : decode cL_law 1838 = .ok (.pop, 1) := by decide +kernel
theorem dL_law_1839 : decode cL_law 1839 = .ok (.aload_n 2, 1) := by decide +kernel
theorem dL_law_1840 : decode cL_law 1840 = .ok (.aload_n 0, 1) := by decide +kernel
theorem dL_law_1841 : decode cL_law 1841 = .ok (.iload_n 3, 1) := by decide +kernel
theorem dL_law_1842 : decode cL_law 1842 = .ok (.iconst 1, 1) := by decide +kernel
theorem dL_law_1843 : decode cL_law 1843 = .ok (.iadd, 1) := by decide +kernel
theorem dL_law_1844 : decode cL_law 1844 = .ok (.iaload, 1) := by decide +kernel
theorem dL_law_1845 : decode cL_law 1845 = .ok (.aload_n 0, 1) := by decide +kernel
theorem dL_law_1846 : decode cL_law 1846 = .ok (.iload_n 3, 1) := by decide +kernel
theorem dL_law_1847 : decode cL_law 1847 = .ok (.iconst 2, 1) := by decide +kernel
theorem dL_law_1848 : decode cL_law 1848 = .ok (.iadd, 1) := by decide +kernel
theorem dL_law_1849 : decode cL_law 1849 = .ok (.iaload, 1) := by decide +kernel
theorem dL_law_1850 : decode cL_law 1850 = .ok (.aload_n 0, 1) := by decide +kernel
theorem dL_law_1851 : decode cL_law 1851 = .ok (.iload_n 3, 1) := by decide +kernel
theorem dL_law_1852 : decode cL_law 1852 = .ok (.iconst 3, 1) := by decide +kernel
theorem dL_law_1853 : decode cL_law 1853 = .ok (.iadd, 1) := by decide +kernel
theorem dL_law_1854 : decode cL_law 1854 = .ok (.iaload, 1) := by decide +kernel
theorem dL_law_1855 : decode cL_law 1855 = .ok (.aload_n 0, 1) := by decide +kernel
theorem dL_law_1856 : decode cL_law 1856 = .ok (.iload_n 3, 1) := by decide +kernel
theorem dL_law_1857 : decode cL_law 1857 = .ok (.iconst 4, 1) := by decide +kernel
theorem dL_law_1858 : decode cL_law 1858 = .ok (.iadd, 1) := by decide +kernel
theorem dL_law_1859 : decode cL_law 1859 = .ok (.iaload, 1) := by decide +kernel
theorem dL_law_1860 : decode cL_law 1860 = .ok (.invokevirtual 188, 3) := by decide +kernel
theorem dL_law_1863 : decode cL_law 1863 = .ok (.pop, 1) := by decide +kernel
theorem dL_law_1864 : decode cL_law 1864 = .ok (.goto 402, 3) := by decide +kernel
theorem dL_law_1867 : decode cL_law 1867 = .ok (.aload_n 1, 1) := by decide +kernel
theorem dL_law_1868 : decode cL_law 1868 = .ok (.aload_n 0, 1) := by decide +kernel
theorem dL_law_1869 : decode cL_law 1869 = .ok (.iload_n 3, 1) := by decide +kernel
theorem dL_law_1870 : decode cL_law 1870 = .ok (.iconst 1, 1) := by decide +kernel
theorem dL_law_1871 : decode cL_law 1871 = .ok (.iadd, 1) := by decide +kernel
theorem dL_law_1872 : decode cL_law 1872 = .ok (.iaload, 1) := by decide +kernel
theorem dL_law_1873 : decode cL_law 1873 = .ok (.aload_n 0, 1) := by decide +kernel
theorem dL_law_1874 : decode cL_law 1874 = .ok (.iload_n 3, 1) := by decide +kernel
theorem dL_law_1875 : decode cL_law 1875 = .ok (.iconst 2, 1) := by decide +kernel
theorem dL_law_1876 : decode cL_law 1876 = .ok (.iadd, 1) := by decide +kernel
theorem dL_law_1877 : decode cL_law 1877 = .ok (.iaload, 1) := by decide +kernel
theorem dL_law_1878 : decode cL_law 1878 = .ok (.invokevirtual 189, 3) := by decide +kernel
theorem dL_law_1881 : decode cL_law 1881 = .ok (.pop, 1) := by decide +kernel
theorem dL_law_1882 : decode cL_law 1882 = .ok (.aload_n 2, 1) := by decide +kernel
theorem dL_law_1883 : decode cL_law 1883 = .ok (.aload_n 0, 1) := by decide +kernel
theorem dL_law_1884 : decode cL_law 1884 = .ok (.iload_n 3, 1) := by decide +kernel
theorem dL_law_1885 : decode cL_law 1885 = .ok (.iconst 1, 1) := by decide +kernel
theorem dL_law_1886 : decode cL_law 1886 = .ok (.iadd, 1) := by decide +kernel
theorem dL_law_1887 : decode cL_law 1887 = .ok (.iaload, 1) := by decide +kernel
theorem dL_law_1888 : decode cL_law 1888 = .ok (.aload_n 0, 1) := by decide +kernel
theorem dL_law_1889 : decode cL_law 1889 = .ok (.iload_n 3, 1) := by decide +kernel
theorem dL_law_1890 : decode cL_law 1890 = .ok (.iconst 2, 1) := by decide +kernel
theorem dL_law_1891 : decode cL_law 1891 = .ok (.iadd, 1) := by decide +kernel
theorem dL_law_1892 : decode cL_law 1892 = .ok (.iaload, 1) := by decide +kernel
theorem dL_law_1893 : decode cL_law 1893 = .ok (.invokevirtual 192, 3) := by decide +kernel
theorem dL_law_1896 : decode cL_law 1896 = .ok (.pop, 1) := by decide +kernel
theorem dL_law_1897 : decode cL_law 1897 = .ok (.goto 369, 3) := by decide +kernel
theorem dL_law_1900 : decode cL_law 1900 = .ok (.aload_n 1, 1) := by decide +kernel
theorem dL_law_1901 : decode cL_law 1901 = .ok (.aload_n 0, 1) := by decide +kernel
theorem dL_law_1902 : decode cL_law 1902 = .ok (.iload_n 3, 1) := by decide +kernel
theorem dL_law_1903 : decode cL_law 1903 = .ok (.iconst 1, 1) := by decide +kernel
theorem dL_law_1904 : decode cL_law 1904 = .ok (.iadd, 1) := by decide +kernel
theorem dL_law_1905 : decode cL_law 1905 = .ok (.iaload, 1) := by decide +kernel
theorem dL_law_1906 : decode cL_law 1906 = .ok (.aload_n 0, 1) := by decide +kernel
theorem dL_law_1907 : decode cL_law 1907 = .ok (.iload_n 3, 1) := by decide +kernel
theorem dL_law_1908 : decode cL_law 1908 = .ok (.iconst 2, 1) := by decide +kernel
theorem dL_law_1909 : decode cL_law 1909 = .ok (.iadd, 1) := by decide +kernel
theorem dL_law_1910 : decode cL_law 1910 = .ok (.iaload, 1) := by decide +kernel
theorem dL_law_1911 : decode cL_law 1911 = .ok (.aload_n 0, 1) := by decide +kernel
theorem dL_law_1912 : decode cL_law 1912 = .ok (.iload_n 3, 1) := by decide +kernel
theorem dL_law_1913 : decode cL_law 1913 = .ok (.iconst 3, 1) := by decide +kernel
theorem dL_law_1914 : decode cL_law 1914 = .ok (.iadd, 1) := by decide +kernel
theorem dL_law_1915 : decode cL_law 1915 = .ok (.iaload, 1) := by decide +kernel
theorem dL_law_1916 : decode cL_law 1916 = .ok (.invokevirtual 193, 3) := by decide +kernel
theorem dL_law_1919 : decode cL_law 1919 = .ok (.pop2, 1) := by decide +kernel
theorem dL_law_1920 : decode cL_law 1920 = .ok (.aload_n 2, 1) := by decide +kernel
theorem dL_law_1921 : decode cL_law 1921 = .ok (.aload_n 0, 1) := by decide +kernel
theorem dL_law_1922 : decode cL_law 1922 = .ok (.iload_n 3, 1) := by decide +kernel
theorem dL_law_1923 : decode cL_law 1923 = .ok (.iconst 1, 1) := by decide +kernel
theorem dL_law_1924 : decode cL_law 1924 = .ok (.iadd, 1) := by decide +kernel
theorem dL_law_1925 : decode cL_law 1925 = .ok (.iaload, 1) := by decide +kernel
theorem dL_law_1926 : decode cL_law 1926 = .ok (.aload_n 0, 1) := by decide +kernel
theorem dL_law_1927 : decode cL_law 1927 = .ok (.iload_n 3, 1) := by decide +kernel
theorem dL_law_1928 : decode cL_law 1928 = .ok (.iconst 2, 1) := by decide +kernel
theorem dL_law_1929 : decode cL_law 1929 = .ok (.iadd, 1) := by decide +kernel
theorem dL_law_1930 : decode cL_law 1930 = .ok (.iaload, 1) := by decide +kernel
theorem dL_law_1931 : decode cL_law 1931 = .ok (.aload_n 0, 1) := by decide +kernel
theorem dL_law_1932 : decode cL_law 1932 = .ok (.iload_n 3, 1) := by decide +kernel
theorem dL_law_1933 : decode cL_law 1933 = .ok (.iconst 3, 1) := by decide +kernel
theorem dL_law_1934 : decode cL_law 1934 = .ok (.iadd, 1) := by decide +kernel
theorem dL_law_1935 : decode cL_law 1935 = .ok (.iaload, 1) := by decide +kernel
theorem dL_law_1936 : decode cL_law 1936 = .ok (.invokevirtual 196, 3) := by decide +kernel
theorem dL_law_1939 : decode cL_law 1939 = .ok (.pop2, 1) := by decide +kernel
theorem dL_law_1940 : decode cL_law 1940 = .ok (.goto 326, 3) := by decide +kernel
theorem dL_law_1943 : decode cL_law 1943 = .ok (.aload_n 1, 1) := by decide +kernel
theorem dL_law_1944 : decode cL_law 1944 = .ok (.aload_n 0, 1) := by decide +kernel
theorem dL_law_1945 : decode cL_law 1945 = .ok (.iload_n 3, 1) := by decide +kernel
theorem dL_law_1946 : decode cL_law 1946 = .ok (.iconst 1, 1) := by decide +kernel
theorem dL_law_1947 : decode cL_law 1947 = .ok (.iadd, 1) := by decide +kernel
theorem dL_law_1948 : decode cL_law 1948 = .ok (.iaload, 1) := by decide +kernel
theorem dL_law_1949 : decode cL_law 1949 = .ok (.aload_n 0, 1) := by decide +kernel
theorem dL_law_1950 : decode cL_law 1950 = .ok (.iload_n 3, 1) := by decide +kernel
theorem dL_law_1951 : decode cL_law 1951 = .ok (.iconst 2, 1) := by decide +kernel
theorem dL_law_1952 : decode cL_law 1952 = .ok (.iadd, 1) := by decide +kernel
theorem dL_law_1953 : decode cL_law 1953 = .ok (.iaload, 1) := by decide +kernel
theorem dL_law_1954 : decode cL_law 1954 = .ok (.aload_n 0, 1) := by decide +kernel
theorem dL_law_1955 : decode cL_law 1955 = .ok (.iload_n 3, 1) := by decide +kernel
theorem dL_law_1956 : decode cL_law 1956 = .ok (.iconst 3, 1) := by decide +kernel
theorem dL_law_1957 : decode cL_law 1957 = .ok (.iadd, 1) := by decide +kernel
theorem dL_law_1958 : decode cL_law 1958 = .ok (.iaload, 1) := by decide +kernel
theorem dL_law_1959 : decode cL_law 1959 = .ok (.aload_n 0, 1) := by decide +kernel
theorem dL_law_1960 : decode cL_law 1960 = .ok (.iload_n 3, 1) := by decide +kernel
theorem dL_law_1961 : decode cL_law 1961 = .ok (.iconst 4, 1) := by decide +kernel
theorem dL_law_1962 : decode cL_law 1962 = .ok (.iadd, 1) := by decide +kernel
theorem dL_law_1963 : decode cL_law 1963 = .ok (.iaload, 1) := by decide +kernel
theorem dL_law_1964 : decode cL_law 1964 = .ok (.aload_n 0, 1) := by decide +kernel
theorem dL_law_1965 : decode cL_law 1965 = .ok (.iload_n 3, 1) := by decide +kernel
theorem dL_law_1966 : decode cL_law 1966 = .ok (.iconst 5, 1) := by decide +kernel
theorem dL_law_1967 : decode cL_law 1967 = .ok (.iadd, 1) := by decide +kernel
theorem dL_law_1968 : decode cL_law 1968 = .ok (.iaload, 1) := by decide +kernel
theorem dL_law_1969 : decode cL_law 1969 = .ok (.aload_n 0, 1) := by decide +kernel
theorem dL_law_1970 : decode cL_law 1970 = .ok (.iload_n 3, 1) := by decide +kernel
theorem dL_law_1971 : decode cL_law 1971 = .ok (.bipush 6, 2) := by decide +kernel
theorem dL_law_1973 : decode cL_law 1973 = .ok (.iadd, 1) := by decide +kernel
theorem dL_law_1974 : decode cL_law 1974 = .ok (.iaload, 1) := by decide +kernel
theorem dL_law_1975 : decode cL_law 1975 = .ok (.invokevirtual 197, 3) := by decide +kernel
theorem dL_law_1978 : decode cL_law 1978 = .ok (.pop, 1) := by decide +kernel
theorem dL_law_1979 : decode cL_law 1979 = .ok (.aload_n 2, 1) := by decide +kernel
theorem dL_law_1980 : decode cL_law 1980 = .ok (.aload_n 0, 1) := by decide +kernel
theorem dL_law_1981 : decode cL_law 1981 = .ok (.iload_n 3, 1) := by decide +kernel
theorem dL_law_1982 : decode cL_law 1982 = .ok (.iconst 1, 1) := by decide +kernel
theorem dL_law_1983 : decode cL_law 1983 = .ok (.iadd, 1) := by decide +kernel
theorem dL_law_1984 : decode cL_law 1984 = .ok (.iaload, 1) := by decide +kernel
theorem dL_law_1985 : decode cL_law 1985 = .ok (.aload_n 0, 1) := by decide +kernel
theorem dL_law_1986 : decode cL_law 1986 = .ok (.iload_n 3, 1) := by decide +kernel
theorem dL_law_1987 : decode cL_law 1987 = .ok (.iconst 2, 1) := by decide +kernel
theorem dL_law_1988 : decode cL_law 1988 = .ok (.iadd, 1) := by decide +kernel
theorem dL_law_1989 : decode cL_law 1989 = .ok (.iaload, 1) := by decide +kernel
theorem dL_law_1990 : decode cL_law 1990 = .ok (.aload_n 0, 1) := by decide +kernel
theorem dL_law_1991 : decode cL_law 1991 = .ok (.iload_n 3, 1) := by decide +kernel
theorem dL_law_1992 : decode cL_law 1992 = .ok (.iconst 3, 1) := by decide +kernel
theorem dL_law_1993 : decode cL_law 1993 = .ok (.iadd, 1) := by decide +kernel
theorem dL_law_1994 : decode cL_law 1994 = .ok (.iaload, 1) := by decide +kernel
theorem dL_law_1995 : decode cL_law 1995 = .ok (.aload_n 0, 1) := by decide +kernel
theorem dL_law_1996 : decode cL_law 1996 = .ok (.iload_n 3, 1) := by decide +kernel
theorem dL_law_1997 : decode cL_law 1997 = .ok (.iconst 4, 1) := by decide +kernel
theorem dL_law_1998 : decode cL_law 1998 = .ok (.iadd, 1) := by decide +kernel
theorem dL_law_1999 : decode cL_law 1999 = .ok (.iaload, 1) := by decide +kernel
theorem dL_law_2000 : decode cL_law 2000 = .ok (.aload_n 0, 1) := by decide +kernel
theorem dL_law_2001 : decode cL_law 2001 = .ok (.iload_n 3, 1) := by decide +kernel
theorem dL_law_2002 : decode cL_law 2002 = .ok (.iconst 5, 1) := by decide +kernel
theorem dL_law_2003 : decode cL_law 2003 = .ok (.iadd, 1) := by decide +kernel
theorem dL_law_2004 : decode cL_law 2004 = .ok (.iaload, 1) := by decide +kernel
theorem dL_law_2005 : decode cL_law 2005 = .ok (.aload_n 0, 1) := by decide +kernel
theorem dL_law_2006 : decode cL_law 2006 = .ok (.iload_n 3, 1) := by decide +kernel
theorem dL_law_2007 : decode cL_law 2007 = .ok (.bipush 6, 2) := by decide +kernel
theorem dL_law_2009 : decode cL_law 2009 = .ok (.iadd, 1) := by decide +kernel
theorem dL_law_2010 : decode cL_law 2010 = .ok (.iaload, 1) := by decide +kernel
theorem dL_law_2011 : decode cL_law 2011 = .ok (.invokevirtual 201, 3) := by decide +kernel
theorem dL_law_2014 : decode cL_law 2014 = .ok (.pop, 1) := by decide +kernel
theorem dL_law_2015 : decode cL_law 2015 = .ok (.goto 251, 3) := by decide +kernel
theorem dL_law_2018 : decode cL_law 2018 = .ok (.aload_n 1, 1) := by decide +kernel
theorem dL_law_2019 : decode cL_law 2019 = .ok (.aload_n 0, 1) := by decide +kernel
theorem dL_law_2020 : decode cL_law 2020 = .ok (.iload_n 3, 1) := by decide +kernel
theorem dL_law_2021 : decode cL_law 2021 = .ok (.iconst 1, 1) := by decide +kernel
theorem dL_law_2022 : decode cL_law 2022 = .ok (.iadd, 1) := by decide +kernel
theorem dL_law_2023 : decode cL_law 2023 = .ok (.iaload, 1) := by decide +kernel
theorem dL_law_2024 : decode cL_law 2024 = .ok (.invokevirtual 202, 3) := by decide +kernel
theorem dL_law_2027 : decode cL_law 2027 = .ok (.pop, 1) := by decide +kernel
theorem dL_law_2028 : decode cL_law 2028 = .ok (.aload_n 2, 1) := by decide +kernel
theorem dL_law_2029 : decode cL_law 2029 = .ok (.aload_n 0, 1) := by decide +kernel
theorem dL_law_2030 : decode cL_law 2030 = .ok (.iload_n 3, 1) := by decide +kernel
theorem dL_law_2031 : decode cL_law 2031 = .ok (.iconst 1, 1) := by decide +kernel
theorem dL_law_2032 : decode cL_law 2032 = .ok (.iadd, 1) := by decide +kernel
theorem dL_law_2033 : decode cL_law 2033 = .ok (.iaload, 1) := by decide +kernel
theorem dL_law_2034 : decode cL_law 2034 = .ok (.invokevirtual 205, 3) := by decide +kernel
theorem dL_law_2037 : decode cL_law 2037 = .ok (.pop, 1) := by decide +kernel
theorem dL_law_2038 : decode cL_law 2038 = .ok (.goto 228, 3) := by decide +kernel
theorem dL_law_2041 : decode cL_law 2041 = .ok (.aload_n 1, 1) := by decide +kernel
theorem dL_law_2042 : decode cL_law 2042 = .ok (.aload_n 0, 1) := by decide +kernel
theorem dL_law_2043 : decode cL_law 2043 = .ok (.iload_n 3, 1) := by decide +kernel
theorem dL_law_2044 : decode cL_law 2044 = .ok (.iconst 1, 1) := by decide +kernel
theorem dL_law_2045 : decode cL_law 2045 = .ok (.iadd, 1) := by decide +kernel
theorem dL_law_2046 : decode cL_law 2046 = .ok (.iaload, 1) := by decide +kernel
theorem dL_law_2047 : decode cL_law 2047 = .ok (.invokevirtual 206, 3) := by decide +kernel
theorem dL_law_2050 : decode cL_law 2050 = .ok (.pop, 1) := by decide +kernel
theorem dL_law_2051 : decode cL_law 2051 = .ok (.aload_n 2, 1) := by decide +kernel
theorem dL_law_2052 : decode cL_law 2052 = .ok (.aload_n 0, 1) := by decide +kernel
theorem dL_law_2053 : decode cL_law 2053 = .ok (.iload_n 3, 1) := by decide +kernel
theorem dL_law_2054 : decode cL_law 2054 = .ok (.iconst 1, 1) := by decide +kernel
theorem dL_law_2055 : decode cL_law 2055 = .ok (.iadd, 1) := by decide +kernel
theorem dL_law_2056 : decode cL_law 2056 = .ok (.iaload, 1) := by decide +kernel
theorem dL_law_2057 : decode cL_law 2057 = .ok (.invokevirtual 209, 3) := by decide +kernel
theorem dL_law_2060 : decode cL_law 2060 = .ok (.pop, 1) := by decide +kernel
theorem dL_law_2061 : decode cL_law 2061 = .ok (.goto 205, 3) := by decide +kernel
theorem dL_law_2064 : decode cL_law 2064 = .ok (.aload_n 1, 1) := by decide +kernel
theorem dL_law_2065 : decode cL_law 2065 = .ok (.aload_n 0, 1) := by decide +kernel
theorem dL_law_2066 : decode cL_law 2066 = .ok (.iload_n 3, 1) := by decide +kernel
theorem dL_law_2067 : decode cL_law 2067 = .ok (.iconst 1, 1) := by decide +kernel
theorem dL_law_2068 : decode cL_law 2068 = .ok (.iadd, 1) := by decide +kernel
theorem dL_law_2069 : decode cL_law 2069 = .ok (.iaload, 1) := by decide +kernel
theorem dL_law_2070 : decode cL_law 2070 = .ok (.invokevirtual 210, 3) := by decide +kernel
theorem dL_law_2073 : decode cL_law 2073 = .ok (.pop, 1) := by decide +kernel
theorem dL_law_2074 : decode cL_law 2074 = .ok (.aload_n 2, 1) := by decide +kernel
theorem dL_law_2075 : decode cL_law 2075 = .ok (.aload_n 0, 1) := by decide +kernel
theorem dL_law_2076 : decode cL_law 2076 = .ok (.iload_n 3, 1) := by decide +kernel
theorem dL_law_2077 : decode cL_law 2077 = .ok (.iconst 1, 1) := by decide +kernel
theorem dL_law_2078 : decode cL_law 2078 = .ok (.iadd, 1) := by decide +kernel
theorem dL_law_2079 : decode cL_law 2079 = .ok (.iaload, 1) := by decide +kernel
theorem dL_law_2080 : decode cL_law 2080 = .ok (.invokevirtual 213, 3) := by decide +kernel
theorem dL_law_2083 : decode cL_law 2083 = .ok (.pop, 1) := by decide +kernel
theorem dL_law_2084 : decode cL_law 2084 = .ok (.goto 182, 3) := by decide +kernel
theorem dL_law_2087 : decode cL_law 2087 = .ok (.aload_n 1, 1) := by decide +kernel
theorem dL_law_2088 : decode cL_law 2088 = .ok (.aload_n 0, 1) := by decide +kernel
theorem dL_law_2089 : decode cL_law 2089 = .ok (.iload_n 3, 1) := by decide +kernel
theorem dL_law_2090 : decode cL_law 2090 = .ok (.iconst 1, 1) := by decide +kernel
theorem dL_law_2091 : decode cL_law 2091 = .ok (.iadd, 1) := by decide +kernel
theorem dL_law_2092 : decode cL_law 2092 = .ok (.iaload, 1) := by decide +kernel
theorem dL_law_2093 : decode cL_law 2093 = .ok (.aload_n 0, 1) := by decide +kernel
theorem dL_law_2094 : decode cL_law 2094 = .ok (.iload_n 3, 1) := by decide +kernel
theorem dL_law_2095 : decode cL_law 2095 = .ok (.iconst 2, 1) := by decide +kernel
theorem dL_law_2096 : decode cL_law 2096 = .ok (.iadd, 1) := by decide +kernel
theorem dL_law_2097 : decode cL_law 2097 = .ok (.iaload, 1) := by decide +kernel
theorem dL_law_2098 : decode cL_law 2098 = .ok (.aload_n 0, 1) := by decide +kernel
theorem dL_law_2099 : decode cL_law 2099 = .ok (.iload_n 3, 1) := by decide +kernel
theorem dL_law_2100 : decode cL_law 2100 = .ok (.iconst 3, 1) := by decide +kernel
theorem dL_law_2101 : decode cL_law 2101 = .ok (.iadd, 1) := by decide +kernel
theorem dL_law_2102 : decode cL_law 2102 = .ok (.iaload, 1) := by decide +kernel
theorem dL_law_2103 : decode cL_law 2103 = .ok (.invokevirtual 214, 3) := by decide +kernel
theorem dL_law_2106 : decode cL_law 2106 = .ok (.pop, 1) := by decide +kernel
theorem dL_law_2107 : decode cL_law 2107 = .ok (.aload_n 2, 1) := by decide +kernel
theorem dL_law_2108 : decode cL_law 2108 = .ok (.aload_n 0, 1) := by decide +kernel
theorem dL_law_2109 : decode cL_law 2109 = .ok (.iload_n 3, 1) := by decide +kernel
theorem dL_law_2110 : decode cL_law 2110 = .ok (.iconst 1, 1) := by decide +kernel
theorem dL_law_2111 : decode cL_law 2111 = .ok (.iadd, 1) := by decide +kernel
theorem dL_law_2112 : decode cL_law 2112 = .ok (.iaload, 1) := by decide +kernel
theorem dL_law_2113 : decode cL_law 2113 = .ok (.aload_n 0, 1) := by decide +kernel
theorem dL_law_2114 : decode cL_law 2114 = .ok (.iload_n 3, 1) := by decide +kernel
theorem dL_law_2115 : decode cL_law 2115 = .ok (.iconst 2, 1) := by decide +kernel
theorem dL_law_2116 : decode cL_law 2116 = .ok (.iadd, 1) := by decide +kernel
theorem dL_law_2117 : decode cL_law 2117 = .ok (.iaload, 1) := by decide +kernel
theorem dL_law_2118 : decode cL_law 2118 = .ok (.aload_n 0, 1) := by decide +kernel
theorem dL_law_2119 : decode cL_law 2119 = .ok (.iload_n 3, 1) := by decide +kernel
theorem dL_law_2120 : decode cL_law 2120 = .ok (.iconst 3, 1) := by decide +kernel
theorem dL_law_2121 : decode cL_law 2121 = .ok (.iadd, 1) := by decide +kernel
theorem dL_law_2122 : decode cL_law 2122 = .ok (.iaload, 1) := by decide +kernel
theorem dL_law_2123 : decode cL_law 2123 = .ok (.invokevirtual 217, 3) := by decide +kernel
theorem dL_law_2126 : decode cL_law 2126 = .ok (.pop, 1) := by decide +kernel
theorem dL_law_2127 : decode cL_law 2127 = .ok (.goto 139, 3) := by decide +kernel
theorem dL_law_2130 : decode cL_law 2130 = .ok (.aload_n 1, 1) := by decide +kernel
theorem dL_law_2131 : decode cL_law 2131 = .ok (.aload_n 0, 1) := by decide +kernel
theorem dL_law_2132 : decode cL_law 2132 = .ok (.iload_n 3, 1) := by decide +kernel
theorem dL_law_2133 : decode cL_law 2133 = .ok (.iconst 1, 1) := by decide +kernel
theorem dL_law_2134 : decode cL_law 2134 = .ok (.iadd, 1) := by decide +kernel
theorem dL_law_2135 : decode cL_law 2135 = .ok (.iaload, 1) := by decide +kernel
theorem dL_law_2136 : decode cL_law 2136 = .ok (.aload_n 0, 1) := by decide +kernel
theorem dL_law_2137 : decode cL_law 2137 = .ok (.iload_n 3, 1) := by decide +kernel
theorem dL_law_2138 : decode cL_law 2138 = .ok (.iconst 2, 1) := by decide +kernel
theorem dL_law_2139 : decode cL_law 2139 = .ok (.iadd, 1) := by decide +kernel
theorem dL_law_2140 : decode cL_law 2140 = .ok (.iaload, 1) := by decide +kernel
theorem dL_law_2141 : decode cL_law 2141 = .ok (.aload_n 0, 1) := by decide +kernel
theorem dL_law_2142 : decode cL_law 2142 = .ok (.iload_n 3, 1) := by decide +kernel
theorem dL_law_2143 : decode cL_law 2143 = .ok (.iconst 3, 1) := by decide +kernel
theorem dL_law_2144 : decode cL_law 2144 = .ok (.iadd, 1) := by decide +kernel
theorem dL_law_2145 : decode cL_law 2145 = .ok (.iaload, 1) := by decide +kernel
theorem dL_law_2146 : decode cL_law 2146 = .ok (.i2l, 1) := by decide +kernel
theorem dL_law_2147 : decode cL_law 2147 = .ok (.bipush 32, 2) := by decide +kernel
theorem dL_law_2149 : decode cL_law 2149 = .ok (.lshl, 1) := by decide +kernel
theorem dL_law_2150 : decode cL_law 2150 = .ok (.aload_n 0, 1) := by decide +kernel
theorem dL_law_2151 : decode cL_law 2151 = .ok (.iload_n 3, 1) := by decide +kernel
theorem dL_law_2152 : decode cL_law 2152 = .ok (.iconst 4, 1) := by decide +kernel
theorem dL_law_2153 : decode cL_law 2153 = .ok (.iadd, 1) := by decide +kernel
theorem dL_law_2154 : decode cL_law 2154 = .ok (.iaload, 1) := by decide +kernel
theorem dL_law_2155 : decode cL_law 2155 = .ok (.i2l, 1) := by decide +kernel
theorem dL_law_2156 : decode cL_law 2156 = .ok (.ldc2_w 218, 3) := by decide +kernel
theorem dL_law_2159 : decode cL_law 2159 = .ok (.land, 1) := by decide +kernel
theorem dL_law_2160 : decode cL_law 2160 = .ok (.lor, 1) := by decide +kernel
theorem dL_law_2161 : decode cL_law 2161 = .ok (.invokevirtual 220, 3) := by decide +kernel
theorem dL_law_2164 : decode cL_law 2164 = .ok (.pop, 1) := by decide +kernel
theorem dL_law_2165 : decode cL_law 2165 = .ok (.aload_n 2, 1) := by decide +kernel
theorem dL_law_2166 : decode cL_law 2166 = .ok (.aload_n 0, 1) := by decide +kernel
theorem dL_law_2167 : decode cL_law 2167 = .ok (.iload_n 3, 1) := by decide +kernel
theorem dL_law_2168 : decode cL_law 2168 = .ok (.iconst 1, 1) := by decide +kernel
theorem dL_law_2169 : decode cL_law 2169 = .ok (.iadd, 1) := by decide +kernel
theorem dL_law_2170 : decode cL_law 2170 = .ok (.iaload, 1) := by decide +kernel
theorem dL_law_2171 : decode cL_law 2171 = .ok (.aload_n 0, 1) := by decide +kernel
theorem dL_law_2172 : decode cL_law 2172 = .ok (.iload_n 3, 1) := by decide +kernel
theorem dL_law_2173 : decode cL_law 2173 = .ok (.iconst 2, 1) := by decide +kernel
theorem dL_law_2174 : decode cL_law 2174 = .ok (.iadd, 1) := by decide +kernel
theorem dL_law_2175 : decode cL_law 2175 = .ok (.iaload, 1) := by decide +kernel
theorem dL_law_2176 : decode cL_law 2176 = .ok (.aload_n 0, 1) := by decide +kernel
theorem dL_law_2177 : decode cL_law 2177 = .ok (.iload_n 3, 1) := by decide +kernel
theorem dL_law_2178 : decode cL_law 2178 = .ok (.iconst 3, 1) := by decide +kernel
theorem dL_law_2179 : decode cL_law 2179 = .ok (.iadd, 1) := by decide +kernel
theorem dL_law_2180 : decode cL_law 2180 = .ok (.iaload, 1) := by decide +kernel
theorem dL_law_2181 : decode cL_law 2181 = .ok (.i2l, 1) := by decide +kernel
theorem dL_law_2182 : decode cL_law 2182 = .ok (.bipush 32, 2) := by decide +kernel
theorem dL_law_2184 : decode cL_law 2184 = .ok (.lshl, 1) := by decide +kernel
theorem dL_law_2185 : decode cL_law 2185 = .ok (.aload_n 0, 1) := by decide +kernel
theorem dL_law_2186 : decode cL_law 2186 = .ok (.iload_n 3, 1) := by decide +kernel
theorem dL_law_2187 : decode cL_law 2187 = .ok (.iconst 4, 1) := by decide +kernel
theorem dL_law_2188 : decode cL_law 2188 = .ok (.iadd, 1) := by decide +kernel
theorem dL_law_2189 : decode cL_law 2189 = .ok (.iaload, 1) := by decide +kernel
theorem dL_law_2190 : decode cL_law 2190 = .ok (.i2l, 1) := by decide +kernel
theorem dL_law_2191 : decode cL_law 2191 = .ok (.ldc2_w 218, 3) := by decide +kernel
theorem dL_law_2194 : decode cL_law 2194 = .ok (.land, 1) := by decide +kernel
theorem dL_law_2195 : decode cL_law 2195 = .ok (.lor, 1) := by decide +kernel
theorem dL_law_2196 : decode cL_law 2196 = .ok (.invokevirtual 224, 3) := by decide +kernel
theorem dL_law_2199 : decode cL_law 2199 = .ok (.pop, 1) := by decide +kernel
theorem dL_law_2200 : decode cL_law 2200 = .ok (.goto 66, 3) := by decide +kernel
theorem dL_law_2203 : decode cL_law 2203 = .ok (.aload_n 1, 1) := by decide +kernel
theorem dL_law_2204 : decode cL_law 2204 = .ok (.aload_n 0, 1) := by decide +kernel
theorem dL_law_2205 : decode cL_law 2205 = .ok (.iload_n 3, 1) := by decide +kernel
theorem dL_law_2206 : decode cL_law 2206 = .ok (.iconst 1, 1) := by decide +kernel
theorem dL_law_2207 : decode cL_law 2207 = .ok (.iadd, 1) := by decide +kernel
theorem dL_law_2208 : decode cL_law 2208 = .ok (.iaload, 1) := by decide +kernel
theorem dL_law_2209 : decode cL_law 2209 = .ok (.aload_n 0, 1) := by decide +kernel
theorem dL_law_2210 : decode cL_law 2210 = .ok (.iload_n 3, 1) := by decide +kernel
theorem dL_law_2211 : decode cL_law 2211 = .ok (.iconst 2, 1) := by decide +kernel
theorem dL_law_2212 : decode cL_law 2212 = .ok (.iadd, 1) := by decide +kernel
theorem dL_law_2213 : decode cL_law 2213 = .ok (.iaload, 1) := by decide +kernel
theorem dL_law_2214 : decode cL_law 2214 = .ok (.aload_n 0, 1) := by decide +kernel
theorem dL_law_2215 : decode cL_law 2215 = .ok (.iload_n 3, 1) := by decide +kernel
theorem dL_law_2216 : decode cL_law 2216 = .ok (.iconst 3, 1) := by decide +kernel
theorem dL_law_2217 : decode cL_law 2217 = .ok (.iadd, 1) := by decide +kernel
theorem dL_law_2218 : decode cL_law 2218 = .ok (.iaload, 1) := by decide +kernel
theorem dL_law_2219 : decode cL_law 2219 = .ok (.aload_n 0, 1) := by decide +kernel
theorem dL_law_2220 : decode cL_law 2220 = .ok (.iload_n 3, 1) := by decide +kernel
theorem dL_law_2221 : decode cL_law 2221 = .ok (.iconst 4, 1) := by decide +kernel
theorem dL_law_2222 : decode cL_law 2222 = .ok (.iadd, 1) := by decide +kernel
theorem dL_law_2223 : decode cL_law 2223 = .ok (.iaload, 1) := by decide +kernel
theorem dL_law_2224 : decode cL_law 2224 = .ok (.aload_n 0, 1) := by decide +kernel
theorem dL_law_2225 : decode cL_law 2225 = .ok (.iload_n 3, 1) := by decide +kernel
theorem dL_law_2226 : decode cL_law 2226 = .ok (.iconst 5, 1) := by decide +kernel
theorem dL_law_2227 : decode cL_law 2227 = .ok (.iadd, 1) := by decide +kernel
theorem dL_law_2228 : decode cL_law 2228 = .ok (.iaload, 1) := by decide +kernel
theorem dL_law_2229 : decode cL_law 2229 = .ok (.invokevirtual 225, 3) := by decide +kernel
theorem dL_law_2232 : decode cL_law 2232 = .ok (.aload_n 2, 1) := by decide +kernel
theorem dL_law_2233 : decode cL_law 2233 = .ok (.aload_n 0, 1) := by decide +kernel
theorem dL_law_2234 : decode cL_law 2234 = .ok (.iload_n 3, 1) := by decide +kernel
theorem dL_law_2235 : decode cL_law 2235 = .ok (.iconst 1, 1) := by decide +kernel
theorem dL_law_2236 : decode cL_law 2236 = .ok (.iadd, 1) := by decide +kernel
theorem dL_law_2237 : decode cL_law 2237 = .ok (.iaload, 1) := by decide +kernel
theorem dL_law_2238 : decode cL_law 2238 = .ok (.aload_n 0, 1) := by decide +kernel
theorem dL_law_2239 : decode cL_law 2239 = .ok (.iload_n 3, 1) := by decide +kernel
theorem dL_law_2240 : decode cL_law 2240 = .ok (.iconst 2, 1) := by decide +kernel
theorem dL_law_2241 : decode cL_law 2241 = .ok (.iadd, 1) := by decide +kernel
theorem dL_law_2242 : decode cL_law 2242 = .ok (.iaload, 1) := by decide +kernel
theorem dL_law_2243 : decode cL_law 2243 = .ok (.aload_n 0, 1) := by decide +kernel
theorem dL_law_2244 : decode cL_law 2244 = .ok (.iload_n 3, 1) := by decide +kernel
theorem dL_law_2245 : decode cL_law 2245 = .ok (.iconst 3, 1) := by decide +kernel
theorem dL_law_2246 : decode cL_law 2246 = .ok (.iadd, 1) := by decide +kernel
theorem dL_law_2247 : decode cL_law 2247 = .ok (.iaload, 1) := by decide +kernel
theorem dL_law_2248 : decode cL_law 2248 = .ok (.aload_n 0, 1) := by decide +kernel
theorem dL_law_2249 : decode cL_law 2249 = .ok (.iload_n 3, 1) := by decide +kernel
theorem dL_law_2250 : decode cL_law 2250 = .ok (.iconst 4, 1) := by decide +kernel
theorem dL_law_2251 : decode cL_law 2251 = .ok (.iadd, 1) := by decide +kernel
theorem dL_law_2252 : decode cL_law 2252 = .ok (.iaload, 1) := by decide +kernel
theorem dL_law_2253 : decode cL_law 2253 = .ok (.aload_n 0, 1) := by decide +kernel
theorem dL_law_2254 : decode cL_law 2254 = .ok (.iload_n 3, 1) := by decide +kernel
theorem dL_law_2255 : decode cL_law 2255 = .ok (.iconst 5, 1) := by decide +kernel
theorem dL_law_2256 : decode cL_law 2256 = .ok (.iadd, 1) := by decide +kernel
theorem dL_law_2257 : decode cL_law 2257 = .ok (.iaload, 1) := by decide +kernel
theorem dL_law_2258 : decode cL_law 2258 = .ok (.invokevirtual 228, 3) := by decide +kernel
theorem dL_law_2261 : decode cL_law 2261 = .ok (.if_icmp .eq 5, 3) := by decide +kernel
theorem sV_L_185 : SiteV RL 185 yX9_lacks cX9_lacks 7 (some .int) 4 := ⟨ml_L_185, im_X9_lacks, se_X9_lacks, ini_X9, co_X9_lacks, by decide +kernel⟩
theorem sV_L_188 : SiteV RL 188 yX10_lacks cX10_lacks 6 (some .int) 4 := ⟨ml_L_188, im_X10_lacks, se_X10_lacks, ini_X10, co_X10_lacks, by decide +kernel⟩
theorem sV_L_189 : SiteV RL 189 yX9_judge cX9_judge 4 (some .int) 2 := ⟨ml_L_189, im_X9_judge, se_X9_judge, ini_X9, co_X9_judge, by decide +kernel⟩
theorem sV_L_192 : SiteV RL 192 yX10_judge cX10_judge 4 (some .int) 2 := ⟨ml_L_192, im_X10_judge, se_X10_judge, ini_X10, co_X10_judge, by decide +kernel⟩
theorem sV_L_193 : SiteV RL 193 yX9_paid cX9_paid 15 (some .long) 3 := ⟨ml_L_193, im_X9_paid, se_X9_paid, ini_X9, co_X9_paid, by decide +kernel⟩
theorem sV_L_196 : SiteV RL 196 yX10_paid cX10_paid 6 (some .long) 3 := ⟨ml_L_196, im_X10_paid, se_X10_paid, ini_X10, co_X10_paid, by decide +kernel⟩
theorem sV_L_197 : SiteV RL 197 yX9_years cX9_years 11 (some .int) 6 := ⟨ml_L_197, im_X9_years, se_X9_years, ini_X9, co_X9_years, by decide +kernel⟩
theorem sV_L_201 : SiteV RL 201 yX10_years cX10_years 11 (some .int) 6 := ⟨ml_L_201, im_X10_years, se_X10_years, ini_X10, co_X10_years, by decide +kernel⟩
theorem sV_L_202 : SiteV RL 202 yX9_count cX9_count 2 (some .int) 1 := ⟨ml_L_202, im_X9_count, se_X9_count, ini_X9, co_X9_count, by decide +kernel⟩
theorem sV_L_205 : SiteV RL 205 yX10_count cX10_count 4 (some .int) 1 := ⟨ml_L_205, im_X10_count, se_X10_count, ini_X10, co_X10_count, by decide +kernel⟩
theorem sV_L_206 : SiteV RL 206 yX9_keep cX9_keep 2 (some .int) 1 := ⟨ml_L_206, im_X9_keep, se_X9_keep, ini_X9, co_X9_keep, by decide +kernel⟩
theorem sV_L_209 : SiteV RL 209 yX10_keep cX10_keep 2 (some .int) 1 := ⟨ml_L_209, im_X10_keep, se_X10_keep, ini_X10, co_X10_keep, by decide +kernel⟩
theorem sV_L_210 : SiteV RL 210 yX9_back cX9_back 3 (some .int) 1 := ⟨ml_L_210, im_X9_back, se_X9_back, ini_X9, co_X9_back, by decide +kernel⟩
theorem sV_L_213 : SiteV RL 213 yX10_back cX10_back 2 (some .int) 1 := ⟨ml_L_213, im_X10_back, se_X10_back, ini_X10, co_X10_back, by decide +kernel⟩
theorem sV_L_214 : SiteV RL 214 yX9_row cX9_row 4 (some .int) 3 := ⟨ml_L_214, im_X9_row, se_X9_row, ini_X9, co_X9_row, by decide +kernel⟩
theorem sV_L_217 : SiteV RL 217 yX10_row cX10_row 5 (some .int) 3 := ⟨ml_L_217, im_X10_row, se_X10_row, ini_X10, co_X10_row, by decide +kernel⟩
theorem sV_L_220 : SiteV RL 220 yX9_write cX9_write 6 (some .int) 3 := ⟨ml_L_220, im_X9_write, se_X9_write, ini_X9, co_X9_write, by decide +kernel⟩
theorem sV_L_224 : SiteV RL 224 yX10_write cX10_write 5 (some .int) 3 := ⟨ml_L_224, im_X10_write, se_X10_write, ini_X10, co_X10_write, by decide +kernel⟩
theorem sV_L_225 : SiteV RL 225 yX9_paste cX9_paste 8 (some .int) 5 := ⟨ml_L_225, im_X9_paste, se_X9_paste, ini_X9, co_X9_paste, by decide +kernel⟩
theorem sV_L_228 : SiteV RL 228 yX10_paste cX10_paste 7 (some .int) 5 := ⟨ml_L_228, im_X10_paste, se_X10_paste, ini_X10, co_X10_paste, by decide +kernel⟩
set_option maxHeartbeats 4000000 in
set_option maxRecDepth 100000 in
theorem lc_40 {p : Program} {e : Env} {s : State} {m : MethodId} {below : List Frame} {meth : Method} {c : Code} {l : Launch} {b L : Nat} {xs : Nat → Int32} (D : va_G) (cy : Nat → ClassId) (adK adV : Nat → Nat) (base xo mo : Nat) (C0 : lw_At p s m meth c b L xs) (hK : KK D cy s) (hSS : SS adK adV base s s.heap) (hZ : base ≤ s.heap.size) (hZ2 : s.heap.size ≤ base) (hbA : ¬ RA base b) (hLs : L ≤ 3584) (τ : Nat → Nat) (G : Gh) (i : Int32) (hi0 : 0 ≤ i.toInt) (hi7 : i.toInt + 7 ≤ L) (hLI : LI τ G xo mo) {H : Heap} {locs : List Loc} (hT : TY D cy base τ G H) (hS : va_S (RA base) s.heap H locs) {ls : Array Slot} (hl : lv_has ls 4 [(3, .int i), (2, .ref mo), (1, .ref xo), (0, .ref b)]) {cells slots : Nat} (hroom : cells + 100 ≤ room_1.cells ∧ slots + 1000 ≤ room_1.slots) (kk : ∀ (τ1 : Nat → Nat) (G1 : Gh) (H1 : Heap) (locs1 : List Loc) (ls1 : Array Slot), LI τ1 G1 xo mo → TY D cy base τ1 G1 H1 → va_S (RA base) s.heap H1 locs1 → lv_has ls1 4 [(3, .int i), (2, .ref mo), (1, .ref xo), (0, .ref b)] → W p l e room_1 s m #[Value.ref b] below meth c H1 locs1 (cells + 10) (slots + 200) (lw_Z below #[Value.ref b] s) (F0 m 2266 ls1 [])) : W p l e room_1 s m #[Value.ref b] below meth c H locs cells slots (lw_Z below #[Value.ref b] s) (F0 m 1814 ls []) := by
  obtain ⟨hx, hb, hr, hml, hown, hts, hX, hbl, hlocks, hgv⟩ := id C0
  have hown : s.vm.findClass RL = some m.cls := hown
  have hb : c.code = cL_law := hb
  have hts : ∀ w ∈ GW, w.before #[Value.ref b] s = true := fun w h => hts w (gw_tbl w h)
  have h_xo := hLI.1
  have h_mo := hLI.2.1
  have hF : Fr τ [1, 2, 3, 4, 6, 7, 11, 20, 25, 26, 27, 28, 29, 30, 31, 32, 33, 34, 35, 36, 37, 38, 39, 40, 51, 52, 53, 54, 55, 66, 67, 68, 69, 70, 71, 72, 73, 74, 75, 76, 77, 78, 79, 80, 81, 82, 83, 84, 85, 86, 87, 88, 89, 90, 91, 1001, 1002, 1004, 1023, 1024] G G := Fr.rf
  obtain ⟨w1, ew1⟩ : ∃ y : Int32, y = xs (i.toInt.toNat + 1) := ⟨_, rfl⟩
  obtain ⟨w2, ew2⟩ : ∃ y : Int32, y = xs (i.toInt.toNat + 2) := ⟨_, rfl⟩
  obtain ⟨w3, ew3⟩ : ∃ y : Int32, y = xs (i.toInt.toNat + 3) := ⟨_, rfl⟩
  obtain ⟨w4, ew4⟩ : ∃ y : Int32, y = xs (i.toInt.toNat + 4) := ⟨_, rfl⟩
  refine lv_aload_n hx hb dL_law_1814 rfl (lv_at hl 2 rfl) ?_
  refine lv_aload_n hx hb dL_law_1815 rfl (lv_at hl 3 rfl) ?_
  refine lv_iload_n hx hb dL_law_1816 rfl (lv_at hl 0 rfl) ?_
  refine lv_iconst (v := 1) hx hb dL_law_1817 (by decide) ?_
  refine lv_iadd hx hb dL_law_1818 ?_
  refine lv_topi (fun z_1 ez_1 => ?_)
  have tz_1 : z_1.toInt = i.toInt + 1 := add_t ez_1 (show -2147483648 ≤ i.toInt + 1 by omega) (show i.toInt + 1 < 2147483648 by omega)
  refine va_sld (i := z_1) hx hb hX hbl hbA hS (vp_in_iff.mpr ⟨by omega, by omega⟩) dL_law_1819 ?_
  refine W.eq (g2 := F0 m 1820 ls [.int w1, .ref xo]) (by rw [ew1, show z_1.toNatClampNeg = i.toInt.toNat + 1 from (show z_1.toInt.toNat = _ by omega)]) ?_
  refine lv_aload_n hx hb dL_law_1820 rfl (lv_at hl 3 rfl) ?_
  refine lv_iload_n hx hb dL_law_1821 rfl (lv_at hl 0 rfl) ?_
  refine lv_iconst (v := 2) hx hb dL_law_1822 (by decide) ?_
  refine lv_iadd hx hb dL_law_1823 ?_
  refine lv_topi (fun z_2 ez_2 => ?_)
  have tz_2 : z_2.toInt = i.toInt + 2 := add_t ez_2 (show -2147483648 ≤ i.toInt + 2 by omega) (show i.toInt + 2 < 2147483648 by omega)
  refine va_sld (i := z_2) hx hb hX hbl hbA hS (vp_in_iff.mpr ⟨by omega, by omega⟩) dL_law_1824 ?_
  refine W.eq (g2 := F0 m 1825 ls [.int w2, .int w1, .ref xo]) (by rw [ew2, show z_2.toNatClampNeg = i.toInt.toNat + 2 from (show z_2.toInt.toNat = _ by omega)]) ?_
  refine lv_aload_n hx hb dL_law_1825 rfl (lv_at hl 3 rfl) ?_
  refine lv_iload_n hx hb dL_law_1826 rfl (lv_at hl 0 rfl) ?_
  refine lv_iconst (v := 3) hx hb dL_law_1827 (by decide) ?_
  refine lv_iadd hx hb dL_law_1828 ?_
  refine lv_topi (fun z_3 ez_3 => ?_)
  have tz_3 : z_3.toInt = i.toInt + 3 := add_t ez_3 (show -2147483648 ≤ i.toInt + 3 by omega) (show i.toInt + 3 < 2147483648 by omega)
  refine va_sld (i := z_3) hx hb hX hbl hbA hS (vp_in_iff.mpr ⟨by omega, by omega⟩) dL_law_1829 ?_
  refine W.eq (g2 := F0 m 1830 ls [.int w3, .int w2, .int w1, .ref xo]) (by rw [ew3, show z_3.toNatClampNeg = i.toInt.toNat + 3 from (show z_3.toInt.toNat = _ by omega)]) ?_
  refine lv_aload_n hx hb dL_law_1830 rfl (lv_at hl 3 rfl) ?_
  refine lv_iload_n hx hb dL_law_1831 rfl (lv_at hl 0 rfl) ?_
  refine lv_iconst (v := 4) hx hb dL_law_1832 (by decide) ?_
  refine lv_iadd hx hb dL_law_1833 ?_
  refine lv_topi (fun z_4 ez_4 => ?_)
  have tz_4 : z_4.toInt = i.toInt + 4 := add_t ez_4 (show -2147483648 ≤ i.toInt + 4 by omega) (show i.toInt + 4 < 2147483648 by omega)
  refine va_sld (i := z_4) hx hb hX hbl hbA hS (vp_in_iff.mpr ⟨by omega, by omega⟩) dL_law_1834 ?_
  refine W.eq (g2 := F0 m 1835 ls [.int w4, .int w3, .int w2, .int w1, .ref xo]) (by rw [ew4, show z_4.toNatClampNeg = i.toInt.toNat + 4 from (show z_4.toInt.toNat = _ by omega)]) ?_
  refine pu_calli (runV (As := [.int w1, .int w2, .int w3, .int w4]) (rest := []) ⟨hx, hb, hml, hown, hts⟩ (t_X9_lacks l D cy base τ G xo h_xo w1 w2 w3 w4) sV_L_185 hK (t_recv cf_1 hK hT h_xo) ⟨Nat.le_trans hZ hS.1, hT⟩ ⟨Nat.le_of_ble_eq_true rfl, Nat.le_of_ble_eq_true rfl⟩ rfl hl.1 rfl (Nat.le_of_ble_eq_true rfl) dL_law_1835 ⟨by have q9 := hroom.1; omega, by have q9 := hroom.2; omega⟩) (fun r_5 hr_5 => ?_)
  refine lv_pop hx hb dL_law_1838 rfl ?_
  refine lv_aload_n hx hb dL_law_1839 rfl (lv_at hl 1 rfl) ?_
  refine lv_aload_n hx hb dL_law_1840 rfl (lv_at hl 3 rfl) ?_
  refine lv_iload_n hx hb dL_law_1841 rfl (lv_at hl 0 rfl) ?_
  refine lv_iconst (v := 1) hx hb dL_law_1842 (by decide) ?_
  refine lv_iadd hx hb dL_law_1843 ?_
  refine lv_topi (fun z_6 ez_6 => ?_)
  have w_7 : z_1 = z_6 := ez_1.trans ez_6.symm
  subst w_7
  refine va_sld (i := z_1) hx hb hX hbl hbA hS (vp_in_iff.mpr ⟨by omega, by omega⟩) dL_law_1844 ?_
  refine W.eq (g2 := F0 m 1845 ls [.int w1, .ref mo]) (by rw [ew1, show z_1.toNatClampNeg = i.toInt.toNat + 1 from (show z_1.toInt.toNat = _ by omega)]) ?_
  refine lv_aload_n hx hb dL_law_1845 rfl (lv_at hl 3 rfl) ?_
  refine lv_iload_n hx hb dL_law_1846 rfl (lv_at hl 0 rfl) ?_
  refine lv_iconst (v := 2) hx hb dL_law_1847 (by decide) ?_
  refine lv_iadd hx hb dL_law_1848 ?_
  refine lv_topi (fun z_8 ez_8 => ?_)
  have w_9 : z_2 = z_8 := ez_2.trans ez_8.symm
  subst w_9
  refine va_sld (i := z_2) hx hb hX hbl hbA hS (vp_in_iff.mpr ⟨by omega, by omega⟩) dL_law_1849 ?_
  refine W.eq (g2 := F0 m 1850 ls [.int w2, .int w1, .ref mo]) (by rw [ew2, show z_2.toNatClampNeg = i.toInt.toNat + 2 from (show z_2.toInt.toNat = _ by omega)]) ?_
  refine lv_aload_n hx hb dL_law_1850 rfl (lv_at hl 3 rfl) ?_
  refine lv_iload_n hx hb dL_law_1851 rfl (lv_at hl 0 rfl) ?_
  refine lv_iconst (v := 3) hx hb dL_law_1852 (by decide) ?_
  refine lv_iadd hx hb dL_law_1853 ?_
  refine lv_topi (fun z_10 ez_10 => ?_)
  have w_11 : z_3 = z_10 := ez_3.trans ez_10.symm
  subst w_11
  refine va_sld (i := z_3) hx hb hX hbl hbA hS (vp_in_iff.mpr ⟨by omega, by omega⟩) dL_law_1854 ?_
  refine W.eq (g2 := F0 m 1855 ls [.int w3, .int w2, .int w1, .ref mo]) (by rw [ew3, show z_3.toNatClampNeg = i.toInt.toNat + 3 from (show z_3.toInt.toNat = _ by omega)]) ?_
  refine lv_aload_n hx hb dL_law_1855 rfl (lv_at hl 3 rfl) ?_
  refine lv_iload_n hx hb dL_law_1856 rfl (lv_at hl 0 rfl) ?_
  refine lv_iconst (v := 4) hx hb dL_law_1857 (by decide) ?_
  refine lv_iadd hx hb dL_law_1858 ?_
  refine lv_topi (fun z_12 ez_12 => ?_)
  have w_13 : z_4 = z_12 := ez_4.trans ez_12.symm
  subst w_13
  refine va_sld (i := z_4) hx hb hX hbl hbA hS (vp_in_iff.mpr ⟨by omega, by omega⟩) dL_law_1859 ?_
  refine W.eq (g2 := F0 m 1860 ls [.int w4, .int w3, .int w2, .int w1, .ref mo]) (by rw [ew4, show z_4.toNatClampNeg = i.toInt.toNat + 4 from (show z_4.toInt.toNat = _ by omega)]) ?_
  refine t_calli (runV (As := [.int w1, .int w2, .int w3, .int w4]) (rest := []) ⟨hx, hb, hml, hown, hts⟩ (t_X10_lacks l D cy base τ G mo h_mo w1 w2 w3 w4) sV_L_188 hK (t_recv cf_11 hK hT h_mo) ⟨Nat.le_trans hZ hS.1, hT⟩ ⟨Nat.le_of_ble_eq_true rfl, Nat.le_of_ble_eq_true rfl⟩ rfl hl.1 rfl (Nat.le_of_ble_eq_true rfl) dL_law_1860 ⟨by have q9 := hroom.1; omega, by have q9 := hroom.2; omega⟩) hS (fun r_14 G_14 H locs hF_14 hr_14 hT hS => ?_)
  have hF := hF.tr hF_14 rfl
  have hLI := hLI.fr EX.rf hF_14 rfl
  refine lv_pop hx hb dL_law_1863 rfl ?_
  refine lv_goto (tgt := 2266) hx hb dL_law_1864 (by decide) ?_
  exact W.widen (k := cells + 10) (n := slots + 200) (by omega) (by omega) (kk τ G_14 H locs ls hLI hT hS (lv_sub hl [0, 1, 2, 3] rfl))
set_option maxHeartbeats 4000000 in
set_option maxRecDepth 100000 in
theorem lc_41 {p : Program} {e : Env} {s : State} {m : MethodId} {below : List Frame} {meth : Method} {c : Code} {l : Launch} {b L : Nat} {xs : Nat → Int32} (D : va_G) (cy : Nat → ClassId) (adK adV : Nat → Nat) (base xo mo : Nat) (C0 : lw_At p s m meth c b L xs) (hK : KK D cy s) (hSS : SS adK adV base s s.heap) (hZ : base ≤ s.heap.size) (hZ2 : s.heap.size ≤ base) (hbA : ¬ RA base b) (hLs : L ≤ 3584) (τ : Nat → Nat) (G : Gh) (i : Int32) (hi0 : 0 ≤ i.toInt) (hi7 : i.toInt + 7 ≤ L) (hLI : LI τ G xo mo) {H : Heap} {locs : List Loc} (hT : TY D cy base τ G H) (hS : va_S (RA base) s.heap H locs) {ls : Array Slot} (hl : lv_has ls 4 [(3, .int i), (2, .ref mo), (1, .ref xo), (0, .ref b)]) {cells slots : Nat} (hroom : cells + 100 ≤ room_1.cells ∧ slots + 1000 ≤ room_1.slots) (kk : ∀ (τ1 : Nat → Nat) (G1 : Gh) (H1 : Heap) (locs1 : List Loc) (ls1 : Array Slot), LI τ1 G1 xo mo → TY D cy base τ1 G1 H1 → va_S (RA base) s.heap H1 locs1 → lv_has ls1 4 [(3, .int i), (2, .ref mo), (1, .ref xo), (0, .ref b)] → W p l e room_1 s m #[Value.ref b] below meth c H1 locs1 (cells + 10) (slots + 200) (lw_Z below #[Value.ref b] s) (F0 m 2266 ls1 [])) : W p l e room_1 s m #[Value.ref b] below meth c H locs cells slots (lw_Z below #[Value.ref b] s) (F0 m 1867 ls []) := by
  obtain ⟨hx, hb, hr, hml, hown, hts, hX, hbl, hlocks, hgv⟩ := id C0
  have hown : s.vm.findClass RL = some m.cls := hown
  have hb : c.code = cL_law := hb
  have hts : ∀ w ∈ GW, w.before #[Value.ref b] s = true := fun w h => hts w (gw_tbl w h)
  have h_xo := hLI.1
  have h_mo := hLI.2.1
  have hF : Fr τ [1, 2, 3, 4, 6, 7, 11, 20, 25, 26, 27, 28, 29, 30, 31, 32, 33, 34, 35, 36, 37, 38, 39, 40, 51, 52, 53, 54, 55, 66, 67, 68, 69, 70, 71, 72, 73, 74, 75, 76, 77, 78, 79, 80, 81, 82, 83, 84, 85, 86, 87, 88, 89, 90, 91, 1001, 1002, 1004, 1023, 1024] G G := Fr.rf
  obtain ⟨w1, ew1⟩ : ∃ y : Int32, y = xs (i.toInt.toNat + 1) := ⟨_, rfl⟩
  obtain ⟨w2, ew2⟩ : ∃ y : Int32, y = xs (i.toInt.toNat + 2) := ⟨_, rfl⟩
  refine lv_aload_n hx hb dL_law_1867 rfl (lv_at hl 2 rfl) ?_
  refine lv_aload_n hx hb dL_law_1868 rfl (lv_at hl 3 rfl) ?_
  refine lv_iload_n hx hb dL_law_1869 rfl (lv_at hl 0 rfl) ?_
  refine lv_iconst (v := 1) hx hb dL_law_1870 (by decide) ?_
  refine lv_iadd hx hb dL_law_1871 ?_
  refine lv_topi (fun z_1 ez_1 => ?_)
  have tz_1 : z_1.toInt = i.toInt + 1 := add_t ez_1 (show -2147483648 ≤ i.toInt + 1 by omega) (show i.toInt + 1 < 2147483648 by omega)
  refine va_sld (i := z_1) hx hb hX hbl hbA hS (vp_in_iff.mpr ⟨by omega, by omega⟩) dL_law_1872 ?_
  refine W.eq (g2 := F0 m 1873 ls [.int w1, .ref xo]) (by rw [ew1, show z_1.toNatClampNeg = i.toInt.toNat + 1 from (show z_1.toInt.toNat = _ by omega)]) ?_
  refine lv_aload_n hx hb dL_law_1873 rfl (lv_at hl 3 rfl) ?_
  refine lv_iload_n hx hb dL_law_1874 rfl (lv_at hl 0 rfl) ?_
  refine lv_iconst (v := 2) hx hb dL_law_1875 (by decide) ?_
  refine lv_iadd hx hb dL_law_1876 ?_
  refine lv_topi (fun z_2 ez_2 => ?_)
  have tz_2 : z_2.toInt = i.toInt + 2 := add_t ez_2 (show -2147483648 ≤ i.toInt + 2 by omega) (show i.toInt + 2 < 2147483648 by omega)
  refine va_sld (i := z_2) hx hb hX hbl hbA hS (vp_in_iff.mpr ⟨by omega, by omega⟩) dL_law_1877 ?_
  refine W.eq (g2 := F0 m 1878 ls [.int w2, .int w1, .ref xo]) (by rw [ew2, show z_2.toNatClampNeg = i.toInt.toNat + 2 from (show z_2.toInt.toNat = _ by omega)]) ?_
  refine pu_calli (runV (As := [.int w1, .int w2]) (rest := []) ⟨hx, hb, hml, hown, hts⟩ (t_X9_judge l D cy base τ G xo h_xo w1 w2) sV_L_189 hK (t_recv cf_1 hK hT h_xo) ⟨Nat.le_trans hZ hS.1, hT⟩ ⟨Nat.le_of_ble_eq_true rfl, Nat.le_of_ble_eq_true rfl⟩ rfl hl.1 rfl (Nat.le_of_ble_eq_true rfl) dL_law_1878 ⟨by have q9 := hroom.1; omega, by have q9 := hroom.2; omega⟩) (fun r_3 hr_3 => ?_)
  refine lv_pop hx hb dL_law_1881 rfl ?_
  refine lv_aload_n hx hb dL_law_1882 rfl (lv_at hl 1 rfl) ?_
  refine lv_aload_n hx hb dL_law_1883 rfl (lv_at hl 3 rfl) ?_
  refine lv_iload_n hx hb dL_law_1884 rfl (lv_at hl 0 rfl) ?_
  refine lv_iconst (v := 1) hx hb dL_law_1885 (by decide) ?_
  refine lv_iadd hx hb dL_law_1886 ?_
  refine lv_topi (fun z_4 ez_4 => ?_)
  have w_5 : z_1 = z_4 := ez_1.trans ez_4.symm
  subst w_5
  refine va_sld (i := z_1) hx hb hX hbl hbA hS (vp_in_iff.mpr ⟨by omega, by omega⟩) dL_law_1887 ?_
  refine W.eq (g2 := F0 m 1888 ls [.int w1, .ref mo]) (by rw [ew1, show z_1.toNatClampNeg = i.toInt.toNat + 1 from (show z_1.toInt.toNat = _ by omega)]) ?_
  refine lv_aload_n hx hb dL_law_1888 rfl (lv_at hl 3 rfl) ?_
  refine lv_iload_n hx hb dL_law_1889 rfl (lv_at hl 0 rfl) ?_
  refine lv_iconst (v := 2) hx hb dL_law_1890 (by decide) ?_
  refine lv_iadd hx hb dL_law_1891 ?_
  refine lv_topi (fun z_6 ez_6 => ?_)
  have w_7 : z_2 = z_6 := ez_2.trans ez_6.symm
  subst w_7
  refine va_sld (i := z_2) hx hb hX hbl hbA hS (vp_in_iff.mpr ⟨by omega, by omega⟩) dL_law_1892 ?_
  refine W.eq (g2 := F0 m 1893 ls [.int w2, .int w1, .ref mo]) (by rw [ew2, show z_2.toNatClampNeg = i.toInt.toNat + 2 from (show z_2.toInt.toNat = _ by omega)]) ?_
  refine t_calli (runV (As := [.int w1, .int w2]) (rest := []) ⟨hx, hb, hml, hown, hts⟩ (t_X10_judge l D cy base τ G mo h_mo w1 w2) sV_L_192 hK (t_recv cf_11 hK hT h_mo) ⟨Nat.le_trans hZ hS.1, hT⟩ ⟨Nat.le_of_ble_eq_true rfl, Nat.le_of_ble_eq_true rfl⟩ rfl hl.1 rfl (Nat.le_of_ble_eq_true rfl) dL_law_1893 ⟨by have q9 := hroom.1; omega, by have q9 := hroom.2; omega⟩) hS (fun r_8 G_8 H locs hF_8 hr_8 hT hS => ?_)
  have hF := hF.tr hF_8 rfl
  have hLI := hLI.fr EX.rf hF_8 rfl
  refine lv_pop hx hb dL_law_1896 rfl ?_
  refine lv_goto (tgt := 2266) hx hb dL_law_1897 (by decide) ?_
  exact W.widen (k := cells + 10) (n := slots + 200) (by omega) (by omega) (kk τ G_8 H locs ls hLI hT hS (lv_sub hl [0, 1, 2, 3] rfl))
set_option maxHeartbeats 4000000 in
set_option maxRecDepth 100000 in
theorem lc_42 {p : Program} {e : Env} {s : State} {m : MethodId} {below : List Frame} {meth : Method} {c : Code} {l : Launch} {b L : Nat} {xs : Nat → Int32} (D : va_G) (cy : Nat → ClassId) (adK adV : Nat → Nat) (base xo mo : Nat) (C0 : lw_At p s m meth c b L xs) (hK : KK D cy s) (hSS : SS adK adV base s s.heap) (hZ : base ≤ s.heap.size) (hZ2 : s.heap.size ≤ base) (hbA : ¬ RA base b) (hLs : L ≤ 3584) (τ : Nat → Nat) (G : Gh) (i : Int32) (hi0 : 0 ≤ i.toInt) (hi7 : i.toInt + 7 ≤ L) (hLI : LI τ G xo mo) {H : Heap} {locs : List Loc} (hT : TY D cy base τ G H) (hS : va_S (RA base) s.heap H locs) {ls : Array Slot} (hl : lv_has ls 4 [(3, .int i), (2, .ref mo), (1, .ref xo), (0, .ref b)]) {cells slots : Nat} (hroom : cells + 100 ≤ room_1.cells ∧ slots + 1000 ≤ room_1.slots) (kk : ∀ (τ1 : Nat → Nat) (G1 : Gh) (H1 : Heap) (locs1 : List Loc) (ls1 : Array Slot), LI τ1 G1 xo mo → TY D cy base τ1 G1 H1 → va_S (RA base) s.heap H1 locs1 → lv_has ls1 4 [(3, .int i), (2, .ref mo), (1, .ref xo), (0, .ref b)] → W p l e room_1 s m #[Value.ref b] below meth c H1 locs1 (cells + 10) (slots + 200) (lw_Z below #[Value.ref b] s) (F0 m 2266 ls1 [])) : W p l e room_1 s m #[Value.ref b] below meth c H locs cells slots (lw_Z below #[Value.ref b] s) (F0 m 1900 ls []) := by
  obtain ⟨hx, hb, hr, hml, hown, hts, hX, hbl, hlocks, hgv⟩ := id C0
  have hown : s.vm.findClass RL = some m.cls := hown
  have hb : c.code = cL_law := hb
  have hts : ∀ w ∈ GW, w.before #[Value.ref b] s = true := fun w h => hts w (gw_tbl w h)
  have h_xo := hLI.1
  have h_mo := hLI.2.1
  have hF : Fr τ [1, 2, 3, 4, 6, 7, 11, 20, 25, 26, 27, 28, 29, 30, 31, 32, 33, 34, 35, 36, 37, 38, 39, 40, 51, 52, 53, 54, 55, 66, 67, 68, 69, 70, 71, 72, 73, 74, 75, 76, 77, 78, 79, 80, 81, 82, 83, 84, 85, 86, 87, 88, 89, 90, 91, 1001, 1002, 1004, 1023, 1024] G G := Fr.rf
  obtain ⟨w1, ew1⟩ : ∃ y : Int32, y = xs (i.toInt.toNat + 1) := ⟨_, rfl⟩
  obtain ⟨w2, ew2⟩ : ∃ y : Int32, y = xs (i.toInt.toNat + 2) := ⟨_, rfl⟩
  obtain ⟨w3, ew3⟩ : ∃ y : Int32, y = xs (i.toInt.toNat + 3) := ⟨_, rfl⟩
  refine lv_aload_n hx hb dL_law_1900 rfl (lv_at hl 2 rfl) ?_
  refine lv_aload_n hx hb dL_law_1901 rfl (lv_at hl 3 rfl) ?_
  refine lv_iload_n hx hb dL_law_1902 rfl (lv_at hl 0 rfl) ?_
  refine lv_iconst (v := 1) hx hb dL_law_1903 (by decide) ?_
  refine lv_iadd hx hb dL_law_1904 ?_
  refine lv_topi (fun z_1 ez_1 => ?_)
  have tz_1 : z_1.toInt = i.toInt + 1 := add_t ez_1 (show -2147483648 ≤ i.toInt + 1 by omega) (show i.toInt + 1 < 2147483648 by omega)
  refine va_sld (i := z_1) hx hb hX hbl hbA hS (vp_in_iff.mpr ⟨by omega, by omega⟩) dL_law_1905 ?_
  refine W.eq (g2 := F0 m 1906 ls [.int w1, .ref xo]) (by rw [ew1, show z_1.toNatClampNeg = i.toInt.toNat + 1 from (show z_1.toInt.toNat = _ by omega)]) ?_
  refine lv_aload_n hx hb dL_law_1906 rfl (lv_at hl 3 rfl) ?_
  refine lv_iload_n hx hb dL_law_1907 rfl (lv_at hl 0 rfl) ?_
  refine lv_iconst (v := 2) hx hb dL_law_1908 (by decide) ?_
  refine lv_iadd hx hb dL_law_1909 ?_
  refine lv_topi (fun z_2 ez_2 => ?_)
  have tz_2 : z_2.toInt = i.toInt + 2 := add_t ez_2 (show -2147483648 ≤ i.toInt + 2 by omega) (show i.toInt + 2 < 2147483648 by omega)
  refine va_sld (i := z_2) hx hb hX hbl hbA hS (vp_in_iff.mpr ⟨by omega, by omega⟩) dL_law_1910 ?_
  refine W.eq (g2 := F0 m 1911 ls [.int w2, .int w1, .ref xo]) (by rw [ew2, show z_2.toNatClampNeg = i.toInt.toNat + 2 from (show z_2.toInt.toNat = _ by omega)]) ?_
  refine lv_aload_n hx hb dL_law_1911 rfl (lv_at hl 3 rfl) ?_
  refine lv_iload_n hx hb dL_law_1912 rfl (lv_at hl 0 rfl) ?_
  refine lv_iconst (v := 3) hx hb dL_law_1913 (by decide) ?_
  refine lv_iadd hx hb dL_law_1914 ?_
  refine lv_topi (fun z_3 ez_3 => ?_)
  have tz_3 : z_3.toInt = i.toInt + 3 := add_t ez_3 (show -2147483648 ≤ i.toInt + 3 by omega) (show i.toInt + 3 < 2147483648 by omega)
  refine va_sld (i := z_3) hx hb hX hbl hbA hS (vp_in_iff.mpr ⟨by omega, by omega⟩) dL_law_1915 ?_
  refine W.eq (g2 := F0 m 1916 ls [.int w3, .int w2, .int w1, .ref xo]) (by rw [ew3, show z_3.toNatClampNeg = i.toInt.toNat + 3 from (show z_3.toInt.toNat = _ by omega)]) ?_
  refine pu_calll (runV (As := [.int w1, .int w2, .int w3]) (rest := []) ⟨hx, hb, hml, hown, hts⟩ (t_X9_paid l D cy base τ G xo h_xo w1 w2 w3) sV_L_193 hK (t_recv cf_1 hK hT h_xo) ⟨Nat.le_trans hZ hS.1, hT⟩ ⟨Nat.le_of_ble_eq_true rfl, Nat.le_of_ble_eq_true rfl⟩ rfl hl.1 rfl (Nat.le_of_ble_eq_true rfl) dL_law_1916 ⟨by have q9 := hroom.1; omega, by have q9 := hroom.2; omega⟩) (fun r_4 hr_4 => ?_)
  refine lv_pop2_2 hx hb dL_law_1919 rfl ?_
  refine lv_aload_n hx hb dL_law_1920 rfl (lv_at hl 1 rfl) ?_
  refine lv_aload_n hx hb dL_law_1921 rfl (lv_at hl 3 rfl) ?_
  refine lv_iload_n hx hb dL_law_1922 rfl (lv_at hl 0 rfl) ?_
  refine lv_iconst (v := 1) hx hb dL_law_1923 (by decide) ?_
  refine lv_iadd hx hb dL_law_1924 ?_
  refine lv_topi (fun z_5 ez_5 => ?_)
  have w_6 : z_1 = z_5 := ez_1.trans ez_5.symm
  subst w_6
  refine va_sld (i := z_1) hx hb hX hbl hbA hS (vp_in_iff.mpr ⟨by omega, by omega⟩) dL_law_1925 ?_
  refine W.eq (g2 := F0 m 1926 ls [.int w1, .ref mo]) (by rw [ew1, show z_1.toNatClampNeg = i.toInt.toNat + 1 from (show z_1.toInt.toNat = _ by omega)]) ?_
  refine lv_aload_n hx hb dL_law_1926 rfl (lv_at hl 3 rfl) ?_
  refine lv_iload_n hx hb dL_law_1927 rfl (lv_at hl 0 rfl) ?_
  refine lv_iconst (v := 2) hx hb dL_law_1928 (by decide) ?_
  refine lv_iadd hx hb dL_law_1929 ?_
  refine lv_topi (fun z_7 ez_7 => ?_)
  have w_8 : z_2 = z_7 := ez_2.trans ez_7.symm
  subst w_8
  refine va_sld (i := z_2) hx hb hX hbl hbA hS (vp_in_iff.mpr ⟨by omega, by omega⟩) dL_law_1930 ?_
  refine W.eq (g2 := F0 m 1931 ls [.int w2, .int w1, .ref mo]) (by rw [ew2, show z_2.toNatClampNeg = i.toInt.toNat + 2 from (show z_2.toInt.toNat = _ by omega)]) ?_
  refine lv_aload_n hx hb dL_law_1931 rfl (lv_at hl 3 rfl) ?_
  refine lv_iload_n hx hb dL_law_1932 rfl (lv_at hl 0 rfl) ?_
  refine lv_iconst (v := 3) hx hb dL_law_1933 (by decide) ?_
  refine lv_iadd hx hb dL_law_1934 ?_
  refine lv_topi (fun z_9 ez_9 => ?_)
  have w_10 : z_3 = z_9 := ez_3.trans ez_9.symm
  subst w_10
  refine va_sld (i := z_3) hx hb hX hbl hbA hS (vp_in_iff.mpr ⟨by omega, by omega⟩) dL_law_1935 ?_
  refine W.eq (g2 := F0 m 1936 ls [.int w3, .int w2, .int w1, .ref mo]) (by rw [ew3, show z_3.toNatClampNeg = i.toInt.toNat + 3 from (show z_3.toInt.toNat = _ by omega)]) ?_
  refine t_calll (runV (As := [.int w1, .int w2, .int w3]) (rest := []) ⟨hx, hb, hml, hown, hts⟩ (t_X10_paid l D cy base τ G mo h_mo w1 w2 w3) sV_L_196 hK (t_recv cf_11 hK hT h_mo) ⟨Nat.le_trans hZ hS.1, hT⟩ ⟨Nat.le_of_ble_eq_true rfl, Nat.le_of_ble_eq_true rfl⟩ rfl hl.1 rfl (Nat.le_of_ble_eq_true rfl) dL_law_1936 ⟨by have q9 := hroom.1; omega, by have q9 := hroom.2; omega⟩) hS (fun r_11 G_11 H locs hF_11 hr_11 hT hS => ?_)
  have hF := hF.tr hF_11 rfl
  have hLI := hLI.fr EX.rf hF_11 rfl
  refine lv_pop2_2 hx hb dL_law_1939 rfl ?_
  refine lv_goto (tgt := 2266) hx hb dL_law_1940 (by decide) ?_
  exact W.widen (k := cells + 10) (n := slots + 200) (by omega) (by omega) (kk τ G_11 H locs ls hLI hT hS (lv_sub hl [0, 1, 2, 3] rfl))
set_option maxHeartbeats 4000000 in
set_option maxRecDepth 100000 in
theorem lc_43 {p : Program} {e : Env} {s : State} {m : MethodId} {below : List Frame} {meth : Method} {c : Code} {l : Launch} {b L : Nat} {xs : Nat → Int32} (D : va_G) (cy : Nat → ClassId) (adK adV : Nat → Nat) (base xo mo : Nat) (C0 : lw_At p s m meth c b L xs) (hK : KK D cy s) (hSS : SS adK adV base s s.heap) (hZ : base ≤ s.heap.size) (hZ2 : s.heap.size ≤ base) (hbA : ¬ RA base b) (hLs : L ≤ 3584) (τ : Nat → Nat) (G : Gh) (i : Int32) (hi0 : 0 ≤ i.toInt) (hi7 : i.toInt + 7 ≤ L) (hLI : LI τ G xo mo) {H : Heap} {locs : List Loc} (hT : TY D cy base τ G H) (hS : va_S (RA base) s.heap H locs) {ls : Array Slot} (hl : lv_has ls 4 [(3, .int i), (2, .ref mo), (1, .ref xo), (0, .ref b)]) {cells slots : Nat} (hroom : cells + 100 ≤ room_1.cells ∧ slots + 1000 ≤ room_1.slots) (kk : ∀ (τ1 : Nat → Nat) (G1 : Gh) (H1 : Heap) (locs1 : List Loc) (ls1 : Array Slot), LI τ1 G1 xo mo → TY D cy base τ1 G1 H1 → va_S (RA base) s.heap H1 locs1 → lv_has ls1 4 [(3, .int i), (2, .ref mo), (1, .ref xo), (0, .ref b)] → W p l e room_1 s m #[Value.ref b] below meth c H1 locs1 (cells + 10) (slots + 200) (lw_Z below #[Value.ref b] s) (F0 m 2266 ls1 [])) : W p l e room_1 s m #[Value.ref b] below meth c H locs cells slots (lw_Z below #[Value.ref b] s) (F0 m 1943 ls []) := by
  obtain ⟨hx, hb, hr, hml, hown, hts, hX, hbl, hlocks, hgv⟩ := id C0
  have hown : s.vm.findClass RL = some m.cls := hown
  have hb : c.code = cL_law := hb
  have hts : ∀ w ∈ GW, w.before #[Value.ref b] s = true := fun w h => hts w (gw_tbl w h)
  have h_xo := hLI.1
  have h_mo := hLI.2.1
  have hF : Fr τ [1, 2, 3, 4, 6, 7, 11, 20, 25, 26, 27, 28, 29, 30, 31, 32, 33, 34, 35, 36, 37, 38, 39, 40, 51, 52, 53, 54, 55, 66, 67, 68, 69, 70, 71, 72, 73, 74, 75, 76, 77, 78, 79, 80, 81, 82, 83, 84, 85, 86, 87, 88, 89, 90, 91, 1001, 1002, 1004, 1023, 1024] G G := Fr.rf
  obtain ⟨w1, ew1⟩ : ∃ y : Int32, y = xs (i.toInt.toNat + 1) := ⟨_, rfl⟩
  obtain ⟨w2, ew2⟩ : ∃ y : Int32, y = xs (i.toInt.toNat + 2) := ⟨_, rfl⟩
  obtain ⟨w3, ew3⟩ : ∃ y : Int32, y = xs (i.toInt.toNat + 3) := ⟨_, rfl⟩
  obtain ⟨w4, ew4⟩ : ∃ y : Int32, y = xs (i.toInt.toNat + 4) := ⟨_, rfl⟩
  obtain ⟨w5, ew5⟩ : ∃ y : Int32, y = xs (i.toInt.toNat + 5) := ⟨_, rfl⟩
  obtain ⟨w6, ew6⟩ : ∃ y : Int32, y = xs (i.toInt.toNat + 6) := ⟨_, rfl⟩
  refine lv_aload_n hx hb dL_law_1943 rfl (lv_at hl 2 rfl) ?_
  refine lv_aload_n hx hb dL_law_1944 rfl (lv_at hl 3 rfl) ?_
  refine lv_iload_n hx hb dL_law_1945 rfl (lv_at hl 0 rfl) ?_
  refine lv_iconst (v := 1) hx hb dL_law_1946 (by decide) ?_
  refine lv_iadd hx hb dL_law_1947 ?_
  refine lv_topi (fun z_1 ez_1 => ?_)
  have tz_1 : z_1.toInt = i.toInt + 1 := add_t ez_1 (show -2147483648 ≤ i.toInt + 1 by omega) (show i.toInt + 1 < 2147483648 by omega)
  refine va_sld (i := z_1) hx hb hX hbl hbA hS (vp_in_iff.mpr ⟨by omega, by omega⟩) dL_law_1948 ?_
  refine W.eq (g2 := F0 m 1949 ls [.int w1, .ref xo]) (by rw [ew1, show z_1.toNatClampNeg = i.toInt.toNat + 1 from (show z_1.toInt.toNat = _ by omega)]) ?_
  refine lv_aload_n hx hb dL_law_1949 rfl (lv_at hl 3 rfl) ?_
  refine lv_iload_n hx hb dL_law_1950 rfl (lv_at hl 0 rfl) ?_
  refine lv_iconst (v := 2) hx hb dL_law_1951 (by decide) ?_
  refine lv_iadd hx hb dL_law_1952 ?_
  refine lv_topi (fun z_2 ez_2 => ?_)
  have tz_2 : z_2.toInt = i.toInt + 2 := add_t ez_2 (show -2147483648 ≤ i.toInt + 2 by omega) (show i.toInt + 2 < 2147483648 by omega)
  refine va_sld (i := z_2) hx hb hX hbl hbA hS (vp_in_iff.mpr ⟨by omega, by omega⟩) dL_law_1953 ?_
  refine W.eq (g2 := F0 m 1954 ls [.int w2, .int w1, .ref xo]) (by rw [ew2, show z_2.toNatClampNeg = i.toInt.toNat + 2 from (show z_2.toInt.toNat = _ by omega)]) ?_
  refine lv_aload_n hx hb dL_law_1954 rfl (lv_at hl 3 rfl) ?_
  refine lv_iload_n hx hb dL_law_1955 rfl (lv_at hl 0 rfl) ?_
  refine lv_iconst (v := 3) hx hb dL_law_1956 (by decide) ?_
  refine lv_iadd hx hb dL_law_1957 ?_
  refine lv_topi (fun z_3 ez_3 => ?_)
  have tz_3 : z_3.toInt = i.toInt + 3 := add_t ez_3 (show -2147483648 ≤ i.toInt + 3 by omega) (show i.toInt + 3 < 2147483648 by omega)
  refine va_sld (i := z_3) hx hb hX hbl hbA hS (vp_in_iff.mpr ⟨by omega, by omega⟩) dL_law_1958 ?_
  refine W.eq (g2 := F0 m 1959 ls [.int w3, .int w2, .int w1, .ref xo]) (by rw [ew3, show z_3.toNatClampNeg = i.toInt.toNat + 3 from (show z_3.toInt.toNat = _ by omega)]) ?_
  refine lv_aload_n hx hb dL_law_1959 rfl (lv_at hl 3 rfl) ?_
  refine lv_iload_n hx hb dL_law_1960 rfl (lv_at hl 0 rfl) ?_
  refine lv_iconst (v := 4) hx hb dL_law_1961 (by decide) ?_
  refine lv_iadd hx hb dL_law_1962 ?_
  refine lv_topi (fun z_4 ez_4 => ?_)
  have tz_4 : z_4.toInt = i.toInt + 4 := add_t ez_4 (show -2147483648 ≤ i.toInt + 4 by omega) (show i.toInt + 4 < 2147483648 by omega)
  refine va_sld (i := z_4) hx hb hX hbl hbA hS (vp_in_iff.mpr ⟨by omega, by omega⟩) dL_law_1963 ?_
  refine W.eq (g2 := F0 m 1964 ls [.int w4, .int w3, .int w2, .int w1, .ref xo]) (by rw [ew4, show z_4.toNatClampNeg = i.toInt.toNat + 4 from (show z_4.toInt.toNat = _ by omega)]) ?_
  refine lv_aload_n hx hb dL_law_1964 rfl (lv_at hl 3 rfl) ?_
  refine lv_iload_n hx hb dL_law_1965 rfl (lv_at hl 0 rfl) ?_
  refine lv_iconst (v := 5) hx hb dL_law_1966 (by decide) ?_
  refine lv_iadd hx hb dL_law_1967 ?_
  refine lv_topi (fun z_5 ez_5 => ?_)
  have tz_5 : z_5.toInt = i.toInt + 5 := add_t ez_5 (show -2147483648 ≤ i.toInt + 5 by omega) (show i.toInt + 5 < 2147483648 by omega)
  refine va_sld (i := z_5) hx hb hX hbl hbA hS (vp_in_iff.mpr ⟨by omega, by omega⟩) dL_law_1968 ?_
  refine W.eq (g2 := F0 m 1969 ls [.int w5, .int w4, .int w3, .int w2, .int w1, .ref xo]) (by rw [ew5, show z_5.toNatClampNeg = i.toInt.toNat + 5 from (show z_5.toInt.toNat = _ by omega)]) ?_
  refine lv_aload_n hx hb dL_law_1969 rfl (lv_at hl 3 rfl) ?_
  refine lv_iload_n hx hb dL_law_1970 rfl (lv_at hl 0 rfl) ?_
  refine lv_bipush (v := 6) hx hb dL_law_1971 (by decide) ?_
  refine lv_iadd hx hb dL_law_1973 ?_
  refine lv_topi (fun z_6 ez_6 => ?_)
  have tz_6 : z_6.toInt = i.toInt + 6 := add_t ez_6 (show -2147483648 ≤ i.toInt + 6 by omega) (show i.toInt + 6 < 2147483648 by omega)
  refine va_sld (i := z_6) hx hb hX hbl hbA hS (vp_in_iff.mpr ⟨by omega, by omega⟩) dL_law_1974 ?_
  refine W.eq (g2 := F0 m 1975 ls [.int w6, .int w5, .int w4, .int w3, .int w2, .int w1, .ref xo]) (by rw [ew6, show z_6.toNatClampNeg = i.toInt.toNat + 6 from (show z_6.toInt.toNat = _ by omega)]) ?_
  refine t_calli (runV (As := [.int w1, .int w2, .int w3, .int w4, .int w5, .int w6]) (rest := []) ⟨hx, hb, hml, hown, hts⟩ (t_X9_years l D cy base τ G xo h_xo w1 w2 w3 w4 w5 w6) sV_L_197 hK (t_recv cf_1 hK hT h_xo) ⟨Nat.le_trans hZ hS.1, hT⟩ ⟨Nat.le_of_ble_eq_true rfl, Nat.le_of_ble_eq_true rfl⟩ rfl hl.1 rfl (Nat.le_of_ble_eq_true rfl) dL_law_1975 ⟨by have q9 := hroom.1; omega, by have q9 := hroom.2; omega⟩) hS (fun r_7 G_7 H locs hF_7 hr_7 hT hS => ?_)
  have hF := hF.tr hF_7 rfl
  have hLI := hLI.fr EX.rf hF_7 rfl
  refine lv_pop hx hb dL_law_1978 rfl ?_
  refine lv_aload_n hx hb dL_law_1979 rfl (lv_at hl 1 rfl) ?_
  refine lv_aload_n hx hb dL_law_1980 rfl (lv_at hl 3 rfl) ?_
  refine lv_iload_n hx hb dL_law_1981 rfl (lv_at hl 0 rfl) ?_
  refine lv_iconst (v := 1) hx hb dL_law_1982 (by decide) ?_
  refine lv_iadd hx hb dL_law_1983 ?_
  refine lv_topi (fun z_8 ez_8 => ?_)
  have w_9 : z_1 = z_8 := ez_1.trans ez_8.symm
  subst w_9
  refine va_sld (i := z_1) hx hb hX hbl hbA hS (vp_in_iff.mpr ⟨by omega, by omega⟩) dL_law_1984 ?_
  refine W.eq (g2 := F0 m 1985 ls [.int w1, .ref mo]) (by rw [ew1, show z_1.toNatClampNeg = i.toInt.toNat + 1 from (show z_1.toInt.toNat = _ by omega)]) ?_
  refine lv_aload_n hx hb dL_law_1985 rfl (lv_at hl 3 rfl) ?_
  refine lv_iload_n hx hb dL_law_1986 rfl (lv_at hl 0 rfl) ?_
  refine lv_iconst (v := 2) hx hb dL_law_1987 (by decide) ?_
  refine lv_iadd hx hb dL_law_1988 ?_
  refine lv_topi (fun z_10 ez_10 => ?_)
  have w_11 : z_2 = z_10 := ez_2.trans ez_10.symm
  subst w_11
  refine va_sld (i := z_2) hx hb hX hbl hbA hS (vp_in_iff.mpr ⟨by omega, by omega⟩) dL_law_1989 ?_
  refine W.eq (g2 := F0 m 1990 ls [.int w2, .int w1, .ref mo]) (by rw [ew2, show z_2.toNatClampNeg = i.toInt.toNat + 2 from (show z_2.toInt.toNat = _ by omega)]) ?_
  refine lv_aload_n hx hb dL_law_1990 rfl (lv_at hl 3 rfl) ?_
  refine lv_iload_n hx hb dL_law_1991 rfl (lv_at hl 0 rfl) ?_
  refine lv_iconst (v := 3) hx hb dL_law_1992 (by decide) ?_
  refine lv_iadd hx hb dL_law_1993 ?_
  refine lv_topi (fun z_12 ez_12 => ?_)
  have w_13 : z_3 = z_12 := ez_3.trans ez_12.symm
  subst w_13
  refine va_sld (i := z_3) hx hb hX hbl hbA hS (vp_in_iff.mpr ⟨by omega, by omega⟩) dL_law_1994 ?_
  refine W.eq (g2 := F0 m 1995 ls [.int w3, .int w2, .int w1, .ref mo]) (by rw [ew3, show z_3.toNatClampNeg = i.toInt.toNat + 3 from (show z_3.toInt.toNat = _ by omega)]) ?_
  refine lv_aload_n hx hb dL_law_1995 rfl (lv_at hl 3 rfl) ?_
  refine lv_iload_n hx hb dL_law_1996 rfl (lv_at hl 0 rfl) ?_
  refine lv_iconst (v := 4) hx hb dL_law_1997 (by decide) ?_
  refine lv_iadd hx hb dL_law_1998 ?_
  refine lv_topi (fun z_14 ez_14 => ?_)
  have w_15 : z_4 = z_14 := ez_4.trans ez_14.symm
  subst w_15
  refine va_sld (i := z_4) hx hb hX hbl hbA hS (vp_in_iff.mpr ⟨by omega, by omega⟩) dL_law_1999 ?_
  refine W.eq (g2 := F0 m 2000 ls [.int w4, .int w3, .int w2, .int w1, .ref mo]) (by rw [ew4, show z_4.toNatClampNeg = i.toInt.toNat + 4 from (show z_4.toInt.toNat = _ by omega)]) ?_
  refine lv_aload_n hx hb dL_law_2000 rfl (lv_at hl 3 rfl) ?_
  refine lv_iload_n hx hb dL_law_2001 rfl (lv_at hl 0 rfl) ?_
  refine lv_iconst (v := 5) hx hb dL_law_2002 (by decide) ?_
  refine lv_iadd hx hb dL_law_2003 ?_
  refine lv_topi (fun z_16 ez_16 => ?_)
  have w_17 : z_5 = z_16 := ez_5.trans ez_16.symm
  subst w_17
  refine va_sld (i := z_5) hx hb hX hbl hbA hS (vp_in_iff.mpr ⟨by omega, by omega⟩) dL_law_2004 ?_
  refine W.eq (g2 := F0 m 2005 ls [.int w5, .int w4, .int w3, .int w2, .int w1, .ref mo]) (by rw [ew5, show z_5.toNatClampNeg = i.toInt.toNat + 5 from (show z_5.toInt.toNat = _ by omega)]) ?_
  refine lv_aload_n hx hb dL_law_2005 rfl (lv_at hl 3 rfl) ?_
  refine lv_iload_n hx hb dL_law_2006 rfl (lv_at hl 0 rfl) ?_
  refine lv_bipush (v := 6) hx hb dL_law_2007 (by decide) ?_
  refine lv_iadd hx hb dL_law_2009 ?_
  refine lv_topi (fun z_18 ez_18 => ?_)
  have w_19 : z_6 = z_18 := ez_6.trans ez_18.symm
  subst w_19
  refine va_sld (i := z_6) hx hb hX hbl hbA hS (vp_in_iff.mpr ⟨by omega, by omega⟩) dL_law_2010 ?_
  refine W.eq (g2 := F0 m 2011 ls [.int w6, .int w5, .int w4, .int w3, .int w2, .int w1, .ref mo]) (by rw [ew6, show z_6.toNatClampNeg = i.toInt.toNat + 6 from (show z_6.toInt.toNat = _ by omega)]) ?_
  refine t_calli (runV (As := [.int w1, .int w2, .int w3, .int w4, .int w5, .int w6]) (rest := []) ⟨hx, hb, hml, hown, hts⟩ (t_X10_years l D cy base τ G_7 mo h_mo w1 w2 w3 w4 w5 w6) sV_L_201 hK (t_recv cf_11 hK hT h_mo) ⟨Nat.le_trans hZ hS.1, hT⟩ ⟨Nat.le_of_ble_eq_true rfl, Nat.le_of_ble_eq_true rfl⟩ rfl hl.1 rfl (Nat.le_of_ble_eq_true rfl) dL_law_2011 ⟨by have q9 := hroom.1; omega, by have q9 := hroom.2; omega⟩) hS (fun r_20 G_20 H locs hF_20 hr_20 hT hS => ?_)
  have hF := hF.tr hF_20 rfl
  have hLI := hLI.fr EX.rf hF_20 rfl
  refine lv_pop hx hb dL_law_2014 rfl ?_
  refine lv_goto (tgt := 2266) hx hb dL_law_2015 (by decide) ?_
  exact W.widen (k := cells + 10) (n := slots + 200) (by omega) (by omega) (kk τ G_20 H locs ls hLI hT hS (lv_sub hl [0, 1, 2, 3] rfl))
set_option maxHeartbeats 4000000 in
set_option maxRecDepth 100000 in
theorem lc_44 {p : Program} {e : Env} {s : State} {m : MethodId} {below : List Frame} {meth : Method} {c : Code} {l : Launch} {b L : Nat} {xs : Nat → Int32} (D : va_G) (cy : Nat → ClassId) (adK adV : Nat → Nat) (base xo mo : Nat) (C0 : lw_At p s m meth c b L xs) (hK : KK D cy s) (hSS : SS adK adV base s s.heap) (hZ : base ≤ s.heap.size) (hZ2 : s.heap.size ≤ base) (hbA : ¬ RA base b) (hLs : L ≤ 3584) (τ : Nat → Nat) (G : Gh) (i : Int32) (hi0 : 0 ≤ i.toInt) (hi7 : i.toInt + 7 ≤ L) (hLI : LI τ G xo mo) {H : Heap} {locs : List Loc} (hT : TY D cy base τ G H) (hS : va_S (RA base) s.heap H locs) {ls : Array Slot} (hl : lv_has ls 4 [(3, .int i), (2, .ref mo), (1, .ref xo), (0, .ref b)]) {cells slots : Nat} (hroom : cells + 100 ≤ room_1.cells ∧ slots + 1000 ≤ room_1.slots) (kk : ∀ (τ1 : Nat → Nat) (G1 : Gh) (H1 : Heap) (locs1 : List Loc) (ls1 : Array Slot), LI τ1 G1 xo mo → TY D cy base τ1 G1 H1 → va_S (RA base) s.heap H1 locs1 → lv_has ls1 4 [(3, .int i), (2, .ref mo), (1, .ref xo), (0, .ref b)] → W p l e room_1 s m #[Value.ref b] below meth c H1 locs1 (cells + 10) (slots + 200) (lw_Z below #[Value.ref b] s) (F0 m 2266 ls1 [])) : W p l e room_1 s m #[Value.ref b] below meth c H locs cells slots (lw_Z below #[Value.ref b] s) (F0 m 2018 ls []) := by
  obtain ⟨hx, hb, hr, hml, hown, hts, hX, hbl, hlocks, hgv⟩ := id C0
  have hown : s.vm.findClass RL = some m.cls := hown
  have hb : c.code = cL_law := hb
  have hts : ∀ w ∈ GW, w.before #[Value.ref b] s = true := fun w h => hts w (gw_tbl w h)
  have h_xo := hLI.1
  have h_mo := hLI.2.1
  have hF : Fr τ [1, 2, 3, 4, 6, 7, 11, 20, 25, 26, 27, 28, 29, 30, 31, 32, 33, 34, 35, 36, 37, 38, 39, 40, 51, 52, 53, 54, 55, 66, 67, 68, 69, 70, 71, 72, 73, 74, 75, 76, 77, 78, 79, 80, 81, 82, 83, 84, 85, 86, 87, 88, 89, 90, 91, 1001, 1002, 1004, 1023, 1024] G G := Fr.rf
  obtain ⟨w1, ew1⟩ : ∃ y : Int32, y = xs (i.toInt.toNat + 1) := ⟨_, rfl⟩
  refine lv_aload_n hx hb dL_law_2018 rfl (lv_at hl 2 rfl) ?_
  refine lv_aload_n hx hb dL_law_2019 rfl (lv_at hl 3 rfl) ?_
  refine lv_iload_n hx hb dL_law_2020 rfl (lv_at hl 0 rfl) ?_
  refine lv_iconst (v := 1) hx hb dL_law_2021 (by decide) ?_
  refine lv_iadd hx hb dL_law_2022 ?_
  refine lv_topi (fun z_1 ez_1 => ?_)
  have tz_1 : z_1.toInt = i.toInt + 1 := add_t ez_1 (show -2147483648 ≤ i.toInt + 1 by omega) (show i.toInt + 1 < 2147483648 by omega)
  refine va_sld (i := z_1) hx hb hX hbl hbA hS (vp_in_iff.mpr ⟨by omega, by omega⟩) dL_law_2023 ?_
  refine W.eq (g2 := F0 m 2024 ls [.int w1, .ref xo]) (by rw [ew1, show z_1.toNatClampNeg = i.toInt.toNat + 1 from (show z_1.toInt.toNat = _ by omega)]) ?_
  refine pu_calli (runV (As := [.int w1]) (rest := []) ⟨hx, hb, hml, hown, hts⟩ (t_X9_count l D cy base τ G xo h_xo w1) sV_L_202 hK (t_recv cf_1 hK hT h_xo) ⟨Nat.le_trans hZ hS.1, hT⟩ ⟨Nat.le_of_ble_eq_true rfl, Nat.le_of_ble_eq_true rfl⟩ rfl hl.1 rfl (Nat.le_of_ble_eq_true rfl) dL_law_2024 ⟨by have q9 := hroom.1; omega, by have q9 := hroom.2; omega⟩) (fun r_2 hr_2 => ?_)
  refine lv_pop hx hb dL_law_2027 rfl ?_
  refine lv_aload_n hx hb dL_law_2028 rfl (lv_at hl 1 rfl) ?_
  refine lv_aload_n hx hb dL_law_2029 rfl (lv_at hl 3 rfl) ?_
  refine lv_iload_n hx hb dL_law_2030 rfl (lv_at hl 0 rfl) ?_
  refine lv_iconst (v := 1) hx hb dL_law_2031 (by decide) ?_
  refine lv_iadd hx hb dL_law_2032 ?_
  refine lv_topi (fun z_3 ez_3 => ?_)
  have w_4 : z_1 = z_3 := ez_1.trans ez_3.symm
  subst w_4
  refine va_sld (i := z_1) hx hb hX hbl hbA hS (vp_in_iff.mpr ⟨by omega, by omega⟩) dL_law_2033 ?_
  refine W.eq (g2 := F0 m 2034 ls [.int w1, .ref mo]) (by rw [ew1, show z_1.toNatClampNeg = i.toInt.toNat + 1 from (show z_1.toInt.toNat = _ by omega)]) ?_
  refine t_calli (runV (As := [.int w1]) (rest := []) ⟨hx, hb, hml, hown, hts⟩ (t_X10_count l D cy base τ G mo h_mo w1) sV_L_205 hK (t_recv cf_11 hK hT h_mo) ⟨Nat.le_trans hZ hS.1, hT⟩ ⟨Nat.le_of_ble_eq_true rfl, Nat.le_of_ble_eq_true rfl⟩ rfl hl.1 rfl (Nat.le_of_ble_eq_true rfl) dL_law_2034 ⟨by have q9 := hroom.1; omega, by have q9 := hroom.2; omega⟩) hS (fun r_5 G_5 H locs hF_5 hr_5 hT hS => ?_)
  have hF := hF.tr hF_5 rfl
  have hLI := hLI.fr EX.rf hF_5 rfl
  refine lv_pop hx hb dL_law_2037 rfl ?_
  refine lv_goto (tgt := 2266) hx hb dL_law_2038 (by decide) ?_
  exact W.widen (k := cells + 10) (n := slots + 200) (by omega) (by omega) (kk τ G_5 H locs ls hLI hT hS (lv_sub hl [0, 1, 2, 3] rfl))
set_option maxHeartbeats 4000000 in
set_option maxRecDepth 100000 in
theorem lc_45 {p : Program} {e : Env} {s : State} {m : MethodId} {below : List Frame} {meth : Method} {c : Code} {l : Launch} {b L : Nat} {xs : Nat → Int32} (D : va_G) (cy : Nat → ClassId) (adK adV : Nat → Nat) (base xo mo : Nat) (C0 : lw_At p s m meth c b L xs) (hK : KK D cy s) (hSS : SS adK adV base s s.heap) (hZ : base ≤ s.heap.size) (hZ2 : s.heap.size ≤ base) (hbA : ¬ RA base b) (hLs : L ≤ 3584) (τ : Nat → Nat) (G : Gh) (i : Int32) (hi0 : 0 ≤ i.toInt) (hi7 : i.toInt + 7 ≤ L) (hLI : LI τ G xo mo) {H : Heap} {locs : List Loc} (hT : TY D cy base τ G H) (hS : va_S (RA base) s.heap H locs) {ls : Array Slot} (hl : lv_has ls 4 [(3, .int i), (2, .ref mo), (1, .ref xo), (0, .ref b)]) {cells slots : Nat} (hroom : cells + 100 ≤ room_1.cells ∧ slots + 1000 ≤ room_1.slots) (kk : ∀ (τ1 : Nat → Nat) (G1 : Gh) (H1 : Heap) (locs1 : List Loc) (ls1 : Array Slot), LI τ1 G1 xo mo → TY D cy base τ1 G1 H1 → va_S (RA base) s.heap H1 locs1 → lv_has ls1 4 [(3, .int i), (2, .ref mo), (1, .ref xo), (0, .ref b)] → W p l e room_1 s m #[Value.ref b] below meth c H1 locs1 (cells + 10) (slots + 200) (lw_Z below #[Value.ref b] s) (F0 m 2266 ls1 [])) : W p l e room_1 s m #[Value.ref b] below meth c H locs cells slots (lw_Z below #[Value.ref b] s) (F0 m 2041 ls []) := by
  obtain ⟨hx, hb, hr, hml, hown, hts, hX, hbl, hlocks, hgv⟩ := id C0
  have hown : s.vm.findClass RL = some m.cls := hown
  have hb : c.code = cL_law := hb
  have hts : ∀ w ∈ GW, w.before #[Value.ref b] s = true := fun w h => hts w (gw_tbl w h)
  have h_xo := hLI.1
  have h_mo := hLI.2.1
  have hF : Fr τ [1, 2, 3, 4, 6, 7, 11, 20, 25, 26, 27, 28, 29, 30, 31, 32, 33, 34, 35, 36, 37, 38, 39, 40, 51, 52, 53, 54, 55, 66, 67, 68, 69, 70, 71, 72, 73, 74, 75, 76, 77, 78, 79, 80, 81, 82, 83, 84, 85, 86, 87, 88, 89, 90, 91, 1001, 1002, 1004, 1023, 1024] G G := Fr.rf
  obtain ⟨w1, ew1⟩ : ∃ y : Int32, y = xs (i.toInt.toNat + 1) := ⟨_, rfl⟩
  refine lv_aload_n hx hb dL_law_2041 rfl (lv_at hl 2 rfl) ?_
  refine lv_aload_n hx hb dL_law_2042 rfl (lv_at hl 3 rfl) ?_
  refine lv_iload_n hx hb dL_law_2043 rfl (lv_at hl 0 rfl) ?_
  refine lv_iconst (v := 1) hx hb dL_law_2044 (by decide) ?_
  refine lv_iadd hx hb dL_law_2045 ?_
  refine lv_topi (fun z_1 ez_1 => ?_)
  have tz_1 : z_1.toInt = i.toInt + 1 := add_t ez_1 (show -2147483648 ≤ i.toInt + 1 by omega) (show i.toInt + 1 < 2147483648 by omega)
  refine va_sld (i := z_1) hx hb hX hbl hbA hS (vp_in_iff.mpr ⟨by omega, by omega⟩) dL_law_2046 ?_
  refine W.eq (g2 := F0 m 2047 ls [.int w1, .ref xo]) (by rw [ew1, show z_1.toNatClampNeg = i.toInt.toNat + 1 from (show z_1.toInt.toNat = _ by omega)]) ?_
  obtain ⟨q_2, eq_2, hq_2⟩ := (show ∃ q, G.2.2.1 xo 8 = some q ∧ τ q = 24 from hT.rgr h_xo (by decide) 8)
  refine t_calle (runV (As := [.int w1]) (rest := []) ⟨hx, hb, hml, hown, hts⟩ (t_X9_keep l D cy base τ G  xo h_xo w1 q_2 hq_2 eq_2) sV_L_206 hK (t_recv cf_1 hK hT h_xo) ⟨Nat.le_trans hZ hS.1, hT⟩ ⟨Nat.le_of_ble_eq_true rfl, Nat.le_of_ble_eq_true rfl⟩ rfl hl.1 rfl (Nat.le_of_ble_eq_true rfl) dL_law_2047 ⟨by have q9 := hroom.1; omega, by have q9 := hroom.2; omega⟩) hS (fun v_3 τ G H locs hE hF_3 hp_3 hT hS => ?_)
  have hF0 := hF.tr hF_3 rfl
  have h_mo_o := h_mo
  have h_mo : τ mo = 11 := hE.tg h_mo (by decide)
  have h_xo_o := h_xo
  have h_xo : τ xo = 1 := hE.tg h_xo (by decide)
  have hF : Fr τ [1, 2, 3, 4, 6, 7, 11, 20, 25, 26, 27, 28, 29, 30, 31, 32, 33, 34, 35, 36, 37, 38, 39, 40, 51, 52, 53, 54, 55, 66, 67, 68, 69, 70, 71, 72, 73, 74, 75, 76, 77, 78, 79, 80, 81, 82, 83, 84, 85, 86, 87, 88, 89, 90, 91, 1001, 1002, 1004, 1023, 1024] G G := Fr.rf
  obtain ⟨r_3, rfl, hr_3⟩ := hp_3
  refine W.eq (g2 := F0 m 2050 ls [.int r_3]) rfl ?_
  have hFx := hF_3
  refine lv_pop hx hb dL_law_2050 rfl ?_
  refine lv_aload_n hx hb dL_law_2051 rfl (lv_at hl 1 rfl) ?_
  refine lv_aload_n hx hb dL_law_2052 rfl (lv_at hl 3 rfl) ?_
  refine lv_iload_n hx hb dL_law_2053 rfl (lv_at hl 0 rfl) ?_
  refine lv_iconst (v := 1) hx hb dL_law_2054 (by decide) ?_
  refine lv_iadd hx hb dL_law_2055 ?_
  refine lv_topi (fun z_4 ez_4 => ?_)
  have w_5 : z_1 = z_4 := ez_1.trans ez_4.symm
  subst w_5
  refine va_sld (i := z_1) hx hb hX hbl hbA hS (vp_in_iff.mpr ⟨by omega, by omega⟩) dL_law_2056 ?_
  refine W.eq (g2 := F0 m 2057 ls [.int w1, .ref mo]) (by rw [ew1, show z_1.toNatClampNeg = i.toInt.toNat + 1 from (show z_1.toInt.toNat = _ by omega)]) ?_
  obtain ⟨tha, sa, e_tha, h_tha, e_sa, h_sa, hI⟩ := hLI.2.2.2.1.fr hLI.2.1 hE hFx rfl
  have b_tha := e_tha
  have b_sa := e_sa
  obtain ⟨q_6, eq_6, hq_6⟩ := (show ∃ q, G.2.2.1 mo 28 = some q ∧ τ q = 78 from hT.rgr h_mo (by decide) 28)
  refine t_calli (runV (As := [.int w1]) (rest := []) ⟨hx, hb, hml, hown, hts⟩ (t_X10_keep2 l D cy base τ G mo h_mo w1 tha h_tha b_tha sa h_sa b_sa q_6 hq_6 eq_6 (by show INV G tha sa; first | assumption | omega | decide)) sV_L_209 hK (t_recv cf_11 hK hT h_mo) ⟨Nat.le_trans hZ hS.1, hT⟩ ⟨Nat.le_of_ble_eq_true rfl, Nat.le_of_ble_eq_true rfl⟩ rfl hl.1 rfl (Nat.le_of_ble_eq_true rfl) dL_law_2057 ⟨by have q9 := hroom.1; omega, by have q9 := hroom.2; omega⟩) hS (fun r_7 G_7 H locs hF_7 hr_7 hT hS => ?_)
  have hF := hF.tr hF_7 rfl
  obtain ⟨hr_7_p0, hr_7_p1⟩ := hr_7
  have hr_7_p0 : INV G_7 tha sa := hr_7_p0
  have hr_7_p1 : (r_7 = -2 ∧ (w1.toInt < 0 ∨ 2 < w1.toInt) ∧ (∀ j : Nat, G_7.1 q_6 j = G.1 q_6 j)) ∨ (r_7 = 0 ∧ 0 ≤ w1.toInt ∧ w1.toInt ≤ 2 ∧ G_7.1 q_6 w1.toNatClampNeg = 1 ∧ ∀ j : Nat, j ≠ w1.toNatClampNeg → G_7.1 q_6 j = G.1 q_6 j) := hr_7_p1
  have hKB := keep_both hLI.2.2.2.2.2 hLI.2.2.1 hE hFx hF_7 rfl rfl hq_2 hq_6 hr_3 hr_7_p1
  have hLI : LI τ G_7 xo mo := ⟨h_xo, h_mo, hLI.2.2.1.ex hE, INM.new h_mo hF_7 rfl e_tha h_tha e_sa h_sa hr_7_p0, (hLI.2.2.2.2.1.fr hE hFx rfl).fr EX.rf hF_7 rfl, hKB.2⟩
  refine lv_pop hx hb dL_law_2060 rfl ?_
  refine lv_goto (tgt := 2266) hx hb dL_law_2061 (by decide) ?_
  exact W.widen (k := cells + 10) (n := slots + 200) (by omega) (by omega) (kk τ G_7 H locs ls hLI hT hS (lv_sub hl [0, 1, 2, 3] rfl))
set_option maxHeartbeats 4000000 in
set_option maxRecDepth 100000 in
theorem lc_46 {p : Program} {e : Env} {s : State} {m : MethodId} {below : List Frame} {meth : Method} {c : Code} {l : Launch} {b L : Nat} {xs : Nat → Int32} (D : va_G) (cy : Nat → ClassId) (adK adV : Nat → Nat) (base xo mo : Nat) (C0 : lw_At p s m meth c b L xs) (hK : KK D cy s) (hSS : SS adK adV base s s.heap) (hZ : base ≤ s.heap.size) (hZ2 : s.heap.size ≤ base) (hbA : ¬ RA base b) (hLs : L ≤ 3584) (τ : Nat → Nat) (G : Gh) (i : Int32) (hi0 : 0 ≤ i.toInt) (hi7 : i.toInt + 7 ≤ L) (hLI : LI τ G xo mo) {H : Heap} {locs : List Loc} (hT : TY D cy base τ G H) (hS : va_S (RA base) s.heap H locs) {ls : Array Slot} (hl : lv_has ls 4 [(3, .int i), (2, .ref mo), (1, .ref xo), (0, .ref b)]) {cells slots : Nat} (hroom : cells + 100 ≤ room_1.cells ∧ slots + 1000 ≤ room_1.slots) (kk : ∀ (τ1 : Nat → Nat) (G1 : Gh) (H1 : Heap) (locs1 : List Loc) (ls1 : Array Slot), LI τ1 G1 xo mo → TY D cy base τ1 G1 H1 → va_S (RA base) s.heap H1 locs1 → lv_has ls1 4 [(3, .int i), (2, .ref mo), (1, .ref xo), (0, .ref b)] → W p l e room_1 s m #[Value.ref b] below meth c H1 locs1 (cells + 10) (slots + 200) (lw_Z below #[Value.ref b] s) (F0 m 2266 ls1 [])) : W p l e room_1 s m #[Value.ref b] below meth c H locs cells slots (lw_Z below #[Value.ref b] s) (F0 m 2064 ls []) := by
  obtain ⟨hx, hb, hr, hml, hown, hts, hX, hbl, hlocks, hgv⟩ := id C0
  have hown : s.vm.findClass RL = some m.cls := hown
  have hb : c.code = cL_law := hb
  have hts : ∀ w ∈ GW, w.before #[Value.ref b] s = true := fun w h => hts w (gw_tbl w h)
  have h_xo := hLI.1
  have h_mo := hLI.2.1
  have hF : Fr τ [1, 2, 3, 4, 6, 7, 11, 20, 25, 26, 27, 28, 29, 30, 31, 32, 33, 34, 35, 36, 37, 38, 39, 40, 51, 52, 53, 54, 55, 66, 67, 68, 69, 70, 71, 72, 73, 74, 75, 76, 77, 78, 79, 80, 81, 82, 83, 84, 85, 86, 87, 88, 89, 90, 91, 1001, 1002, 1004, 1023, 1024] G G := Fr.rf
  obtain ⟨w1, ew1⟩ : ∃ y : Int32, y = xs (i.toInt.toNat + 1) := ⟨_, rfl⟩
  refine lv_aload_n hx hb dL_law_2064 rfl (lv_at hl 2 rfl) ?_
  refine lv_aload_n hx hb dL_law_2065 rfl (lv_at hl 3 rfl) ?_
  refine lv_iload_n hx hb dL_law_2066 rfl (lv_at hl 0 rfl) ?_
  refine lv_iconst (v := 1) hx hb dL_law_2067 (by decide) ?_
  refine lv_iadd hx hb dL_law_2068 ?_
  refine lv_topi (fun z_1 ez_1 => ?_)
  have tz_1 : z_1.toInt = i.toInt + 1 := add_t ez_1 (show -2147483648 ≤ i.toInt + 1 by omega) (show i.toInt + 1 < 2147483648 by omega)
  refine va_sld (i := z_1) hx hb hX hbl hbA hS (vp_in_iff.mpr ⟨by omega, by omega⟩) dL_law_2069 ?_
  refine W.eq (g2 := F0 m 2070 ls [.int w1, .ref xo]) (by rw [ew1, show z_1.toNatClampNeg = i.toInt.toNat + 1 from (show z_1.toInt.toNat = _ by omega)]) ?_
  have hLI0 := hLI
  obtain ⟨q_2, eq_2, hq_2⟩ := (show ∃ q, G.2.2.1 xo 8 = some q ∧ τ q = 24 from hT.rgr h_xo (by decide) 8)
  refine t_calli (runV (As := [.int w1]) (rest := []) ⟨hx, hb, hml, hown, hts⟩ (t_X9_back2 l D cy base τ G xo h_xo w1 q_2 hq_2 eq_2) sV_L_210 hK (t_recv cf_1 hK hT h_xo) ⟨Nat.le_trans hZ hS.1, hT⟩ ⟨Nat.le_of_ble_eq_true rfl, Nat.le_of_ble_eq_true rfl⟩ rfl hl.1 rfl (Nat.le_of_ble_eq_true rfl) dL_law_2070 ⟨by have q9 := hroom.1; omega, by have q9 := hroom.2; omega⟩) hS (fun r_3 G_3 H locs hF_3 hr_3 hT hS => ?_)
  have hF := hF.tr hF_3 rfl
  have hr_3_p0 := hr_3
  have hr_3_p0 : (r_3 = -2 ∧ (w1.toInt < 0 ∨ 2 < w1.toInt)) ∨ (r_3 = -6 ∧ 0 ≤ w1.toInt ∧ w1.toInt ≤ 2 ∧ G.2.2.1 q_2 w1.toNatClampNeg = none) ∨ (r_3 = 0 ∧ 0 ≤ w1.toInt ∧ w1.toInt ≤ 2 ∧ ∃ q : Nat, G.2.2.1 q_2 w1.toNatClampNeg = some q) := hr_3_p0
  have hLI := hLI.fr EX.rf hF_3 rfl
  have hFx := hF_3
  refine lv_pop hx hb dL_law_2073 rfl ?_
  refine lv_aload_n hx hb dL_law_2074 rfl (lv_at hl 1 rfl) ?_
  refine lv_aload_n hx hb dL_law_2075 rfl (lv_at hl 3 rfl) ?_
  refine lv_iload_n hx hb dL_law_2076 rfl (lv_at hl 0 rfl) ?_
  refine lv_iconst (v := 1) hx hb dL_law_2077 (by decide) ?_
  refine lv_iadd hx hb dL_law_2078 ?_
  refine lv_topi (fun z_4 ez_4 => ?_)
  have w_5 : z_1 = z_4 := ez_1.trans ez_4.symm
  subst w_5
  refine va_sld (i := z_1) hx hb hX hbl hbA hS (vp_in_iff.mpr ⟨by omega, by omega⟩) dL_law_2079 ?_
  refine W.eq (g2 := F0 m 2080 ls [.int w1, .ref mo]) (by rw [ew1, show z_1.toNatClampNeg = i.toInt.toNat + 1 from (show z_1.toInt.toNat = _ by omega)]) ?_
  obtain ⟨tha, sa, e_tha, h_tha, e_sa, h_sa, hI⟩ := hLI.2.2.2.1
  have b_tha := (hF.r h_mo (by decide) rfl _).symm.trans e_tha
  have b_sa := (hF.r h_mo (by decide) rfl _).symm.trans e_sa
  obtain ⟨q_6, eq_6, hq_6⟩ := (show ∃ q, G_3.2.2.1 mo 28 = some q ∧ τ q = 78 from hT.rgr h_mo (by decide) 28)
  have eq_6 := (hF.r h_mo (by decide) rfl _).symm.trans eq_6
  refine t_calli (runV (As := [.int w1]) (rest := []) ⟨hx, hb, hml, hown, hts⟩ (t_X10_back2 l D cy base τ G_3 mo h_mo w1 tha h_tha ((hF.r h_mo (by decide) rfl _).trans b_tha) sa h_sa ((hF.r h_mo (by decide) rfl _).trans b_sa) q_6 hq_6 ((hF.r h_mo (by decide) rfl _).trans eq_6) (by show INV G_3 tha sa; first | assumption | omega | decide)) sV_L_213 hK (t_recv cf_11 hK hT h_mo) ⟨Nat.le_trans hZ hS.1, hT⟩ ⟨Nat.le_of_ble_eq_true rfl, Nat.le_of_ble_eq_true rfl⟩ rfl hl.1 rfl (Nat.le_of_ble_eq_true rfl) dL_law_2080 ⟨by have q9 := hroom.1; omega, by have q9 := hroom.2; omega⟩) hS (fun r_7 G_7 H locs hF_7 hr_7 hT hS => ?_)
  have hF := hF.tr hF_7 rfl
  obtain ⟨hr_7_p0, hr_7_p1⟩ := hr_7
  have hr_7_p0 : INV G_7 tha sa := hr_7_p0
  have hr_7_p1 : (r_7 = -2 ∧ (w1.toInt < 0 ∨ 2 < w1.toInt)) ∨ (r_7 = -6 ∧ 0 ≤ w1.toInt ∧ w1.toInt ≤ 2 ∧ G_3.1 q_6 w1.toNatClampNeg = 0) ∨ (r_7 = 0 ∧ 0 ≤ w1.toInt ∧ w1.toInt ≤ 2 ∧ G_3.1 q_6 w1.toNatClampNeg ≠ 0) := hr_7_p1
  have hLI := hLI.frN hF_7 rfl (INM.new h_mo hF_7 rfl e_tha h_tha e_sa h_sa hr_7_p0)
  refine lv_pop hx hb dL_law_2083 rfl ?_
  refine lv_goto (tgt := 2266) hx hb dL_law_2084 (by decide) ?_
  exact W.widen (k := cells + 10) (n := slots + 200) (by omega) (by omega) (kk τ G_7 H locs ls hLI hT hS (lv_sub hl [0, 1, 2, 3] rfl))
set_option maxHeartbeats 4000000 in
set_option maxRecDepth 100000 in
theorem lc_47 {p : Program} {e : Env} {s : State} {m : MethodId} {below : List Frame} {meth : Method} {c : Code} {l : Launch} {b L : Nat} {xs : Nat → Int32} (D : va_G) (cy : Nat → ClassId) (adK adV : Nat → Nat) (base xo mo : Nat) (C0 : lw_At p s m meth c b L xs) (hK : KK D cy s) (hSS : SS adK adV base s s.heap) (hZ : base ≤ s.heap.size) (hZ2 : s.heap.size ≤ base) (hbA : ¬ RA base b) (hLs : L ≤ 3584) (τ : Nat → Nat) (G : Gh) (i : Int32) (hi0 : 0 ≤ i.toInt) (hi7 : i.toInt + 7 ≤ L) (hLI : LI τ G xo mo) {H : Heap} {locs : List Loc} (hT : TY D cy base τ G H) (hS : va_S (RA base) s.heap H locs) {ls : Array Slot} (hl : lv_has ls 4 [(3, .int i), (2, .ref mo), (1, .ref xo), (0, .ref b)]) {cells slots : Nat} (hroom : cells + 100 ≤ room_1.cells ∧ slots + 1000 ≤ room_1.slots) (kk : ∀ (τ1 : Nat → Nat) (G1 : Gh) (H1 : Heap) (locs1 : List Loc) (ls1 : Array Slot), LI τ1 G1 xo mo → TY D cy base τ1 G1 H1 → va_S (RA base) s.heap H1 locs1 → lv_has ls1 4 [(3, .int i), (2, .ref mo), (1, .ref xo), (0, .ref b)] → W p l e room_1 s m #[Value.ref b] below meth c H1 locs1 (cells + 10) (slots + 200) (lw_Z below #[Value.ref b] s) (F0 m 2266 ls1 [])) : W p l e room_1 s m #[Value.ref b] below meth c H locs cells slots (lw_Z below #[Value.ref b] s) (F0 m 2087 ls []) := by
  obtain ⟨hx, hb, hr, hml, hown, hts, hX, hbl, hlocks, hgv⟩ := id C0
  have hown : s.vm.findClass RL = some m.cls := hown
  have hb : c.code = cL_law := hb
  have hts : ∀ w ∈ GW, w.before #[Value.ref b] s = true := fun w h => hts w (gw_tbl w h)
  have h_xo := hLI.1
  have h_mo := hLI.2.1
  have hF : Fr τ [1, 2, 3, 4, 6, 7, 11, 20, 25, 26, 27, 28, 29, 30, 31, 32, 33, 34, 35, 36, 37, 38, 39, 40, 51, 52, 53, 54, 55, 66, 67, 68, 69, 70, 71, 72, 73, 74, 75, 76, 77, 78, 79, 80, 81, 82, 83, 84, 85, 86, 87, 88, 89, 90, 91, 1001, 1002, 1004, 1023, 1024] G G := Fr.rf
  obtain ⟨w1, ew1⟩ : ∃ y : Int32, y = xs (i.toInt.toNat + 1) := ⟨_, rfl⟩
  obtain ⟨w2, ew2⟩ : ∃ y : Int32, y = xs (i.toInt.toNat + 2) := ⟨_, rfl⟩
  obtain ⟨w3, ew3⟩ : ∃ y : Int32, y = xs (i.toInt.toNat + 3) := ⟨_, rfl⟩
  refine lv_aload_n hx hb dL_law_2087 rfl (lv_at hl 2 rfl) ?_
  refine lv_aload_n hx hb dL_law_2088 rfl (lv_at hl 3 rfl) ?_
  refine lv_iload_n hx hb dL_law_2089 rfl (lv_at hl 0 rfl) ?_
  refine lv_iconst (v := 1) hx hb dL_law_2090 (by decide) ?_
  refine lv_iadd hx hb dL_law_2091 ?_
  refine lv_topi (fun z_1 ez_1 => ?_)
  have tz_1 : z_1.toInt = i.toInt + 1 := add_t ez_1 (show -2147483648 ≤ i.toInt + 1 by omega) (show i.toInt + 1 < 2147483648 by omega)
  refine va_sld (i := z_1) hx hb hX hbl hbA hS (vp_in_iff.mpr ⟨by omega, by omega⟩) dL_law_2092 ?_
  refine W.eq (g2 := F0 m 2093 ls [.int w1, .ref xo]) (by rw [ew1, show z_1.toNatClampNeg = i.toInt.toNat + 1 from (show z_1.toInt.toNat = _ by omega)]) ?_
  refine lv_aload_n hx hb dL_law_2093 rfl (lv_at hl 3 rfl) ?_
  refine lv_iload_n hx hb dL_law_2094 rfl (lv_at hl 0 rfl) ?_
  refine lv_iconst (v := 2) hx hb dL_law_2095 (by decide) ?_
  refine lv_iadd hx hb dL_law_2096 ?_
  refine lv_topi (fun z_2 ez_2 => ?_)
  have tz_2 : z_2.toInt = i.toInt + 2 := add_t ez_2 (show -2147483648 ≤ i.toInt + 2 by omega) (show i.toInt + 2 < 2147483648 by omega)
  refine va_sld (i := z_2) hx hb hX hbl hbA hS (vp_in_iff.mpr ⟨by omega, by omega⟩) dL_law_2097 ?_
  refine W.eq (g2 := F0 m 2098 ls [.int w2, .int w1, .ref xo]) (by rw [ew2, show z_2.toNatClampNeg = i.toInt.toNat + 2 from (show z_2.toInt.toNat = _ by omega)]) ?_
  refine lv_aload_n hx hb dL_law_2098 rfl (lv_at hl 3 rfl) ?_
  refine lv_iload_n hx hb dL_law_2099 rfl (lv_at hl 0 rfl) ?_
  refine lv_iconst (v := 3) hx hb dL_law_2100 (by decide) ?_
  refine lv_iadd hx hb dL_law_2101 ?_
  refine lv_topi (fun z_3 ez_3 => ?_)
  have tz_3 : z_3.toInt = i.toInt + 3 := add_t ez_3 (show -2147483648 ≤ i.toInt + 3 by omega) (show i.toInt + 3 < 2147483648 by omega)
  refine va_sld (i := z_3) hx hb hX hbl hbA hS (vp_in_iff.mpr ⟨by omega, by omega⟩) dL_law_2102 ?_
  refine W.eq (g2 := F0 m 2103 ls [.int w3, .int w2, .int w1, .ref xo]) (by rw [ew3, show z_3.toNatClampNeg = i.toInt.toNat + 3 from (show z_3.toInt.toNat = _ by omega)]) ?_
  obtain ⟨q_4, eq_4, hq_4⟩ := (show ∃ q, G.2.2.1 xo 7 = some q ∧ τ q = 23 from hT.rgr h_xo (by decide) 7)
  refine t_calle (runV (As := [.int w1, .int w2, .int w3]) (rest := []) ⟨hx, hb, hml, hown, hts⟩ (t_X9_row l D cy base τ G  xo h_xo w1 w2 w3 q_4 hq_4 eq_4) sV_L_214 hK (t_recv cf_1 hK hT h_xo) ⟨Nat.le_trans hZ hS.1, hT⟩ ⟨Nat.le_of_ble_eq_true rfl, Nat.le_of_ble_eq_true rfl⟩ rfl hl.1 rfl (Nat.le_of_ble_eq_true rfl) dL_law_2103 ⟨by have q9 := hroom.1; omega, by have q9 := hroom.2; omega⟩) hS (fun v_5 τ G H locs hE hF_5 hp_5 hT hS => ?_)
  have hF0 := hF.tr hF_5 rfl
  have h_mo_o := h_mo
  have h_mo : τ mo = 11 := hE.tg h_mo (by decide)
  have h_xo_o := h_xo
  have h_xo : τ xo = 1 := hE.tg h_xo (by decide)
  have hF : Fr τ [1, 2, 3, 4, 6, 7, 11, 20, 25, 26, 27, 28, 29, 30, 31, 32, 33, 34, 35, 36, 37, 38, 39, 40, 51, 52, 53, 54, 55, 66, 67, 68, 69, 70, 71, 72, 73, 74, 75, 76, 77, 78, 79, 80, 81, 82, 83, 84, 85, 86, 87, 88, 89, 90, 91, 1001, 1002, 1004, 1023, 1024] G G := Fr.rf
  obtain ⟨r_5, rfl, hr_5⟩ := hp_5
  refine W.eq (g2 := F0 m 2106 ls [.int r_5]) rfl ?_
  have hFx := hF_5
  refine lv_pop hx hb dL_law_2106 rfl ?_
  refine lv_aload_n hx hb dL_law_2107 rfl (lv_at hl 1 rfl) ?_
  refine lv_aload_n hx hb dL_law_2108 rfl (lv_at hl 3 rfl) ?_
  refine lv_iload_n hx hb dL_law_2109 rfl (lv_at hl 0 rfl) ?_
  refine lv_iconst (v := 1) hx hb dL_law_2110 (by decide) ?_
  refine lv_iadd hx hb dL_law_2111 ?_
  refine lv_topi (fun z_6 ez_6 => ?_)
  have w_7 : z_1 = z_6 := ez_1.trans ez_6.symm
  subst w_7
  refine va_sld (i := z_1) hx hb hX hbl hbA hS (vp_in_iff.mpr ⟨by omega, by omega⟩) dL_law_2112 ?_
  refine W.eq (g2 := F0 m 2113 ls [.int w1, .ref mo]) (by rw [ew1, show z_1.toNatClampNeg = i.toInt.toNat + 1 from (show z_1.toInt.toNat = _ by omega)]) ?_
  refine lv_aload_n hx hb dL_law_2113 rfl (lv_at hl 3 rfl) ?_
  refine lv_iload_n hx hb dL_law_2114 rfl (lv_at hl 0 rfl) ?_
  refine lv_iconst (v := 2) hx hb dL_law_2115 (by decide) ?_
  refine lv_iadd hx hb dL_law_2116 ?_
  refine lv_topi (fun z_8 ez_8 => ?_)
  have w_9 : z_2 = z_8 := ez_2.trans ez_8.symm
  subst w_9
  refine va_sld (i := z_2) hx hb hX hbl hbA hS (vp_in_iff.mpr ⟨by omega, by omega⟩) dL_law_2117 ?_
  refine W.eq (g2 := F0 m 2118 ls [.int w2, .int w1, .ref mo]) (by rw [ew2, show z_2.toNatClampNeg = i.toInt.toNat + 2 from (show z_2.toInt.toNat = _ by omega)]) ?_
  refine lv_aload_n hx hb dL_law_2118 rfl (lv_at hl 3 rfl) ?_
  refine lv_iload_n hx hb dL_law_2119 rfl (lv_at hl 0 rfl) ?_
  refine lv_iconst (v := 3) hx hb dL_law_2120 (by decide) ?_
  refine lv_iadd hx hb dL_law_2121 ?_
  refine lv_topi (fun z_10 ez_10 => ?_)
  have w_11 : z_3 = z_10 := ez_3.trans ez_10.symm
  subst w_11
  refine va_sld (i := z_3) hx hb hX hbl hbA hS (vp_in_iff.mpr ⟨by omega, by omega⟩) dL_law_2122 ?_
  refine W.eq (g2 := F0 m 2123 ls [.int w3, .int w2, .int w1, .ref mo]) (by rw [ew3, show z_3.toNatClampNeg = i.toInt.toNat + 3 from (show z_3.toInt.toNat = _ by omega)]) ?_
  obtain ⟨q_12, eq_12, hq_12⟩ := (show ∃ q, G.2.2.1 mo 1 = some q ∧ τ q = 51 from hT.rgr h_mo (by decide) 1)
  obtain ⟨q_13, eq_13, hq_13⟩ := (show ∃ q, G.2.2.1 mo 2 = some q ∧ τ q = 52 from hT.rgr h_mo (by decide) 2)
  refine t_calli (runV (As := [.int w1, .int w2, .int w3]) (rest := []) ⟨hx, hb, hml, hown, hts⟩ (t_X10_row2 l D cy base τ G mo h_mo w1 w2 w3 q_12 hq_12 eq_12 q_13 hq_13 eq_13) sV_L_217 hK (t_recv cf_11 hK hT h_mo) ⟨Nat.le_trans hZ hS.1, hT⟩ ⟨Nat.le_of_ble_eq_true rfl, Nat.le_of_ble_eq_true rfl⟩ rfl hl.1 rfl (Nat.le_of_ble_eq_true rfl) dL_law_2123 ⟨by have q9 := hroom.1; omega, by have q9 := hroom.2; omega⟩) hS (fun r_14 G_14 H locs hF_14 hr_14 hT hS => ?_)
  have hF := hF.tr hF_14 rfl
  have hr_14_p0 := hr_14
  have hr_14_p0 : (r_14 = -2 ∧ (w1.toInt < 0 ∨ 3 < w1.toInt ∨ w2.toInt < 0 ∨ 3 < w2.toInt ∨ 60 < w3.toInt) ∧ (∀ j : Nat, G_14.1 q_12 j = G.1 q_12 j ∧ G_14.1 q_13 j = G.1 q_13 j)) ∨ (r_14 = -3 ∧ 0 ≤ w1.toInt ∧ w1.toInt ≤ 3 ∧ 0 ≤ w2.toInt ∧ w2.toInt ≤ 3 ∧ w3.toInt < 0 ∧ (∀ j : Nat, G_14.1 q_12 j = G.1 q_12 j ∧ G_14.1 q_13 j = G.1 q_13 j)) ∨ (r_14 = 0 ∧ 0 ≤ w1.toInt ∧ w1.toInt ≤ 3 ∧ 0 ≤ w2.toInt ∧ w2.toInt ≤ 3 ∧ 0 ≤ w3.toInt ∧ w3.toInt ≤ 60 ∧ G_14.1 q_12 w1.toNatClampNeg = w2 ∧ G_14.1 q_13 w1.toNatClampNeg = w3 ∧ ∀ j : Nat, j ≠ w1.toNatClampNeg → G_14.1 q_12 j = G.1 q_12 j ∧ G_14.1 q_13 j = G.1 q_13 j) := hr_14_p0
  have hRB := row_both hLI.2.2.2.2.1 hLI.2.2.1 hE hFx hF_14 rfl rfl hq_4 hq_12 hq_13 hr_5 hr_14_p0
  have hLI : LI τ G_14 xo mo := ⟨h_xo, h_mo, hLI.2.2.1.ex hE, (hLI.2.2.2.1.fr hLI.2.1 hE hFx rfl).fr h_mo EX.rf hF_14 rfl, hRB.2, (hLI.2.2.2.2.2.fr hE hFx rfl).fr EX.rf hF_14 rfl⟩
  refine lv_pop hx hb dL_law_2126 rfl ?_
  refine lv_goto (tgt := 2266) hx hb dL_law_2127 (by decide) ?_
  exact W.widen (k := cells + 10) (n := slots + 200) (by omega) (by omega) (kk τ G_14 H locs ls hLI hT hS (lv_sub hl [0, 1, 2, 3] rfl))
set_option maxHeartbeats 4000000 in
set_option maxRecDepth 100000 in
theorem lc_48 {p : Program} {e : Env} {s : State} {m : MethodId} {below : List Frame} {meth : Method} {c : Code} {l : Launch} {b L : Nat} {xs : Nat → Int32} (D : va_G) (cy : Nat → ClassId) (adK adV : Nat → Nat) (base xo mo : Nat) (C0 : lw_At p s m meth c b L xs) (hK : KK D cy s) (hSS : SS adK adV base s s.heap) (hZ : base ≤ s.heap.size) (hZ2 : s.heap.size ≤ base) (hbA : ¬ RA base b) (hLs : L ≤ 3584) (τ : Nat → Nat) (G : Gh) (i : Int32) (hi0 : 0 ≤ i.toInt) (hi7 : i.toInt + 7 ≤ L) (hLI : LI τ G xo mo) {H : Heap} {locs : List Loc} (hT : TY D cy base τ G H) (hS : va_S (RA base) s.heap H locs) {ls : Array Slot} (hl : lv_has ls 4 [(3, .int i), (2, .ref mo), (1, .ref xo), (0, .ref b)]) {cells slots : Nat} (hroom : cells + 100 ≤ room_1.cells ∧ slots + 1000 ≤ room_1.slots) (kk : ∀ (τ1 : Nat → Nat) (G1 : Gh) (H1 : Heap) (locs1 : List Loc) (ls1 : Array Slot), LI τ1 G1 xo mo → TY D cy base τ1 G1 H1 → va_S (RA base) s.heap H1 locs1 → lv_has ls1 4 [(3, .int i), (2, .ref mo), (1, .ref xo), (0, .ref b)] → W p l e room_1 s m #[Value.ref b] below meth c H1 locs1 (cells + 10) (slots + 200) (lw_Z below #[Value.ref b] s) (F0 m 2266 ls1 [])) : W p l e room_1 s m #[Value.ref b] below meth c H locs cells slots (lw_Z below #[Value.ref b] s) (F0 m 2130 ls []) := by
  obtain ⟨hx, hb, hr, hml, hown, hts, hX, hbl, hlocks, hgv⟩ := id C0
  have hown : s.vm.findClass RL = some m.cls := hown
  have hb : c.code = cL_law := hb
  have hts : ∀ w ∈ GW, w.before #[Value.ref b] s = true := fun w h => hts w (gw_tbl w h)
  have h_xo := hLI.1
  have h_mo := hLI.2.1
  have hF : Fr τ [1, 2, 3, 4, 6, 7, 11, 20, 25, 26, 27, 28, 29, 30, 31, 32, 33, 34, 35, 36, 37, 38, 39, 40, 51, 52, 53, 54, 55, 66, 67, 68, 69, 70, 71, 72, 73, 74, 75, 76, 77, 78, 79, 80, 81, 82, 83, 84, 85, 86, 87, 88, 89, 90, 91, 1001, 1002, 1004, 1023, 1024] G G := Fr.rf
  obtain ⟨w1, ew1⟩ : ∃ y : Int32, y = xs (i.toInt.toNat + 1) := ⟨_, rfl⟩
  obtain ⟨w2, ew2⟩ : ∃ y : Int32, y = xs (i.toInt.toNat + 2) := ⟨_, rfl⟩
  obtain ⟨w3, ew3⟩ : ∃ y : Int32, y = xs (i.toInt.toNat + 3) := ⟨_, rfl⟩
  obtain ⟨w4, ew4⟩ : ∃ y : Int32, y = xs (i.toInt.toNat + 4) := ⟨_, rfl⟩
  refine lv_aload_n hx hb dL_law_2130 rfl (lv_at hl 2 rfl) ?_
  refine lv_aload_n hx hb dL_law_2131 rfl (lv_at hl 3 rfl) ?_
  refine lv_iload_n hx hb dL_law_2132 rfl (lv_at hl 0 rfl) ?_
  refine lv_iconst (v := 1) hx hb dL_law_2133 (by decide) ?_
  refine lv_iadd hx hb dL_law_2134 ?_
  refine lv_topi (fun z_1 ez_1 => ?_)
  have tz_1 : z_1.toInt = i.toInt + 1 := add_t ez_1 (show -2147483648 ≤ i.toInt + 1 by omega) (show i.toInt + 1 < 2147483648 by omega)
  refine va_sld (i := z_1) hx hb hX hbl hbA hS (vp_in_iff.mpr ⟨by omega, by omega⟩) dL_law_2135 ?_
  refine W.eq (g2 := F0 m 2136 ls [.int w1, .ref xo]) (by rw [ew1, show z_1.toNatClampNeg = i.toInt.toNat + 1 from (show z_1.toInt.toNat = _ by omega)]) ?_
  refine lv_aload_n hx hb dL_law_2136 rfl (lv_at hl 3 rfl) ?_
  refine lv_iload_n hx hb dL_law_2137 rfl (lv_at hl 0 rfl) ?_
  refine lv_iconst (v := 2) hx hb dL_law_2138 (by decide) ?_
  refine lv_iadd hx hb dL_law_2139 ?_
  refine lv_topi (fun z_2 ez_2 => ?_)
  have tz_2 : z_2.toInt = i.toInt + 2 := add_t ez_2 (show -2147483648 ≤ i.toInt + 2 by omega) (show i.toInt + 2 < 2147483648 by omega)
  refine va_sld (i := z_2) hx hb hX hbl hbA hS (vp_in_iff.mpr ⟨by omega, by omega⟩) dL_law_2140 ?_
  refine W.eq (g2 := F0 m 2141 ls [.int w2, .int w1, .ref xo]) (by rw [ew2, show z_2.toNatClampNeg = i.toInt.toNat + 2 from (show z_2.toInt.toNat = _ by omega)]) ?_
  refine lv_aload_n hx hb dL_law_2141 rfl (lv_at hl 3 rfl) ?_
  refine lv_iload_n hx hb dL_law_2142 rfl (lv_at hl 0 rfl) ?_
  refine lv_iconst (v := 3) hx hb dL_law_2143 (by decide) ?_
  refine lv_iadd hx hb dL_law_2144 ?_
  refine lv_topi (fun z_3 ez_3 => ?_)
  have tz_3 : z_3.toInt = i.toInt + 3 := add_t ez_3 (show -2147483648 ≤ i.toInt + 3 by omega) (show i.toInt + 3 < 2147483648 by omega)
  refine va_sld (i := z_3) hx hb hX hbl hbA hS (vp_in_iff.mpr ⟨by omega, by omega⟩) dL_law_2145 ?_
  refine W.eq (g2 := F0 m 2146 ls [.int w3, .int w2, .int w1, .ref xo]) (by rw [ew3, show z_3.toNatClampNeg = i.toInt.toNat + 3 from (show z_3.toInt.toNat = _ by omega)]) ?_
  refine lv_i2l hx hb dL_law_2146 rfl ?_
  refine lv_topl (fun z_4 ez_4 => ?_)
  have tz_4 : z_4.toInt = w3.toInt := by rw [ez_4]; exact wide_t w3
  have az_4 := min_t w3
  have bz_4 := max_t w3
  refine lv_bipush (v := 32) hx hb dL_law_2147 (by decide) ?_
  refine lv_lshl hx hb dL_law_2149 rfl ?_
  refine lv_topl (fun z_5 ez_5 => ?_)
  refine lv_aload_n hx hb dL_law_2150 rfl (lv_at hl 3 rfl) ?_
  refine lv_iload_n hx hb dL_law_2151 rfl (lv_at hl 0 rfl) ?_
  refine lv_iconst (v := 4) hx hb dL_law_2152 (by decide) ?_
  refine lv_iadd hx hb dL_law_2153 ?_
  refine lv_topi (fun z_6 ez_6 => ?_)
  have tz_6 : z_6.toInt = i.toInt + 4 := add_t ez_6 (show -2147483648 ≤ i.toInt + 4 by omega) (show i.toInt + 4 < 2147483648 by omega)
  refine va_sld (i := z_6) hx hb hX hbl hbA hS (vp_in_iff.mpr ⟨by omega, by omega⟩) dL_law_2154 ?_
  refine W.eq (g2 := F0 m 2155 ls [.int w4, .long z_5, .int w2, .int w1, .ref xo]) (by rw [ew4, show z_6.toNatClampNeg = i.toInt.toNat + 4 from (show z_6.toInt.toNat = _ by omega)]) ?_
  refine lv_i2l hx hb dL_law_2155 rfl ?_
  refine lv_topl (fun z_7 ez_7 => ?_)
  have tz_7 : z_7.toInt = w4.toInt := by rw [ez_7]; exact wide_t w4
  have az_7 := min_t w4
  have bz_7 := max_t w4
  refine lv_ldc2 (v := 4294967295) hx hb hown (hts _ kl_L_218) dL_law_2156 ?_
  refine lv_land hx hb dL_law_2159 ?_
  refine lv_topl (fun z_8 ez_8 => ?_)
  refine lv_lor hx hb dL_law_2160 ?_
  refine lv_topl (fun z_9 ez_9 => ?_)
  have hLI0 := hLI
  obtain ⟨q_10, eq_10, hq_10⟩ := (show ∃ q, G.2.2.1 xo 7 = some q ∧ τ q = 23 from hT.rgr h_xo (by decide) 7)
  refine t_calli (runV (As := [.int w1, .int w2, .long z_9]) (rest := []) ⟨hx, hb, hml, hown, hts⟩ (t_X9_write2 l D cy base τ G xo h_xo w1 w2 z_9 q_10 hq_10 eq_10) sV_L_220 hK (t_recv cf_1 hK hT h_xo) ⟨Nat.le_trans hZ hS.1, hT⟩ ⟨Nat.le_of_ble_eq_true rfl, Nat.le_of_ble_eq_true rfl⟩ rfl hl.1 rfl (Nat.le_of_ble_eq_true rfl) dL_law_2161 ⟨by have q9 := hroom.1; omega, by have q9 := hroom.2; omega⟩) hS (fun r_11 G_11 H locs hF_11 hr_11 hT hS => ?_)
  have hF := hF.tr hF_11 rfl
  have hr_11_p0 := hr_11
  have hr_11_p0 : (r_11 = -2 ∧ (w1.toInt < 0 ∨ 3 < w1.toInt)) ∨ (r_11 = -6 ∧ 0 ≤ w1.toInt ∧ w1.toInt ≤ 3 ∧ G.2.2.1 q_10 w1.toNatClampNeg = none) ∨ (0 ≤ w1.toInt ∧ w1.toInt ≤ 3 ∧ ∃ q y : Nat, G.2.2.1 q_10 w1.toNatClampNeg = some q ∧ G.2.2.1 q 1 = some y ∧ ((r_11 = -7 ∧ (w2.toInt < 0 ∨ (G.2.2.2 y : Int) ≤ w2.toInt)) ∨ (r_11 = 0 ∧ 0 ≤ w2.toInt ∧ w2.toInt < G.2.2.2 y))) := hr_11_p0
  have hLI := hLI.fr EX.rf hF_11 rfl
  have hFx := hF_11
  refine lv_pop hx hb dL_law_2164 rfl ?_
  refine lv_aload_n hx hb dL_law_2165 rfl (lv_at hl 1 rfl) ?_
  refine lv_aload_n hx hb dL_law_2166 rfl (lv_at hl 3 rfl) ?_
  refine lv_iload_n hx hb dL_law_2167 rfl (lv_at hl 0 rfl) ?_
  refine lv_iconst (v := 1) hx hb dL_law_2168 (by decide) ?_
  refine lv_iadd hx hb dL_law_2169 ?_
  refine lv_topi (fun z_12 ez_12 => ?_)
  have w_13 : z_1 = z_12 := ez_1.trans ez_12.symm
  subst w_13
  refine va_sld (i := z_1) hx hb hX hbl hbA hS (vp_in_iff.mpr ⟨by omega, by omega⟩) dL_law_2170 ?_
  refine W.eq (g2 := F0 m 2171 ls [.int w1, .ref mo]) (by rw [ew1, show z_1.toNatClampNeg = i.toInt.toNat + 1 from (show z_1.toInt.toNat = _ by omega)]) ?_
  refine lv_aload_n hx hb dL_law_2171 rfl (lv_at hl 3 rfl) ?_
  refine lv_iload_n hx hb dL_law_2172 rfl (lv_at hl 0 rfl) ?_
  refine lv_iconst (v := 2) hx hb dL_law_2173 (by decide) ?_
  refine lv_iadd hx hb dL_law_2174 ?_
  refine lv_topi (fun z_14 ez_14 => ?_)
  have w_15 : z_2 = z_14 := ez_2.trans ez_14.symm
  subst w_15
  refine va_sld (i := z_2) hx hb hX hbl hbA hS (vp_in_iff.mpr ⟨by omega, by omega⟩) dL_law_2175 ?_
  refine W.eq (g2 := F0 m 2176 ls [.int w2, .int w1, .ref mo]) (by rw [ew2, show z_2.toNatClampNeg = i.toInt.toNat + 2 from (show z_2.toInt.toNat = _ by omega)]) ?_
  refine lv_aload_n hx hb dL_law_2176 rfl (lv_at hl 3 rfl) ?_
  refine lv_iload_n hx hb dL_law_2177 rfl (lv_at hl 0 rfl) ?_
  refine lv_iconst (v := 3) hx hb dL_law_2178 (by decide) ?_
  refine lv_iadd hx hb dL_law_2179 ?_
  refine lv_topi (fun z_16 ez_16 => ?_)
  have w_17 : z_3 = z_16 := ez_3.trans ez_16.symm
  subst w_17
  refine va_sld (i := z_3) hx hb hX hbl hbA hS (vp_in_iff.mpr ⟨by omega, by omega⟩) dL_law_2180 ?_
  refine W.eq (g2 := F0 m 2181 ls [.int w3, .int w2, .int w1, .ref mo]) (by rw [ew3, show z_3.toNatClampNeg = i.toInt.toNat + 3 from (show z_3.toInt.toNat = _ by omega)]) ?_
  refine lv_i2l hx hb dL_law_2181 rfl ?_
  refine lv_topl (fun z_18 ez_18 => ?_)
  have tz_18 : z_18.toInt = w3.toInt := by rw [ez_18]; exact wide_t w3
  have az_18 := min_t w3
  have bz_18 := max_t w3
  refine lv_bipush (v := 32) hx hb dL_law_2182 (by decide) ?_
  refine lv_lshl hx hb dL_law_2184 rfl ?_
  refine lv_topl (fun z_19 ez_19 => ?_)
  refine lv_aload_n hx hb dL_law_2185 rfl (lv_at hl 3 rfl) ?_
  refine lv_iload_n hx hb dL_law_2186 rfl (lv_at hl 0 rfl) ?_
  refine lv_iconst (v := 4) hx hb dL_law_2187 (by decide) ?_
  refine lv_iadd hx hb dL_law_2188 ?_
  refine lv_topi (fun z_20 ez_20 => ?_)
  have w_21 : z_6 = z_20 := ez_6.trans ez_20.symm
  subst w_21
  refine va_sld (i := z_6) hx hb hX hbl hbA hS (vp_in_iff.mpr ⟨by omega, by omega⟩) dL_law_2189 ?_
  refine W.eq (g2 := F0 m 2190 ls [.int w4, .long z_19, .int w2, .int w1, .ref mo]) (by rw [ew4, show z_6.toNatClampNeg = i.toInt.toNat + 4 from (show z_6.toInt.toNat = _ by omega)]) ?_
  refine lv_i2l hx hb dL_law_2190 rfl ?_
  refine lv_topl (fun z_22 ez_22 => ?_)
  have tz_22 : z_22.toInt = w4.toInt := by rw [ez_22]; exact wide_t w4
  have az_22 := min_t w4
  have bz_22 := max_t w4
  refine lv_ldc2 (v := 4294967295) hx hb hown (hts _ kl_L_218) dL_law_2191 ?_
  refine lv_land hx hb dL_law_2194 ?_
  refine lv_topl (fun z_23 ez_23 => ?_)
  refine lv_lor hx hb dL_law_2195 ?_
  refine lv_topl (fun z_24 ez_24 => ?_)
  obtain ⟨q_25, eq_25, hq_25⟩ := (show ∃ q, G_11.2.2.1 mo 1 = some q ∧ τ q = 51 from hT.rgr h_mo (by decide) 1)
  have eq_25 := (hF.r h_mo (by decide) rfl _).symm.trans eq_25
  obtain ⟨q_26, eq_26, hq_26⟩ := (show ∃ q, G_11.2.2.1 mo 2 = some q ∧ τ q = 52 from hT.rgr h_mo (by decide) 2)
  have eq_26 := (hF.r h_mo (by decide) rfl _).symm.trans eq_26
  refine t_calli (runV (As := [.int w1, .int w2, .long z_24]) (rest := []) ⟨hx, hb, hml, hown, hts⟩ (t_X10_write2 l D cy base τ G_11 mo h_mo w1 w2 z_24 q_25 hq_25 ((hF.r h_mo (by decide) rfl _).trans eq_25) q_26 hq_26 ((hF.r h_mo (by decide) rfl _).trans eq_26)) sV_L_224 hK (t_recv cf_11 hK hT h_mo) ⟨Nat.le_trans hZ hS.1, hT⟩ ⟨Nat.le_of_ble_eq_true rfl, Nat.le_of_ble_eq_true rfl⟩ rfl hl.1 rfl (Nat.le_of_ble_eq_true rfl) dL_law_2196 ⟨by have q9 := hroom.1; omega, by have q9 := hroom.2; omega⟩) hS (fun r_27 G_27 H locs hF_27 hr_27 hT hS => ?_)
  have hF := hF.tr hF_27 rfl
  have hr_27_p0 := hr_27
  have hr_27_p0 : (r_27 = -2 ∧ (w1.toInt < 0 ∨ 3 < w1.toInt)) ∨ (r_27 = -6 ∧ 0 ≤ w1.toInt ∧ w1.toInt ≤ 3 ∧ G_11.1 q_25 w1.toNatClampNeg = -1) ∨ (0 ≤ w1.toInt ∧ w1.toInt ≤ 3 ∧ G_11.1 q_25 w1.toNatClampNeg ≠ -1 ∧ ((r_27 = -7 ∧ (w2.toInt < 0 ∨ (G_11.1 q_26 w1.toNatClampNeg).toInt ≤ w2.toInt)) ∨ (r_27 = 0 ∧ 0 ≤ w2.toInt ∧ w2.toInt < (G_11.1 q_26 w1.toNatClampNeg).toInt))) := hr_27_p0
  have hLI := hLI.fr EX.rf hF_27 rfl
  refine lv_pop hx hb dL_law_2199 rfl ?_
  refine lv_goto (tgt := 2266) hx hb dL_law_2200 (by decide) ?_
  exact W.widen (k := cells + 10) (n := slots + 200) (by omega) (by omega) (kk τ G_27 H locs ls hLI hT hS (lv_sub hl [0, 1, 2, 3] rfl))
set_option maxHeartbeats 4000000 in
set_option maxRecDepth 100000 in
theorem lc_49 {p : Program} {e : Env} {s : State} {m : MethodId} {below : List Frame} {meth : Method} {c : Code} {l : Launch} {b L : Nat} {xs : Nat → Int32} (D : va_G) (cy : Nat → ClassId) (adK adV : Nat → Nat) (base xo mo : Nat) (C0 : lw_At p s m meth c b L xs) (hK : KK D cy s) (hSS : SS adK adV base s s.heap) (hZ : base ≤ s.heap.size) (hZ2 : s.heap.size ≤ base) (hbA : ¬ RA base b) (hLs : L ≤ 3584) (τ : Nat → Nat) (G : Gh) (i : Int32) (hi0 : 0 ≤ i.toInt) (hi7 : i.toInt + 7 ≤ L) (hLI : LI τ G xo mo) {H : Heap} {locs : List Loc} (hT : TY D cy base τ G H) (hS : va_S (RA base) s.heap H locs) {ls : Array Slot} (hl : lv_has ls 4 [(3, .int i), (2, .ref mo), (1, .ref xo), (0, .ref b)]) {cells slots : Nat} (hroom : cells + 100 ≤ room_1.cells ∧ slots + 1000 ≤ room_1.slots) (kk : ∀ (τ1 : Nat → Nat) (G1 : Gh) (H1 : Heap) (locs1 : List Loc) (ls1 : Array Slot), LI τ1 G1 xo mo → TY D cy base τ1 G1 H1 → va_S (RA base) s.heap H1 locs1 → lv_has ls1 4 [(3, .int i), (2, .ref mo), (1, .ref xo), (0, .ref b)] → W p l e room_1 s m #[Value.ref b] below meth c H1 locs1 (cells + 10) (slots + 200) (lw_Z below #[Value.ref b] s) (F0 m 2266 ls1 [])) : W p l e room_1 s m #[Value.ref b] below meth c H locs cells slots (lw_Z below #[Value.ref b] s) (F0 m 2203 ls []) := by
  obtain ⟨hx, hb, hr, hml, hown, hts, hX, hbl, hlocks, hgv⟩ := id C0
  have hown : s.vm.findClass RL = some m.cls := hown
  have hb : c.code = cL_law := hb
  have hts : ∀ w ∈ GW, w.before #[Value.ref b] s = true := fun w h => hts w (gw_tbl w h)
  have h_xo := hLI.1
  have h_mo := hLI.2.1
  have hF : Fr τ [1, 2, 3, 4, 6, 7, 11, 20, 25, 26, 27, 28, 29, 30, 31, 32, 33, 34, 35, 36, 37, 38, 39, 40, 51, 52, 53, 54, 55, 66, 67, 68, 69, 70, 71, 72, 73, 74, 75, 76, 77, 78, 79, 80, 81, 82, 83, 84, 85, 86, 87, 88, 89, 90, 91, 1001, 1002, 1004, 1023, 1024] G G := Fr.rf
  obtain ⟨w1, ew1⟩ : ∃ y : Int32, y = xs (i.toInt.toNat + 1) := ⟨_, rfl⟩
  obtain ⟨w2, ew2⟩ : ∃ y : Int32, y = xs (i.toInt.toNat + 2) := ⟨_, rfl⟩
  obtain ⟨w3, ew3⟩ : ∃ y : Int32, y = xs (i.toInt.toNat + 3) := ⟨_, rfl⟩
  obtain ⟨w4, ew4⟩ : ∃ y : Int32, y = xs (i.toInt.toNat + 4) := ⟨_, rfl⟩
  obtain ⟨w5, ew5⟩ : ∃ y : Int32, y = xs (i.toInt.toNat + 5) := ⟨_, rfl⟩
  refine lv_aload_n hx hb dL_law_2203 rfl (lv_at hl 2 rfl) ?_
  refine lv_aload_n hx hb dL_law_2204 rfl (lv_at hl 3 rfl) ?_
  refine lv_iload_n hx hb dL_law_2205 rfl (lv_at hl 0 rfl) ?_
  refine lv_iconst (v := 1) hx hb dL_law_2206 (by decide) ?_
  refine lv_iadd hx hb dL_law_2207 ?_
  refine lv_topi (fun z_1 ez_1 => ?_)
  have tz_1 : z_1.toInt = i.toInt + 1 := add_t ez_1 (show -2147483648 ≤ i.toInt + 1 by omega) (show i.toInt + 1 < 2147483648 by omega)
  refine va_sld (i := z_1) hx hb hX hbl hbA hS (vp_in_iff.mpr ⟨by omega, by omega⟩) dL_law_2208 ?_
  refine W.eq (g2 := F0 m 2209 ls [.int w1, .ref xo]) (by rw [ew1, show z_1.toNatClampNeg = i.toInt.toNat + 1 from (show z_1.toInt.toNat = _ by omega)]) ?_
  refine lv_aload_n hx hb dL_law_2209 rfl (lv_at hl 3 rfl) ?_
  refine lv_iload_n hx hb dL_law_2210 rfl (lv_at hl 0 rfl) ?_
  refine lv_iconst (v := 2) hx hb dL_law_2211 (by decide) ?_
  refine lv_iadd hx hb dL_law_2212 ?_
  refine lv_topi (fun z_2 ez_2 => ?_)
  have tz_2 : z_2.toInt = i.toInt + 2 := add_t ez_2 (show -2147483648 ≤ i.toInt + 2 by omega) (show i.toInt + 2 < 2147483648 by omega)
  refine va_sld (i := z_2) hx hb hX hbl hbA hS (vp_in_iff.mpr ⟨by omega, by omega⟩) dL_law_2213 ?_
  refine W.eq (g2 := F0 m 2214 ls [.int w2, .int w1, .ref xo]) (by rw [ew2, show z_2.toNatClampNeg = i.toInt.toNat + 2 from (show z_2.toInt.toNat = _ by omega)]) ?_
  refine lv_aload_n hx hb dL_law_2214 rfl (lv_at hl 3 rfl) ?_
  refine lv_iload_n hx hb dL_law_2215 rfl (lv_at hl 0 rfl) ?_
  refine lv_iconst (v := 3) hx hb dL_law_2216 (by decide) ?_
  refine lv_iadd hx hb dL_law_2217 ?_
  refine lv_topi (fun z_3 ez_3 => ?_)
  have tz_3 : z_3.toInt = i.toInt + 3 := add_t ez_3 (show -2147483648 ≤ i.toInt + 3 by omega) (show i.toInt + 3 < 2147483648 by omega)
  refine va_sld (i := z_3) hx hb hX hbl hbA hS (vp_in_iff.mpr ⟨by omega, by omega⟩) dL_law_2218 ?_
  refine W.eq (g2 := F0 m 2219 ls [.int w3, .int w2, .int w1, .ref xo]) (by rw [ew3, show z_3.toNatClampNeg = i.toInt.toNat + 3 from (show z_3.toInt.toNat = _ by omega)]) ?_
  refine lv_aload_n hx hb dL_law_2219 rfl (lv_at hl 3 rfl) ?_
  refine lv_iload_n hx hb dL_law_2220 rfl (lv_at hl 0 rfl) ?_
  refine lv_iconst (v := 4) hx hb dL_law_2221 (by decide) ?_
  refine lv_iadd hx hb dL_law_2222 ?_
  refine lv_topi (fun z_4 ez_4 => ?_)
  have tz_4 : z_4.toInt = i.toInt + 4 := add_t ez_4 (show -2147483648 ≤ i.toInt + 4 by omega) (show i.toInt + 4 < 2147483648 by omega)
  refine va_sld (i := z_4) hx hb hX hbl hbA hS (vp_in_iff.mpr ⟨by omega, by omega⟩) dL_law_2223 ?_
  refine W.eq (g2 := F0 m 2224 ls [.int w4, .int w3, .int w2, .int w1, .ref xo]) (by rw [ew4, show z_4.toNatClampNeg = i.toInt.toNat + 4 from (show z_4.toInt.toNat = _ by omega)]) ?_
  refine lv_aload_n hx hb dL_law_2224 rfl (lv_at hl 3 rfl) ?_
  refine lv_iload_n hx hb dL_law_2225 rfl (lv_at hl 0 rfl) ?_
  refine lv_iconst (v := 5) hx hb dL_law_2226 (by decide) ?_
  refine lv_iadd hx hb dL_law_2227 ?_
  refine lv_topi (fun z_5 ez_5 => ?_)
  have tz_5 : z_5.toInt = i.toInt + 5 := add_t ez_5 (show -2147483648 ≤ i.toInt + 5 by omega) (show i.toInt + 5 < 2147483648 by omega)
  refine va_sld (i := z_5) hx hb hX hbl hbA hS (vp_in_iff.mpr ⟨by omega, by omega⟩) dL_law_2228 ?_
  refine W.eq (g2 := F0 m 2229 ls [.int w5, .int w4, .int w3, .int w2, .int w1, .ref xo]) (by rw [ew5, show z_5.toNatClampNeg = i.toInt.toNat + 5 from (show z_5.toInt.toNat = _ by omega)]) ?_
  have hLI0 := hLI
  obtain ⟨q_6, eq_6, hq_6⟩ := (show ∃ q, G.2.2.1 xo 7 = some q ∧ τ q = 23 from hT.rgr h_xo (by decide) 7)
  refine t_calli (runV (As := [.int w1, .int w2, .int w3, .int w4, .int w5]) (rest := []) ⟨hx, hb, hml, hown, hts⟩ (t_X9_paste2 l D cy base τ G xo h_xo w1 w2 w3 w4 w5 q_6 hq_6 eq_6) sV_L_225 hK (t_recv cf_1 hK hT h_xo) ⟨Nat.le_trans hZ hS.1, hT⟩ ⟨Nat.le_of_ble_eq_true rfl, Nat.le_of_ble_eq_true rfl⟩ rfl hl.1 rfl (Nat.le_of_ble_eq_true rfl) dL_law_2229 ⟨by have q9 := hroom.1; omega, by have q9 := hroom.2; omega⟩) hS (fun r_7 G_7 H locs hF_7 hr_7 hT hS => ?_)
  have hF := hF.tr hF_7 rfl
  have hr_7_p0 := hr_7
  have hr_7_p0 : (r_7 = -2 ∧ ((w1.toInt < 0 ∨ 3 < w1.toInt) ∨ (w3.toInt < 0 ∨ 3 < w3.toInt))) ∨ (r_7 = -6 ∧ 0 ≤ w1.toInt ∧ w1.toInt ≤ 3 ∧ 0 ≤ w3.toInt ∧ w3.toInt ≤ 3 ∧ (G.2.2.1 q_6 w1.toNatClampNeg = none ∨ G.2.2.1 q_6 w3.toNatClampNeg = none)) ∨ (0 ≤ w1.toInt ∧ w1.toInt ≤ 3 ∧ 0 ≤ w3.toInt ∧ w3.toInt ≤ 3 ∧ ∃ q1 q2 y1 y2 : Nat, G.2.2.1 q_6 w1.toNatClampNeg = some q1 ∧ G.2.2.1 q_6 w3.toNatClampNeg = some q2 ∧ G.2.2.1 q1 1 = some y1 ∧ G.2.2.1 q2 1 = some y2 ∧ ((r_7 = -8 ∧ G.1 q1 0 ≠ G.1 q2 0) ∨ (r_7 = -7 ∧ G.1 q1 0 = G.1 q2 0 ∧ ¬ (0 ≤ w2.toInt ∧ 0 ≤ w4.toInt ∧ 0 ≤ w5.toInt ∧ w2.toInt + w5.toInt ≤ G.2.2.2 y1 ∧ w4.toInt + w5.toInt ≤ G.2.2.2 y2)) ∨ (r_7 = 0 ∧ G.1 q1 0 = G.1 q2 0 ∧ (0 ≤ w2.toInt ∧ 0 ≤ w4.toInt ∧ 0 ≤ w5.toInt ∧ w2.toInt + w5.toInt ≤ G.2.2.2 y1 ∧ w4.toInt + w5.toInt ≤ G.2.2.2 y2)))) := hr_7_p0
  have hLI := hLI.fr EX.rf hF_7 rfl
  have hFx := hF_7
  refine lv_aload_n hx hb dL_law_2232 rfl (lv_at hl 1 rfl) ?_
  refine lv_aload_n hx hb dL_law_2233 rfl (lv_at hl 3 rfl) ?_
  refine lv_iload_n hx hb dL_law_2234 rfl (lv_at hl 0 rfl) ?_
  refine lv_iconst (v := 1) hx hb dL_law_2235 (by decide) ?_
  refine lv_iadd hx hb dL_law_2236 ?_
  refine lv_topi (fun z_8 ez_8 => ?_)
  have w_9 : z_1 = z_8 := ez_1.trans ez_8.symm
  subst w_9
  refine va_sld (i := z_1) hx hb hX hbl hbA hS (vp_in_iff.mpr ⟨by omega, by omega⟩) dL_law_2237 ?_
  refine W.eq (g2 := F0 m 2238 ls [.int w1, .ref mo, .int r_7]) (by rw [ew1, show z_1.toNatClampNeg = i.toInt.toNat + 1 from (show z_1.toInt.toNat = _ by omega)]) ?_
  refine lv_aload_n hx hb dL_law_2238 rfl (lv_at hl 3 rfl) ?_
  refine lv_iload_n hx hb dL_law_2239 rfl (lv_at hl 0 rfl) ?_
  refine lv_iconst (v := 2) hx hb dL_law_2240 (by decide) ?_
  refine lv_iadd hx hb dL_law_2241 ?_
  refine lv_topi (fun z_10 ez_10 => ?_)
  have w_11 : z_2 = z_10 := ez_2.trans ez_10.symm
  subst w_11
  refine va_sld (i := z_2) hx hb hX hbl hbA hS (vp_in_iff.mpr ⟨by omega, by omega⟩) dL_law_2242 ?_
  refine W.eq (g2 := F0 m 2243 ls [.int w2, .int w1, .ref mo, .int r_7]) (by rw [ew2, show z_2.toNatClampNeg = i.toInt.toNat + 2 from (show z_2.toInt.toNat = _ by omega)]) ?_
  refine lv_aload_n hx hb dL_law_2243 rfl (lv_at hl 3 rfl) ?_
  refine lv_iload_n hx hb dL_law_2244 rfl (lv_at hl 0 rfl) ?_
  refine lv_iconst (v := 3) hx hb dL_law_2245 (by decide) ?_
  refine lv_iadd hx hb dL_law_2246 ?_
  refine lv_topi (fun z_12 ez_12 => ?_)
  have w_13 : z_3 = z_12 := ez_3.trans ez_12.symm
  subst w_13
  refine va_sld (i := z_3) hx hb hX hbl hbA hS (vp_in_iff.mpr ⟨by omega, by omega⟩) dL_law_2247 ?_
  refine W.eq (g2 := F0 m 2248 ls [.int w3, .int w2, .int w1, .ref mo, .int r_7]) (by rw [ew3, show z_3.toNatClampNeg = i.toInt.toNat + 3 from (show z_3.toInt.toNat = _ by omega)]) ?_
  refine lv_aload_n hx hb dL_law_2248 rfl (lv_at hl 3 rfl) ?_
  refine lv_iload_n hx hb dL_law_2249 rfl (lv_at hl 0 rfl) ?_
  refine lv_iconst (v := 4) hx hb dL_law_2250 (by decide) ?_
  refine lv_iadd hx hb dL_law_2251 ?_
  refine lv_topi (fun z_14 ez_14 => ?_)
  have w_15 : z_4 = z_14 := ez_4.trans ez_14.symm
  subst w_15
  refine va_sld (i := z_4) hx hb hX hbl hbA hS (vp_in_iff.mpr ⟨by omega, by omega⟩) dL_law_2252 ?_
  refine W.eq (g2 := F0 m 2253 ls [.int w4, .int w3, .int w2, .int w1, .ref mo, .int r_7]) (by rw [ew4, show z_4.toNatClampNeg = i.toInt.toNat + 4 from (show z_4.toInt.toNat = _ by omega)]) ?_
  refine lv_aload_n hx hb dL_law_2253 rfl (lv_at hl 3 rfl) ?_
  refine lv_iload_n hx hb dL_law_2254 rfl (lv_at hl 0 rfl) ?_
  refine lv_iconst (v := 5) hx hb dL_law_2255 (by decide) ?_
  refine lv_iadd hx hb dL_law_2256 ?_
  refine lv_topi (fun z_16 ez_16 => ?_)
  have w_17 : z_5 = z_16 := ez_5.trans ez_16.symm
  subst w_17
  refine va_sld (i := z_5) hx hb hX hbl hbA hS (vp_in_iff.mpr ⟨by omega, by omega⟩) dL_law_2257 ?_
  refine W.eq (g2 := F0 m 2258 ls [.int w5, .int w4, .int w3, .int w2, .int w1, .ref mo, .int r_7]) (by rw [ew5, show z_5.toNatClampNeg = i.toInt.toNat + 5 from (show z_5.toInt.toNat = _ by omega)]) ?_
  obtain ⟨q_18, eq_18, hq_18⟩ := (show ∃ q, G_7.2.2.1 mo 1 = some q ∧ τ q = 51 from hT.rgr h_mo (by decide) 1)
  have eq_18 := (hF.r h_mo (by decide) rfl _).symm.trans eq_18
  obtain ⟨q_19, eq_19, hq_19⟩ := (show ∃ q, G_7.2.2.1 mo 2 = some q ∧ τ q = 52 from hT.rgr h_mo (by decide) 2)
  have eq_19 := (hF.r h_mo (by decide) rfl _).symm.trans eq_19
  refine t_calli (runV (As := [.int w1, .int w2, .int w3, .int w4, .int w5]) (rest := [.int r_7]) ⟨hx, hb, hml, hown, hts⟩ (t_X10_paste2 l D cy base τ G_7 mo h_mo w1 w2 w3 w4 w5 q_18 hq_18 ((hF.r h_mo (by decide) rfl _).trans eq_18) q_19 hq_19 ((hF.r h_mo (by decide) rfl _).trans eq_19)) sV_L_228 hK (t_recv cf_11 hK hT h_mo) ⟨Nat.le_trans hZ hS.1, hT⟩ ⟨Nat.le_of_ble_eq_true rfl, Nat.le_of_ble_eq_true rfl⟩ rfl hl.1 rfl (Nat.le_of_ble_eq_true rfl) dL_law_2258 ⟨by have q9 := hroom.1; omega, by have q9 := hroom.2; omega⟩) hS (fun r_20 G_20 H locs hF_20 hr_20 hT hS => ?_)
  have hF := hF.tr hF_20 rfl
  have hr_20_p0 := hr_20
  have hr_20_p0 : (r_20 = -2 ∧ ((w1.toInt < 0 ∨ 3 < w1.toInt) ∨ (w3.toInt < 0 ∨ 3 < w3.toInt))) ∨ (r_20 = -6 ∧ 0 ≤ w1.toInt ∧ w1.toInt ≤ 3 ∧ 0 ≤ w3.toInt ∧ w3.toInt ≤ 3 ∧ (G_7.1 q_18 w1.toNatClampNeg = -1 ∨ G_7.1 q_18 w3.toNatClampNeg = -1)) ∨ (0 ≤ w1.toInt ∧ w1.toInt ≤ 3 ∧ 0 ≤ w3.toInt ∧ w3.toInt ≤ 3 ∧ G_7.1 q_18 w1.toNatClampNeg ≠ -1 ∧ G_7.1 q_18 w3.toNatClampNeg ≠ -1 ∧ ((r_20 = -8 ∧ G_7.1 q_18 w1.toNatClampNeg ≠ G_7.1 q_18 w3.toNatClampNeg) ∨ (r_20 = -7 ∧ G_7.1 q_18 w1.toNatClampNeg = G_7.1 q_18 w3.toNatClampNeg ∧ ¬ (0 ≤ w2.toInt ∧ 0 ≤ w4.toInt ∧ 0 ≤ w5.toInt ∧ w2.toInt + w5.toInt ≤ (G_7.1 q_19 w1.toNatClampNeg).toInt ∧ w4.toInt + w5.toInt ≤ (G_7.1 q_19 w3.toNatClampNeg).toInt)) ∨ (r_20 = 0 ∧ G_7.1 q_18 w1.toNatClampNeg = G_7.1 q_18 w3.toNatClampNeg ∧ (0 ≤ w2.toInt ∧ 0 ≤ w4.toInt ∧ 0 ≤ w5.toInt ∧ w2.toInt + w5.toInt ≤ (G_7.1 q_19 w1.toNatClampNeg).toInt ∧ w4.toInt + w5.toInt ≤ (G_7.1 q_19 w3.toNatClampNeg).toInt)))) := hr_20_p0
  have hLI := hLI.fr EX.rf hF_20 rfl
  refine lv_icmp_eq (tgt := 2266) hx hb dL_law_2261 (by decide) (fun _ => ?_) (fun c9 => absurd (paste_both hLI0.2.2.2.2.1 hFx rfl hq_6 hq_18 hq_19 hr_7_p0 hr_20_p0) c9)
  exact W.widen (k := cells + 10) (n := slots + 200) (by omega) (by omega) (kk τ G_20 H locs ls hLI hT hS (lv_sub hl [0, 1, 2, 3] rfl))
