theorem dL_law_1868 : decode cL_law 1868 = .ok (.aload_n 1, 1) := by decide +kernel
theorem dL_law_1869 : decode cL_law 1869 = .ok (.aload_n 0, 1) := by decide +kernel
theorem dL_law_1870 : decode cL_law 1870 = .ok (.iload 4, 2) := by decide +kernel
theorem dL_law_1872 : decode cL_law 1872 = .ok (.iconst 1, 1) := by decide +kernel
theorem dL_law_1873 : decode cL_law 1873 = .ok (.iadd, 1) := by decide +kernel
theorem dL_law_1874 : decode cL_law 1874 = .ok (.iaload, 1) := by decide +kernel
theorem dL_law_1875 : decode cL_law 1875 = .ok (.invokevirtual 163, 3) := by decide +kernel
theorem dL_law_1878 : decode cL_law 1878 = .ok (.aload_n 2, 1) := by decide +kernel
theorem dL_law_1879 : decode cL_law 1879 = .ok (.aload_n 0, 1) := by decide +kernel
theorem dL_law_1880 : decode cL_law 1880 = .ok (.iload 4, 2) := by decide +kernel
theorem dL_law_1882 : decode cL_law 1882 = .ok (.iconst 1, 1) := by decide +kernel
theorem dL_law_1883 : decode cL_law 1883 = .ok (.iadd, 1) := by decide +kernel
theorem dL_law_1884 : decode cL_law 1884 = .ok (.iaload, 1) := by decide +kernel
theorem dL_law_1885 : decode cL_law 1885 = .ok (.invokevirtual 166, 3) := by decide +kernel
theorem dL_law_1888 : decode cL_law 1888 = .ok (.if_icmp .eq 218, 3) := by decide +kernel
theorem dL_law_1893 : decode cL_law 1893 = .ok (.aload_n 1, 1) := by decide +kernel
theorem dL_law_1894 : decode cL_law 1894 = .ok (.aload_n 0, 1) := by decide +kernel
theorem dL_law_1895 : decode cL_law 1895 = .ok (.iload 4, 2) := by decide +kernel
theorem dL_law_1897 : decode cL_law 1897 = .ok (.iconst 1, 1) := by decide +kernel
theorem dL_law_1898 : decode cL_law 1898 = .ok (.iadd, 1) := by decide +kernel
theorem dL_law_1899 : decode cL_law 1899 = .ok (.iaload, 1) := by decide +kernel
theorem dL_law_1900 : decode cL_law 1900 = .ok (.invokevirtual 167, 3) := by decide +kernel
theorem dL_law_1903 : decode cL_law 1903 = .ok (.aload_n 2, 1) := by decide +kernel
theorem dL_law_1904 : decode cL_law 1904 = .ok (.aload_n 0, 1) := by decide +kernel
theorem dL_law_1905 : decode cL_law 1905 = .ok (.iload 4, 2) := by decide +kernel
theorem dL_law_1907 : decode cL_law 1907 = .ok (.iconst 1, 1) := by decide +kernel
theorem dL_law_1908 : decode cL_law 1908 = .ok (.iadd, 1) := by decide +kernel
theorem dL_law_1909 : decode cL_law 1909 = .ok (.iaload, 1) := by decide +kernel
theorem dL_law_1910 : decode cL_law 1910 = .ok (.invokevirtual 170, 3) := by decide +kernel
theorem dL_law_1913 : decode cL_law 1913 = .ok (.if_icmp .eq 193, 3) := by decide +kernel
theorem dL_law_1918 : decode cL_law 1918 = .ok (.aload_n 1, 1) := by decide +kernel
theorem dL_law_1919 : decode cL_law 1919 = .ok (.aload_n 0, 1) := by decide +kernel
theorem dL_law_1920 : decode cL_law 1920 = .ok (.iload 4, 2) := by decide +kernel
theorem dL_law_1922 : decode cL_law 1922 = .ok (.iconst 1, 1) := by decide +kernel
theorem dL_law_1923 : decode cL_law 1923 = .ok (.iadd, 1) := by decide +kernel
theorem dL_law_1924 : decode cL_law 1924 = .ok (.iaload, 1) := by decide +kernel
theorem dL_law_1925 : decode cL_law 1925 = .ok (.invokevirtual 171, 3) := by decide +kernel
theorem dL_law_1928 : decode cL_law 1928 = .ok (.aload_n 2, 1) := by decide +kernel
theorem dL_law_1929 : decode cL_law 1929 = .ok (.aload_n 0, 1) := by decide +kernel
theorem dL_law_1930 : decode cL_law 1930 = .ok (.iload 4, 2) := by decide +kernel
theorem dL_law_1932 : decode cL_law 1932 = .ok (.iconst 1, 1) := by decide +kernel
theorem dL_law_1933 : decode cL_law 1933 = .ok (.iadd, 1) := by decide +kernel
theorem dL_law_1934 : decode cL_law 1934 = .ok (.iaload, 1) := by decide +kernel
theorem dL_law_1935 : decode cL_law 1935 = .ok (.invokevirtual 174, 3) := by decide +kernel
theorem dL_law_1938 : decode cL_law 1938 = .ok (.if_icmp .eq 168, 3) := by decide +kernel
theorem dL_law_1943 : decode cL_law 1943 = .ok (.aload_n 1, 1) := by decide +kernel
theorem dL_law_1944 : decode cL_law 1944 = .ok (.invokevirtual 175, 3) := by decide +kernel
theorem dL_law_1947 : decode cL_law 1947 = .ok (.aload_n 2, 1) := by decide +kernel
theorem dL_law_1948 : decode cL_law 1948 = .ok (.invokevirtual 178, 3) := by decide +kernel
theorem dL_law_1951 : decode cL_law 1951 = .ok (.if_icmp .eq 155, 3) := by decide +kernel
theorem dL_law_1956 : decode cL_law 1956 = .ok (.aload_n 1, 1) := by decide +kernel
theorem dL_law_1957 : decode cL_law 1957 = .ok (.invokevirtual 179, 3) := by decide +kernel
theorem dL_law_1960 : decode cL_law 1960 = .ok (.aload_n 2, 1) := by decide +kernel
theorem dL_law_1961 : decode cL_law 1961 = .ok (.invokevirtual 182, 3) := by decide +kernel
theorem dL_law_1964 : decode cL_law 1964 = .ok (.if_icmp .eq 142, 3) := by decide +kernel
theorem dL_law_1969 : decode cL_law 1969 = .ok (.aload_n 1, 1) := by decide +kernel
theorem dL_law_1970 : decode cL_law 1970 = .ok (.invokevirtual 183, 3) := by decide +kernel
theorem dL_law_1973 : decode cL_law 1973 = .ok (.aload_n 2, 1) := by decide +kernel
theorem dL_law_1974 : decode cL_law 1974 = .ok (.invokevirtual 186, 3) := by decide +kernel
theorem dL_law_1977 : decode cL_law 1977 = .ok (.if_icmp .eq 129, 3) := by decide +kernel
theorem dL_law_1982 : decode cL_law 1982 = .ok (.aload_n 1, 1) := by decide +kernel
theorem dL_law_1983 : decode cL_law 1983 = .ok (.aload_n 0, 1) := by decide +kernel
theorem dL_law_1984 : decode cL_law 1984 = .ok (.iload 4, 2) := by decide +kernel
theorem dL_law_1986 : decode cL_law 1986 = .ok (.iconst 1, 1) := by decide +kernel
theorem dL_law_1987 : decode cL_law 1987 = .ok (.iadd, 1) := by decide +kernel
theorem dL_law_1988 : decode cL_law 1988 = .ok (.iaload, 1) := by decide +kernel
theorem dL_law_1989 : decode cL_law 1989 = .ok (.aload_n 0, 1) := by decide +kernel
theorem dL_law_1990 : decode cL_law 1990 = .ok (.iload 4, 2) := by decide +kernel
theorem dL_law_1992 : decode cL_law 1992 = .ok (.iconst 2, 1) := by decide +kernel
theorem dL_law_1993 : decode cL_law 1993 = .ok (.iadd, 1) := by decide +kernel
theorem dL_law_1994 : decode cL_law 1994 = .ok (.iaload, 1) := by decide +kernel
theorem dL_law_1995 : decode cL_law 1995 = .ok (.invokevirtual 187, 3) := by decide +kernel
theorem dL_law_1998 : decode cL_law 1998 = .ok (.aload_n 2, 1) := by decide +kernel
theorem dL_law_1999 : decode cL_law 1999 = .ok (.aload_n 0, 1) := by decide +kernel
theorem dL_law_2000 : decode cL_law 2000 = .ok (.iload 4, 2) := by decide +kernel
theorem dL_law_2002 : decode cL_law 2002 = .ok (.iconst 1, 1) := by decide +kernel
theorem dL_law_2003 : decode cL_law 2003 = .ok (.iadd, 1) := by decide +kernel
theorem dL_law_2004 : decode cL_law 2004 = .ok (.iaload, 1) := by decide +kernel
theorem dL_law_2005 : decode cL_law 2005 = .ok (.aload_n 0, 1) := by decide +kernel
theorem dL_law_2006 : decode cL_law 2006 = .ok (.iload 4, 2) := by decide +kernel
theorem dL_law_2008 : decode cL_law 2008 = .ok (.iconst 2, 1) := by decide +kernel
theorem dL_law_2009 : decode cL_law 2009 = .ok (.iadd, 1) := by decide +kernel
theorem dL_law_2010 : decode cL_law 2010 = .ok (.iaload, 1) := by decide +kernel
theorem dL_law_2011 : decode cL_law 2011 = .ok (.invokevirtual 190, 3) := by decide +kernel
theorem dL_law_2014 : decode cL_law 2014 = .ok (.if_icmp .eq 92, 3) := by decide +kernel
theorem dL_law_2019 : decode cL_law 2019 = .ok (.aload_n 1, 1) := by decide +kernel
theorem dL_law_2020 : decode cL_law 2020 = .ok (.aload_n 0, 1) := by decide +kernel
theorem dL_law_2021 : decode cL_law 2021 = .ok (.iload 4, 2) := by decide +kernel
theorem dL_law_2023 : decode cL_law 2023 = .ok (.iconst 1, 1) := by decide +kernel
theorem dL_law_2024 : decode cL_law 2024 = .ok (.iadd, 1) := by decide +kernel
theorem dL_law_2025 : decode cL_law 2025 = .ok (.iaload, 1) := by decide +kernel
theorem dL_law_2026 : decode cL_law 2026 = .ok (.invokevirtual 191, 3) := by decide +kernel
theorem dL_law_2029 : decode cL_law 2029 = .ok (.aload_n 2, 1) := by decide +kernel
theorem dL_law_2030 : decode cL_law 2030 = .ok (.aload_n 0, 1) := by decide +kernel
theorem dL_law_2031 : decode cL_law 2031 = .ok (.iload 4, 2) := by decide +kernel
theorem dL_law_2033 : decode cL_law 2033 = .ok (.iconst 1, 1) := by decide +kernel
theorem dL_law_2034 : decode cL_law 2034 = .ok (.iadd, 1) := by decide +kernel
theorem dL_law_2035 : decode cL_law 2035 = .ok (.iaload, 1) := by decide +kernel
theorem dL_law_2036 : decode cL_law 2036 = .ok (.invokevirtual 194, 3) := by decide +kernel
theorem dL_law_2039 : decode cL_law 2039 = .ok (.if_icmp .eq 67, 3) := by decide +kernel
theorem dL_law_2044 : decode cL_law 2044 = .ok (.aload_n 1, 1) := by decide +kernel
theorem dL_law_2045 : decode cL_law 2045 = .ok (.aload_n 0, 1) := by decide +kernel
theorem dL_law_2046 : decode cL_law 2046 = .ok (.iload 4, 2) := by decide +kernel
theorem dL_law_2048 : decode cL_law 2048 = .ok (.iconst 1, 1) := by decide +kernel
theorem dL_law_2049 : decode cL_law 2049 = .ok (.iadd, 1) := by decide +kernel
theorem dL_law_2050 : decode cL_law 2050 = .ok (.iaload, 1) := by decide +kernel
theorem dL_law_2051 : decode cL_law 2051 = .ok (.aload_n 0, 1) := by decide +kernel
theorem dL_law_2052 : decode cL_law 2052 = .ok (.iload 4, 2) := by decide +kernel
theorem dL_law_2054 : decode cL_law 2054 = .ok (.iconst 2, 1) := by decide +kernel
theorem dL_law_2055 : decode cL_law 2055 = .ok (.iadd, 1) := by decide +kernel
theorem dL_law_2056 : decode cL_law 2056 = .ok (.iaload, 1) := by decide +kernel
theorem dL_law_2057 : decode cL_law 2057 = .ok (.invokevirtual 195, 3) := by decide +kernel
theorem dL_law_2060 : decode cL_law 2060 = .ok (.aload_n 2, 1) := by decide +kernel
theorem dL_law_2061 : decode cL_law 2061 = .ok (.aload_n 0, 1) := by decide +kernel
theorem dL_law_2062 : decode cL_law 2062 = .ok (.iload 4, 2) := by decide +kernel
theorem dL_law_2064 : decode cL_law 2064 = .ok (.iconst 1, 1) := by decide +kernel
theorem dL_law_2065 : decode cL_law 2065 = .ok (.iadd, 1) := by decide +kernel
theorem dL_law_2066 : decode cL_law 2066 = .ok (.iaload, 1) := by decide +kernel
theorem dL_law_2067 : decode cL_law 2067 = .ok (.aload_n 0, 1) := by decide +kernel
theorem dL_law_2068 : decode cL_law 2068 = .ok (.iload 4, 2) := by decide +kernel
theorem dL_law_2070 : decode cL_law 2070 = .ok (.iconst 2, 1) := by decide +kernel
theorem dL_law_2071 : decode cL_law 2071 = .ok (.iadd, 1) := by decide +kernel
theorem dL_law_2072 : decode cL_law 2072 = .ok (.iaload, 1) := by decide +kernel
theorem dL_law_2073 : decode cL_law 2073 = .ok (.invokevirtual 198, 3) := by decide +kernel
theorem dL_law_2076 : decode cL_law 2076 = .ok (.if_icmp .eq 30, 3) := by decide +kernel
theorem dL_law_2081 : decode cL_law 2081 = .ok (.aload_n 1, 1) := by decide +kernel
theorem dL_law_2082 : decode cL_law 2082 = .ok (.aload_n 0, 1) := by decide +kernel
theorem dL_law_2083 : decode cL_law 2083 = .ok (.iload 4, 2) := by decide +kernel
theorem dL_law_2085 : decode cL_law 2085 = .ok (.iconst 1, 1) := by decide +kernel
theorem dL_law_2086 : decode cL_law 2086 = .ok (.iadd, 1) := by decide +kernel
theorem dL_law_2087 : decode cL_law 2087 = .ok (.iaload, 1) := by decide +kernel
theorem dL_law_2088 : decode cL_law 2088 = .ok (.invokevirtual 199, 3) := by decide +kernel
theorem dL_law_2091 : decode cL_law 2091 = .ok (.aload_n 2, 1) := by decide +kernel
theorem dL_law_2092 : decode cL_law 2092 = .ok (.aload_n 0, 1) := by decide +kernel
theorem dL_law_2093 : decode cL_law 2093 = .ok (.iload 4, 2) := by decide +kernel
theorem dL_law_2095 : decode cL_law 2095 = .ok (.iconst 1, 1) := by decide +kernel
theorem dL_law_2096 : decode cL_law 2096 = .ok (.iadd, 1) := by decide +kernel
theorem dL_law_2097 : decode cL_law 2097 = .ok (.iaload, 1) := by decide +kernel
theorem dL_law_2098 : decode cL_law 2098 = .ok (.invokevirtual 202, 3) := by decide +kernel
theorem dL_law_2101 : decode cL_law 2101 = .ok (.if_icmp .eq 5, 3) := by decide +kernel
