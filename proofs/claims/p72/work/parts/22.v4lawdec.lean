theorem dL_1861 : decode code 1861 = .ok (.iadd, 1) := by decide +kernel
theorem dL_1862 : decode code 1862 = .ok (.iaload, 1) := by decide +kernel
theorem dL_1863 : decode code 1863 = .ok (.aload_n 0, 1) := by decide +kernel
theorem dL_1864 : decode code 1864 = .ok (.iload_n 3, 1) := by decide +kernel
theorem dL_1865 : decode code 1865 = .ok (.iconst 2, 1) := by decide +kernel
theorem dL_1866 : decode code 1866 = .ok (.iadd, 1) := by decide +kernel
theorem dL_1867 : decode code 1867 = .ok (.iaload, 1) := by decide +kernel
theorem dL_1868 : decode code 1868 = .ok (.aload_n 0, 1) := by decide +kernel
theorem dL_1869 : decode code 1869 = .ok (.iload_n 3, 1) := by decide +kernel
theorem dL_1870 : decode code 1870 = .ok (.iconst 3, 1) := by decide +kernel
theorem dL_1871 : decode code 1871 = .ok (.iadd, 1) := by decide +kernel
theorem dL_1872 : decode code 1872 = .ok (.iaload, 1) := by decide +kernel
theorem dL_1873 : decode code 1873 = .ok (.invokevirtual 250, 3) := by decide +kernel
theorem dL_1876 : decode code 1876 = .ok (.pop2, 1) := by decide +kernel
theorem dL_1877 : decode code 1877 = .ok (.goto 475, 3) := by decide +kernel
theorem dL_1880 : decode code 1880 = .ok (.aload_n 1, 1) := by decide +kernel
theorem dL_1881 : decode code 1881 = .ok (.aload_n 0, 1) := by decide +kernel
theorem dL_1882 : decode code 1882 = .ok (.iload_n 3, 1) := by decide +kernel
theorem dL_1883 : decode code 1883 = .ok (.iconst 1, 1) := by decide +kernel
theorem dL_1884 : decode code 1884 = .ok (.iadd, 1) := by decide +kernel
theorem dL_1885 : decode code 1885 = .ok (.iaload, 1) := by decide +kernel
theorem dL_1886 : decode code 1886 = .ok (.aload_n 0, 1) := by decide +kernel
theorem dL_1887 : decode code 1887 = .ok (.iload_n 3, 1) := by decide +kernel
theorem dL_1888 : decode code 1888 = .ok (.iconst 2, 1) := by decide +kernel
theorem dL_1889 : decode code 1889 = .ok (.iadd, 1) := by decide +kernel
theorem dL_1890 : decode code 1890 = .ok (.iaload, 1) := by decide +kernel
theorem dL_1891 : decode code 1891 = .ok (.invokevirtual 251, 3) := by decide +kernel
theorem dL_1894 : decode code 1894 = .ok (.pop2, 1) := by decide +kernel
theorem dL_1895 : decode code 1895 = .ok (.aload_n 2, 1) := by decide +kernel
theorem dL_1896 : decode code 1896 = .ok (.aload_n 0, 1) := by decide +kernel
theorem dL_1897 : decode code 1897 = .ok (.iload_n 3, 1) := by decide +kernel
theorem dL_1898 : decode code 1898 = .ok (.iconst 1, 1) := by decide +kernel
theorem dL_1899 : decode code 1899 = .ok (.iadd, 1) := by decide +kernel
theorem dL_1900 : decode code 1900 = .ok (.iaload, 1) := by decide +kernel
theorem dL_1901 : decode code 1901 = .ok (.aload_n 0, 1) := by decide +kernel
theorem dL_1902 : decode code 1902 = .ok (.iload_n 3, 1) := by decide +kernel
theorem dL_1903 : decode code 1903 = .ok (.iconst 2, 1) := by decide +kernel
theorem dL_1904 : decode code 1904 = .ok (.iadd, 1) := by decide +kernel
theorem dL_1905 : decode code 1905 = .ok (.iaload, 1) := by decide +kernel
theorem dL_1906 : decode code 1906 = .ok (.invokevirtual 255, 3) := by decide +kernel
theorem dL_1909 : decode code 1909 = .ok (.pop2, 1) := by decide +kernel
theorem dL_1910 : decode code 1910 = .ok (.goto 442, 3) := by decide +kernel
theorem dL_1913 : decode code 1913 = .ok (.aload_n 1, 1) := by decide +kernel
theorem dL_1914 : decode code 1914 = .ok (.aload_n 0, 1) := by decide +kernel
theorem dL_1915 : decode code 1915 = .ok (.iload_n 3, 1) := by decide +kernel
theorem dL_1916 : decode code 1916 = .ok (.iconst 1, 1) := by decide +kernel
theorem dL_1917 : decode code 1917 = .ok (.iadd, 1) := by decide +kernel
theorem dL_1918 : decode code 1918 = .ok (.iaload, 1) := by decide +kernel
theorem dL_1919 : decode code 1919 = .ok (.aload_n 0, 1) := by decide +kernel
theorem dL_1920 : decode code 1920 = .ok (.iload_n 3, 1) := by decide +kernel
theorem dL_1921 : decode code 1921 = .ok (.iconst 2, 1) := by decide +kernel
theorem dL_1922 : decode code 1922 = .ok (.iadd, 1) := by decide +kernel
theorem dL_1923 : decode code 1923 = .ok (.iaload, 1) := by decide +kernel
theorem dL_1924 : decode code 1924 = .ok (.invokevirtual 256, 3) := by decide +kernel
theorem dL_1927 : decode code 1927 = .ok (.pop, 1) := by decide +kernel
theorem dL_1928 : decode code 1928 = .ok (.aload_n 2, 1) := by decide +kernel
theorem dL_1929 : decode code 1929 = .ok (.aload_n 0, 1) := by decide +kernel
theorem dL_1930 : decode code 1930 = .ok (.iload_n 3, 1) := by decide +kernel
theorem dL_1931 : decode code 1931 = .ok (.iconst 1, 1) := by decide +kernel
theorem dL_1932 : decode code 1932 = .ok (.iadd, 1) := by decide +kernel
theorem dL_1933 : decode code 1933 = .ok (.iaload, 1) := by decide +kernel
theorem dL_1934 : decode code 1934 = .ok (.aload_n 0, 1) := by decide +kernel
theorem dL_1935 : decode code 1935 = .ok (.iload_n 3, 1) := by decide +kernel
theorem dL_1936 : decode code 1936 = .ok (.iconst 2, 1) := by decide +kernel
theorem dL_1937 : decode code 1937 = .ok (.iadd, 1) := by decide +kernel
theorem dL_1938 : decode code 1938 = .ok (.iaload, 1) := by decide +kernel
theorem dL_1939 : decode code 1939 = .ok (.invokevirtual 259, 3) := by decide +kernel
theorem dL_1942 : decode code 1942 = .ok (.pop, 1) := by decide +kernel
theorem dL_1943 : decode code 1943 = .ok (.goto 409, 3) := by decide +kernel
theorem dL_1946 : decode code 1946 = .ok (.aload_n 1, 1) := by decide +kernel
theorem dL_1947 : decode code 1947 = .ok (.aload_n 0, 1) := by decide +kernel
theorem dL_1948 : decode code 1948 = .ok (.iload_n 3, 1) := by decide +kernel
theorem dL_1949 : decode code 1949 = .ok (.iconst 1, 1) := by decide +kernel
theorem dL_1950 : decode code 1950 = .ok (.iadd, 1) := by decide +kernel
theorem dL_1951 : decode code 1951 = .ok (.iaload, 1) := by decide +kernel
theorem dL_1952 : decode code 1952 = .ok (.invokevirtual 260, 3) := by decide +kernel
theorem dL_1955 : decode code 1955 = .ok (.pop, 1) := by decide +kernel
theorem dL_1956 : decode code 1956 = .ok (.aload_n 2, 1) := by decide +kernel
theorem dL_1957 : decode code 1957 = .ok (.aload_n 0, 1) := by decide +kernel
theorem dL_1958 : decode code 1958 = .ok (.iload_n 3, 1) := by decide +kernel
theorem dL_1959 : decode code 1959 = .ok (.iconst 1, 1) := by decide +kernel
theorem dL_1960 : decode code 1960 = .ok (.iadd, 1) := by decide +kernel
theorem dL_1961 : decode code 1961 = .ok (.iaload, 1) := by decide +kernel
theorem dL_1962 : decode code 1962 = .ok (.invokevirtual 263, 3) := by decide +kernel
theorem dL_1965 : decode code 1965 = .ok (.pop, 1) := by decide +kernel
theorem dL_1966 : decode code 1966 = .ok (.goto 386, 3) := by decide +kernel
theorem dL_1969 : decode code 1969 = .ok (.aload_n 1, 1) := by decide +kernel
theorem dL_1970 : decode code 1970 = .ok (.invokevirtual 264, 3) := by decide +kernel
theorem dL_1973 : decode code 1973 = .ok (.pop, 1) := by decide +kernel
theorem dL_1974 : decode code 1974 = .ok (.aload_n 2, 1) := by decide +kernel
theorem dL_1975 : decode code 1975 = .ok (.invokevirtual 267, 3) := by decide +kernel
theorem dL_1978 : decode code 1978 = .ok (.pop, 1) := by decide +kernel
theorem dL_1979 : decode code 1979 = .ok (.goto 373, 3) := by decide +kernel
theorem dL_1982 : decode code 1982 = .ok (.aload_n 1, 1) := by decide +kernel
theorem dL_1983 : decode code 1983 = .ok (.invokevirtual 268, 3) := by decide +kernel
theorem dL_1986 : decode code 1986 = .ok (.pop, 1) := by decide +kernel
theorem dL_1987 : decode code 1987 = .ok (.aload_n 2, 1) := by decide +kernel
theorem dL_1988 : decode code 1988 = .ok (.invokevirtual 271, 3) := by decide +kernel
theorem dL_1991 : decode code 1991 = .ok (.pop, 1) := by decide +kernel
theorem dL_1992 : decode code 1992 = .ok (.goto 360, 3) := by decide +kernel
theorem dL_1995 : decode code 1995 = .ok (.aload_n 1, 1) := by decide +kernel
theorem dL_1996 : decode code 1996 = .ok (.aload_n 0, 1) := by decide +kernel
theorem dL_1997 : decode code 1997 = .ok (.iload_n 3, 1) := by decide +kernel
theorem dL_1998 : decode code 1998 = .ok (.iconst 1, 1) := by decide +kernel
theorem dL_1999 : decode code 1999 = .ok (.iadd, 1) := by decide +kernel
theorem dL_2000 : decode code 2000 = .ok (.iaload, 1) := by decide +kernel
theorem dL_2001 : decode code 2001 = .ok (.aload_n 0, 1) := by decide +kernel
theorem dL_2002 : decode code 2002 = .ok (.iload_n 3, 1) := by decide +kernel
theorem dL_2003 : decode code 2003 = .ok (.iconst 2, 1) := by decide +kernel
theorem dL_2004 : decode code 2004 = .ok (.iadd, 1) := by decide +kernel
theorem dL_2005 : decode code 2005 = .ok (.iaload, 1) := by decide +kernel
theorem dL_2006 : decode code 2006 = .ok (.invokevirtual 272, 3) := by decide +kernel
theorem dL_2009 : decode code 2009 = .ok (.pop, 1) := by decide +kernel
theorem dL_2010 : decode code 2010 = .ok (.aload_n 2, 1) := by decide +kernel
theorem dL_2011 : decode code 2011 = .ok (.aload_n 0, 1) := by decide +kernel
theorem dL_2012 : decode code 2012 = .ok (.iload_n 3, 1) := by decide +kernel
theorem dL_2013 : decode code 2013 = .ok (.iconst 1, 1) := by decide +kernel
theorem dL_2014 : decode code 2014 = .ok (.iadd, 1) := by decide +kernel
theorem dL_2015 : decode code 2015 = .ok (.iaload, 1) := by decide +kernel
theorem dL_2016 : decode code 2016 = .ok (.aload_n 0, 1) := by decide +kernel
theorem dL_2017 : decode code 2017 = .ok (.iload_n 3, 1) := by decide +kernel
theorem dL_2018 : decode code 2018 = .ok (.iconst 2, 1) := by decide +kernel
theorem dL_2019 : decode code 2019 = .ok (.iadd, 1) := by decide +kernel
theorem dL_2020 : decode code 2020 = .ok (.iaload, 1) := by decide +kernel
theorem dL_2021 : decode code 2021 = .ok (.invokevirtual 275, 3) := by decide +kernel
theorem dL_2024 : decode code 2024 = .ok (.pop, 1) := by decide +kernel
theorem dL_2025 : decode code 2025 = .ok (.goto 327, 3) := by decide +kernel
theorem dL_2028 : decode code 2028 = .ok (.aload_n 1, 1) := by decide +kernel
theorem dL_2029 : decode code 2029 = .ok (.aload_n 0, 1) := by decide +kernel
theorem dL_2030 : decode code 2030 = .ok (.iload_n 3, 1) := by decide +kernel
theorem dL_2031 : decode code 2031 = .ok (.iconst 1, 1) := by decide +kernel
theorem dL_2032 : decode code 2032 = .ok (.iadd, 1) := by decide +kernel
theorem dL_2033 : decode code 2033 = .ok (.iaload, 1) := by decide +kernel
theorem dL_2034 : decode code 2034 = .ok (.aload_n 0, 1) := by decide +kernel
theorem dL_2035 : decode code 2035 = .ok (.iload_n 3, 1) := by decide +kernel
theorem dL_2036 : decode code 2036 = .ok (.iconst 2, 1) := by decide +kernel
theorem dL_2037 : decode code 2037 = .ok (.iadd, 1) := by decide +kernel
theorem dL_2038 : decode code 2038 = .ok (.iaload, 1) := by decide +kernel
theorem dL_2039 : decode code 2039 = .ok (.aload_n 0, 1) := by decide +kernel
theorem dL_2040 : decode code 2040 = .ok (.iload_n 3, 1) := by decide +kernel
theorem dL_2041 : decode code 2041 = .ok (.iconst 3, 1) := by decide +kernel
theorem dL_2042 : decode code 2042 = .ok (.iadd, 1) := by decide +kernel
theorem dL_2043 : decode code 2043 = .ok (.iaload, 1) := by decide +kernel
theorem dL_2044 : decode code 2044 = .ok (.invokevirtual 276, 3) := by decide +kernel
theorem dL_2047 : decode code 2047 = .ok (.pop, 1) := by decide +kernel
theorem dL_2048 : decode code 2048 = .ok (.aload_n 2, 1) := by decide +kernel
theorem dL_2049 : decode code 2049 = .ok (.aload_n 0, 1) := by decide +kernel
theorem dL_2050 : decode code 2050 = .ok (.iload_n 3, 1) := by decide +kernel
theorem dL_2051 : decode code 2051 = .ok (.iconst 1, 1) := by decide +kernel
theorem dL_2052 : decode code 2052 = .ok (.iadd, 1) := by decide +kernel
theorem dL_2053 : decode code 2053 = .ok (.iaload, 1) := by decide +kernel
theorem dL_2054 : decode code 2054 = .ok (.aload_n 0, 1) := by decide +kernel
theorem dL_2055 : decode code 2055 = .ok (.iload_n 3, 1) := by decide +kernel
theorem dL_2056 : decode code 2056 = .ok (.iconst 2, 1) := by decide +kernel
theorem dL_2057 : decode code 2057 = .ok (.iadd, 1) := by decide +kernel
theorem dL_2058 : decode code 2058 = .ok (.iaload, 1) := by decide +kernel
theorem dL_2059 : decode code 2059 = .ok (.aload_n 0, 1) := by decide +kernel
theorem dL_2060 : decode code 2060 = .ok (.iload_n 3, 1) := by decide +kernel
theorem dL_2061 : decode code 2061 = .ok (.iconst 3, 1) := by decide +kernel
theorem dL_2062 : decode code 2062 = .ok (.iadd, 1) := by decide +kernel
theorem dL_2063 : decode code 2063 = .ok (.iaload, 1) := by decide +kernel
theorem dL_2064 : decode code 2064 = .ok (.invokevirtual 279, 3) := by decide +kernel
theorem dL_2067 : decode code 2067 = .ok (.pop, 1) := by decide +kernel
theorem dL_2068 : decode code 2068 = .ok (.goto 284, 3) := by decide +kernel
theorem dL_2071 : decode code 2071 = .ok (.aload_n 1, 1) := by decide +kernel
theorem dL_2072 : decode code 2072 = .ok (.aload_n 0, 1) := by decide +kernel
theorem dL_2073 : decode code 2073 = .ok (.iload_n 3, 1) := by decide +kernel
theorem dL_2074 : decode code 2074 = .ok (.iconst 1, 1) := by decide +kernel
theorem dL_2075 : decode code 2075 = .ok (.iadd, 1) := by decide +kernel
theorem dL_2076 : decode code 2076 = .ok (.iaload, 1) := by decide +kernel
theorem dL_2077 : decode code 2077 = .ok (.aload_n 0, 1) := by decide +kernel
theorem dL_2078 : decode code 2078 = .ok (.iload_n 3, 1) := by decide +kernel
theorem dL_2079 : decode code 2079 = .ok (.iconst 2, 1) := by decide +kernel
theorem dL_2080 : decode code 2080 = .ok (.iadd, 1) := by decide +kernel
theorem dL_2081 : decode code 2081 = .ok (.iaload, 1) := by decide +kernel
theorem dL_2082 : decode code 2082 = .ok (.invokevirtual 280, 3) := by decide +kernel
theorem dL_2085 : decode code 2085 = .ok (.pop, 1) := by decide +kernel
theorem dL_2086 : decode code 2086 = .ok (.aload_n 2, 1) := by decide +kernel
theorem dL_2087 : decode code 2087 = .ok (.aload_n 0, 1) := by decide +kernel
theorem dL_2088 : decode code 2088 = .ok (.iload_n 3, 1) := by decide +kernel
theorem dL_2089 : decode code 2089 = .ok (.iconst 1, 1) := by decide +kernel
theorem dL_2090 : decode code 2090 = .ok (.iadd, 1) := by decide +kernel
theorem dL_2091 : decode code 2091 = .ok (.iaload, 1) := by decide +kernel
theorem dL_2092 : decode code 2092 = .ok (.aload_n 0, 1) := by decide +kernel
theorem dL_2093 : decode code 2093 = .ok (.iload_n 3, 1) := by decide +kernel
theorem dL_2094 : decode code 2094 = .ok (.iconst 2, 1) := by decide +kernel
theorem dL_2095 : decode code 2095 = .ok (.iadd, 1) := by decide +kernel
theorem dL_2096 : decode code 2096 = .ok (.iaload, 1) := by decide +kernel
theorem dL_2097 : decode code 2097 = .ok (.invokevirtual 283, 3) := by decide +kernel
theorem dL_2100 : decode code 2100 = .ok (.pop, 1) := by decide +kernel
theorem dL_2101 : decode code 2101 = .ok (.goto 251, 3) := by decide +kernel
theorem dL_2104 : decode code 2104 = .ok (.aload_n 1, 1) := by decide +kernel
theorem dL_2105 : decode code 2105 = .ok (.aload_n 0, 1) := by decide +kernel
theorem dL_2106 : decode code 2106 = .ok (.iload_n 3, 1) := by decide +kernel
theorem dL_2107 : decode code 2107 = .ok (.iconst 1, 1) := by decide +kernel
theorem dL_2108 : decode code 2108 = .ok (.iadd, 1) := by decide +kernel
theorem dL_2109 : decode code 2109 = .ok (.iaload, 1) := by decide +kernel
theorem dL_2110 : decode code 2110 = .ok (.invokevirtual 284, 3) := by decide +kernel
theorem dL_2113 : decode code 2113 = .ok (.pop, 1) := by decide +kernel
theorem dL_2114 : decode code 2114 = .ok (.aload_n 2, 1) := by decide +kernel
theorem dL_2115 : decode code 2115 = .ok (.aload_n 0, 1) := by decide +kernel
theorem dL_2116 : decode code 2116 = .ok (.iload_n 3, 1) := by decide +kernel
theorem dL_2117 : decode code 2117 = .ok (.iconst 1, 1) := by decide +kernel
theorem dL_2118 : decode code 2118 = .ok (.iadd, 1) := by decide +kernel
theorem dL_2119 : decode code 2119 = .ok (.iaload, 1) := by decide +kernel
theorem dL_2120 : decode code 2120 = .ok (.invokevirtual 287, 3) := by decide +kernel
theorem dL_2123 : decode code 2123 = .ok (.pop, 1) := by decide +kernel
theorem dL_2124 : decode code 2124 = .ok (.goto 228, 3) := by decide +kernel
theorem dL_2127 : decode code 2127 = .ok (.aload_n 1, 1) := by decide +kernel
theorem dL_2128 : decode code 2128 = .ok (.aload_n 0, 1) := by decide +kernel
theorem dL_2129 : decode code 2129 = .ok (.iload_n 3, 1) := by decide +kernel
theorem dL_2130 : decode code 2130 = .ok (.iconst 1, 1) := by decide +kernel
theorem dL_2131 : decode code 2131 = .ok (.iadd, 1) := by decide +kernel
theorem dL_2132 : decode code 2132 = .ok (.iaload, 1) := by decide +kernel
theorem dL_2133 : decode code 2133 = .ok (.invokevirtual 288, 3) := by decide +kernel
theorem dL_2136 : decode code 2136 = .ok (.pop, 1) := by decide +kernel
theorem dL_2137 : decode code 2137 = .ok (.aload_n 2, 1) := by decide +kernel
theorem dL_2138 : decode code 2138 = .ok (.aload_n 0, 1) := by decide +kernel
theorem dL_2139 : decode code 2139 = .ok (.iload_n 3, 1) := by decide +kernel
theorem dL_2140 : decode code 2140 = .ok (.iconst 1, 1) := by decide +kernel
theorem dL_2141 : decode code 2141 = .ok (.iadd, 1) := by decide +kernel
theorem dL_2142 : decode code 2142 = .ok (.iaload, 1) := by decide +kernel
theorem dL_2143 : decode code 2143 = .ok (.invokevirtual 291, 3) := by decide +kernel
theorem dL_2146 : decode code 2146 = .ok (.pop, 1) := by decide +kernel
theorem dL_2147 : decode code 2147 = .ok (.goto 205, 3) := by decide +kernel
theorem dL_2150 : decode code 2150 = .ok (.aload_n 1, 1) := by decide +kernel
theorem dL_2151 : decode code 2151 = .ok (.aload_n 0, 1) := by decide +kernel
theorem dL_2152 : decode code 2152 = .ok (.iload_n 3, 1) := by decide +kernel
theorem dL_2153 : decode code 2153 = .ok (.iconst 1, 1) := by decide +kernel
theorem dL_2154 : decode code 2154 = .ok (.iadd, 1) := by decide +kernel
theorem dL_2155 : decode code 2155 = .ok (.iaload, 1) := by decide +kernel
theorem dL_2156 : decode code 2156 = .ok (.invokevirtual 292, 3) := by decide +kernel
theorem dL_2159 : decode code 2159 = .ok (.pop, 1) := by decide +kernel
theorem dL_2160 : decode code 2160 = .ok (.aload_n 2, 1) := by decide +kernel
theorem dL_2161 : decode code 2161 = .ok (.aload_n 0, 1) := by decide +kernel
theorem dL_2162 : decode code 2162 = .ok (.iload_n 3, 1) := by decide +kernel
theorem dL_2163 : decode code 2163 = .ok (.iconst 1, 1) := by decide +kernel
theorem dL_2164 : decode code 2164 = .ok (.iadd, 1) := by decide +kernel
theorem dL_2165 : decode code 2165 = .ok (.iaload, 1) := by decide +kernel
theorem dL_2166 : decode code 2166 = .ok (.invokevirtual 295, 3) := by decide +kernel
theorem dL_2169 : decode code 2169 = .ok (.pop, 1) := by decide +kernel
theorem dL_2170 : decode code 2170 = .ok (.goto 182, 3) := by decide +kernel
theorem dL_2173 : decode code 2173 = .ok (.aload_n 1, 1) := by decide +kernel
theorem dL_2174 : decode code 2174 = .ok (.aload_n 0, 1) := by decide +kernel
theorem dL_2175 : decode code 2175 = .ok (.iload_n 3, 1) := by decide +kernel
theorem dL_2176 : decode code 2176 = .ok (.iconst 1, 1) := by decide +kernel
theorem dL_2177 : decode code 2177 = .ok (.iadd, 1) := by decide +kernel
theorem dL_2178 : decode code 2178 = .ok (.iaload, 1) := by decide +kernel
theorem dL_2179 : decode code 2179 = .ok (.aload_n 0, 1) := by decide +kernel
theorem dL_2180 : decode code 2180 = .ok (.iload_n 3, 1) := by decide +kernel
theorem dL_2181 : decode code 2181 = .ok (.iconst 2, 1) := by decide +kernel
theorem dL_2182 : decode code 2182 = .ok (.iadd, 1) := by decide +kernel
theorem dL_2183 : decode code 2183 = .ok (.iaload, 1) := by decide +kernel
theorem dL_2184 : decode code 2184 = .ok (.aload_n 0, 1) := by decide +kernel
theorem dL_2185 : decode code 2185 = .ok (.iload_n 3, 1) := by decide +kernel
theorem dL_2186 : decode code 2186 = .ok (.iconst 3, 1) := by decide +kernel
theorem dL_2187 : decode code 2187 = .ok (.iadd, 1) := by decide +kernel
theorem dL_2188 : decode code 2188 = .ok (.iaload, 1) := by decide +kernel
theorem dL_2189 : decode code 2189 = .ok (.invokevirtual 296, 3) := by decide +kernel
theorem dL_2192 : decode code 2192 = .ok (.pop, 1) := by decide +kernel
theorem dL_2193 : decode code 2193 = .ok (.aload_n 2, 1) := by decide +kernel
theorem dL_2194 : decode code 2194 = .ok (.aload_n 0, 1) := by decide +kernel
theorem dL_2195 : decode code 2195 = .ok (.iload_n 3, 1) := by decide +kernel
theorem dL_2196 : decode code 2196 = .ok (.iconst 1, 1) := by decide +kernel
theorem dL_2197 : decode code 2197 = .ok (.iadd, 1) := by decide +kernel
theorem dL_2198 : decode code 2198 = .ok (.iaload, 1) := by decide +kernel
theorem dL_2199 : decode code 2199 = .ok (.aload_n 0, 1) := by decide +kernel
theorem dL_2200 : decode code 2200 = .ok (.iload_n 3, 1) := by decide +kernel
theorem dL_2201 : decode code 2201 = .ok (.iconst 2, 1) := by decide +kernel
theorem dL_2202 : decode code 2202 = .ok (.iadd, 1) := by decide +kernel
theorem dL_2203 : decode code 2203 = .ok (.iaload, 1) := by decide +kernel
theorem dL_2204 : decode code 2204 = .ok (.aload_n 0, 1) := by decide +kernel
theorem dL_2205 : decode code 2205 = .ok (.iload_n 3, 1) := by decide +kernel
theorem dL_2206 : decode code 2206 = .ok (.iconst 3, 1) := by decide +kernel
theorem dL_2207 : decode code 2207 = .ok (.iadd, 1) := by decide +kernel
theorem dL_2208 : decode code 2208 = .ok (.iaload, 1) := by decide +kernel
theorem dL_2209 : decode code 2209 = .ok (.invokevirtual 299, 3) := by decide +kernel
theorem dL_2212 : decode code 2212 = .ok (.pop, 1) := by decide +kernel
theorem dL_2213 : decode code 2213 = .ok (.goto 139, 3) := by decide +kernel
theorem dL_2216 : decode code 2216 = .ok (.aload_n 1, 1) := by decide +kernel
theorem dL_2217 : decode code 2217 = .ok (.aload_n 0, 1) := by decide +kernel
theorem dL_2218 : decode code 2218 = .ok (.iload_n 3, 1) := by decide +kernel
theorem dL_2219 : decode code 2219 = .ok (.iconst 1, 1) := by decide +kernel
theorem dL_2220 : decode code 2220 = .ok (.iadd, 1) := by decide +kernel
theorem dL_2221 : decode code 2221 = .ok (.iaload, 1) := by decide +kernel
theorem dL_2222 : decode code 2222 = .ok (.aload_n 0, 1) := by decide +kernel
theorem dL_2223 : decode code 2223 = .ok (.iload_n 3, 1) := by decide +kernel
theorem dL_2224 : decode code 2224 = .ok (.iconst 2, 1) := by decide +kernel
theorem dL_2225 : decode code 2225 = .ok (.iadd, 1) := by decide +kernel
theorem dL_2226 : decode code 2226 = .ok (.iaload, 1) := by decide +kernel
theorem dL_2227 : decode code 2227 = .ok (.aload_n 0, 1) := by decide +kernel
theorem dL_2228 : decode code 2228 = .ok (.iload_n 3, 1) := by decide +kernel
theorem dL_2229 : decode code 2229 = .ok (.iconst 3, 1) := by decide +kernel
theorem dL_2230 : decode code 2230 = .ok (.iadd, 1) := by decide +kernel
theorem dL_2231 : decode code 2231 = .ok (.iaload, 1) := by decide +kernel
theorem dL_2232 : decode code 2232 = .ok (.i2l, 1) := by decide +kernel
theorem dL_2233 : decode code 2233 = .ok (.bipush 32, 2) := by decide +kernel
theorem dL_2235 : decode code 2235 = .ok (.lshl, 1) := by decide +kernel
theorem dL_2236 : decode code 2236 = .ok (.aload_n 0, 1) := by decide +kernel
theorem dL_2237 : decode code 2237 = .ok (.iload_n 3, 1) := by decide +kernel
theorem dL_2238 : decode code 2238 = .ok (.iconst 4, 1) := by decide +kernel
theorem dL_2239 : decode code 2239 = .ok (.iadd, 1) := by decide +kernel
theorem dL_2240 : decode code 2240 = .ok (.iaload, 1) := by decide +kernel
theorem dL_2241 : decode code 2241 = .ok (.i2l, 1) := by decide +kernel
theorem dL_2242 : decode code 2242 = .ok (.ldc2_w 300, 3) := by decide +kernel
theorem dL_2245 : decode code 2245 = .ok (.land, 1) := by decide +kernel
theorem dL_2246 : decode code 2246 = .ok (.lor, 1) := by decide +kernel
theorem dL_2247 : decode code 2247 = .ok (.invokevirtual 302, 3) := by decide +kernel
theorem dL_2250 : decode code 2250 = .ok (.aload_n 2, 1) := by decide +kernel
theorem dL_2251 : decode code 2251 = .ok (.aload_n 0, 1) := by decide +kernel
theorem dL_2252 : decode code 2252 = .ok (.iload_n 3, 1) := by decide +kernel
theorem dL_2253 : decode code 2253 = .ok (.iconst 1, 1) := by decide +kernel
theorem dL_2254 : decode code 2254 = .ok (.iadd, 1) := by decide +kernel
theorem dL_2255 : decode code 2255 = .ok (.iaload, 1) := by decide +kernel
theorem dL_2256 : decode code 2256 = .ok (.aload_n 0, 1) := by decide +kernel
theorem dL_2257 : decode code 2257 = .ok (.iload_n 3, 1) := by decide +kernel
theorem dL_2258 : decode code 2258 = .ok (.iconst 2, 1) := by decide +kernel
theorem dL_2259 : decode code 2259 = .ok (.iadd, 1) := by decide +kernel
theorem dL_2260 : decode code 2260 = .ok (.iaload, 1) := by decide +kernel
theorem dL_2261 : decode code 2261 = .ok (.aload_n 0, 1) := by decide +kernel
theorem dL_2262 : decode code 2262 = .ok (.iload_n 3, 1) := by decide +kernel
theorem dL_2263 : decode code 2263 = .ok (.iconst 3, 1) := by decide +kernel
theorem dL_2264 : decode code 2264 = .ok (.iadd, 1) := by decide +kernel
theorem dL_2265 : decode code 2265 = .ok (.iaload, 1) := by decide +kernel
theorem dL_2266 : decode code 2266 = .ok (.i2l, 1) := by decide +kernel
theorem dL_2267 : decode code 2267 = .ok (.bipush 32, 2) := by decide +kernel
theorem dL_2269 : decode code 2269 = .ok (.lshl, 1) := by decide +kernel
theorem dL_2270 : decode code 2270 = .ok (.aload_n 0, 1) := by decide +kernel
theorem dL_2271 : decode code 2271 = .ok (.iload_n 3, 1) := by decide +kernel
theorem dL_2272 : decode code 2272 = .ok (.iconst 4, 1) := by decide +kernel
theorem dL_2273 : decode code 2273 = .ok (.iadd, 1) := by decide +kernel
theorem dL_2274 : decode code 2274 = .ok (.iaload, 1) := by decide +kernel
theorem dL_2275 : decode code 2275 = .ok (.i2l, 1) := by decide +kernel
theorem dL_2276 : decode code 2276 = .ok (.ldc2_w 300, 3) := by decide +kernel
theorem dL_2279 : decode code 2279 = .ok (.land, 1) := by decide +kernel
theorem dL_2280 : decode code 2280 = .ok (.lor, 1) := by decide +kernel
theorem dL_2281 : decode code 2281 = .ok (.invokevirtual 306, 3) := by decide +kernel
theorem dL_2284 : decode code 2284 = .ok (.if_icmp .eq 68, 3) := by decide +kernel
theorem dL_2287 : decode code 2287 = .ok (.iconst 0, 1) := by decide +kernel
theorem dL_2288 : decode code 2288 = .ok (.ireturn, 1) := by decide +kernel
theorem dL_2289 : decode code 2289 = .ok (.aload_n 1, 1) := by decide +kernel
theorem dL_2290 : decode code 2290 = .ok (.aload_n 0, 1) := by decide +kernel
theorem dL_2291 : decode code 2291 = .ok (.iload_n 3, 1) := by decide +kernel
theorem dL_2292 : decode code 2292 = .ok (.iconst 1, 1) := by decide +kernel
theorem dL_2293 : decode code 2293 = .ok (.iadd, 1) := by decide +kernel
theorem dL_2294 : decode code 2294 = .ok (.iaload, 1) := by decide +kernel
theorem dL_2295 : decode code 2295 = .ok (.aload_n 0, 1) := by decide +kernel
theorem dL_2296 : decode code 2296 = .ok (.iload_n 3, 1) := by decide +kernel
theorem dL_2297 : decode code 2297 = .ok (.iconst 2, 1) := by decide +kernel
theorem dL_2298 : decode code 2298 = .ok (.iadd, 1) := by decide +kernel
theorem dL_2299 : decode code 2299 = .ok (.iaload, 1) := by decide +kernel
theorem dL_2300 : decode code 2300 = .ok (.aload_n 0, 1) := by decide +kernel
theorem dL_2301 : decode code 2301 = .ok (.iload_n 3, 1) := by decide +kernel
theorem dL_2302 : decode code 2302 = .ok (.iconst 3, 1) := by decide +kernel
theorem dL_2303 : decode code 2303 = .ok (.iadd, 1) := by decide +kernel
theorem dL_2304 : decode code 2304 = .ok (.iaload, 1) := by decide +kernel
theorem dL_2305 : decode code 2305 = .ok (.aload_n 0, 1) := by decide +kernel
theorem dL_2306 : decode code 2306 = .ok (.iload_n 3, 1) := by decide +kernel
theorem dL_2307 : decode code 2307 = .ok (.iconst 4, 1) := by decide +kernel
theorem dL_2308 : decode code 2308 = .ok (.iadd, 1) := by decide +kernel
theorem dL_2309 : decode code 2309 = .ok (.iaload, 1) := by decide +kernel
theorem dL_2310 : decode code 2310 = .ok (.aload_n 0, 1) := by decide +kernel
theorem dL_2311 : decode code 2311 = .ok (.iload_n 3, 1) := by decide +kernel
theorem dL_2312 : decode code 2312 = .ok (.iconst 5, 1) := by decide +kernel
theorem dL_2313 : decode code 2313 = .ok (.iadd, 1) := by decide +kernel
theorem dL_2314 : decode code 2314 = .ok (.iaload, 1) := by decide +kernel
theorem dL_2315 : decode code 2315 = .ok (.invokevirtual 307, 3) := by decide +kernel
theorem dL_2318 : decode code 2318 = .ok (.pop, 1) := by decide +kernel
theorem dL_2319 : decode code 2319 = .ok (.aload_n 2, 1) := by decide +kernel
theorem dL_2320 : decode code 2320 = .ok (.aload_n 0, 1) := by decide +kernel
theorem dL_2321 : decode code 2321 = .ok (.iload_n 3, 1) := by decide +kernel
theorem dL_2322 : decode code 2322 = .ok (.iconst 1, 1) := by decide +kernel
theorem dL_2323 : decode code 2323 = .ok (.iadd, 1) := by decide +kernel
theorem dL_2324 : decode code 2324 = .ok (.iaload, 1) := by decide +kernel
theorem dL_2325 : decode code 2325 = .ok (.aload_n 0, 1) := by decide +kernel
theorem dL_2326 : decode code 2326 = .ok (.iload_n 3, 1) := by decide +kernel
theorem dL_2327 : decode code 2327 = .ok (.iconst 2, 1) := by decide +kernel
theorem dL_2328 : decode code 2328 = .ok (.iadd, 1) := by decide +kernel
theorem dL_2329 : decode code 2329 = .ok (.iaload, 1) := by decide +kernel
theorem dL_2330 : decode code 2330 = .ok (.aload_n 0, 1) := by decide +kernel
theorem dL_2331 : decode code 2331 = .ok (.iload_n 3, 1) := by decide +kernel
theorem dL_2332 : decode code 2332 = .ok (.iconst 3, 1) := by decide +kernel
theorem dL_2333 : decode code 2333 = .ok (.iadd, 1) := by decide +kernel
theorem dL_2334 : decode code 2334 = .ok (.iaload, 1) := by decide +kernel
theorem dL_2335 : decode code 2335 = .ok (.aload_n 0, 1) := by decide +kernel
theorem dL_2336 : decode code 2336 = .ok (.iload_n 3, 1) := by decide +kernel
theorem dL_2337 : decode code 2337 = .ok (.iconst 4, 1) := by decide +kernel
theorem dL_2338 : decode code 2338 = .ok (.iadd, 1) := by decide +kernel
theorem dL_2339 : decode code 2339 = .ok (.iaload, 1) := by decide +kernel
theorem dL_2340 : decode code 2340 = .ok (.aload_n 0, 1) := by decide +kernel
theorem dL_2341 : decode code 2341 = .ok (.iload_n 3, 1) := by decide +kernel
theorem dL_2342 : decode code 2342 = .ok (.iconst 5, 1) := by decide +kernel
theorem dL_2343 : decode code 2343 = .ok (.iadd, 1) := by decide +kernel
theorem dL_2344 : decode code 2344 = .ok (.iaload, 1) := by decide +kernel
theorem dL_2345 : decode code 2345 = .ok (.invokevirtual 310, 3) := by decide +kernel
theorem dL_2348 : decode code 2348 = .ok (.pop, 1) := by decide +kernel
theorem dL_2349 : decode code 2349 = .ok (.goto 3, 3) := by decide +kernel
theorem dL_2352 : decode code 2352 = .ok (.iinc 3 6, 3) := by decide +kernel
theorem dL_2355 : decode code 2355 = .ok (.goto (-2337), 3) := by decide +kernel
theorem dL_2358 : decode code 2358 = .ok (.iconst 1, 1) := by decide +kernel
theorem dL_2359 : decode code 2359 = .ok (.ireturn, 1) := by decide +kernel
