theorem d_L_law_1903 : decode mL_law.2.1 1903 = .ok (.aload_n 0, 1) := by decide +kernel
theorem d_L_law_1904 : decode mL_law.2.1 1904 = .ok (.iload 5, 2) := by decide +kernel
theorem d_L_law_1906 : decode mL_law.2.1 1906 = .ok (.iconst 2, 1) := by decide +kernel
theorem d_L_law_1907 : decode mL_law.2.1 1907 = .ok (.iadd, 1) := by decide +kernel
theorem d_L_law_1908 : decode mL_law.2.1 1908 = .ok (.iaload, 1) := by decide +kernel
theorem d_L_law_1909 : decode mL_law.2.1 1909 = .ok (.aload_n 3, 1) := by decide +kernel
theorem d_L_law_1910 : decode mL_law.2.1 1910 = .ok (.invokestatic 214, 3) := by decide +kernel
theorem d_L_law_1913 : decode mL_law.2.1 1913 = .ok (.istore 6, 2) := by decide +kernel
theorem d_L_law_1915 : decode mL_law.2.1 1915 = .ok (.aload_n 2, 1) := by decide +kernel
theorem d_L_law_1916 : decode mL_law.2.1 1916 = .ok (.aload_n 0, 1) := by decide +kernel
theorem d_L_law_1917 : decode mL_law.2.1 1917 = .ok (.iload 5, 2) := by decide +kernel
theorem d_L_law_1919 : decode mL_law.2.1 1919 = .ok (.iconst 1, 1) := by decide +kernel
theorem d_L_law_1920 : decode mL_law.2.1 1920 = .ok (.iadd, 1) := by decide +kernel
theorem d_L_law_1921 : decode mL_law.2.1 1921 = .ok (.iaload, 1) := by decide +kernel
theorem d_L_law_1922 : decode mL_law.2.1 1922 = .ok (.aload_n 0, 1) := by decide +kernel
theorem d_L_law_1923 : decode mL_law.2.1 1923 = .ok (.iload 5, 2) := by decide +kernel
theorem d_L_law_1925 : decode mL_law.2.1 1925 = .ok (.iconst 2, 1) := by decide +kernel
theorem d_L_law_1926 : decode mL_law.2.1 1926 = .ok (.iadd, 1) := by decide +kernel
theorem d_L_law_1927 : decode mL_law.2.1 1927 = .ok (.iaload, 1) := by decide +kernel
theorem d_L_law_1928 : decode mL_law.2.1 1928 = .ok (.invokevirtual 216, 3) := by decide +kernel
theorem d_L_law_1931 : decode mL_law.2.1 1931 = .ok (.istore 7, 2) := by decide +kernel
theorem d_L_law_1933 : decode mL_law.2.1 1933 = .ok (.aload_n 2, 1) := by decide +kernel
theorem d_L_law_1934 : decode mL_law.2.1 1934 = .ok (.invokevirtual 140, 3) := by decide +kernel
theorem d_L_law_1937 : decode mL_law.2.1 1937 = .ok (.iload 6, 2) := by decide +kernel
theorem d_L_law_1939 : decode mL_law.2.1 1939 = .ok (.if_icmp .eq 5, 3) := by decide +kernel
theorem d_L_law_1942 : decode mL_law.2.1 1942 = .ok (.iconst 0, 1) := by decide +kernel
theorem d_L_law_1943 : decode mL_law.2.1 1943 = .ok (.ireturn, 1) := by decide +kernel
theorem d_L_law_1944 : decode mL_law.2.1 1944 = .ok (.iload 6, 2) := by decide +kernel
theorem d_L_law_1946 : decode mL_law.2.1 1946 = .ok (.ifCond .ne 15, 3) := by decide +kernel
theorem d_L_law_1949 : decode mL_law.2.1 1949 = .ok (.aload_n 3, 1) := by decide +kernel
theorem d_L_law_1950 : decode mL_law.2.1 1950 = .ok (.iconst 0, 1) := by decide +kernel
theorem d_L_law_1951 : decode mL_law.2.1 1951 = .ok (.laload, 1) := by decide +kernel
theorem d_L_law_1952 : decode mL_law.2.1 1952 = .ok (.iload 7, 2) := by decide +kernel
theorem d_L_law_1954 : decode mL_law.2.1 1954 = .ok (.i2l, 1) := by decide +kernel
theorem d_L_law_1955 : decode mL_law.2.1 1955 = .ok (.lcmp, 1) := by decide +kernel
theorem d_L_law_1956 : decode mL_law.2.1 1956 = .ok (.ifCond .eq 5, 3) := by decide +kernel
theorem d_L_law_1959 : decode mL_law.2.1 1959 = .ok (.iconst 0, 1) := by decide +kernel
theorem d_L_law_1960 : decode mL_law.2.1 1960 = .ok (.ireturn, 1) := by decide +kernel
theorem d_L_law_1961 : decode mL_law.2.1 1961 = .ok (.goto 573, 3) := by decide +kernel
theorem d_L_law_1964 : decode mL_law.2.1 1964 = .ok (.aload_n 1, 1) := by decide +kernel
theorem d_L_law_1965 : decode mL_law.2.1 1965 = .ok (.aload_n 0, 1) := by decide +kernel
theorem d_L_law_1966 : decode mL_law.2.1 1966 = .ok (.iload 5, 2) := by decide +kernel
theorem d_L_law_1968 : decode mL_law.2.1 1968 = .ok (.iconst 1, 1) := by decide +kernel
theorem d_L_law_1969 : decode mL_law.2.1 1969 = .ok (.iadd, 1) := by decide +kernel
theorem d_L_law_1970 : decode mL_law.2.1 1970 = .ok (.iaload, 1) := by decide +kernel
theorem d_L_law_1971 : decode mL_law.2.1 1971 = .ok (.aload_n 0, 1) := by decide +kernel
theorem d_L_law_1972 : decode mL_law.2.1 1972 = .ok (.iload 5, 2) := by decide +kernel
theorem d_L_law_1974 : decode mL_law.2.1 1974 = .ok (.iconst 2, 1) := by decide +kernel
theorem d_L_law_1975 : decode mL_law.2.1 1975 = .ok (.iadd, 1) := by decide +kernel
theorem d_L_law_1976 : decode mL_law.2.1 1976 = .ok (.iaload, 1) := by decide +kernel
theorem d_L_law_1977 : decode mL_law.2.1 1977 = .ok (.ifCond .eq 7, 3) := by decide +kernel
theorem d_L_law_1980 : decode mL_law.2.1 1980 = .ok (.iconst 1, 1) := by decide +kernel
theorem d_L_law_1981 : decode mL_law.2.1 1981 = .ok (.goto 4, 3) := by decide +kernel
theorem d_L_law_1984 : decode mL_law.2.1 1984 = .ok (.iconst 0, 1) := by decide +kernel
theorem d_L_law_1985 : decode mL_law.2.1 1985 = .ok (.aload_n 3, 1) := by decide +kernel
theorem d_L_law_1986 : decode mL_law.2.1 1986 = .ok (.invokestatic 217, 3) := by decide +kernel
theorem d_L_law_1989 : decode mL_law.2.1 1989 = .ok (.istore 6, 2) := by decide +kernel
theorem d_L_law_1991 : decode mL_law.2.1 1991 = .ok (.aload_n 2, 1) := by decide +kernel
theorem d_L_law_1992 : decode mL_law.2.1 1992 = .ok (.aload_n 0, 1) := by decide +kernel
theorem d_L_law_1993 : decode mL_law.2.1 1993 = .ok (.iload 5, 2) := by decide +kernel
theorem d_L_law_1995 : decode mL_law.2.1 1995 = .ok (.iconst 1, 1) := by decide +kernel
theorem d_L_law_1996 : decode mL_law.2.1 1996 = .ok (.iadd, 1) := by decide +kernel
theorem d_L_law_1997 : decode mL_law.2.1 1997 = .ok (.iaload, 1) := by decide +kernel
theorem d_L_law_1998 : decode mL_law.2.1 1998 = .ok (.aload_n 0, 1) := by decide +kernel
theorem d_L_law_1999 : decode mL_law.2.1 1999 = .ok (.iload 5, 2) := by decide +kernel
theorem d_L_law_2001 : decode mL_law.2.1 2001 = .ok (.iconst 2, 1) := by decide +kernel
theorem d_L_law_2002 : decode mL_law.2.1 2002 = .ok (.iadd, 1) := by decide +kernel
theorem d_L_law_2003 : decode mL_law.2.1 2003 = .ok (.iaload, 1) := by decide +kernel
theorem d_L_law_2004 : decode mL_law.2.1 2004 = .ok (.ifCond .eq 7, 3) := by decide +kernel
theorem d_L_law_2007 : decode mL_law.2.1 2007 = .ok (.iconst 1, 1) := by decide +kernel
theorem d_L_law_2008 : decode mL_law.2.1 2008 = .ok (.goto 4, 3) := by decide +kernel
theorem d_L_law_2011 : decode mL_law.2.1 2011 = .ok (.iconst 0, 1) := by decide +kernel
theorem d_L_law_2012 : decode mL_law.2.1 2012 = .ok (.invokevirtual 219, 3) := by decide +kernel
theorem d_L_law_2015 : decode mL_law.2.1 2015 = .ok (.istore 7, 2) := by decide +kernel
theorem d_L_law_2017 : decode mL_law.2.1 2017 = .ok (.aload_n 2, 1) := by decide +kernel
theorem d_L_law_2018 : decode mL_law.2.1 2018 = .ok (.invokevirtual 140, 3) := by decide +kernel
theorem d_L_law_2021 : decode mL_law.2.1 2021 = .ok (.iload 6, 2) := by decide +kernel
theorem d_L_law_2023 : decode mL_law.2.1 2023 = .ok (.if_icmp .eq 5, 3) := by decide +kernel
theorem d_L_law_2026 : decode mL_law.2.1 2026 = .ok (.iconst 0, 1) := by decide +kernel
theorem d_L_law_2027 : decode mL_law.2.1 2027 = .ok (.ireturn, 1) := by decide +kernel
theorem d_L_law_2028 : decode mL_law.2.1 2028 = .ok (.iload 6, 2) := by decide +kernel
theorem d_L_law_2030 : decode mL_law.2.1 2030 = .ok (.ifCond .ne 15, 3) := by decide +kernel
theorem d_L_law_2033 : decode mL_law.2.1 2033 = .ok (.aload_n 3, 1) := by decide +kernel
theorem d_L_law_2034 : decode mL_law.2.1 2034 = .ok (.iconst 0, 1) := by decide +kernel
theorem d_L_law_2035 : decode mL_law.2.1 2035 = .ok (.laload, 1) := by decide +kernel
theorem d_L_law_2036 : decode mL_law.2.1 2036 = .ok (.iload 7, 2) := by decide +kernel
theorem d_L_law_2038 : decode mL_law.2.1 2038 = .ok (.i2l, 1) := by decide +kernel
theorem d_L_law_2039 : decode mL_law.2.1 2039 = .ok (.lcmp, 1) := by decide +kernel
theorem d_L_law_2040 : decode mL_law.2.1 2040 = .ok (.ifCond .eq 5, 3) := by decide +kernel
theorem d_L_law_2043 : decode mL_law.2.1 2043 = .ok (.iconst 0, 1) := by decide +kernel
theorem d_L_law_2044 : decode mL_law.2.1 2044 = .ok (.ireturn, 1) := by decide +kernel
theorem d_L_law_2045 : decode mL_law.2.1 2045 = .ok (.goto 489, 3) := by decide +kernel
theorem d_L_law_2048 : decode mL_law.2.1 2048 = .ok (.aload_n 1, 1) := by decide +kernel
theorem d_L_law_2049 : decode mL_law.2.1 2049 = .ok (.aload_n 0, 1) := by decide +kernel
theorem d_L_law_2050 : decode mL_law.2.1 2050 = .ok (.iload 5, 2) := by decide +kernel
theorem d_L_law_2052 : decode mL_law.2.1 2052 = .ok (.iconst 1, 1) := by decide +kernel
theorem d_L_law_2053 : decode mL_law.2.1 2053 = .ok (.iadd, 1) := by decide +kernel
theorem d_L_law_2054 : decode mL_law.2.1 2054 = .ok (.iaload, 1) := by decide +kernel
theorem d_L_law_2055 : decode mL_law.2.1 2055 = .ok (.aload_n 0, 1) := by decide +kernel
theorem d_L_law_2056 : decode mL_law.2.1 2056 = .ok (.iload 5, 2) := by decide +kernel
theorem d_L_law_2058 : decode mL_law.2.1 2058 = .ok (.iconst 2, 1) := by decide +kernel
theorem d_L_law_2059 : decode mL_law.2.1 2059 = .ok (.iadd, 1) := by decide +kernel
theorem d_L_law_2060 : decode mL_law.2.1 2060 = .ok (.iaload, 1) := by decide +kernel
theorem d_L_law_2061 : decode mL_law.2.1 2061 = .ok (.ifCond .eq 7, 3) := by decide +kernel
theorem d_L_law_2064 : decode mL_law.2.1 2064 = .ok (.iconst 1, 1) := by decide +kernel
theorem d_L_law_2065 : decode mL_law.2.1 2065 = .ok (.goto 4, 3) := by decide +kernel
theorem d_L_law_2068 : decode mL_law.2.1 2068 = .ok (.iconst 0, 1) := by decide +kernel
theorem d_L_law_2069 : decode mL_law.2.1 2069 = .ok (.aload_n 3, 1) := by decide +kernel
theorem d_L_law_2070 : decode mL_law.2.1 2070 = .ok (.invokestatic 220, 3) := by decide +kernel
theorem d_L_law_2073 : decode mL_law.2.1 2073 = .ok (.istore 6, 2) := by decide +kernel
theorem d_L_law_2075 : decode mL_law.2.1 2075 = .ok (.aload_n 2, 1) := by decide +kernel
theorem d_L_law_2076 : decode mL_law.2.1 2076 = .ok (.aload_n 0, 1) := by decide +kernel
theorem d_L_law_2077 : decode mL_law.2.1 2077 = .ok (.iload 5, 2) := by decide +kernel
theorem d_L_law_2079 : decode mL_law.2.1 2079 = .ok (.iconst 1, 1) := by decide +kernel
theorem d_L_law_2080 : decode mL_law.2.1 2080 = .ok (.iadd, 1) := by decide +kernel
theorem d_L_law_2081 : decode mL_law.2.1 2081 = .ok (.iaload, 1) := by decide +kernel
theorem d_L_law_2082 : decode mL_law.2.1 2082 = .ok (.aload_n 0, 1) := by decide +kernel
theorem d_L_law_2083 : decode mL_law.2.1 2083 = .ok (.iload 5, 2) := by decide +kernel
theorem d_L_law_2085 : decode mL_law.2.1 2085 = .ok (.iconst 2, 1) := by decide +kernel
theorem d_L_law_2086 : decode mL_law.2.1 2086 = .ok (.iadd, 1) := by decide +kernel
theorem d_L_law_2087 : decode mL_law.2.1 2087 = .ok (.iaload, 1) := by decide +kernel
theorem d_L_law_2088 : decode mL_law.2.1 2088 = .ok (.ifCond .eq 7, 3) := by decide +kernel
theorem d_L_law_2091 : decode mL_law.2.1 2091 = .ok (.iconst 1, 1) := by decide +kernel
theorem d_L_law_2092 : decode mL_law.2.1 2092 = .ok (.goto 4, 3) := by decide +kernel
theorem d_L_law_2095 : decode mL_law.2.1 2095 = .ok (.iconst 0, 1) := by decide +kernel
theorem d_L_law_2096 : decode mL_law.2.1 2096 = .ok (.invokevirtual 222, 3) := by decide +kernel
theorem d_L_law_2099 : decode mL_law.2.1 2099 = .ok (.istore 7, 2) := by decide +kernel
theorem d_L_law_2101 : decode mL_law.2.1 2101 = .ok (.aload_n 2, 1) := by decide +kernel
theorem d_L_law_2102 : decode mL_law.2.1 2102 = .ok (.invokevirtual 140, 3) := by decide +kernel
theorem d_L_law_2105 : decode mL_law.2.1 2105 = .ok (.iload 6, 2) := by decide +kernel
theorem d_L_law_2107 : decode mL_law.2.1 2107 = .ok (.if_icmp .eq 5, 3) := by decide +kernel
theorem d_L_law_2110 : decode mL_law.2.1 2110 = .ok (.iconst 0, 1) := by decide +kernel
theorem d_L_law_2111 : decode mL_law.2.1 2111 = .ok (.ireturn, 1) := by decide +kernel
theorem d_L_law_2112 : decode mL_law.2.1 2112 = .ok (.iload 6, 2) := by decide +kernel
theorem d_L_law_2114 : decode mL_law.2.1 2114 = .ok (.ifCond .ne 15, 3) := by decide +kernel
theorem d_L_law_2117 : decode mL_law.2.1 2117 = .ok (.aload_n 3, 1) := by decide +kernel
theorem d_L_law_2118 : decode mL_law.2.1 2118 = .ok (.iconst 0, 1) := by decide +kernel
theorem d_L_law_2119 : decode mL_law.2.1 2119 = .ok (.laload, 1) := by decide +kernel
theorem d_L_law_2120 : decode mL_law.2.1 2120 = .ok (.iload 7, 2) := by decide +kernel
theorem d_L_law_2122 : decode mL_law.2.1 2122 = .ok (.i2l, 1) := by decide +kernel
theorem d_L_law_2123 : decode mL_law.2.1 2123 = .ok (.lcmp, 1) := by decide +kernel
theorem d_L_law_2124 : decode mL_law.2.1 2124 = .ok (.ifCond .eq 5, 3) := by decide +kernel
theorem d_L_law_2127 : decode mL_law.2.1 2127 = .ok (.iconst 0, 1) := by decide +kernel
theorem d_L_law_2128 : decode mL_law.2.1 2128 = .ok (.ireturn, 1) := by decide +kernel
theorem d_L_law_2129 : decode mL_law.2.1 2129 = .ok (.goto 405, 3) := by decide +kernel
theorem d_L_law_2132 : decode mL_law.2.1 2132 = .ok (.aload_n 1, 1) := by decide +kernel
theorem d_L_law_2133 : decode mL_law.2.1 2133 = .ok (.aload_n 0, 1) := by decide +kernel
theorem d_L_law_2134 : decode mL_law.2.1 2134 = .ok (.iload 5, 2) := by decide +kernel
theorem d_L_law_2136 : decode mL_law.2.1 2136 = .ok (.iconst 1, 1) := by decide +kernel
theorem d_L_law_2137 : decode mL_law.2.1 2137 = .ok (.iadd, 1) := by decide +kernel
theorem d_L_law_2138 : decode mL_law.2.1 2138 = .ok (.iaload, 1) := by decide +kernel
theorem d_L_law_2139 : decode mL_law.2.1 2139 = .ok (.aload_n 3, 1) := by decide +kernel
theorem d_L_law_2140 : decode mL_law.2.1 2140 = .ok (.invokestatic 223, 3) := by decide +kernel
theorem d_L_law_2143 : decode mL_law.2.1 2143 = .ok (.istore 6, 2) := by decide +kernel
theorem d_L_law_2145 : decode mL_law.2.1 2145 = .ok (.aload_n 2, 1) := by decide +kernel
theorem d_L_law_2146 : decode mL_law.2.1 2146 = .ok (.aload_n 0, 1) := by decide +kernel
theorem d_L_law_2147 : decode mL_law.2.1 2147 = .ok (.iload 5, 2) := by decide +kernel
theorem d_L_law_2149 : decode mL_law.2.1 2149 = .ok (.iconst 1, 1) := by decide +kernel
theorem d_L_law_2150 : decode mL_law.2.1 2150 = .ok (.iadd, 1) := by decide +kernel
theorem d_L_law_2151 : decode mL_law.2.1 2151 = .ok (.iaload, 1) := by decide +kernel
theorem d_L_law_2152 : decode mL_law.2.1 2152 = .ok (.invokevirtual 225, 3) := by decide +kernel
theorem d_L_law_2155 : decode mL_law.2.1 2155 = .ok (.istore 7, 2) := by decide +kernel
theorem d_L_law_2157 : decode mL_law.2.1 2157 = .ok (.aload_n 2, 1) := by decide +kernel
theorem d_L_law_2158 : decode mL_law.2.1 2158 = .ok (.invokevirtual 140, 3) := by decide +kernel
theorem d_L_law_2161 : decode mL_law.2.1 2161 = .ok (.iload 6, 2) := by decide +kernel
theorem d_L_law_2163 : decode mL_law.2.1 2163 = .ok (.if_icmp .eq 5, 3) := by decide +kernel
theorem d_L_law_2166 : decode mL_law.2.1 2166 = .ok (.iconst 0, 1) := by decide +kernel
theorem d_L_law_2167 : decode mL_law.2.1 2167 = .ok (.ireturn, 1) := by decide +kernel
theorem d_L_law_2168 : decode mL_law.2.1 2168 = .ok (.iload 6, 2) := by decide +kernel
theorem d_L_law_2170 : decode mL_law.2.1 2170 = .ok (.ifCond .ne 15, 3) := by decide +kernel
theorem d_L_law_2173 : decode mL_law.2.1 2173 = .ok (.aload_n 3, 1) := by decide +kernel
theorem d_L_law_2174 : decode mL_law.2.1 2174 = .ok (.iconst 0, 1) := by decide +kernel
theorem d_L_law_2175 : decode mL_law.2.1 2175 = .ok (.laload, 1) := by decide +kernel
theorem d_L_law_2176 : decode mL_law.2.1 2176 = .ok (.iload 7, 2) := by decide +kernel
theorem d_L_law_2178 : decode mL_law.2.1 2178 = .ok (.i2l, 1) := by decide +kernel
theorem d_L_law_2179 : decode mL_law.2.1 2179 = .ok (.lcmp, 1) := by decide +kernel
theorem d_L_law_2180 : decode mL_law.2.1 2180 = .ok (.ifCond .eq 5, 3) := by decide +kernel
theorem d_L_law_2183 : decode mL_law.2.1 2183 = .ok (.iconst 0, 1) := by decide +kernel
theorem d_L_law_2184 : decode mL_law.2.1 2184 = .ok (.ireturn, 1) := by decide +kernel
theorem d_L_law_2185 : decode mL_law.2.1 2185 = .ok (.goto 349, 3) := by decide +kernel
theorem d_L_law_2188 : decode mL_law.2.1 2188 = .ok (.aload_n 1, 1) := by decide +kernel
theorem d_L_law_2189 : decode mL_law.2.1 2189 = .ok (.aload 4, 2) := by decide +kernel
theorem d_L_law_2191 : decode mL_law.2.1 2191 = .ok (.invokestatic 226, 3) := by decide +kernel
theorem d_L_law_2194 : decode mL_law.2.1 2194 = .ok (.istore 6, 2) := by decide +kernel
theorem d_L_law_2196 : decode mL_law.2.1 2196 = .ok (.aload_n 2, 1) := by decide +kernel
theorem d_L_law_2197 : decode mL_law.2.1 2197 = .ok (.invokevirtual 229, 3) := by decide +kernel
theorem d_L_law_2200 : decode mL_law.2.1 2200 = .ok (.dstore 7, 2) := by decide +kernel
theorem d_L_law_2202 : decode mL_law.2.1 2202 = .ok (.aload_n 2, 1) := by decide +kernel
theorem d_L_law_2203 : decode mL_law.2.1 2203 = .ok (.invokevirtual 140, 3) := by decide +kernel
theorem d_L_law_2206 : decode mL_law.2.1 2206 = .ok (.iload 6, 2) := by decide +kernel
theorem d_L_law_2208 : decode mL_law.2.1 2208 = .ok (.if_icmp .eq 5, 3) := by decide +kernel
theorem d_L_law_2211 : decode mL_law.2.1 2211 = .ok (.iconst 0, 1) := by decide +kernel
theorem d_L_law_2212 : decode mL_law.2.1 2212 = .ok (.ireturn, 1) := by decide +kernel
theorem d_L_law_2213 : decode mL_law.2.1 2213 = .ok (.iload 6, 2) := by decide +kernel
theorem d_L_law_2215 : decode mL_law.2.1 2215 = .ok (.ifCond .ne 35, 3) := by decide +kernel
theorem d_L_law_2218 : decode mL_law.2.1 2218 = .ok (.aload 4, 2) := by decide +kernel
theorem d_L_law_2220 : decode mL_law.2.1 2220 = .ok (.iconst 0, 1) := by decide +kernel
theorem d_L_law_2221 : decode mL_law.2.1 2221 = .ok (.daload, 1) := by decide +kernel
theorem d_L_law_2222 : decode mL_law.2.1 2222 = .ok (.dload 7, 2) := by decide +kernel
theorem d_L_law_2224 : decode mL_law.2.1 2224 = .ok (.dcmp .l, 1) := by decide +kernel
theorem d_L_law_2225 : decode mL_law.2.1 2225 = .ok (.ifCond .eq 25, 3) := by decide +kernel
theorem d_L_law_2228 : decode mL_law.2.1 2228 = .ok (.aload 4, 2) := by decide +kernel
theorem d_L_law_2230 : decode mL_law.2.1 2230 = .ok (.iconst 0, 1) := by decide +kernel
theorem d_L_law_2231 : decode mL_law.2.1 2231 = .ok (.daload, 1) := by decide +kernel
theorem d_L_law_2232 : decode mL_law.2.1 2232 = .ok (.aload 4, 2) := by decide +kernel
theorem d_L_law_2234 : decode mL_law.2.1 2234 = .ok (.iconst 0, 1) := by decide +kernel
theorem d_L_law_2235 : decode mL_law.2.1 2235 = .ok (.daload, 1) := by decide +kernel
theorem d_L_law_2236 : decode mL_law.2.1 2236 = .ok (.dcmp .l, 1) := by decide +kernel
theorem d_L_law_2237 : decode mL_law.2.1 2237 = .ok (.ifCond .eq 11, 3) := by decide +kernel
theorem d_L_law_2240 : decode mL_law.2.1 2240 = .ok (.dload 7, 2) := by decide +kernel
theorem d_L_law_2242 : decode mL_law.2.1 2242 = .ok (.dload 7, 2) := by decide +kernel
theorem d_L_law_2244 : decode mL_law.2.1 2244 = .ok (.dcmp .l, 1) := by decide +kernel
theorem d_L_law_2245 : decode mL_law.2.1 2245 = .ok (.ifCond .ne 5, 3) := by decide +kernel
theorem d_L_law_2248 : decode mL_law.2.1 2248 = .ok (.iconst 0, 1) := by decide +kernel
theorem d_L_law_2249 : decode mL_law.2.1 2249 = .ok (.ireturn, 1) := by decide +kernel
theorem d_L_law_2250 : decode mL_law.2.1 2250 = .ok (.goto 284, 3) := by decide +kernel
theorem d_L_law_2253 : decode mL_law.2.1 2253 = .ok (.aload_n 1, 1) := by decide +kernel
theorem d_L_law_2254 : decode mL_law.2.1 2254 = .ok (.aload_n 0, 1) := by decide +kernel
theorem d_L_law_2255 : decode mL_law.2.1 2255 = .ok (.iload 5, 2) := by decide +kernel
theorem d_L_law_2257 : decode mL_law.2.1 2257 = .ok (.iconst 1, 1) := by decide +kernel
theorem d_L_law_2258 : decode mL_law.2.1 2258 = .ok (.iadd, 1) := by decide +kernel
theorem d_L_law_2259 : decode mL_law.2.1 2259 = .ok (.iaload, 1) := by decide +kernel
theorem d_L_law_2260 : decode mL_law.2.1 2260 = .ok (.aload 4, 2) := by decide +kernel
theorem d_L_law_2262 : decode mL_law.2.1 2262 = .ok (.invokestatic 230, 3) := by decide +kernel
theorem d_L_law_2265 : decode mL_law.2.1 2265 = .ok (.istore 6, 2) := by decide +kernel
theorem d_L_law_2267 : decode mL_law.2.1 2267 = .ok (.aload_n 2, 1) := by decide +kernel
theorem d_L_law_2268 : decode mL_law.2.1 2268 = .ok (.aload_n 0, 1) := by decide +kernel
theorem d_L_law_2269 : decode mL_law.2.1 2269 = .ok (.iload 5, 2) := by decide +kernel
theorem d_L_law_2271 : decode mL_law.2.1 2271 = .ok (.iconst 1, 1) := by decide +kernel
theorem d_L_law_2272 : decode mL_law.2.1 2272 = .ok (.iadd, 1) := by decide +kernel
theorem d_L_law_2273 : decode mL_law.2.1 2273 = .ok (.iaload, 1) := by decide +kernel
theorem d_L_law_2274 : decode mL_law.2.1 2274 = .ok (.invokevirtual 233, 3) := by decide +kernel
theorem d_L_law_2277 : decode mL_law.2.1 2277 = .ok (.fstore 7, 2) := by decide +kernel
theorem d_L_law_2279 : decode mL_law.2.1 2279 = .ok (.aload_n 2, 1) := by decide +kernel
theorem d_L_law_2280 : decode mL_law.2.1 2280 = .ok (.invokevirtual 140, 3) := by decide +kernel
theorem d_L_law_2283 : decode mL_law.2.1 2283 = .ok (.iload 6, 2) := by decide +kernel
theorem d_L_law_2285 : decode mL_law.2.1 2285 = .ok (.if_icmp .eq 5, 3) := by decide +kernel
theorem d_L_law_2288 : decode mL_law.2.1 2288 = .ok (.iconst 0, 1) := by decide +kernel
theorem d_L_law_2289 : decode mL_law.2.1 2289 = .ok (.ireturn, 1) := by decide +kernel
theorem d_L_law_2290 : decode mL_law.2.1 2290 = .ok (.iload 6, 2) := by decide +kernel
theorem d_L_law_2292 : decode mL_law.2.1 2292 = .ok (.ifCond .ne 36, 3) := by decide +kernel
theorem d_L_law_2295 : decode mL_law.2.1 2295 = .ok (.aload 4, 2) := by decide +kernel
theorem d_L_law_2297 : decode mL_law.2.1 2297 = .ok (.iconst 0, 1) := by decide +kernel
theorem d_L_law_2298 : decode mL_law.2.1 2298 = .ok (.daload, 1) := by decide +kernel
theorem d_L_law_2299 : decode mL_law.2.1 2299 = .ok (.fload 7, 2) := by decide +kernel
theorem d_L_law_2301 : decode mL_law.2.1 2301 = .ok (.f2d, 1) := by decide +kernel
theorem d_L_law_2302 : decode mL_law.2.1 2302 = .ok (.dcmp .l, 1) := by decide +kernel
theorem d_L_law_2303 : decode mL_law.2.1 2303 = .ok (.ifCond .eq 25, 3) := by decide +kernel
theorem d_L_law_2306 : decode mL_law.2.1 2306 = .ok (.aload 4, 2) := by decide +kernel
theorem d_L_law_2308 : decode mL_law.2.1 2308 = .ok (.iconst 0, 1) := by decide +kernel
theorem d_L_law_2309 : decode mL_law.2.1 2309 = .ok (.daload, 1) := by decide +kernel
theorem d_L_law_2310 : decode mL_law.2.1 2310 = .ok (.aload 4, 2) := by decide +kernel
theorem d_L_law_2312 : decode mL_law.2.1 2312 = .ok (.iconst 0, 1) := by decide +kernel
theorem d_L_law_2313 : decode mL_law.2.1 2313 = .ok (.daload, 1) := by decide +kernel
theorem d_L_law_2314 : decode mL_law.2.1 2314 = .ok (.dcmp .l, 1) := by decide +kernel
theorem d_L_law_2315 : decode mL_law.2.1 2315 = .ok (.ifCond .eq 11, 3) := by decide +kernel
theorem d_L_law_2318 : decode mL_law.2.1 2318 = .ok (.fload 7, 2) := by decide +kernel
theorem d_L_law_2320 : decode mL_law.2.1 2320 = .ok (.fload 7, 2) := by decide +kernel
theorem d_L_law_2322 : decode mL_law.2.1 2322 = .ok (.fcmp .l, 1) := by decide +kernel
theorem d_L_law_2323 : decode mL_law.2.1 2323 = .ok (.ifCond .ne 5, 3) := by decide +kernel
theorem d_L_law_2326 : decode mL_law.2.1 2326 = .ok (.iconst 0, 1) := by decide +kernel
theorem d_L_law_2327 : decode mL_law.2.1 2327 = .ok (.ireturn, 1) := by decide +kernel
theorem d_L_law_2328 : decode mL_law.2.1 2328 = .ok (.goto 206, 3) := by decide +kernel
theorem d_L_law_2331 : decode mL_law.2.1 2331 = .ok (.aload_n 1, 1) := by decide +kernel
theorem d_L_law_2332 : decode mL_law.2.1 2332 = .ok (.aload_n 0, 1) := by decide +kernel
theorem d_L_law_2333 : decode mL_law.2.1 2333 = .ok (.iload 5, 2) := by decide +kernel
theorem d_L_law_2335 : decode mL_law.2.1 2335 = .ok (.iconst 1, 1) := by decide +kernel
theorem d_L_law_2336 : decode mL_law.2.1 2336 = .ok (.iadd, 1) := by decide +kernel
theorem d_L_law_2337 : decode mL_law.2.1 2337 = .ok (.iaload, 1) := by decide +kernel
theorem d_L_law_2338 : decode mL_law.2.1 2338 = .ok (.i2c, 1) := by decide +kernel
theorem d_L_law_2339 : decode mL_law.2.1 2339 = .ok (.aload_n 3, 1) := by decide +kernel
theorem d_L_law_2340 : decode mL_law.2.1 2340 = .ok (.invokestatic 234, 3) := by decide +kernel
theorem d_L_law_2343 : decode mL_law.2.1 2343 = .ok (.istore 6, 2) := by decide +kernel
theorem d_L_law_2345 : decode mL_law.2.1 2345 = .ok (.aload_n 2, 1) := by decide +kernel
theorem d_L_law_2346 : decode mL_law.2.1 2346 = .ok (.aload_n 0, 1) := by decide +kernel
theorem d_L_law_2347 : decode mL_law.2.1 2347 = .ok (.iload 5, 2) := by decide +kernel
theorem d_L_law_2349 : decode mL_law.2.1 2349 = .ok (.iconst 1, 1) := by decide +kernel
theorem d_L_law_2350 : decode mL_law.2.1 2350 = .ok (.iadd, 1) := by decide +kernel
theorem d_L_law_2351 : decode mL_law.2.1 2351 = .ok (.iaload, 1) := by decide +kernel
theorem d_L_law_2352 : decode mL_law.2.1 2352 = .ok (.i2c, 1) := by decide +kernel
theorem d_L_law_2353 : decode mL_law.2.1 2353 = .ok (.invokevirtual 237, 3) := by decide +kernel
theorem d_L_law_2356 : decode mL_law.2.1 2356 = .ok (.istore 7, 2) := by decide +kernel
theorem d_L_law_2358 : decode mL_law.2.1 2358 = .ok (.aload_n 2, 1) := by decide +kernel
theorem d_L_law_2359 : decode mL_law.2.1 2359 = .ok (.invokevirtual 140, 3) := by decide +kernel
theorem d_L_law_2362 : decode mL_law.2.1 2362 = .ok (.iload 6, 2) := by decide +kernel
theorem d_L_law_2364 : decode mL_law.2.1 2364 = .ok (.if_icmp .eq 5, 3) := by decide +kernel
theorem d_L_law_2367 : decode mL_law.2.1 2367 = .ok (.iconst 0, 1) := by decide +kernel
theorem d_L_law_2368 : decode mL_law.2.1 2368 = .ok (.ireturn, 1) := by decide +kernel
theorem d_L_law_2369 : decode mL_law.2.1 2369 = .ok (.iload 6, 2) := by decide +kernel
theorem d_L_law_2371 : decode mL_law.2.1 2371 = .ok (.ifCond .ne 15, 3) := by decide +kernel
theorem d_L_law_2374 : decode mL_law.2.1 2374 = .ok (.aload_n 3, 1) := by decide +kernel
theorem d_L_law_2375 : decode mL_law.2.1 2375 = .ok (.iconst 0, 1) := by decide +kernel
theorem d_L_law_2376 : decode mL_law.2.1 2376 = .ok (.laload, 1) := by decide +kernel
theorem d_L_law_2377 : decode mL_law.2.1 2377 = .ok (.iload 7, 2) := by decide +kernel
theorem d_L_law_2379 : decode mL_law.2.1 2379 = .ok (.i2l, 1) := by decide +kernel
theorem d_L_law_2380 : decode mL_law.2.1 2380 = .ok (.lcmp, 1) := by decide +kernel
theorem d_L_law_2381 : decode mL_law.2.1 2381 = .ok (.ifCond .eq 5, 3) := by decide +kernel
theorem d_L_law_2384 : decode mL_law.2.1 2384 = .ok (.iconst 0, 1) := by decide +kernel
theorem d_L_law_2385 : decode mL_law.2.1 2385 = .ok (.ireturn, 1) := by decide +kernel
theorem d_L_law_2386 : decode mL_law.2.1 2386 = .ok (.goto 148, 3) := by decide +kernel
theorem d_L_law_2389 : decode mL_law.2.1 2389 = .ok (.aload_n 1, 1) := by decide +kernel
theorem d_L_law_2390 : decode mL_law.2.1 2390 = .ok (.aload_n 3, 1) := by decide +kernel
theorem d_L_law_2391 : decode mL_law.2.1 2391 = .ok (.invokestatic 238, 3) := by decide +kernel
theorem d_L_law_2394 : decode mL_law.2.1 2394 = .ok (.istore 6, 2) := by decide +kernel
theorem d_L_law_2396 : decode mL_law.2.1 2396 = .ok (.aload_n 2, 1) := by decide +kernel
theorem d_L_law_2397 : decode mL_law.2.1 2397 = .ok (.invokevirtual 241, 3) := by decide +kernel
theorem d_L_law_2400 : decode mL_law.2.1 2400 = .ok (.istore 7, 2) := by decide +kernel
theorem d_L_law_2402 : decode mL_law.2.1 2402 = .ok (.aload_n 2, 1) := by decide +kernel
theorem d_L_law_2403 : decode mL_law.2.1 2403 = .ok (.invokevirtual 140, 3) := by decide +kernel
theorem d_L_law_2406 : decode mL_law.2.1 2406 = .ok (.iload 6, 2) := by decide +kernel
theorem d_L_law_2408 : decode mL_law.2.1 2408 = .ok (.if_icmp .eq 5, 3) := by decide +kernel
theorem d_L_law_2411 : decode mL_law.2.1 2411 = .ok (.iconst 0, 1) := by decide +kernel
theorem d_L_law_2412 : decode mL_law.2.1 2412 = .ok (.ireturn, 1) := by decide +kernel
theorem d_L_law_2413 : decode mL_law.2.1 2413 = .ok (.iload 6, 2) := by decide +kernel
theorem d_L_law_2415 : decode mL_law.2.1 2415 = .ok (.ifCond .ne 15, 3) := by decide +kernel
theorem d_L_law_2418 : decode mL_law.2.1 2418 = .ok (.aload_n 3, 1) := by decide +kernel
theorem d_L_law_2419 : decode mL_law.2.1 2419 = .ok (.iconst 0, 1) := by decide +kernel
theorem d_L_law_2420 : decode mL_law.2.1 2420 = .ok (.laload, 1) := by decide +kernel
theorem d_L_law_2421 : decode mL_law.2.1 2421 = .ok (.iload 7, 2) := by decide +kernel
theorem d_L_law_2423 : decode mL_law.2.1 2423 = .ok (.i2l, 1) := by decide +kernel
theorem d_L_law_2424 : decode mL_law.2.1 2424 = .ok (.lcmp, 1) := by decide +kernel
theorem d_L_law_2425 : decode mL_law.2.1 2425 = .ok (.ifCond .eq 5, 3) := by decide +kernel
theorem d_L_law_2428 : decode mL_law.2.1 2428 = .ok (.iconst 0, 1) := by decide +kernel
theorem d_L_law_2429 : decode mL_law.2.1 2429 = .ok (.ireturn, 1) := by decide +kernel
theorem d_L_law_2430 : decode mL_law.2.1 2430 = .ok (.goto 104, 3) := by decide +kernel
theorem d_L_law_2433 : decode mL_law.2.1 2433 = .ok (.aload_n 1, 1) := by decide +kernel
theorem d_L_law_2434 : decode mL_law.2.1 2434 = .ok (.aload_n 3, 1) := by decide +kernel
theorem d_L_law_2435 : decode mL_law.2.1 2435 = .ok (.invokestatic 242, 3) := by decide +kernel
theorem d_L_law_2438 : decode mL_law.2.1 2438 = .ok (.istore 6, 2) := by decide +kernel
theorem d_L_law_2440 : decode mL_law.2.1 2440 = .ok (.aload_n 2, 1) := by decide +kernel
theorem d_L_law_2441 : decode mL_law.2.1 2441 = .ok (.invokevirtual 244, 3) := by decide +kernel
theorem d_L_law_2444 : decode mL_law.2.1 2444 = .ok (.istore 7, 2) := by decide +kernel
theorem d_L_law_2446 : decode mL_law.2.1 2446 = .ok (.aload_n 2, 1) := by decide +kernel
theorem d_L_law_2447 : decode mL_law.2.1 2447 = .ok (.invokevirtual 140, 3) := by decide +kernel
theorem d_L_law_2450 : decode mL_law.2.1 2450 = .ok (.iload 6, 2) := by decide +kernel
theorem d_L_law_2452 : decode mL_law.2.1 2452 = .ok (.if_icmp .eq 5, 3) := by decide +kernel
theorem d_L_law_2455 : decode mL_law.2.1 2455 = .ok (.iconst 0, 1) := by decide +kernel
theorem d_L_law_2456 : decode mL_law.2.1 2456 = .ok (.ireturn, 1) := by decide +kernel
theorem d_L_law_2457 : decode mL_law.2.1 2457 = .ok (.iload 6, 2) := by decide +kernel
theorem d_L_law_2459 : decode mL_law.2.1 2459 = .ok (.ifCond .ne 15, 3) := by decide +kernel
theorem d_L_law_2462 : decode mL_law.2.1 2462 = .ok (.aload_n 3, 1) := by decide +kernel
theorem d_L_law_2463 : decode mL_law.2.1 2463 = .ok (.iconst 0, 1) := by decide +kernel
theorem d_L_law_2464 : decode mL_law.2.1 2464 = .ok (.laload, 1) := by decide +kernel
theorem d_L_law_2465 : decode mL_law.2.1 2465 = .ok (.iload 7, 2) := by decide +kernel
theorem d_L_law_2467 : decode mL_law.2.1 2467 = .ok (.i2l, 1) := by decide +kernel
theorem d_L_law_2468 : decode mL_law.2.1 2468 = .ok (.lcmp, 1) := by decide +kernel
theorem d_L_law_2469 : decode mL_law.2.1 2469 = .ok (.ifCond .eq 5, 3) := by decide +kernel
theorem d_L_law_2472 : decode mL_law.2.1 2472 = .ok (.iconst 0, 1) := by decide +kernel
theorem d_L_law_2473 : decode mL_law.2.1 2473 = .ok (.ireturn, 1) := by decide +kernel
theorem d_L_law_2474 : decode mL_law.2.1 2474 = .ok (.goto 60, 3) := by decide +kernel
theorem d_L_law_2477 : decode mL_law.2.1 2477 = .ok (.aload_n 1, 1) := by decide +kernel
theorem d_L_law_2478 : decode mL_law.2.1 2478 = .ok (.invokevirtual 245, 3) := by decide +kernel
theorem d_L_law_2481 : decode mL_law.2.1 2481 = .ok (.aload_n 2, 1) := by decide +kernel
theorem d_L_law_2482 : decode mL_law.2.1 2482 = .ok (.invokevirtual 248, 3) := by decide +kernel
theorem d_L_law_2485 : decode mL_law.2.1 2485 = .ok (.if_icmp .eq 49, 3) := by decide +kernel
theorem d_L_law_2488 : decode mL_law.2.1 2488 = .ok (.iconst 0, 1) := by decide +kernel
theorem d_L_law_2489 : decode mL_law.2.1 2489 = .ok (.ireturn, 1) := by decide +kernel
theorem d_L_law_2490 : decode mL_law.2.1 2490 = .ok (.aload_n 1, 1) := by decide +kernel
theorem d_L_law_2491 : decode mL_law.2.1 2491 = .ok (.aload_n 3, 1) := by decide +kernel
theorem d_L_law_2492 : decode mL_law.2.1 2492 = .ok (.invokestatic 249, 3) := by decide +kernel
theorem d_L_law_2495 : decode mL_law.2.1 2495 = .ok (.istore 6, 2) := by decide +kernel
theorem d_L_law_2497 : decode mL_law.2.1 2497 = .ok (.aload_n 2, 1) := by decide +kernel
theorem d_L_law_2498 : decode mL_law.2.1 2498 = .ok (.invokevirtual 251, 3) := by decide +kernel
theorem d_L_law_2501 : decode mL_law.2.1 2501 = .ok (.istore 7, 2) := by decide +kernel
theorem d_L_law_2503 : decode mL_law.2.1 2503 = .ok (.aload_n 2, 1) := by decide +kernel
theorem d_L_law_2504 : decode mL_law.2.1 2504 = .ok (.invokevirtual 140, 3) := by decide +kernel
theorem d_L_law_2507 : decode mL_law.2.1 2507 = .ok (.iload 6, 2) := by decide +kernel
theorem d_L_law_2509 : decode mL_law.2.1 2509 = .ok (.if_icmp .eq 5, 3) := by decide +kernel
theorem d_L_law_2512 : decode mL_law.2.1 2512 = .ok (.iconst 0, 1) := by decide +kernel
theorem d_L_law_2513 : decode mL_law.2.1 2513 = .ok (.ireturn, 1) := by decide +kernel
theorem d_L_law_2514 : decode mL_law.2.1 2514 = .ok (.iload 6, 2) := by decide +kernel
theorem d_L_law_2516 : decode mL_law.2.1 2516 = .ok (.ifCond .ne 15, 3) := by decide +kernel
theorem d_L_law_2519 : decode mL_law.2.1 2519 = .ok (.aload_n 3, 1) := by decide +kernel
theorem d_L_law_2520 : decode mL_law.2.1 2520 = .ok (.iconst 0, 1) := by decide +kernel
theorem d_L_law_2521 : decode mL_law.2.1 2521 = .ok (.laload, 1) := by decide +kernel
theorem d_L_law_2522 : decode mL_law.2.1 2522 = .ok (.iload 7, 2) := by decide +kernel
theorem d_L_law_2524 : decode mL_law.2.1 2524 = .ok (.i2l, 1) := by decide +kernel
theorem d_L_law_2525 : decode mL_law.2.1 2525 = .ok (.lcmp, 1) := by decide +kernel
theorem d_L_law_2526 : decode mL_law.2.1 2526 = .ok (.ifCond .eq 5, 3) := by decide +kernel
theorem d_L_law_2529 : decode mL_law.2.1 2529 = .ok (.iconst 0, 1) := by decide +kernel
theorem d_L_law_2530 : decode mL_law.2.1 2530 = .ok (.ireturn, 1) := by decide +kernel
theorem d_L_law_2531 : decode mL_law.2.1 2531 = .ok (.goto 3, 3) := by decide +kernel
theorem d_L_law_2534 : decode mL_law.2.1 2534 = .ok (.iinc 5 6, 3) := by decide +kernel
theorem d_L_law_2537 : decode mL_law.2.1 2537 = .ok (.goto (-2509), 3) := by decide +kernel
theorem d_L_law_2540 : decode mL_law.2.1 2540 = .ok (.iconst 1, 1) := by decide +kernel
theorem d_L_law_2541 : decode mL_law.2.1 2541 = .ok (.ireturn, 1) := by decide +kernel
