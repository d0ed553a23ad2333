theorem dL_law_1942 : decode cL_law 1942 = .ok (.iconst 0, 1) := by decide +kernel
theorem dL_law_1943 : decode cL_law 1943 = .ok (.laload, 1) := by decide +kernel
theorem dL_law_1944 : decode cL_law 1944 = .ok (.iload 7, 2) := by decide +kernel
theorem dL_law_1946 : decode cL_law 1946 = .ok (.i2l, 1) := by decide +kernel
theorem dL_law_1947 : decode cL_law 1947 = .ok (.lcmp, 1) := by decide +kernel
theorem dL_law_1948 : decode cL_law 1948 = .ok (.ifCond .eq 5, 3) := by decide +kernel
theorem dL_law_1951 : decode cL_law 1951 = .ok (.iconst 0, 1) := by decide +kernel
theorem dL_law_1952 : decode cL_law 1952 = .ok (.ireturn, 1) := by decide +kernel
theorem dL_law_1953 : decode cL_law 1953 = .ok (.goto 1663, 3) := by decide +kernel
theorem dL_law_1956 : decode cL_law 1956 = .ok (.aload_n 1, 1) := by decide +kernel
theorem dL_law_1957 : decode cL_law 1957 = .ok (.invokevirtual 285, 3) := by decide +kernel
theorem dL_law_1960 : decode cL_law 1960 = .ok (.aload_n 2, 1) := by decide +kernel
theorem dL_law_1961 : decode cL_law 1961 = .ok (.invokevirtual 288, 3) := by decide +kernel
theorem dL_law_1964 : decode cL_law 1964 = .ok (.if_icmp .eq 1652, 3) := by decide +kernel
theorem dL_law_1967 : decode cL_law 1967 = .ok (.iconst 0, 1) := by decide +kernel
theorem dL_law_1968 : decode cL_law 1968 = .ok (.ireturn, 1) := by decide +kernel
theorem dL_law_1969 : decode cL_law 1969 = .ok (.aload_n 1, 1) := by decide +kernel
theorem dL_law_1970 : decode cL_law 1970 = .ok (.aload_n 0, 1) := by decide +kernel
theorem dL_law_1971 : decode cL_law 1971 = .ok (.iload 5, 2) := by decide +kernel
theorem dL_law_1973 : decode cL_law 1973 = .ok (.iconst 1, 1) := by decide +kernel
theorem dL_law_1974 : decode cL_law 1974 = .ok (.iadd, 1) := by decide +kernel
theorem dL_law_1975 : decode cL_law 1975 = .ok (.iaload, 1) := by decide +kernel
theorem dL_law_1976 : decode cL_law 1976 = .ok (.aload_n 0, 1) := by decide +kernel
theorem dL_law_1977 : decode cL_law 1977 = .ok (.iload 5, 2) := by decide +kernel
theorem dL_law_1979 : decode cL_law 1979 = .ok (.iconst 2, 1) := by decide +kernel
theorem dL_law_1980 : decode cL_law 1980 = .ok (.iadd, 1) := by decide +kernel
theorem dL_law_1981 : decode cL_law 1981 = .ok (.iaload, 1) := by decide +kernel
theorem dL_law_1982 : decode cL_law 1982 = .ok (.aload_n 0, 1) := by decide +kernel
theorem dL_law_1983 : decode cL_law 1983 = .ok (.iload 5, 2) := by decide +kernel
theorem dL_law_1985 : decode cL_law 1985 = .ok (.iconst 3, 1) := by decide +kernel
theorem dL_law_1986 : decode cL_law 1986 = .ok (.iadd, 1) := by decide +kernel
theorem dL_law_1987 : decode cL_law 1987 = .ok (.iaload, 1) := by decide +kernel
theorem dL_law_1988 : decode cL_law 1988 = .ok (.aload_n 3, 1) := by decide +kernel
theorem dL_law_1989 : decode cL_law 1989 = .ok (.invokestatic 289, 3) := by decide +kernel
theorem dL_law_1992 : decode cL_law 1992 = .ok (.istore 6, 2) := by decide +kernel
theorem dL_law_1994 : decode cL_law 1994 = .ok (.aload_n 2, 1) := by decide +kernel
theorem dL_law_1995 : decode cL_law 1995 = .ok (.aload_n 0, 1) := by decide +kernel
theorem dL_law_1996 : decode cL_law 1996 = .ok (.iload 5, 2) := by decide +kernel
theorem dL_law_1998 : decode cL_law 1998 = .ok (.iconst 1, 1) := by decide +kernel
theorem dL_law_1999 : decode cL_law 1999 = .ok (.iadd, 1) := by decide +kernel
theorem dL_law_2000 : decode cL_law 2000 = .ok (.iaload, 1) := by decide +kernel
theorem dL_law_2001 : decode cL_law 2001 = .ok (.aload_n 0, 1) := by decide +kernel
theorem dL_law_2002 : decode cL_law 2002 = .ok (.iload 5, 2) := by decide +kernel
theorem dL_law_2004 : decode cL_law 2004 = .ok (.iconst 2, 1) := by decide +kernel
theorem dL_law_2005 : decode cL_law 2005 = .ok (.iadd, 1) := by decide +kernel
theorem dL_law_2006 : decode cL_law 2006 = .ok (.iaload, 1) := by decide +kernel
theorem dL_law_2007 : decode cL_law 2007 = .ok (.aload_n 0, 1) := by decide +kernel
theorem dL_law_2008 : decode cL_law 2008 = .ok (.iload 5, 2) := by decide +kernel
theorem dL_law_2010 : decode cL_law 2010 = .ok (.iconst 3, 1) := by decide +kernel
theorem dL_law_2011 : decode cL_law 2011 = .ok (.iadd, 1) := by decide +kernel
theorem dL_law_2012 : decode cL_law 2012 = .ok (.iaload, 1) := by decide +kernel
theorem dL_law_2013 : decode cL_law 2013 = .ok (.invokevirtual 291, 3) := by decide +kernel
theorem dL_law_2016 : decode cL_law 2016 = .ok (.istore 7, 2) := by decide +kernel
theorem dL_law_2018 : decode cL_law 2018 = .ok (.aload_n 2, 1) := by decide +kernel
theorem dL_law_2019 : decode cL_law 2019 = .ok (.invokevirtual 203, 3) := by decide +kernel
theorem dL_law_2022 : decode cL_law 2022 = .ok (.iload 6, 2) := by decide +kernel
theorem dL_law_2024 : decode cL_law 2024 = .ok (.if_icmp .eq 5, 3) := by decide +kernel
theorem dL_law_2027 : decode cL_law 2027 = .ok (.iconst 0, 1) := by decide +kernel
theorem dL_law_2028 : decode cL_law 2028 = .ok (.ireturn, 1) := by decide +kernel
theorem dL_law_2029 : decode cL_law 2029 = .ok (.iload 6, 2) := by decide +kernel
theorem dL_law_2031 : decode cL_law 2031 = .ok (.ifCond .ne 15, 3) := by decide +kernel
theorem dL_law_2034 : decode cL_law 2034 = .ok (.aload_n 3, 1) := by decide +kernel
theorem dL_law_2035 : decode cL_law 2035 = .ok (.iconst 0, 1) := by decide +kernel
theorem dL_law_2036 : decode cL_law 2036 = .ok (.laload, 1) := by decide +kernel
theorem dL_law_2037 : decode cL_law 2037 = .ok (.iload 7, 2) := by decide +kernel
theorem dL_law_2039 : decode cL_law 2039 = .ok (.i2l, 1) := by decide +kernel
theorem dL_law_2040 : decode cL_law 2040 = .ok (.lcmp, 1) := by decide +kernel
theorem dL_law_2041 : decode cL_law 2041 = .ok (.ifCond .eq 5, 3) := by decide +kernel
theorem dL_law_2044 : decode cL_law 2044 = .ok (.iconst 0, 1) := by decide +kernel
theorem dL_law_2045 : decode cL_law 2045 = .ok (.ireturn, 1) := by decide +kernel
theorem dL_law_2046 : decode cL_law 2046 = .ok (.goto 1570, 3) := by decide +kernel
theorem dL_law_2049 : decode cL_law 2049 = .ok (.aload_n 1, 1) := by decide +kernel
theorem dL_law_2050 : decode cL_law 2050 = .ok (.aload_n 0, 1) := by decide +kernel
theorem dL_law_2051 : decode cL_law 2051 = .ok (.iload 5, 2) := by decide +kernel
theorem dL_law_2053 : decode cL_law 2053 = .ok (.iconst 1, 1) := by decide +kernel
theorem dL_law_2054 : decode cL_law 2054 = .ok (.iadd, 1) := by decide +kernel
theorem dL_law_2055 : decode cL_law 2055 = .ok (.iaload, 1) := by decide +kernel
theorem dL_law_2056 : decode cL_law 2056 = .ok (.aload_n 0, 1) := by decide +kernel
theorem dL_law_2057 : decode cL_law 2057 = .ok (.iload 5, 2) := by decide +kernel
theorem dL_law_2059 : decode cL_law 2059 = .ok (.iconst 2, 1) := by decide +kernel
theorem dL_law_2060 : decode cL_law 2060 = .ok (.iadd, 1) := by decide +kernel
theorem dL_law_2061 : decode cL_law 2061 = .ok (.iaload, 1) := by decide +kernel
theorem dL_law_2062 : decode cL_law 2062 = .ok (.aload_n 0, 1) := by decide +kernel
theorem dL_law_2063 : decode cL_law 2063 = .ok (.iload 5, 2) := by decide +kernel
theorem dL_law_2065 : decode cL_law 2065 = .ok (.iconst 3, 1) := by decide +kernel
theorem dL_law_2066 : decode cL_law 2066 = .ok (.iadd, 1) := by decide +kernel
theorem dL_law_2067 : decode cL_law 2067 = .ok (.iaload, 1) := by decide +kernel
theorem dL_law_2068 : decode cL_law 2068 = .ok (.aload_n 3, 1) := by decide +kernel
theorem dL_law_2069 : decode cL_law 2069 = .ok (.invokestatic 292, 3) := by decide +kernel
theorem dL_law_2072 : decode cL_law 2072 = .ok (.istore 6, 2) := by decide +kernel
theorem dL_law_2074 : decode cL_law 2074 = .ok (.aload_n 2, 1) := by decide +kernel
theorem dL_law_2075 : decode cL_law 2075 = .ok (.aload_n 0, 1) := by decide +kernel
theorem dL_law_2076 : decode cL_law 2076 = .ok (.iload 5, 2) := by decide +kernel
theorem dL_law_2078 : decode cL_law 2078 = .ok (.iconst 1, 1) := by decide +kernel
theorem dL_law_2079 : decode cL_law 2079 = .ok (.iadd, 1) := by decide +kernel
theorem dL_law_2080 : decode cL_law 2080 = .ok (.iaload, 1) := by decide +kernel
theorem dL_law_2081 : decode cL_law 2081 = .ok (.aload_n 0, 1) := by decide +kernel
theorem dL_law_2082 : decode cL_law 2082 = .ok (.iload 5, 2) := by decide +kernel
theorem dL_law_2084 : decode cL_law 2084 = .ok (.iconst 2, 1) := by decide +kernel
theorem dL_law_2085 : decode cL_law 2085 = .ok (.iadd, 1) := by decide +kernel
theorem dL_law_2086 : decode cL_law 2086 = .ok (.iaload, 1) := by decide +kernel
theorem dL_law_2087 : decode cL_law 2087 = .ok (.aload_n 0, 1) := by decide +kernel
theorem dL_law_2088 : decode cL_law 2088 = .ok (.iload 5, 2) := by decide +kernel
theorem dL_law_2090 : decode cL_law 2090 = .ok (.iconst 3, 1) := by decide +kernel
theorem dL_law_2091 : decode cL_law 2091 = .ok (.iadd, 1) := by decide +kernel
theorem dL_law_2092 : decode cL_law 2092 = .ok (.iaload, 1) := by decide +kernel
theorem dL_law_2093 : decode cL_law 2093 = .ok (.invokevirtual 294, 3) := by decide +kernel
theorem dL_law_2096 : decode cL_law 2096 = .ok (.istore 7, 2) := by decide +kernel
theorem dL_law_2098 : decode cL_law 2098 = .ok (.aload_n 2, 1) := by decide +kernel
theorem dL_law_2099 : decode cL_law 2099 = .ok (.invokevirtual 203, 3) := by decide +kernel
theorem dL_law_2102 : decode cL_law 2102 = .ok (.iload 6, 2) := by decide +kernel
theorem dL_law_2104 : decode cL_law 2104 = .ok (.if_icmp .eq 5, 3) := by decide +kernel
theorem dL_law_2107 : decode cL_law 2107 = .ok (.iconst 0, 1) := by decide +kernel
theorem dL_law_2108 : decode cL_law 2108 = .ok (.ireturn, 1) := by decide +kernel
theorem dL_law_2109 : decode cL_law 2109 = .ok (.iload 6, 2) := by decide +kernel
theorem dL_law_2111 : decode cL_law 2111 = .ok (.ifCond .ne 15, 3) := by decide +kernel
theorem dL_law_2114 : decode cL_law 2114 = .ok (.aload_n 3, 1) := by decide +kernel
theorem dL_law_2115 : decode cL_law 2115 = .ok (.iconst 0, 1) := by decide +kernel
theorem dL_law_2116 : decode cL_law 2116 = .ok (.laload, 1) := by decide +kernel
theorem dL_law_2117 : decode cL_law 2117 = .ok (.iload 7, 2) := by decide +kernel
theorem dL_law_2119 : decode cL_law 2119 = .ok (.i2l, 1) := by decide +kernel
theorem dL_law_2120 : decode cL_law 2120 = .ok (.lcmp, 1) := by decide +kernel
theorem dL_law_2121 : decode cL_law 2121 = .ok (.ifCond .eq 5, 3) := by decide +kernel
theorem dL_law_2124 : decode cL_law 2124 = .ok (.iconst 0, 1) := by decide +kernel
theorem dL_law_2125 : decode cL_law 2125 = .ok (.ireturn, 1) := by decide +kernel
theorem dL_law_2126 : decode cL_law 2126 = .ok (.goto 1490, 3) := by decide +kernel
theorem dL_law_2129 : decode cL_law 2129 = .ok (.aload_n 1, 1) := by decide +kernel
theorem dL_law_2130 : decode cL_law 2130 = .ok (.aload_n 0, 1) := by decide +kernel
theorem dL_law_2131 : decode cL_law 2131 = .ok (.iload 5, 2) := by decide +kernel
theorem dL_law_2133 : decode cL_law 2133 = .ok (.iconst 1, 1) := by decide +kernel
theorem dL_law_2134 : decode cL_law 2134 = .ok (.iadd, 1) := by decide +kernel
theorem dL_law_2135 : decode cL_law 2135 = .ok (.iaload, 1) := by decide +kernel
theorem dL_law_2136 : decode cL_law 2136 = .ok (.aload_n 0, 1) := by decide +kernel
theorem dL_law_2137 : decode cL_law 2137 = .ok (.iload 5, 2) := by decide +kernel
theorem dL_law_2139 : decode cL_law 2139 = .ok (.iconst 2, 1) := by decide +kernel
theorem dL_law_2140 : decode cL_law 2140 = .ok (.iadd, 1) := by decide +kernel
theorem dL_law_2141 : decode cL_law 2141 = .ok (.iaload, 1) := by decide +kernel
theorem dL_law_2142 : decode cL_law 2142 = .ok (.aload_n 0, 1) := by decide +kernel
theorem dL_law_2143 : decode cL_law 2143 = .ok (.iload 5, 2) := by decide +kernel
theorem dL_law_2145 : decode cL_law 2145 = .ok (.iconst 3, 1) := by decide +kernel
theorem dL_law_2146 : decode cL_law 2146 = .ok (.iadd, 1) := by decide +kernel
theorem dL_law_2147 : decode cL_law 2147 = .ok (.iaload, 1) := by decide +kernel
theorem dL_law_2148 : decode cL_law 2148 = .ok (.aload_n 3, 1) := by decide +kernel
theorem dL_law_2149 : decode cL_law 2149 = .ok (.invokestatic 295, 3) := by decide +kernel
theorem dL_law_2152 : decode cL_law 2152 = .ok (.istore 6, 2) := by decide +kernel
theorem dL_law_2154 : decode cL_law 2154 = .ok (.aload_n 2, 1) := by decide +kernel
theorem dL_law_2155 : decode cL_law 2155 = .ok (.aload_n 0, 1) := by decide +kernel
theorem dL_law_2156 : decode cL_law 2156 = .ok (.iload 5, 2) := by decide +kernel
theorem dL_law_2158 : decode cL_law 2158 = .ok (.iconst 1, 1) := by decide +kernel
theorem dL_law_2159 : decode cL_law 2159 = .ok (.iadd, 1) := by decide +kernel
theorem dL_law_2160 : decode cL_law 2160 = .ok (.iaload, 1) := by decide +kernel
theorem dL_law_2161 : decode cL_law 2161 = .ok (.aload_n 0, 1) := by decide +kernel
theorem dL_law_2162 : decode cL_law 2162 = .ok (.iload 5, 2) := by decide +kernel
theorem dL_law_2164 : decode cL_law 2164 = .ok (.iconst 2, 1) := by decide +kernel
theorem dL_law_2165 : decode cL_law 2165 = .ok (.iadd, 1) := by decide +kernel
theorem dL_law_2166 : decode cL_law 2166 = .ok (.iaload, 1) := by decide +kernel
theorem dL_law_2167 : decode cL_law 2167 = .ok (.aload_n 0, 1) := by decide +kernel
theorem dL_law_2168 : decode cL_law 2168 = .ok (.iload 5, 2) := by decide +kernel
theorem dL_law_2170 : decode cL_law 2170 = .ok (.iconst 3, 1) := by decide +kernel
theorem dL_law_2171 : decode cL_law 2171 = .ok (.iadd, 1) := by decide +kernel
theorem dL_law_2172 : decode cL_law 2172 = .ok (.iaload, 1) := by decide +kernel
theorem dL_law_2173 : decode cL_law 2173 = .ok (.invokevirtual 297, 3) := by decide +kernel
theorem dL_law_2176 : decode cL_law 2176 = .ok (.istore 7, 2) := by decide +kernel
theorem dL_law_2178 : decode cL_law 2178 = .ok (.aload_n 2, 1) := by decide +kernel
theorem dL_law_2179 : decode cL_law 2179 = .ok (.invokevirtual 203, 3) := by decide +kernel
theorem dL_law_2182 : decode cL_law 2182 = .ok (.iload 6, 2) := by decide +kernel
theorem dL_law_2184 : decode cL_law 2184 = .ok (.if_icmp .eq 5, 3) := by decide +kernel
theorem dL_law_2187 : decode cL_law 2187 = .ok (.iconst 0, 1) := by decide +kernel
theorem dL_law_2188 : decode cL_law 2188 = .ok (.ireturn, 1) := by decide +kernel
theorem dL_law_2189 : decode cL_law 2189 = .ok (.iload 6, 2) := by decide +kernel
theorem dL_law_2191 : decode cL_law 2191 = .ok (.ifCond .ne 15, 3) := by decide +kernel
theorem dL_law_2194 : decode cL_law 2194 = .ok (.aload_n 3, 1) := by decide +kernel
theorem dL_law_2195 : decode cL_law 2195 = .ok (.iconst 0, 1) := by decide +kernel
theorem dL_law_2196 : decode cL_law 2196 = .ok (.laload, 1) := by decide +kernel
theorem dL_law_2197 : decode cL_law 2197 = .ok (.iload 7, 2) := by decide +kernel
theorem dL_law_2199 : decode cL_law 2199 = .ok (.i2l, 1) := by decide +kernel
theorem dL_law_2200 : decode cL_law 2200 = .ok (.lcmp, 1) := by decide +kernel
theorem dL_law_2201 : decode cL_law 2201 = .ok (.ifCond .eq 5, 3) := by decide +kernel
theorem dL_law_2204 : decode cL_law 2204 = .ok (.iconst 0, 1) := by decide +kernel
theorem dL_law_2205 : decode cL_law 2205 = .ok (.ireturn, 1) := by decide +kernel
theorem dL_law_2206 : decode cL_law 2206 = .ok (.goto 1410, 3) := by decide +kernel
theorem dL_law_2209 : decode cL_law 2209 = .ok (.aload_n 1, 1) := by decide +kernel
theorem dL_law_2210 : decode cL_law 2210 = .ok (.aload_n 0, 1) := by decide +kernel
theorem dL_law_2211 : decode cL_law 2211 = .ok (.iload 5, 2) := by decide +kernel
theorem dL_law_2213 : decode cL_law 2213 = .ok (.iconst 1, 1) := by decide +kernel
theorem dL_law_2214 : decode cL_law 2214 = .ok (.iadd, 1) := by decide +kernel
theorem dL_law_2215 : decode cL_law 2215 = .ok (.iaload, 1) := by decide +kernel
theorem dL_law_2216 : decode cL_law 2216 = .ok (.aload_n 0, 1) := by decide +kernel
theorem dL_law_2217 : decode cL_law 2217 = .ok (.iload 5, 2) := by decide +kernel
theorem dL_law_2219 : decode cL_law 2219 = .ok (.iconst 2, 1) := by decide +kernel
theorem dL_law_2220 : decode cL_law 2220 = .ok (.iadd, 1) := by decide +kernel
theorem dL_law_2221 : decode cL_law 2221 = .ok (.iaload, 1) := by decide +kernel
theorem dL_law_2222 : decode cL_law 2222 = .ok (.aload_n 3, 1) := by decide +kernel
theorem dL_law_2223 : decode cL_law 2223 = .ok (.invokestatic 298, 3) := by decide +kernel
theorem dL_law_2226 : decode cL_law 2226 = .ok (.istore 6, 2) := by decide +kernel
theorem dL_law_2228 : decode cL_law 2228 = .ok (.aload_n 2, 1) := by decide +kernel
theorem dL_law_2229 : decode cL_law 2229 = .ok (.aload_n 0, 1) := by decide +kernel
theorem dL_law_2230 : decode cL_law 2230 = .ok (.iload 5, 2) := by decide +kernel
theorem dL_law_2232 : decode cL_law 2232 = .ok (.iconst 1, 1) := by decide +kernel
theorem dL_law_2233 : decode cL_law 2233 = .ok (.iadd, 1) := by decide +kernel
theorem dL_law_2234 : decode cL_law 2234 = .ok (.iaload, 1) := by decide +kernel
theorem dL_law_2235 : decode cL_law 2235 = .ok (.aload_n 0, 1) := by decide +kernel
theorem dL_law_2236 : decode cL_law 2236 = .ok (.iload 5, 2) := by decide +kernel
theorem dL_law_2238 : decode cL_law 2238 = .ok (.iconst 2, 1) := by decide +kernel
theorem dL_law_2239 : decode cL_law 2239 = .ok (.iadd, 1) := by decide +kernel
theorem dL_law_2240 : decode cL_law 2240 = .ok (.iaload, 1) := by decide +kernel
theorem dL_law_2241 : decode cL_law 2241 = .ok (.invokevirtual 300, 3) := by decide +kernel
theorem dL_law_2244 : decode cL_law 2244 = .ok (.istore 7, 2) := by decide +kernel
theorem dL_law_2246 : decode cL_law 2246 = .ok (.aload_n 2, 1) := by decide +kernel
theorem dL_law_2247 : decode cL_law 2247 = .ok (.invokevirtual 203, 3) := by decide +kernel
theorem dL_law_2250 : decode cL_law 2250 = .ok (.iload 6, 2) := by decide +kernel
theorem dL_law_2252 : decode cL_law 2252 = .ok (.if_icmp .eq 5, 3) := by decide +kernel
theorem dL_law_2255 : decode cL_law 2255 = .ok (.iconst 0, 1) := by decide +kernel
theorem dL_law_2256 : decode cL_law 2256 = .ok (.ireturn, 1) := by decide +kernel
theorem dL_law_2257 : decode cL_law 2257 = .ok (.iload 6, 2) := by decide +kernel
theorem dL_law_2259 : decode cL_law 2259 = .ok (.ifCond .ne 15, 3) := by decide +kernel
theorem dL_law_2262 : decode cL_law 2262 = .ok (.aload_n 3, 1) := by decide +kernel
theorem dL_law_2263 : decode cL_law 2263 = .ok (.iconst 0, 1) := by decide +kernel
theorem dL_law_2264 : decode cL_law 2264 = .ok (.laload, 1) := by decide +kernel
theorem dL_law_2265 : decode cL_law 2265 = .ok (.iload 7, 2) := by decide +kernel
theorem dL_law_2267 : decode cL_law 2267 = .ok (.i2l, 1) := by decide +kernel
theorem dL_law_2268 : decode cL_law 2268 = .ok (.lcmp, 1) := by decide +kernel
theorem dL_law_2269 : decode cL_law 2269 = .ok (.ifCond .eq 5, 3) := by decide +kernel
theorem dL_law_2272 : decode cL_law 2272 = .ok (.iconst 0, 1) := by decide +kernel
theorem dL_law_2273 : decode cL_law 2273 = .ok (.ireturn, 1) := by decide +kernel
theorem dL_law_2274 : decode cL_law 2274 = .ok (.goto 1342, 3) := by decide +kernel
theorem dL_law_2277 : decode cL_law 2277 = .ok (.aload_n 1, 1) := by decide +kernel
theorem dL_law_2278 : decode cL_law 2278 = .ok (.aload_n 0, 1) := by decide +kernel
theorem dL_law_2279 : decode cL_law 2279 = .ok (.iload 5, 2) := by decide +kernel
theorem dL_law_2281 : decode cL_law 2281 = .ok (.iconst 1, 1) := by decide +kernel
theorem dL_law_2282 : decode cL_law 2282 = .ok (.iadd, 1) := by decide +kernel
theorem dL_law_2283 : decode cL_law 2283 = .ok (.iaload, 1) := by decide +kernel
theorem dL_law_2284 : decode cL_law 2284 = .ok (.aload_n 3, 1) := by decide +kernel
theorem dL_law_2285 : decode cL_law 2285 = .ok (.invokestatic 301, 3) := by decide +kernel
theorem dL_law_2288 : decode cL_law 2288 = .ok (.istore 6, 2) := by decide +kernel
theorem dL_law_2290 : decode cL_law 2290 = .ok (.aload_n 2, 1) := by decide +kernel
theorem dL_law_2291 : decode cL_law 2291 = .ok (.aload_n 0, 1) := by decide +kernel
theorem dL_law_2292 : decode cL_law 2292 = .ok (.iload 5, 2) := by decide +kernel
theorem dL_law_2294 : decode cL_law 2294 = .ok (.iconst 1, 1) := by decide +kernel
theorem dL_law_2295 : decode cL_law 2295 = .ok (.iadd, 1) := by decide +kernel
theorem dL_law_2296 : decode cL_law 2296 = .ok (.iaload, 1) := by decide +kernel
theorem dL_law_2297 : decode cL_law 2297 = .ok (.invokevirtual 303, 3) := by decide +kernel
theorem dL_law_2300 : decode cL_law 2300 = .ok (.istore 7, 2) := by decide +kernel
theorem dL_law_2302 : decode cL_law 2302 = .ok (.aload_n 2, 1) := by decide +kernel
theorem dL_law_2303 : decode cL_law 2303 = .ok (.invokevirtual 203, 3) := by decide +kernel
theorem dL_law_2306 : decode cL_law 2306 = .ok (.iload 6, 2) := by decide +kernel
theorem dL_law_2308 : decode cL_law 2308 = .ok (.if_icmp .eq 5, 3) := by decide +kernel
theorem dL_law_2311 : decode cL_law 2311 = .ok (.iconst 0, 1) := by decide +kernel
theorem dL_law_2312 : decode cL_law 2312 = .ok (.ireturn, 1) := by decide +kernel
theorem dL_law_2313 : decode cL_law 2313 = .ok (.iload 6, 2) := by decide +kernel
theorem dL_law_2315 : decode cL_law 2315 = .ok (.ifCond .ne 15, 3) := by decide +kernel
theorem dL_law_2318 : decode cL_law 2318 = .ok (.aload_n 3, 1) := by decide +kernel
theorem dL_law_2319 : decode cL_law 2319 = .ok (.iconst 0, 1) := by decide +kernel
theorem dL_law_2320 : decode cL_law 2320 = .ok (.laload, 1) := by decide +kernel
theorem dL_law_2321 : decode cL_law 2321 = .ok (.iload 7, 2) := by decide +kernel
theorem dL_law_2323 : decode cL_law 2323 = .ok (.i2l, 1) := by decide +kernel
theorem dL_law_2324 : decode cL_law 2324 = .ok (.lcmp, 1) := by decide +kernel
theorem dL_law_2325 : decode cL_law 2325 = .ok (.ifCond .eq 5, 3) := by decide +kernel
theorem dL_law_2328 : decode cL_law 2328 = .ok (.iconst 0, 1) := by decide +kernel
theorem dL_law_2329 : decode cL_law 2329 = .ok (.ireturn, 1) := by decide +kernel
theorem dL_law_2330 : decode cL_law 2330 = .ok (.goto 1286, 3) := by decide +kernel
theorem dL_law_2333 : decode cL_law 2333 = .ok (.aload_n 1, 1) := by decide +kernel
theorem dL_law_2334 : decode cL_law 2334 = .ok (.aload_n 0, 1) := by decide +kernel
theorem dL_law_2335 : decode cL_law 2335 = .ok (.iload 5, 2) := by decide +kernel
theorem dL_law_2337 : decode cL_law 2337 = .ok (.iconst 1, 1) := by decide +kernel
theorem dL_law_2338 : decode cL_law 2338 = .ok (.iadd, 1) := by decide +kernel
theorem dL_law_2339 : decode cL_law 2339 = .ok (.iaload, 1) := by decide +kernel
theorem dL_law_2340 : decode cL_law 2340 = .ok (.aload 4, 2) := by decide +kernel
theorem dL_law_2342 : decode cL_law 2342 = .ok (.invokestatic 304, 3) := by decide +kernel
theorem dL_law_2345 : decode cL_law 2345 = .ok (.istore 6, 2) := by decide +kernel
theorem dL_law_2347 : decode cL_law 2347 = .ok (.aload_n 2, 1) := by decide +kernel
theorem dL_law_2348 : decode cL_law 2348 = .ok (.aload_n 0, 1) := by decide +kernel
theorem dL_law_2349 : decode cL_law 2349 = .ok (.iload 5, 2) := by decide +kernel
theorem dL_law_2351 : decode cL_law 2351 = .ok (.iconst 1, 1) := by decide +kernel
theorem dL_law_2352 : decode cL_law 2352 = .ok (.iadd, 1) := by decide +kernel
theorem dL_law_2353 : decode cL_law 2353 = .ok (.iaload, 1) := by decide +kernel
theorem dL_law_2354 : decode cL_law 2354 = .ok (.invokevirtual 307, 3) := by decide +kernel
theorem dL_law_2357 : decode cL_law 2357 = .ok (.dstore 7, 2) := by decide +kernel
theorem dL_law_2359 : decode cL_law 2359 = .ok (.aload_n 2, 1) := by decide +kernel
theorem dL_law_2360 : decode cL_law 2360 = .ok (.invokevirtual 203, 3) := by decide +kernel
theorem dL_law_2363 : decode cL_law 2363 = .ok (.iload 6, 2) := by decide +kernel
theorem dL_law_2365 : decode cL_law 2365 = .ok (.if_icmp .eq 5, 3) := by decide +kernel
theorem dL_law_2368 : decode cL_law 2368 = .ok (.iconst 0, 1) := by decide +kernel
theorem dL_law_2369 : decode cL_law 2369 = .ok (.ireturn, 1) := by decide +kernel
theorem dL_law_2370 : decode cL_law 2370 = .ok (.iload 6, 2) := by decide +kernel
theorem dL_law_2372 : decode cL_law 2372 = .ok (.ifCond .ne 35, 3) := by decide +kernel
theorem dL_law_2375 : decode cL_law 2375 = .ok (.aload 4, 2) := by decide +kernel
theorem dL_law_2377 : decode cL_law 2377 = .ok (.iconst 0, 1) := by decide +kernel
theorem dL_law_2378 : decode cL_law 2378 = .ok (.daload, 1) := by decide +kernel
theorem dL_law_2379 : decode cL_law 2379 = .ok (.dload 7, 2) := by decide +kernel
theorem dL_law_2381 : decode cL_law 2381 = .ok (.dcmp .l, 1) := by decide +kernel
theorem dL_law_2382 : decode cL_law 2382 = .ok (.ifCond .eq 25, 3) := by decide +kernel
theorem dL_law_2385 : decode cL_law 2385 = .ok (.aload 4, 2) := by decide +kernel
theorem dL_law_2387 : decode cL_law 2387 = .ok (.iconst 0, 1) := by decide +kernel
theorem dL_law_2388 : decode cL_law 2388 = .ok (.daload, 1) := by decide +kernel
theorem dL_law_2389 : decode cL_law 2389 = .ok (.aload 4, 2) := by decide +kernel
theorem dL_law_2391 : decode cL_law 2391 = .ok (.iconst 0, 1) := by decide +kernel
theorem dL_law_2392 : decode cL_law 2392 = .ok (.daload, 1) := by decide +kernel
theorem dL_law_2393 : decode cL_law 2393 = .ok (.dcmp .l, 1) := by decide +kernel
theorem dL_law_2394 : decode cL_law 2394 = .ok (.ifCond .eq 11, 3) := by decide +kernel
theorem dL_law_2397 : decode cL_law 2397 = .ok (.dload 7, 2) := by decide +kernel
theorem dL_law_2399 : decode cL_law 2399 = .ok (.dload 7, 2) := by decide +kernel
theorem dL_law_2401 : decode cL_law 2401 = .ok (.dcmp .l, 1) := by decide +kernel
theorem dL_law_2402 : decode cL_law 2402 = .ok (.ifCond .ne 5, 3) := by decide +kernel
theorem dL_law_2405 : decode cL_law 2405 = .ok (.iconst 0, 1) := by decide +kernel
theorem dL_law_2406 : decode cL_law 2406 = .ok (.ireturn, 1) := by decide +kernel
theorem dL_law_2407 : decode cL_law 2407 = .ok (.goto 1209, 3) := by decide +kernel
theorem dL_law_2410 : decode cL_law 2410 = .ok (.aload_n 1, 1) := by decide +kernel
theorem dL_law_2411 : decode cL_law 2411 = .ok (.aload_n 0, 1) := by decide +kernel
theorem dL_law_2412 : decode cL_law 2412 = .ok (.iload 5, 2) := by decide +kernel
theorem dL_law_2414 : decode cL_law 2414 = .ok (.iconst 1, 1) := by decide +kernel
theorem dL_law_2415 : decode cL_law 2415 = .ok (.iadd, 1) := by decide +kernel
theorem dL_law_2416 : decode cL_law 2416 = .ok (.iaload, 1) := by decide +kernel
theorem dL_law_2417 : decode cL_law 2417 = .ok (.aload 4, 2) := by decide +kernel
theorem dL_law_2419 : decode cL_law 2419 = .ok (.invokestatic 308, 3) := by decide +kernel
theorem dL_law_2422 : decode cL_law 2422 = .ok (.istore 6, 2) := by decide +kernel
theorem dL_law_2424 : decode cL_law 2424 = .ok (.aload_n 2, 1) := by decide +kernel
theorem dL_law_2425 : decode cL_law 2425 = .ok (.aload_n 0, 1) := by decide +kernel
theorem dL_law_2426 : decode cL_law 2426 = .ok (.iload 5, 2) := by decide +kernel
theorem dL_law_2428 : decode cL_law 2428 = .ok (.iconst 1, 1) := by decide +kernel
theorem dL_law_2429 : decode cL_law 2429 = .ok (.iadd, 1) := by decide +kernel
theorem dL_law_2430 : decode cL_law 2430 = .ok (.iaload, 1) := by decide +kernel
theorem dL_law_2431 : decode cL_law 2431 = .ok (.invokevirtual 310, 3) := by decide +kernel
theorem dL_law_2434 : decode cL_law 2434 = .ok (.fstore 7, 2) := by decide +kernel
theorem dL_law_2436 : decode cL_law 2436 = .ok (.aload_n 2, 1) := by decide +kernel
theorem dL_law_2437 : decode cL_law 2437 = .ok (.invokevirtual 203, 3) := by decide +kernel
theorem dL_law_2440 : decode cL_law 2440 = .ok (.iload 6, 2) := by decide +kernel
theorem dL_law_2442 : decode cL_law 2442 = .ok (.if_icmp .eq 5, 3) := by decide +kernel
theorem dL_law_2445 : decode cL_law 2445 = .ok (.iconst 0, 1) := by decide +kernel
theorem dL_law_2446 : decode cL_law 2446 = .ok (.ireturn, 1) := by decide +kernel
theorem dL_law_2447 : decode cL_law 2447 = .ok (.iload 6, 2) := by decide +kernel
theorem dL_law_2449 : decode cL_law 2449 = .ok (.ifCond .ne 36, 3) := by decide +kernel
theorem dL_law_2452 : decode cL_law 2452 = .ok (.aload 4, 2) := by decide +kernel
theorem dL_law_2454 : decode cL_law 2454 = .ok (.iconst 0, 1) := by decide +kernel
theorem dL_law_2455 : decode cL_law 2455 = .ok (.daload, 1) := by decide +kernel
theorem dL_law_2456 : decode cL_law 2456 = .ok (.fload 7, 2) := by decide +kernel
theorem dL_law_2458 : decode cL_law 2458 = .ok (.f2d, 1) := by decide +kernel
theorem dL_law_2459 : decode cL_law 2459 = .ok (.dcmp .l, 1) := by decide +kernel
theorem dL_law_2460 : decode cL_law 2460 = .ok (.ifCond .eq 25, 3) := by decide +kernel
theorem dL_law_2463 : decode cL_law 2463 = .ok (.aload 4, 2) := by decide +kernel
theorem dL_law_2465 : decode cL_law 2465 = .ok (.iconst 0, 1) := by decide +kernel
theorem dL_law_2466 : decode cL_law 2466 = .ok (.daload, 1) := by decide +kernel
theorem dL_law_2467 : decode cL_law 2467 = .ok (.aload 4, 2) := by decide +kernel
theorem dL_law_2469 : decode cL_law 2469 = .ok (.iconst 0, 1) := by decide +kernel
theorem dL_law_2470 : decode cL_law 2470 = .ok (.daload, 1) := by decide +kernel
theorem dL_law_2471 : decode cL_law 2471 = .ok (.dcmp .l, 1) := by decide +kernel
theorem dL_law_2472 : decode cL_law 2472 = .ok (.ifCond .eq 11, 3) := by decide +kernel
theorem dL_law_2475 : decode cL_law 2475 = .ok (.fload 7, 2) := by decide +kernel
theorem dL_law_2477 : decode cL_law 2477 = .ok (.fload 7, 2) := by decide +kernel
theorem dL_law_2479 : decode cL_law 2479 = .ok (.fcmp .l, 1) := by decide +kernel
theorem dL_law_2480 : decode cL_law 2480 = .ok (.ifCond .ne 5, 3) := by decide +kernel
theorem dL_law_2483 : decode cL_law 2483 = .ok (.iconst 0, 1) := by decide +kernel
theorem dL_law_2484 : decode cL_law 2484 = .ok (.ireturn, 1) := by decide +kernel
theorem dL_law_2485 : decode cL_law 2485 = .ok (.goto 1131, 3) := by decide +kernel
theorem dL_law_2488 : decode cL_law 2488 = .ok (.aload_n 1, 1) := by decide +kernel
theorem dL_law_2489 : decode cL_law 2489 = .ok (.aload_n 0, 1) := by decide +kernel
theorem dL_law_2490 : decode cL_law 2490 = .ok (.iload 5, 2) := by decide +kernel
theorem dL_law_2492 : decode cL_law 2492 = .ok (.iconst 1, 1) := by decide +kernel
theorem dL_law_2493 : decode cL_law 2493 = .ok (.iadd, 1) := by decide +kernel
theorem dL_law_2494 : decode cL_law 2494 = .ok (.iaload, 1) := by decide +kernel
theorem dL_law_2495 : decode cL_law 2495 = .ok (.aload_n 3, 1) := by decide +kernel
theorem dL_law_2496 : decode cL_law 2496 = .ok (.invokestatic 311, 3) := by decide +kernel
theorem dL_law_2499 : decode cL_law 2499 = .ok (.istore 6, 2) := by decide +kernel
theorem dL_law_2501 : decode cL_law 2501 = .ok (.aload_n 2, 1) := by decide +kernel
theorem dL_law_2502 : decode cL_law 2502 = .ok (.aload_n 0, 1) := by decide +kernel
theorem dL_law_2503 : decode cL_law 2503 = .ok (.iload 5, 2) := by decide +kernel
theorem dL_law_2505 : decode cL_law 2505 = .ok (.iconst 1, 1) := by decide +kernel
theorem dL_law_2506 : decode cL_law 2506 = .ok (.iadd, 1) := by decide +kernel
theorem dL_law_2507 : decode cL_law 2507 = .ok (.iaload, 1) := by decide +kernel
theorem dL_law_2508 : decode cL_law 2508 = .ok (.invokevirtual 313, 3) := by decide +kernel
theorem dL_law_2511 : decode cL_law 2511 = .ok (.istore 7, 2) := by decide +kernel
theorem dL_law_2513 : decode cL_law 2513 = .ok (.aload_n 2, 1) := by decide +kernel
theorem dL_law_2514 : decode cL_law 2514 = .ok (.invokevirtual 203, 3) := by decide +kernel
theorem dL_law_2517 : decode cL_law 2517 = .ok (.iload 6, 2) := by decide +kernel
theorem dL_law_2519 : decode cL_law 2519 = .ok (.if_icmp .eq 5, 3) := by decide +kernel
theorem dL_law_2522 : decode cL_law 2522 = .ok (.iconst 0, 1) := by decide +kernel
theorem dL_law_2523 : decode cL_law 2523 = .ok (.ireturn, 1) := by decide +kernel
theorem dL_law_2524 : decode cL_law 2524 = .ok (.iload 6, 2) := by decide +kernel
theorem dL_law_2526 : decode cL_law 2526 = .ok (.ifCond .ne 15, 3) := by decide +kernel
theorem dL_law_2529 : decode cL_law 2529 = .ok (.aload_n 3, 1) := by decide +kernel
theorem dL_law_2530 : decode cL_law 2530 = .ok (.iconst 0, 1) := by decide +kernel
theorem dL_law_2531 : decode cL_law 2531 = .ok (.laload, 1) := by decide +kernel
theorem dL_law_2532 : decode cL_law 2532 = .ok (.iload 7, 2) := by decide +kernel
theorem dL_law_2534 : decode cL_law 2534 = .ok (.i2l, 1) := by decide +kernel
theorem dL_law_2535 : decode cL_law 2535 = .ok (.lcmp, 1) := by decide +kernel
theorem dL_law_2536 : decode cL_law 2536 = .ok (.ifCond .eq 5, 3) := by decide +kernel
theorem dL_law_2539 : decode cL_law 2539 = .ok (.iconst 0, 1) := by decide +kernel
theorem dL_law_2540 : decode cL_law 2540 = .ok (.ireturn, 1) := by decide +kernel
theorem dL_law_2541 : decode cL_law 2541 = .ok (.goto 1075, 3) := by decide +kernel
theorem dL_law_2544 : decode cL_law 2544 = .ok (.aload_n 1, 1) := by decide +kernel
theorem dL_law_2545 : decode cL_law 2545 = .ok (.aload_n 0, 1) := by decide +kernel
theorem dL_law_2546 : decode cL_law 2546 = .ok (.iload 5, 2) := by decide +kernel
theorem dL_law_2548 : decode cL_law 2548 = .ok (.iconst 1, 1) := by decide +kernel
theorem dL_law_2549 : decode cL_law 2549 = .ok (.iadd, 1) := by decide +kernel
theorem dL_law_2550 : decode cL_law 2550 = .ok (.iaload, 1) := by decide +kernel
theorem dL_law_2551 : decode cL_law 2551 = .ok (.aload_n 0, 1) := by decide +kernel
theorem dL_law_2552 : decode cL_law 2552 = .ok (.iload 5, 2) := by decide +kernel
theorem dL_law_2554 : decode cL_law 2554 = .ok (.iconst 2, 1) := by decide +kernel
theorem dL_law_2555 : decode cL_law 2555 = .ok (.iadd, 1) := by decide +kernel
theorem dL_law_2556 : decode cL_law 2556 = .ok (.iaload, 1) := by decide +kernel
theorem dL_law_2557 : decode cL_law 2557 = .ok (.aload_n 0, 1) := by decide +kernel
theorem dL_law_2558 : decode cL_law 2558 = .ok (.iload 5, 2) := by decide +kernel
theorem dL_law_2560 : decode cL_law 2560 = .ok (.iconst 3, 1) := by decide +kernel
theorem dL_law_2561 : decode cL_law 2561 = .ok (.iadd, 1) := by decide +kernel
theorem dL_law_2562 : decode cL_law 2562 = .ok (.iaload, 1) := by decide +kernel
theorem dL_law_2563 : decode cL_law 2563 = .ok (.aload_n 3, 1) := by decide +kernel
theorem dL_law_2564 : decode cL_law 2564 = .ok (.invokestatic 314, 3) := by decide +kernel
theorem dL_law_2567 : decode cL_law 2567 = .ok (.istore 6, 2) := by decide +kernel
theorem dL_law_2569 : decode cL_law 2569 = .ok (.aload_n 2, 1) := by decide +kernel
theorem dL_law_2570 : decode cL_law 2570 = .ok (.aload_n 0, 1) := by decide +kernel
theorem dL_law_2571 : decode cL_law 2571 = .ok (.iload 5, 2) := by decide +kernel
theorem dL_law_2573 : decode cL_law 2573 = .ok (.iconst 1, 1) := by decide +kernel
theorem dL_law_2574 : decode cL_law 2574 = .ok (.iadd, 1) := by decide +kernel
theorem dL_law_2575 : decode cL_law 2575 = .ok (.iaload, 1) := by decide +kernel
theorem dL_law_2576 : decode cL_law 2576 = .ok (.aload_n 0, 1) := by decide +kernel
theorem dL_law_2577 : decode cL_law 2577 = .ok (.iload 5, 2) := by decide +kernel
theorem dL_law_2579 : decode cL_law 2579 = .ok (.iconst 2, 1) := by decide +kernel
theorem dL_law_2580 : decode cL_law 2580 = .ok (.iadd, 1) := by decide +kernel
theorem dL_law_2581 : decode cL_law 2581 = .ok (.iaload, 1) := by decide +kernel
theorem dL_law_2582 : decode cL_law 2582 = .ok (.aload_n 0, 1) := by decide +kernel
theorem dL_law_2583 : decode cL_law 2583 = .ok (.iload 5, 2) := by decide +kernel
theorem dL_law_2585 : decode cL_law 2585 = .ok (.iconst 3, 1) := by decide +kernel
theorem dL_law_2586 : decode cL_law 2586 = .ok (.iadd, 1) := by decide +kernel
theorem dL_law_2587 : decode cL_law 2587 = .ok (.iaload, 1) := by decide +kernel
theorem dL_law_2588 : decode cL_law 2588 = .ok (.invokevirtual 316, 3) := by decide +kernel
theorem dL_law_2591 : decode cL_law 2591 = .ok (.istore 7, 2) := by decide +kernel
theorem dL_law_2593 : decode cL_law 2593 = .ok (.aload_n 2, 1) := by decide +kernel
theorem dL_law_2594 : decode cL_law 2594 = .ok (.invokevirtual 203, 3) := by decide +kernel
theorem dL_law_2597 : decode cL_law 2597 = .ok (.iload 6, 2) := by decide +kernel
theorem dL_law_2599 : decode cL_law 2599 = .ok (.if_icmp .eq 5, 3) := by decide +kernel
theorem dL_law_2602 : decode cL_law 2602 = .ok (.iconst 0, 1) := by decide +kernel
theorem dL_law_2603 : decode cL_law 2603 = .ok (.ireturn, 1) := by decide +kernel
theorem dL_law_2604 : decode cL_law 2604 = .ok (.iload 6, 2) := by decide +kernel
theorem dL_law_2606 : decode cL_law 2606 = .ok (.ifCond .ne 15, 3) := by decide +kernel
theorem dL_law_2609 : decode cL_law 2609 = .ok (.aload_n 3, 1) := by decide +kernel
theorem dL_law_2610 : decode cL_law 2610 = .ok (.iconst 0, 1) := by decide +kernel
theorem dL_law_2611 : decode cL_law 2611 = .ok (.laload, 1) := by decide +kernel
theorem dL_law_2612 : decode cL_law 2612 = .ok (.iload 7, 2) := by decide +kernel
theorem dL_law_2614 : decode cL_law 2614 = .ok (.i2l, 1) := by decide +kernel
theorem dL_law_2615 : decode cL_law 2615 = .ok (.lcmp, 1) := by decide +kernel
theorem dL_law_2616 : decode cL_law 2616 = .ok (.ifCond .eq 5, 3) := by decide +kernel
theorem dL_law_2619 : decode cL_law 2619 = .ok (.iconst 0, 1) := by decide +kernel
theorem dL_law_2620 : decode cL_law 2620 = .ok (.ireturn, 1) := by decide +kernel
theorem dL_law_2621 : decode cL_law 2621 = .ok (.goto 995, 3) := by decide +kernel
theorem dL_law_2624 : decode cL_law 2624 = .ok (.aload_n 1, 1) := by decide +kernel
theorem dL_law_2625 : decode cL_law 2625 = .ok (.aload_n 0, 1) := by decide +kernel
theorem dL_law_2626 : decode cL_law 2626 = .ok (.iload 5, 2) := by decide +kernel
theorem dL_law_2628 : decode cL_law 2628 = .ok (.iconst 1, 1) := by decide +kernel
theorem dL_law_2629 : decode cL_law 2629 = .ok (.iadd, 1) := by decide +kernel
theorem dL_law_2630 : decode cL_law 2630 = .ok (.iaload, 1) := by decide +kernel
theorem dL_law_2631 : decode cL_law 2631 = .ok (.aload_n 0, 1) := by decide +kernel
theorem dL_law_2632 : decode cL_law 2632 = .ok (.iload 5, 2) := by decide +kernel
theorem dL_law_2634 : decode cL_law 2634 = .ok (.iconst 2, 1) := by decide +kernel
theorem dL_law_2635 : decode cL_law 2635 = .ok (.iadd, 1) := by decide +kernel
theorem dL_law_2636 : decode cL_law 2636 = .ok (.iaload, 1) := by decide +kernel
theorem dL_law_2637 : decode cL_law 2637 = .ok (.aload_n 0, 1) := by decide +kernel
theorem dL_law_2638 : decode cL_law 2638 = .ok (.iload 5, 2) := by decide +kernel
theorem dL_law_2640 : decode cL_law 2640 = .ok (.iconst 3, 1) := by decide +kernel
theorem dL_law_2641 : decode cL_law 2641 = .ok (.iadd, 1) := by decide +kernel
theorem dL_law_2642 : decode cL_law 2642 = .ok (.iaload, 1) := by decide +kernel
theorem dL_law_2643 : decode cL_law 2643 = .ok (.aload_n 3, 1) := by decide +kernel
theorem dL_law_2644 : decode cL_law 2644 = .ok (.invokestatic 317, 3) := by decide +kernel
theorem dL_law_2647 : decode cL_law 2647 = .ok (.istore 6, 2) := by decide +kernel
theorem dL_law_2649 : decode cL_law 2649 = .ok (.aload_n 2, 1) := by decide +kernel
theorem dL_law_2650 : decode cL_law 2650 = .ok (.aload_n 0, 1) := by decide +kernel
theorem dL_law_2651 : decode cL_law 2651 = .ok (.iload 5, 2) := by decide +kernel
theorem dL_law_2653 : decode cL_law 2653 = .ok (.iconst 1, 1) := by decide +kernel
theorem dL_law_2654 : decode cL_law 2654 = .ok (.iadd, 1) := by decide +kernel
theorem dL_law_2655 : decode cL_law 2655 = .ok (.iaload, 1) := by decide +kernel
theorem dL_law_2656 : decode cL_law 2656 = .ok (.aload_n 0, 1) := by decide +kernel
theorem dL_law_2657 : decode cL_law 2657 = .ok (.iload 5, 2) := by decide +kernel
theorem dL_law_2659 : decode cL_law 2659 = .ok (.iconst 2, 1) := by decide +kernel
theorem dL_law_2660 : decode cL_law 2660 = .ok (.iadd, 1) := by decide +kernel
theorem dL_law_2661 : decode cL_law 2661 = .ok (.iaload, 1) := by decide +kernel
theorem dL_law_2662 : decode cL_law 2662 = .ok (.aload_n 0, 1) := by decide +kernel
theorem dL_law_2663 : decode cL_law 2663 = .ok (.iload 5, 2) := by decide +kernel
theorem dL_law_2665 : decode cL_law 2665 = .ok (.iconst 3, 1) := by decide +kernel
theorem dL_law_2666 : decode cL_law 2666 = .ok (.iadd, 1) := by decide +kernel
theorem dL_law_2667 : decode cL_law 2667 = .ok (.iaload, 1) := by decide +kernel
theorem dL_law_2668 : decode cL_law 2668 = .ok (.invokevirtual 319, 3) := by decide +kernel
theorem dL_law_2671 : decode cL_law 2671 = .ok (.istore 7, 2) := by decide +kernel
theorem dL_law_2673 : decode cL_law 2673 = .ok (.aload_n 2, 1) := by decide +kernel
theorem dL_law_2674 : decode cL_law 2674 = .ok (.invokevirtual 203, 3) := by decide +kernel
theorem dL_law_2677 : decode cL_law 2677 = .ok (.iload 6, 2) := by decide +kernel
theorem dL_law_2679 : decode cL_law 2679 = .ok (.if_icmp .eq 5, 3) := by decide +kernel
theorem dL_law_2682 : decode cL_law 2682 = .ok (.iconst 0, 1) := by decide +kernel
theorem dL_law_2683 : decode cL_law 2683 = .ok (.ireturn, 1) := by decide +kernel
theorem dL_law_2684 : decode cL_law 2684 = .ok (.iload 6, 2) := by decide +kernel
theorem dL_law_2686 : decode cL_law 2686 = .ok (.ifCond .ne 15, 3) := by decide +kernel
theorem dL_law_2689 : decode cL_law 2689 = .ok (.aload_n 3, 1) := by decide +kernel
theorem dL_law_2690 : decode cL_law 2690 = .ok (.iconst 0, 1) := by decide +kernel
theorem dL_law_2691 : decode cL_law 2691 = .ok (.laload, 1) := by decide +kernel
theorem dL_law_2692 : decode cL_law 2692 = .ok (.iload 7, 2) := by decide +kernel
theorem dL_law_2694 : decode cL_law 2694 = .ok (.i2l, 1) := by decide +kernel
theorem dL_law_2695 : decode cL_law 2695 = .ok (.lcmp, 1) := by decide +kernel
theorem dL_law_2696 : decode cL_law 2696 = .ok (.ifCond .eq 5, 3) := by decide +kernel
theorem dL_law_2699 : decode cL_law 2699 = .ok (.iconst 0, 1) := by decide +kernel
theorem dL_law_2700 : decode cL_law 2700 = .ok (.ireturn, 1) := by decide +kernel
theorem dL_law_2701 : decode cL_law 2701 = .ok (.goto 915, 3) := by decide +kernel
theorem dL_law_2704 : decode cL_law 2704 = .ok (.aload_n 1, 1) := by decide +kernel
theorem dL_law_2705 : decode cL_law 2705 = .ok (.aload_n 0, 1) := by decide +kernel
theorem dL_law_2706 : decode cL_law 2706 = .ok (.iload 5, 2) := by decide +kernel
theorem dL_law_2708 : decode cL_law 2708 = .ok (.iconst 1, 1) := by decide +kernel
theorem dL_law_2709 : decode cL_law 2709 = .ok (.iadd, 1) := by decide +kernel
theorem dL_law_2710 : decode cL_law 2710 = .ok (.iaload, 1) := by decide +kernel
theorem dL_law_2711 : decode cL_law 2711 = .ok (.aload_n 3, 1) := by decide +kernel
theorem dL_law_2712 : decode cL_law 2712 = .ok (.invokestatic 320, 3) := by decide +kernel
theorem dL_law_2715 : decode cL_law 2715 = .ok (.istore 6, 2) := by decide +kernel
theorem dL_law_2717 : decode cL_law 2717 = .ok (.aload_n 2, 1) := by decide +kernel
theorem dL_law_2718 : decode cL_law 2718 = .ok (.aload_n 0, 1) := by decide +kernel
theorem dL_law_2719 : decode cL_law 2719 = .ok (.iload 5, 2) := by decide +kernel
theorem dL_law_2721 : decode cL_law 2721 = .ok (.iconst 1, 1) := by decide +kernel
theorem dL_law_2722 : decode cL_law 2722 = .ok (.iadd, 1) := by decide +kernel
theorem dL_law_2723 : decode cL_law 2723 = .ok (.iaload, 1) := by decide +kernel
theorem dL_law_2724 : decode cL_law 2724 = .ok (.invokevirtual 322, 3) := by decide +kernel
theorem dL_law_2727 : decode cL_law 2727 = .ok (.istore 7, 2) := by decide +kernel
theorem dL_law_2729 : decode cL_law 2729 = .ok (.aload_n 2, 1) := by decide +kernel
theorem dL_law_2730 : decode cL_law 2730 = .ok (.invokevirtual 203, 3) := by decide +kernel
theorem dL_law_2733 : decode cL_law 2733 = .ok (.iload 6, 2) := by decide +kernel
theorem dL_law_2735 : decode cL_law 2735 = .ok (.if_icmp .eq 5, 3) := by decide +kernel
theorem dL_law_2738 : decode cL_law 2738 = .ok (.iconst 0, 1) := by decide +kernel
theorem dL_law_2739 : decode cL_law 2739 = .ok (.ireturn, 1) := by decide +kernel
theorem dL_law_2740 : decode cL_law 2740 = .ok (.iload 6, 2) := by decide +kernel
theorem dL_law_2742 : decode cL_law 2742 = .ok (.ifCond .ne 15, 3) := by decide +kernel
theorem dL_law_2745 : decode cL_law 2745 = .ok (.aload_n 3, 1) := by decide +kernel
theorem dL_law_2746 : decode cL_law 2746 = .ok (.iconst 0, 1) := by decide +kernel
theorem dL_law_2747 : decode cL_law 2747 = .ok (.laload, 1) := by decide +kernel
theorem dL_law_2748 : decode cL_law 2748 = .ok (.iload 7, 2) := by decide +kernel
theorem dL_law_2750 : decode cL_law 2750 = .ok (.i2l, 1) := by decide +kernel
theorem dL_law_2751 : decode cL_law 2751 = .ok (.lcmp, 1) := by decide +kernel
theorem dL_law_2752 : decode cL_law 2752 = .ok (.ifCond .eq 5, 3) := by decide +kernel
theorem dL_law_2755 : decode cL_law 2755 = .ok (.iconst 0, 1) := by decide +kernel
theorem dL_law_2756 : decode cL_law 2756 = .ok (.ireturn, 1) := by decide +kernel
theorem dL_law_2757 : decode cL_law 2757 = .ok (.goto 859, 3) := by decide +kernel
theorem dL_law_2760 : decode cL_law 2760 = .ok (.aload_n 1, 1) := by decide +kernel
theorem dL_law_2761 : decode cL_law 2761 = .ok (.aload_n 0, 1) := by decide +kernel
theorem dL_law_2762 : decode cL_law 2762 = .ok (.iload 5, 2) := by decide +kernel
theorem dL_law_2764 : decode cL_law 2764 = .ok (.iconst 1, 1) := by decide +kernel
theorem dL_law_2765 : decode cL_law 2765 = .ok (.iadd, 1) := by decide +kernel
theorem dL_law_2766 : decode cL_law 2766 = .ok (.iaload, 1) := by decide +kernel
theorem dL_law_2767 : decode cL_law 2767 = .ok (.aload_n 0, 1) := by decide +kernel
theorem dL_law_2768 : decode cL_law 2768 = .ok (.iload 5, 2) := by decide +kernel
theorem dL_law_2770 : decode cL_law 2770 = .ok (.iconst 2, 1) := by decide +kernel
theorem dL_law_2771 : decode cL_law 2771 = .ok (.iadd, 1) := by decide +kernel
theorem dL_law_2772 : decode cL_law 2772 = .ok (.iaload, 1) := by decide +kernel
