/-! rows of the law's own code -/
theorem dL_law__1980 : decode cL_law_ 1980 = .ok (.aload_n 3, 1) := by decide +kernel
theorem dL_law__1981 : decode cL_law_ 1981 = .ok (.iconst 0, 1) := by decide +kernel
theorem dL_law__1982 : decode cL_law_ 1982 = .ok (.laload, 1) := by decide +kernel
theorem dL_law__1983 : decode cL_law_ 1983 = .ok (.iload 6, 2) := by decide +kernel
theorem dL_law__1985 : decode cL_law_ 1985 = .ok (.i2l, 1) := by decide +kernel
theorem dL_law__1986 : decode cL_law_ 1986 = .ok (.lcmp, 1) := by decide +kernel
theorem dL_law__1987 : decode cL_law_ 1987 = .ok (.ifCond .eq 5, 3) := by decide +kernel
theorem dL_law__1990 : decode cL_law_ 1990 = .ok (.iconst 0, 1) := by decide +kernel
theorem dL_law__1991 : decode cL_law_ 1991 = .ok (.ireturn, 1) := by decide +kernel
theorem dL_law__1992 : decode cL_law_ 1992 = .ok (.goto 326, 3) := by decide +kernel
theorem dL_law__1995 : decode cL_law_ 1995 = .ok (.aload_n 1, 1) := by decide +kernel
theorem dL_law__1996 : decode cL_law_ 1996 = .ok (.aload_n 0, 1) := by decide +kernel
theorem dL_law__1997 : decode cL_law_ 1997 = .ok (.iload 4, 2) := by decide +kernel
theorem dL_law__1999 : decode cL_law_ 1999 = .ok (.iconst 1, 1) := by decide +kernel
theorem dL_law__2000 : decode cL_law_ 2000 = .ok (.iadd, 1) := by decide +kernel
theorem dL_law__2001 : decode cL_law_ 2001 = .ok (.iaload, 1) := by decide +kernel
theorem dL_law__2002 : decode cL_law_ 2002 = .ok (.aload_n 0, 1) := by decide +kernel
theorem dL_law__2003 : decode cL_law_ 2003 = .ok (.iload 4, 2) := by decide +kernel
theorem dL_law__2005 : decode cL_law_ 2005 = .ok (.iconst 2, 1) := by decide +kernel
theorem dL_law__2006 : decode cL_law_ 2006 = .ok (.iadd, 1) := by decide +kernel
theorem dL_law__2007 : decode cL_law_ 2007 = .ok (.iaload, 1) := by decide +kernel
theorem dL_law__2008 : decode cL_law_ 2008 = .ok (.ifCond .eq 7, 3) := by decide +kernel
theorem dL_law__2011 : decode cL_law_ 2011 = .ok (.iconst 1, 1) := by decide +kernel
theorem dL_law__2012 : decode cL_law_ 2012 = .ok (.goto 4, 3) := by decide +kernel
theorem dL_law__2015 : decode cL_law_ 2015 = .ok (.iconst 0, 1) := by decide +kernel
theorem dL_law__2016 : decode cL_law_ 2016 = .ok (.aload_n 3, 1) := by decide +kernel
theorem dL_law__2017 : decode cL_law_ 2017 = .ok (.invokestatic 255, 3) := by decide +kernel
theorem dL_law__2020 : decode cL_law_ 2020 = .ok (.istore 5, 2) := by decide +kernel
theorem dL_law__2022 : decode cL_law_ 2022 = .ok (.aload_n 2, 1) := by decide +kernel
theorem dL_law__2023 : decode cL_law_ 2023 = .ok (.aload_n 0, 1) := by decide +kernel
theorem dL_law__2024 : decode cL_law_ 2024 = .ok (.iload 4, 2) := by decide +kernel
theorem dL_law__2026 : decode cL_law_ 2026 = .ok (.iconst 1, 1) := by decide +kernel
theorem dL_law__2027 : decode cL_law_ 2027 = .ok (.iadd, 1) := by decide +kernel
theorem dL_law__2028 : decode cL_law_ 2028 = .ok (.iaload, 1) := by decide +kernel
theorem dL_law__2029 : decode cL_law_ 2029 = .ok (.aload_n 0, 1) := by decide +kernel
theorem dL_law__2030 : decode cL_law_ 2030 = .ok (.iload 4, 2) := by decide +kernel
theorem dL_law__2032 : decode cL_law_ 2032 = .ok (.iconst 2, 1) := by decide +kernel
theorem dL_law__2033 : decode cL_law_ 2033 = .ok (.iadd, 1) := by decide +kernel
theorem dL_law__2034 : decode cL_law_ 2034 = .ok (.iaload, 1) := by decide +kernel
theorem dL_law__2035 : decode cL_law_ 2035 = .ok (.ifCond .eq 7, 3) := by decide +kernel
theorem dL_law__2038 : decode cL_law_ 2038 = .ok (.iconst 1, 1) := by decide +kernel
theorem dL_law__2039 : decode cL_law_ 2039 = .ok (.goto 4, 3) := by decide +kernel
theorem dL_law__2042 : decode cL_law_ 2042 = .ok (.iconst 0, 1) := by decide +kernel
theorem dL_law__2043 : decode cL_law_ 2043 = .ok (.invokevirtual 257, 3) := by decide +kernel
theorem dL_law__2046 : decode cL_law_ 2046 = .ok (.istore 6, 2) := by decide +kernel
theorem dL_law__2048 : decode cL_law_ 2048 = .ok (.aload_n 2, 1) := by decide +kernel
theorem dL_law__2049 : decode cL_law_ 2049 = .ok (.invokevirtual 125, 3) := by decide +kernel
theorem dL_law__2052 : decode cL_law_ 2052 = .ok (.iload 5, 2) := by decide +kernel
theorem dL_law__2054 : decode cL_law_ 2054 = .ok (.if_icmp .eq 5, 3) := by decide +kernel
theorem dL_law__2057 : decode cL_law_ 2057 = .ok (.iconst 0, 1) := by decide +kernel
theorem dL_law__2058 : decode cL_law_ 2058 = .ok (.ireturn, 1) := by decide +kernel
theorem dL_law__2059 : decode cL_law_ 2059 = .ok (.iload 5, 2) := by decide +kernel
theorem dL_law__2061 : decode cL_law_ 2061 = .ok (.ifCond .ne 15, 3) := by decide +kernel
theorem dL_law__2064 : decode cL_law_ 2064 = .ok (.aload_n 3, 1) := by decide +kernel
theorem dL_law__2065 : decode cL_law_ 2065 = .ok (.iconst 0, 1) := by decide +kernel
theorem dL_law__2066 : decode cL_law_ 2066 = .ok (.laload, 1) := by decide +kernel
theorem dL_law__2067 : decode cL_law_ 2067 = .ok (.iload 6, 2) := by decide +kernel
theorem dL_law__2069 : decode cL_law_ 2069 = .ok (.i2l, 1) := by decide +kernel
theorem dL_law__2070 : decode cL_law_ 2070 = .ok (.lcmp, 1) := by decide +kernel
theorem dL_law__2071 : decode cL_law_ 2071 = .ok (.ifCond .eq 5, 3) := by decide +kernel
theorem dL_law__2074 : decode cL_law_ 2074 = .ok (.iconst 0, 1) := by decide +kernel
theorem dL_law__2075 : decode cL_law_ 2075 = .ok (.ireturn, 1) := by decide +kernel
theorem dL_law__2076 : decode cL_law_ 2076 = .ok (.goto 242, 3) := by decide +kernel
theorem dL_law__2079 : decode cL_law_ 2079 = .ok (.aload_n 1, 1) := by decide +kernel
theorem dL_law__2080 : decode cL_law_ 2080 = .ok (.aload_n 0, 1) := by decide +kernel
theorem dL_law__2081 : decode cL_law_ 2081 = .ok (.iload 4, 2) := by decide +kernel
theorem dL_law__2083 : decode cL_law_ 2083 = .ok (.iconst 1, 1) := by decide +kernel
theorem dL_law__2084 : decode cL_law_ 2084 = .ok (.iadd, 1) := by decide +kernel
theorem dL_law__2085 : decode cL_law_ 2085 = .ok (.iaload, 1) := by decide +kernel
theorem dL_law__2086 : decode cL_law_ 2086 = .ok (.aload_n 0, 1) := by decide +kernel
theorem dL_law__2087 : decode cL_law_ 2087 = .ok (.iload 4, 2) := by decide +kernel
theorem dL_law__2089 : decode cL_law_ 2089 = .ok (.iconst 2, 1) := by decide +kernel
theorem dL_law__2090 : decode cL_law_ 2090 = .ok (.iadd, 1) := by decide +kernel
theorem dL_law__2091 : decode cL_law_ 2091 = .ok (.iaload, 1) := by decide +kernel
theorem dL_law__2092 : decode cL_law_ 2092 = .ok (.ifCond .eq 7, 3) := by decide +kernel
theorem dL_law__2095 : decode cL_law_ 2095 = .ok (.iconst 1, 1) := by decide +kernel
theorem dL_law__2096 : decode cL_law_ 2096 = .ok (.goto 4, 3) := by decide +kernel
theorem dL_law__2099 : decode cL_law_ 2099 = .ok (.iconst 0, 1) := by decide +kernel
theorem dL_law__2100 : decode cL_law_ 2100 = .ok (.aload_n 3, 1) := by decide +kernel
theorem dL_law__2101 : decode cL_law_ 2101 = .ok (.invokestatic 258, 3) := by decide +kernel
theorem dL_law__2104 : decode cL_law_ 2104 = .ok (.istore 5, 2) := by decide +kernel
theorem dL_law__2106 : decode cL_law_ 2106 = .ok (.aload_n 2, 1) := by decide +kernel
theorem dL_law__2107 : decode cL_law_ 2107 = .ok (.aload_n 0, 1) := by decide +kernel
theorem dL_law__2108 : decode cL_law_ 2108 = .ok (.iload 4, 2) := by decide +kernel
theorem dL_law__2110 : decode cL_law_ 2110 = .ok (.iconst 1, 1) := by decide +kernel
theorem dL_law__2111 : decode cL_law_ 2111 = .ok (.iadd, 1) := by decide +kernel
theorem dL_law__2112 : decode cL_law_ 2112 = .ok (.iaload, 1) := by decide +kernel
theorem dL_law__2113 : decode cL_law_ 2113 = .ok (.aload_n 0, 1) := by decide +kernel
theorem dL_law__2114 : decode cL_law_ 2114 = .ok (.iload 4, 2) := by decide +kernel
theorem dL_law__2116 : decode cL_law_ 2116 = .ok (.iconst 2, 1) := by decide +kernel
theorem dL_law__2117 : decode cL_law_ 2117 = .ok (.iadd, 1) := by decide +kernel
theorem dL_law__2118 : decode cL_law_ 2118 = .ok (.iaload, 1) := by decide +kernel
theorem dL_law__2119 : decode cL_law_ 2119 = .ok (.ifCond .eq 7, 3) := by decide +kernel
theorem dL_law__2122 : decode cL_law_ 2122 = .ok (.iconst 1, 1) := by decide +kernel
theorem dL_law__2123 : decode cL_law_ 2123 = .ok (.goto 4, 3) := by decide +kernel
theorem dL_law__2126 : decode cL_law_ 2126 = .ok (.iconst 0, 1) := by decide +kernel
theorem dL_law__2127 : decode cL_law_ 2127 = .ok (.invokevirtual 260, 3) := by decide +kernel
theorem dL_law__2130 : decode cL_law_ 2130 = .ok (.istore 6, 2) := by decide +kernel
theorem dL_law__2132 : decode cL_law_ 2132 = .ok (.aload_n 2, 1) := by decide +kernel
theorem dL_law__2133 : decode cL_law_ 2133 = .ok (.invokevirtual 125, 3) := by decide +kernel
theorem dL_law__2136 : decode cL_law_ 2136 = .ok (.iload 5, 2) := by decide +kernel
theorem dL_law__2138 : decode cL_law_ 2138 = .ok (.if_icmp .eq 5, 3) := by decide +kernel
theorem dL_law__2141 : decode cL_law_ 2141 = .ok (.iconst 0, 1) := by decide +kernel
theorem dL_law__2142 : decode cL_law_ 2142 = .ok (.ireturn, 1) := by decide +kernel
theorem dL_law__2143 : decode cL_law_ 2143 = .ok (.iload 5, 2) := by decide +kernel
theorem dL_law__2145 : decode cL_law_ 2145 = .ok (.ifCond .ne 15, 3) := by decide +kernel
theorem dL_law__2148 : decode cL_law_ 2148 = .ok (.aload_n 3, 1) := by decide +kernel
theorem dL_law__2149 : decode cL_law_ 2149 = .ok (.iconst 0, 1) := by decide +kernel
theorem dL_law__2150 : decode cL_law_ 2150 = .ok (.laload, 1) := by decide +kernel
theorem dL_law__2151 : decode cL_law_ 2151 = .ok (.iload 6, 2) := by decide +kernel
theorem dL_law__2153 : decode cL_law_ 2153 = .ok (.i2l, 1) := by decide +kernel
theorem dL_law__2154 : decode cL_law_ 2154 = .ok (.lcmp, 1) := by decide +kernel
theorem dL_law__2155 : decode cL_law_ 2155 = .ok (.ifCond .eq 5, 3) := by decide +kernel
theorem dL_law__2158 : decode cL_law_ 2158 = .ok (.iconst 0, 1) := by decide +kernel
theorem dL_law__2159 : decode cL_law_ 2159 = .ok (.ireturn, 1) := by decide +kernel
theorem dL_law__2160 : decode cL_law_ 2160 = .ok (.goto 158, 3) := by decide +kernel
theorem dL_law__2163 : decode cL_law_ 2163 = .ok (.aload_n 1, 1) := by decide +kernel
theorem dL_law__2164 : decode cL_law_ 2164 = .ok (.aload_n 0, 1) := by decide +kernel
theorem dL_law__2165 : decode cL_law_ 2165 = .ok (.iload 4, 2) := by decide +kernel
theorem dL_law__2167 : decode cL_law_ 2167 = .ok (.iconst 1, 1) := by decide +kernel
theorem dL_law__2168 : decode cL_law_ 2168 = .ok (.iadd, 1) := by decide +kernel
theorem dL_law__2169 : decode cL_law_ 2169 = .ok (.iaload, 1) := by decide +kernel
theorem dL_law__2170 : decode cL_law_ 2170 = .ok (.aload_n 0, 1) := by decide +kernel
theorem dL_law__2171 : decode cL_law_ 2171 = .ok (.iload 4, 2) := by decide +kernel
theorem dL_law__2173 : decode cL_law_ 2173 = .ok (.iconst 2, 1) := by decide +kernel
theorem dL_law__2174 : decode cL_law_ 2174 = .ok (.iadd, 1) := by decide +kernel
theorem dL_law__2175 : decode cL_law_ 2175 = .ok (.iaload, 1) := by decide +kernel
theorem dL_law__2176 : decode cL_law_ 2176 = .ok (.aload_n 3, 1) := by decide +kernel
theorem dL_law__2177 : decode cL_law_ 2177 = .ok (.invokestatic 261, 3) := by decide +kernel
theorem dL_law__2180 : decode cL_law_ 2180 = .ok (.istore 5, 2) := by decide +kernel
theorem dL_law__2182 : decode cL_law_ 2182 = .ok (.aload_n 2, 1) := by decide +kernel
theorem dL_law__2183 : decode cL_law_ 2183 = .ok (.aload_n 0, 1) := by decide +kernel
theorem dL_law__2184 : decode cL_law_ 2184 = .ok (.iload 4, 2) := by decide +kernel
theorem dL_law__2186 : decode cL_law_ 2186 = .ok (.iconst 1, 1) := by decide +kernel
theorem dL_law__2187 : decode cL_law_ 2187 = .ok (.iadd, 1) := by decide +kernel
theorem dL_law__2188 : decode cL_law_ 2188 = .ok (.iaload, 1) := by decide +kernel
theorem dL_law__2189 : decode cL_law_ 2189 = .ok (.aload_n 0, 1) := by decide +kernel
theorem dL_law__2190 : decode cL_law_ 2190 = .ok (.iload 4, 2) := by decide +kernel
theorem dL_law__2192 : decode cL_law_ 2192 = .ok (.iconst 2, 1) := by decide +kernel
theorem dL_law__2193 : decode cL_law_ 2193 = .ok (.iadd, 1) := by decide +kernel
theorem dL_law__2194 : decode cL_law_ 2194 = .ok (.iaload, 1) := by decide +kernel
theorem dL_law__2195 : decode cL_law_ 2195 = .ok (.invokevirtual 263, 3) := by decide +kernel
theorem dL_law__2198 : decode cL_law_ 2198 = .ok (.istore 6, 2) := by decide +kernel
theorem dL_law__2200 : decode cL_law_ 2200 = .ok (.aload_n 2, 1) := by decide +kernel
theorem dL_law__2201 : decode cL_law_ 2201 = .ok (.invokevirtual 125, 3) := by decide +kernel
theorem dL_law__2204 : decode cL_law_ 2204 = .ok (.iload 5, 2) := by decide +kernel
theorem dL_law__2206 : decode cL_law_ 2206 = .ok (.if_icmp .eq 5, 3) := by decide +kernel
theorem dL_law__2209 : decode cL_law_ 2209 = .ok (.iconst 0, 1) := by decide +kernel
theorem dL_law__2210 : decode cL_law_ 2210 = .ok (.ireturn, 1) := by decide +kernel
theorem dL_law__2211 : decode cL_law_ 2211 = .ok (.iload 5, 2) := by decide +kernel
theorem dL_law__2213 : decode cL_law_ 2213 = .ok (.ifCond .ne 15, 3) := by decide +kernel
theorem dL_law__2216 : decode cL_law_ 2216 = .ok (.aload_n 3, 1) := by decide +kernel
theorem dL_law__2217 : decode cL_law_ 2217 = .ok (.iconst 0, 1) := by decide +kernel
theorem dL_law__2218 : decode cL_law_ 2218 = .ok (.laload, 1) := by decide +kernel
theorem dL_law__2219 : decode cL_law_ 2219 = .ok (.iload 6, 2) := by decide +kernel
theorem dL_law__2221 : decode cL_law_ 2221 = .ok (.i2l, 1) := by decide +kernel
theorem dL_law__2222 : decode cL_law_ 2222 = .ok (.lcmp, 1) := by decide +kernel
theorem dL_law__2223 : decode cL_law_ 2223 = .ok (.ifCond .eq 5, 3) := by decide +kernel
theorem dL_law__2226 : decode cL_law_ 2226 = .ok (.iconst 0, 1) := by decide +kernel
theorem dL_law__2227 : decode cL_law_ 2227 = .ok (.ireturn, 1) := by decide +kernel
theorem dL_law__2228 : decode cL_law_ 2228 = .ok (.goto 90, 3) := by decide +kernel
theorem dL_law__2231 : decode cL_law_ 2231 = .ok (.aload_n 1, 1) := by decide +kernel
theorem dL_law__2232 : decode cL_law_ 2232 = .ok (.aload_n 0, 1) := by decide +kernel
theorem dL_law__2233 : decode cL_law_ 2233 = .ok (.iload 4, 2) := by decide +kernel
theorem dL_law__2235 : decode cL_law_ 2235 = .ok (.iconst 1, 1) := by decide +kernel
theorem dL_law__2236 : decode cL_law_ 2236 = .ok (.iadd, 1) := by decide +kernel
theorem dL_law__2237 : decode cL_law_ 2237 = .ok (.iaload, 1) := by decide +kernel
theorem dL_law__2238 : decode cL_law_ 2238 = .ok (.invokevirtual 264, 3) := by decide +kernel
theorem dL_law__2241 : decode cL_law_ 2241 = .ok (.aload_n 2, 1) := by decide +kernel
theorem dL_law__2242 : decode cL_law_ 2242 = .ok (.aload_n 0, 1) := by decide +kernel
theorem dL_law__2243 : decode cL_law_ 2243 = .ok (.iload 4, 2) := by decide +kernel
theorem dL_law__2245 : decode cL_law_ 2245 = .ok (.iconst 1, 1) := by decide +kernel
theorem dL_law__2246 : decode cL_law_ 2246 = .ok (.iadd, 1) := by decide +kernel
theorem dL_law__2247 : decode cL_law_ 2247 = .ok (.iaload, 1) := by decide +kernel
theorem dL_law__2248 : decode cL_law_ 2248 = .ok (.invokevirtual 267, 3) := by decide +kernel
theorem dL_law__2251 : decode cL_law_ 2251 = .ok (.if_icmp .eq 67, 3) := by decide +kernel
theorem dL_law__2254 : decode cL_law_ 2254 = .ok (.iconst 0, 1) := by decide +kernel
theorem dL_law__2255 : decode cL_law_ 2255 = .ok (.ireturn, 1) := by decide +kernel
theorem dL_law__2256 : decode cL_law_ 2256 = .ok (.aload_n 1, 1) := by decide +kernel
theorem dL_law__2257 : decode cL_law_ 2257 = .ok (.invokevirtual 268, 3) := by decide +kernel
theorem dL_law__2260 : decode cL_law_ 2260 = .ok (.aload_n 2, 1) := by decide +kernel
theorem dL_law__2261 : decode cL_law_ 2261 = .ok (.invokevirtual 272, 3) := by decide +kernel
theorem dL_law__2264 : decode cL_law_ 2264 = .ok (.if_icmp .eq 54, 3) := by decide +kernel
theorem dL_law__2267 : decode cL_law_ 2267 = .ok (.iconst 0, 1) := by decide +kernel
theorem dL_law__2268 : decode cL_law_ 2268 = .ok (.ireturn, 1) := by decide +kernel
theorem dL_law__2269 : decode cL_law_ 2269 = .ok (.aload_n 1, 1) := by decide +kernel
theorem dL_law__2270 : decode cL_law_ 2270 = .ok (.invokevirtual 273, 3) := by decide +kernel
theorem dL_law__2273 : decode cL_law_ 2273 = .ok (.aload_n 2, 1) := by decide +kernel
theorem dL_law__2274 : decode cL_law_ 2274 = .ok (.invokevirtual 276, 3) := by decide +kernel
theorem dL_law__2277 : decode cL_law_ 2277 = .ok (.goto 41, 3) := by decide +kernel
theorem dL_law__2280 : decode cL_law_ 2280 = .ok (.aload_n 1, 1) := by decide +kernel
theorem dL_law__2281 : decode cL_law_ 2281 = .ok (.invokevirtual 277, 3) := by decide +kernel
theorem dL_law__2284 : decode cL_law_ 2284 = .ok (.aload_n 2, 1) := by decide +kernel
theorem dL_law__2285 : decode cL_law_ 2285 = .ok (.invokevirtual 280, 3) := by decide +kernel
theorem dL_law__2288 : decode cL_law_ 2288 = .ok (.if_icmp .eq 30, 3) := by decide +kernel
theorem dL_law__2291 : decode cL_law_ 2291 = .ok (.iconst 0, 1) := by decide +kernel
theorem dL_law__2292 : decode cL_law_ 2292 = .ok (.ireturn, 1) := by decide +kernel
theorem dL_law__2293 : decode cL_law_ 2293 = .ok (.aload_n 1, 1) := by decide +kernel
theorem dL_law__2294 : decode cL_law_ 2294 = .ok (.aload_n 0, 1) := by decide +kernel
theorem dL_law__2295 : decode cL_law_ 2295 = .ok (.iload 4, 2) := by decide +kernel
theorem dL_law__2297 : decode cL_law_ 2297 = .ok (.iconst 1, 1) := by decide +kernel
theorem dL_law__2298 : decode cL_law_ 2298 = .ok (.iadd, 1) := by decide +kernel
theorem dL_law__2299 : decode cL_law_ 2299 = .ok (.iaload, 1) := by decide +kernel
theorem dL_law__2300 : decode cL_law_ 2300 = .ok (.invokevirtual 281, 3) := by decide +kernel
theorem dL_law__2303 : decode cL_law_ 2303 = .ok (.aload_n 2, 1) := by decide +kernel
theorem dL_law__2304 : decode cL_law_ 2304 = .ok (.aload_n 0, 1) := by decide +kernel
theorem dL_law__2305 : decode cL_law_ 2305 = .ok (.iload 4, 2) := by decide +kernel
theorem dL_law__2307 : decode cL_law_ 2307 = .ok (.iconst 1, 1) := by decide +kernel
theorem dL_law__2308 : decode cL_law_ 2308 = .ok (.iadd, 1) := by decide +kernel
theorem dL_law__2309 : decode cL_law_ 2309 = .ok (.iaload, 1) := by decide +kernel
theorem dL_law__2310 : decode cL_law_ 2310 = .ok (.invokevirtual 284, 3) := by decide +kernel
theorem dL_law__2313 : decode cL_law_ 2313 = .ok (.if_icmp .eq 5, 3) := by decide +kernel
theorem dL_law__2316 : decode cL_law_ 2316 = .ok (.iconst 0, 1) := by decide +kernel
theorem dL_law__2317 : decode cL_law_ 2317 = .ok (.ireturn, 1) := by decide +kernel
theorem dL_law__2318 : decode cL_law_ 2318 = .ok (.iinc 4 6, 3) := by decide +kernel
theorem dL_law__2321 : decode cL_law_ 2321 = .ok (.goto (-2298), 3) := by decide +kernel
theorem dL_law__2324 : decode cL_law_ 2324 = .ok (.iconst 1, 1) := by decide +kernel
theorem dL_law__2325 : decode cL_law_ 2325 = .ok (.ireturn, 1) := by decide +kernel
