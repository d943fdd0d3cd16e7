theorem dL_law_1994 : decode cL_law 1994 = .ok (.iconst 0, 1) := by decide +kernel
theorem dL_law_1995 : decode cL_law 1995 = .ok (.ireturn, 1) := by decide +kernel
theorem dL_law_1996 : decode cL_law 1996 = .ok (.goto 1766, 3) := by decide +kernel
theorem dL_law_1999 : decode cL_law 1999 = .ok (.aload_n 1, 1) := by decide +kernel
theorem dL_law_2000 : decode cL_law 2000 = .ok (.aload_n 0, 1) := by decide +kernel
theorem dL_law_2001 : decode cL_law 2001 = .ok (.iload 4, 2) := by decide +kernel
theorem dL_law_2003 : decode cL_law 2003 = .ok (.iconst 1, 1) := by decide +kernel
theorem dL_law_2004 : decode cL_law 2004 = .ok (.iadd, 1) := by decide +kernel
theorem dL_law_2005 : decode cL_law 2005 = .ok (.iaload, 1) := by decide +kernel
theorem dL_law_2006 : decode cL_law 2006 = .ok (.aload_n 0, 1) := by decide +kernel
theorem dL_law_2007 : decode cL_law 2007 = .ok (.iload 4, 2) := by decide +kernel
theorem dL_law_2009 : decode cL_law 2009 = .ok (.iconst 2, 1) := by decide +kernel
theorem dL_law_2010 : decode cL_law 2010 = .ok (.iadd, 1) := by decide +kernel
theorem dL_law_2011 : decode cL_law 2011 = .ok (.iaload, 1) := by decide +kernel
theorem dL_law_2012 : decode cL_law 2012 = .ok (.aload_n 3, 1) := by decide +kernel
theorem dL_law_2013 : decode cL_law 2013 = .ok (.invokestatic 266, 3) := by decide +kernel
theorem dL_law_2016 : decode cL_law 2016 = .ok (.istore 5, 2) := by decide +kernel
theorem dL_law_2018 : decode cL_law 2018 = .ok (.aload_n 2, 1) := by decide +kernel
theorem dL_law_2019 : decode cL_law 2019 = .ok (.aload_n 0, 1) := by decide +kernel
theorem dL_law_2020 : decode cL_law 2020 = .ok (.iload 4, 2) := by decide +kernel
theorem dL_law_2022 : decode cL_law 2022 = .ok (.iconst 1, 1) := by decide +kernel
theorem dL_law_2023 : decode cL_law 2023 = .ok (.iadd, 1) := by decide +kernel
theorem dL_law_2024 : decode cL_law 2024 = .ok (.iaload, 1) := by decide +kernel
theorem dL_law_2025 : decode cL_law 2025 = .ok (.aload_n 0, 1) := by decide +kernel
theorem dL_law_2026 : decode cL_law 2026 = .ok (.iload 4, 2) := by decide +kernel
theorem dL_law_2028 : decode cL_law 2028 = .ok (.iconst 2, 1) := by decide +kernel
theorem dL_law_2029 : decode cL_law 2029 = .ok (.iadd, 1) := by decide +kernel
theorem dL_law_2030 : decode cL_law 2030 = .ok (.iaload, 1) := by decide +kernel
theorem dL_law_2031 : decode cL_law 2031 = .ok (.invokevirtual 268, 3) := by decide +kernel
theorem dL_law_2034 : decode cL_law 2034 = .ok (.istore 6, 2) := by decide +kernel
theorem dL_law_2036 : decode cL_law 2036 = .ok (.aload_n 2, 1) := by decide +kernel
theorem dL_law_2037 : decode cL_law 2037 = .ok (.invokevirtual 187, 3) := by decide +kernel
theorem dL_law_2040 : decode cL_law 2040 = .ok (.iload 5, 2) := by decide +kernel
theorem dL_law_2042 : decode cL_law 2042 = .ok (.if_icmp .eq 5, 3) := by decide +kernel
theorem dL_law_2045 : decode cL_law 2045 = .ok (.iconst 0, 1) := by decide +kernel
theorem dL_law_2046 : decode cL_law 2046 = .ok (.ireturn, 1) := by decide +kernel
theorem dL_law_2047 : decode cL_law 2047 = .ok (.iload 5, 2) := by decide +kernel
theorem dL_law_2049 : decode cL_law 2049 = .ok (.ifCond .ne 15, 3) := by decide +kernel
theorem dL_law_2052 : decode cL_law 2052 = .ok (.aload_n 3, 1) := by decide +kernel
theorem dL_law_2053 : decode cL_law 2053 = .ok (.iconst 0, 1) := by decide +kernel
theorem dL_law_2054 : decode cL_law 2054 = .ok (.laload, 1) := by decide +kernel
theorem dL_law_2055 : decode cL_law 2055 = .ok (.iload 6, 2) := by decide +kernel
theorem dL_law_2057 : decode cL_law 2057 = .ok (.i2l, 1) := by decide +kernel
theorem dL_law_2058 : decode cL_law 2058 = .ok (.lcmp, 1) := by decide +kernel
theorem dL_law_2059 : decode cL_law 2059 = .ok (.ifCond .eq 5, 3) := by decide +kernel
theorem dL_law_2062 : decode cL_law 2062 = .ok (.iconst 0, 1) := by decide +kernel
theorem dL_law_2063 : decode cL_law 2063 = .ok (.ireturn, 1) := by decide +kernel
theorem dL_law_2064 : decode cL_law 2064 = .ok (.goto 1698, 3) := by decide +kernel
theorem dL_law_2067 : decode cL_law 2067 = .ok (.aload_n 1, 1) := by decide +kernel
theorem dL_law_2068 : decode cL_law 2068 = .ok (.aload_n 0, 1) := by decide +kernel
theorem dL_law_2069 : decode cL_law 2069 = .ok (.iload 4, 2) := by decide +kernel
theorem dL_law_2071 : decode cL_law 2071 = .ok (.iconst 1, 1) := by decide +kernel
theorem dL_law_2072 : decode cL_law 2072 = .ok (.iadd, 1) := by decide +kernel
theorem dL_law_2073 : decode cL_law 2073 = .ok (.iaload, 1) := by decide +kernel
theorem dL_law_2074 : decode cL_law 2074 = .ok (.aload_n 3, 1) := by decide +kernel
theorem dL_law_2075 : decode cL_law 2075 = .ok (.invokestatic 269, 3) := by decide +kernel
theorem dL_law_2078 : decode cL_law 2078 = .ok (.istore 5, 2) := by decide +kernel
theorem dL_law_2080 : decode cL_law 2080 = .ok (.aload_n 2, 1) := by decide +kernel
theorem dL_law_2081 : decode cL_law 2081 = .ok (.aload_n 0, 1) := by decide +kernel
theorem dL_law_2082 : decode cL_law 2082 = .ok (.iload 4, 2) := by decide +kernel
theorem dL_law_2084 : decode cL_law 2084 = .ok (.iconst 1, 1) := by decide +kernel
theorem dL_law_2085 : decode cL_law 2085 = .ok (.iadd, 1) := by decide +kernel
theorem dL_law_2086 : decode cL_law 2086 = .ok (.iaload, 1) := by decide +kernel
theorem dL_law_2087 : decode cL_law 2087 = .ok (.invokevirtual 271, 3) := by decide +kernel
theorem dL_law_2090 : decode cL_law 2090 = .ok (.istore 6, 2) := by decide +kernel
theorem dL_law_2092 : decode cL_law 2092 = .ok (.aload_n 2, 1) := by decide +kernel
theorem dL_law_2093 : decode cL_law 2093 = .ok (.invokevirtual 187, 3) := by decide +kernel
theorem dL_law_2096 : decode cL_law 2096 = .ok (.iload 5, 2) := by decide +kernel
theorem dL_law_2098 : decode cL_law 2098 = .ok (.if_icmp .eq 5, 3) := by decide +kernel
theorem dL_law_2101 : decode cL_law 2101 = .ok (.iconst 0, 1) := by decide +kernel
theorem dL_law_2102 : decode cL_law 2102 = .ok (.ireturn, 1) := by decide +kernel
theorem dL_law_2103 : decode cL_law 2103 = .ok (.iload 5, 2) := by decide +kernel
theorem dL_law_2105 : decode cL_law 2105 = .ok (.ifCond .ne 15, 3) := by decide +kernel
theorem dL_law_2108 : decode cL_law 2108 = .ok (.aload_n 3, 1) := by decide +kernel
theorem dL_law_2109 : decode cL_law 2109 = .ok (.iconst 0, 1) := by decide +kernel
theorem dL_law_2110 : decode cL_law 2110 = .ok (.laload, 1) := by decide +kernel
theorem dL_law_2111 : decode cL_law 2111 = .ok (.iload 6, 2) := by decide +kernel
theorem dL_law_2113 : decode cL_law 2113 = .ok (.i2l, 1) := by decide +kernel
theorem dL_law_2114 : decode cL_law 2114 = .ok (.lcmp, 1) := by decide +kernel
theorem dL_law_2115 : decode cL_law 2115 = .ok (.ifCond .eq 5, 3) := by decide +kernel
theorem dL_law_2118 : decode cL_law 2118 = .ok (.iconst 0, 1) := by decide +kernel
theorem dL_law_2119 : decode cL_law 2119 = .ok (.ireturn, 1) := by decide +kernel
theorem dL_law_2120 : decode cL_law 2120 = .ok (.goto 1642, 3) := by decide +kernel
theorem dL_law_2123 : decode cL_law 2123 = .ok (.aload_n 1, 1) := by decide +kernel
theorem dL_law_2124 : decode cL_law 2124 = .ok (.aload_n 0, 1) := by decide +kernel
theorem dL_law_2125 : decode cL_law 2125 = .ok (.iload 4, 2) := by decide +kernel
theorem dL_law_2127 : decode cL_law 2127 = .ok (.iconst 1, 1) := by decide +kernel
theorem dL_law_2128 : decode cL_law 2128 = .ok (.iadd, 1) := by decide +kernel
theorem dL_law_2129 : decode cL_law 2129 = .ok (.iaload, 1) := by decide +kernel
theorem dL_law_2130 : decode cL_law 2130 = .ok (.aload_n 3, 1) := by decide +kernel
theorem dL_law_2131 : decode cL_law 2131 = .ok (.invokestatic 272, 3) := by decide +kernel
theorem dL_law_2134 : decode cL_law 2134 = .ok (.istore 5, 2) := by decide +kernel
theorem dL_law_2136 : decode cL_law 2136 = .ok (.aload_n 2, 1) := by decide +kernel
theorem dL_law_2137 : decode cL_law 2137 = .ok (.aload_n 0, 1) := by decide +kernel
theorem dL_law_2138 : decode cL_law 2138 = .ok (.iload 4, 2) := by decide +kernel
theorem dL_law_2140 : decode cL_law 2140 = .ok (.iconst 1, 1) := by decide +kernel
theorem dL_law_2141 : decode cL_law 2141 = .ok (.iadd, 1) := by decide +kernel
theorem dL_law_2142 : decode cL_law 2142 = .ok (.iaload, 1) := by decide +kernel
theorem dL_law_2143 : decode cL_law 2143 = .ok (.invokevirtual 274, 3) := by decide +kernel
theorem dL_law_2146 : decode cL_law 2146 = .ok (.istore 6, 2) := by decide +kernel
theorem dL_law_2148 : decode cL_law 2148 = .ok (.aload_n 2, 1) := by decide +kernel
theorem dL_law_2149 : decode cL_law 2149 = .ok (.invokevirtual 187, 3) := by decide +kernel
theorem dL_law_2152 : decode cL_law 2152 = .ok (.iload 5, 2) := by decide +kernel
theorem dL_law_2154 : decode cL_law 2154 = .ok (.if_icmp .eq 5, 3) := by decide +kernel
theorem dL_law_2157 : decode cL_law 2157 = .ok (.iconst 0, 1) := by decide +kernel
theorem dL_law_2158 : decode cL_law 2158 = .ok (.ireturn, 1) := by decide +kernel
theorem dL_law_2159 : decode cL_law 2159 = .ok (.iload 5, 2) := by decide +kernel
theorem dL_law_2161 : decode cL_law 2161 = .ok (.ifCond .ne 22, 3) := by decide +kernel
theorem dL_law_2164 : decode cL_law 2164 = .ok (.aload_n 3, 1) := by decide +kernel
theorem dL_law_2165 : decode cL_law 2165 = .ok (.iconst 0, 1) := by decide +kernel
theorem dL_law_2166 : decode cL_law 2166 = .ok (.laload, 1) := by decide +kernel
theorem dL_law_2167 : decode cL_law 2167 = .ok (.iload 6, 2) := by decide +kernel
theorem dL_law_2169 : decode cL_law 2169 = .ok (.ifCond .eq 7, 3) := by decide +kernel
theorem dL_law_2172 : decode cL_law 2172 = .ok (.lconst 1, 1) := by decide +kernel
theorem dL_law_2173 : decode cL_law 2173 = .ok (.goto 4, 3) := by decide +kernel
theorem dL_law_2176 : decode cL_law 2176 = .ok (.lconst 0, 1) := by decide +kernel
theorem dL_law_2177 : decode cL_law 2177 = .ok (.lcmp, 1) := by decide +kernel
theorem dL_law_2178 : decode cL_law 2178 = .ok (.ifCond .eq 5, 3) := by decide +kernel
theorem dL_law_2181 : decode cL_law 2181 = .ok (.iconst 0, 1) := by decide +kernel
theorem dL_law_2182 : decode cL_law 2182 = .ok (.ireturn, 1) := by decide +kernel
theorem dL_law_2183 : decode cL_law 2183 = .ok (.goto 1579, 3) := by decide +kernel
theorem dL_law_2186 : decode cL_law 2186 = .ok (.aload_n 1, 1) := by decide +kernel
theorem dL_law_2187 : decode cL_law 2187 = .ok (.aload_n 0, 1) := by decide +kernel
theorem dL_law_2188 : decode cL_law 2188 = .ok (.iload 4, 2) := by decide +kernel
theorem dL_law_2190 : decode cL_law 2190 = .ok (.iconst 1, 1) := by decide +kernel
theorem dL_law_2191 : decode cL_law 2191 = .ok (.iadd, 1) := by decide +kernel
theorem dL_law_2192 : decode cL_law 2192 = .ok (.iaload, 1) := by decide +kernel
theorem dL_law_2193 : decode cL_law 2193 = .ok (.aload_n 0, 1) := by decide +kernel
theorem dL_law_2194 : decode cL_law 2194 = .ok (.iload 4, 2) := by decide +kernel
theorem dL_law_2196 : decode cL_law 2196 = .ok (.iconst 2, 1) := by decide +kernel
theorem dL_law_2197 : decode cL_law 2197 = .ok (.iadd, 1) := by decide +kernel
theorem dL_law_2198 : decode cL_law 2198 = .ok (.iaload, 1) := by decide +kernel
theorem dL_law_2199 : decode cL_law 2199 = .ok (.aload_n 0, 1) := by decide +kernel
theorem dL_law_2200 : decode cL_law 2200 = .ok (.iload 4, 2) := by decide +kernel
theorem dL_law_2202 : decode cL_law 2202 = .ok (.iconst 3, 1) := by decide +kernel
theorem dL_law_2203 : decode cL_law 2203 = .ok (.iadd, 1) := by decide +kernel
theorem dL_law_2204 : decode cL_law 2204 = .ok (.iaload, 1) := by decide +kernel
theorem dL_law_2205 : decode cL_law 2205 = .ok (.aload_n 0, 1) := by decide +kernel
theorem dL_law_2206 : decode cL_law 2206 = .ok (.iload 4, 2) := by decide +kernel
theorem dL_law_2208 : decode cL_law 2208 = .ok (.iconst 4, 1) := by decide +kernel
theorem dL_law_2209 : decode cL_law 2209 = .ok (.iadd, 1) := by decide +kernel
theorem dL_law_2210 : decode cL_law 2210 = .ok (.iaload, 1) := by decide +kernel
theorem dL_law_2211 : decode cL_law 2211 = .ok (.aload_n 0, 1) := by decide +kernel
theorem dL_law_2212 : decode cL_law 2212 = .ok (.iload 4, 2) := by decide +kernel
theorem dL_law_2214 : decode cL_law 2214 = .ok (.iconst 5, 1) := by decide +kernel
theorem dL_law_2215 : decode cL_law 2215 = .ok (.iadd, 1) := by decide +kernel
theorem dL_law_2216 : decode cL_law 2216 = .ok (.iaload, 1) := by decide +kernel
theorem dL_law_2217 : decode cL_law 2217 = .ok (.ifCond .eq 7, 3) := by decide +kernel
theorem dL_law_2220 : decode cL_law 2220 = .ok (.iconst 1, 1) := by decide +kernel
theorem dL_law_2221 : decode cL_law 2221 = .ok (.goto 4, 3) := by decide +kernel
theorem dL_law_2224 : decode cL_law 2224 = .ok (.iconst 0, 1) := by decide +kernel
theorem dL_law_2225 : decode cL_law 2225 = .ok (.aload_n 0, 1) := by decide +kernel
theorem dL_law_2226 : decode cL_law 2226 = .ok (.iload 4, 2) := by decide +kernel
theorem dL_law_2228 : decode cL_law 2228 = .ok (.bipush 6, 2) := by decide +kernel
theorem dL_law_2230 : decode cL_law 2230 = .ok (.iadd, 1) := by decide +kernel
theorem dL_law_2231 : decode cL_law 2231 = .ok (.iaload, 1) := by decide +kernel
theorem dL_law_2232 : decode cL_law 2232 = .ok (.ifCond .eq 7, 3) := by decide +kernel
theorem dL_law_2235 : decode cL_law 2235 = .ok (.iconst 1, 1) := by decide +kernel
theorem dL_law_2236 : decode cL_law 2236 = .ok (.goto 4, 3) := by decide +kernel
theorem dL_law_2239 : decode cL_law 2239 = .ok (.iconst 0, 1) := by decide +kernel
theorem dL_law_2240 : decode cL_law 2240 = .ok (.aload_n 0, 1) := by decide +kernel
theorem dL_law_2241 : decode cL_law 2241 = .ok (.iload 4, 2) := by decide +kernel
theorem dL_law_2243 : decode cL_law 2243 = .ok (.bipush 7, 2) := by decide +kernel
theorem dL_law_2245 : decode cL_law 2245 = .ok (.iadd, 1) := by decide +kernel
theorem dL_law_2246 : decode cL_law 2246 = .ok (.iaload, 1) := by decide +kernel
theorem dL_law_2247 : decode cL_law 2247 = .ok (.aload_n 3, 1) := by decide +kernel
theorem dL_law_2248 : decode cL_law 2248 = .ok (.invokestatic 275, 3) := by decide +kernel
theorem dL_law_2251 : decode cL_law 2251 = .ok (.istore 5, 2) := by decide +kernel
theorem dL_law_2253 : decode cL_law 2253 = .ok (.aload_n 2, 1) := by decide +kernel
theorem dL_law_2254 : decode cL_law 2254 = .ok (.aload_n 0, 1) := by decide +kernel
theorem dL_law_2255 : decode cL_law 2255 = .ok (.iload 4, 2) := by decide +kernel
theorem dL_law_2257 : decode cL_law 2257 = .ok (.iconst 1, 1) := by decide +kernel
theorem dL_law_2258 : decode cL_law 2258 = .ok (.iadd, 1) := by decide +kernel
theorem dL_law_2259 : decode cL_law 2259 = .ok (.iaload, 1) := by decide +kernel
theorem dL_law_2260 : decode cL_law 2260 = .ok (.aload_n 0, 1) := by decide +kernel
theorem dL_law_2261 : decode cL_law 2261 = .ok (.iload 4, 2) := by decide +kernel
theorem dL_law_2263 : decode cL_law 2263 = .ok (.iconst 2, 1) := by decide +kernel
theorem dL_law_2264 : decode cL_law 2264 = .ok (.iadd, 1) := by decide +kernel
theorem dL_law_2265 : decode cL_law 2265 = .ok (.iaload, 1) := by decide +kernel
theorem dL_law_2266 : decode cL_law 2266 = .ok (.aload_n 0, 1) := by decide +kernel
theorem dL_law_2267 : decode cL_law 2267 = .ok (.iload 4, 2) := by decide +kernel
theorem dL_law_2269 : decode cL_law 2269 = .ok (.iconst 3, 1) := by decide +kernel
theorem dL_law_2270 : decode cL_law 2270 = .ok (.iadd, 1) := by decide +kernel
theorem dL_law_2271 : decode cL_law 2271 = .ok (.iaload, 1) := by decide +kernel
theorem dL_law_2272 : decode cL_law 2272 = .ok (.aload_n 0, 1) := by decide +kernel
theorem dL_law_2273 : decode cL_law 2273 = .ok (.iload 4, 2) := by decide +kernel
theorem dL_law_2275 : decode cL_law 2275 = .ok (.iconst 4, 1) := by decide +kernel
theorem dL_law_2276 : decode cL_law 2276 = .ok (.iadd, 1) := by decide +kernel
theorem dL_law_2277 : decode cL_law 2277 = .ok (.iaload, 1) := by decide +kernel
theorem dL_law_2278 : decode cL_law 2278 = .ok (.aload_n 0, 1) := by decide +kernel
theorem dL_law_2279 : decode cL_law 2279 = .ok (.iload 4, 2) := by decide +kernel
theorem dL_law_2281 : decode cL_law 2281 = .ok (.iconst 5, 1) := by decide +kernel
theorem dL_law_2282 : decode cL_law 2282 = .ok (.iadd, 1) := by decide +kernel
theorem dL_law_2283 : decode cL_law 2283 = .ok (.iaload, 1) := by decide +kernel
theorem dL_law_2284 : decode cL_law 2284 = .ok (.ifCond .eq 7, 3) := by decide +kernel
theorem dL_law_2287 : decode cL_law 2287 = .ok (.iconst 1, 1) := by decide +kernel
theorem dL_law_2288 : decode cL_law 2288 = .ok (.goto 4, 3) := by decide +kernel
theorem dL_law_2291 : decode cL_law 2291 = .ok (.iconst 0, 1) := by decide +kernel
theorem dL_law_2292 : decode cL_law 2292 = .ok (.aload_n 0, 1) := by decide +kernel
theorem dL_law_2293 : decode cL_law 2293 = .ok (.iload 4, 2) := by decide +kernel
theorem dL_law_2295 : decode cL_law 2295 = .ok (.bipush 6, 2) := by decide +kernel
theorem dL_law_2297 : decode cL_law 2297 = .ok (.iadd, 1) := by decide +kernel
theorem dL_law_2298 : decode cL_law 2298 = .ok (.iaload, 1) := by decide +kernel
theorem dL_law_2299 : decode cL_law 2299 = .ok (.ifCond .eq 7, 3) := by decide +kernel
theorem dL_law_2302 : decode cL_law 2302 = .ok (.iconst 1, 1) := by decide +kernel
theorem dL_law_2303 : decode cL_law 2303 = .ok (.goto 4, 3) := by decide +kernel
theorem dL_law_2306 : decode cL_law 2306 = .ok (.iconst 0, 1) := by decide +kernel
theorem dL_law_2307 : decode cL_law 2307 = .ok (.aload_n 0, 1) := by decide +kernel
theorem dL_law_2308 : decode cL_law 2308 = .ok (.iload 4, 2) := by decide +kernel
theorem dL_law_2310 : decode cL_law 2310 = .ok (.bipush 7, 2) := by decide +kernel
theorem dL_law_2312 : decode cL_law 2312 = .ok (.iadd, 1) := by decide +kernel
theorem dL_law_2313 : decode cL_law 2313 = .ok (.iaload, 1) := by decide +kernel
theorem dL_law_2314 : decode cL_law 2314 = .ok (.invokevirtual 278, 3) := by decide +kernel
theorem dL_law_2317 : decode cL_law 2317 = .ok (.istore 6, 2) := by decide +kernel
theorem dL_law_2319 : decode cL_law 2319 = .ok (.aload_n 2, 1) := by decide +kernel
theorem dL_law_2320 : decode cL_law 2320 = .ok (.invokevirtual 187, 3) := by decide +kernel
theorem dL_law_2323 : decode cL_law 2323 = .ok (.iload 5, 2) := by decide +kernel
theorem dL_law_2325 : decode cL_law 2325 = .ok (.if_icmp .eq 5, 3) := by decide +kernel
theorem dL_law_2328 : decode cL_law 2328 = .ok (.iconst 0, 1) := by decide +kernel
theorem dL_law_2329 : decode cL_law 2329 = .ok (.ireturn, 1) := by decide +kernel
theorem dL_law_2330 : decode cL_law 2330 = .ok (.iload 5, 2) := by decide +kernel
theorem dL_law_2332 : decode cL_law 2332 = .ok (.ifCond .ne 15, 3) := by decide +kernel
theorem dL_law_2335 : decode cL_law 2335 = .ok (.aload_n 3, 1) := by decide +kernel
theorem dL_law_2336 : decode cL_law 2336 = .ok (.iconst 0, 1) := by decide +kernel
theorem dL_law_2337 : decode cL_law 2337 = .ok (.laload, 1) := by decide +kernel
theorem dL_law_2338 : decode cL_law 2338 = .ok (.iload 6, 2) := by decide +kernel
theorem dL_law_2340 : decode cL_law 2340 = .ok (.i2l, 1) := by decide +kernel
theorem dL_law_2341 : decode cL_law 2341 = .ok (.lcmp, 1) := by decide +kernel
theorem dL_law_2342 : decode cL_law 2342 = .ok (.ifCond .eq 5, 3) := by decide +kernel
theorem dL_law_2345 : decode cL_law 2345 = .ok (.iconst 0, 1) := by decide +kernel
theorem dL_law_2346 : decode cL_law 2346 = .ok (.ireturn, 1) := by decide +kernel
theorem dL_law_2347 : decode cL_law 2347 = .ok (.goto 1415, 3) := by decide +kernel
theorem dL_law_2350 : decode cL_law 2350 = .ok (.aload_n 1, 1) := by decide +kernel
theorem dL_law_2351 : decode cL_law 2351 = .ok (.aload_n 0, 1) := by decide +kernel
theorem dL_law_2352 : decode cL_law 2352 = .ok (.iload 4, 2) := by decide +kernel
theorem dL_law_2354 : decode cL_law 2354 = .ok (.iconst 1, 1) := by decide +kernel
theorem dL_law_2355 : decode cL_law 2355 = .ok (.iadd, 1) := by decide +kernel
theorem dL_law_2356 : decode cL_law 2356 = .ok (.iaload, 1) := by decide +kernel
theorem dL_law_2357 : decode cL_law 2357 = .ok (.aload_n 0, 1) := by decide +kernel
theorem dL_law_2358 : decode cL_law 2358 = .ok (.iload 4, 2) := by decide +kernel
theorem dL_law_2360 : decode cL_law 2360 = .ok (.iconst 2, 1) := by decide +kernel
theorem dL_law_2361 : decode cL_law 2361 = .ok (.iadd, 1) := by decide +kernel
theorem dL_law_2362 : decode cL_law 2362 = .ok (.iaload, 1) := by decide +kernel
theorem dL_law_2363 : decode cL_law 2363 = .ok (.aload_n 3, 1) := by decide +kernel
theorem dL_law_2364 : decode cL_law 2364 = .ok (.invokestatic 279, 3) := by decide +kernel
theorem dL_law_2367 : decode cL_law 2367 = .ok (.istore 5, 2) := by decide +kernel
theorem dL_law_2369 : decode cL_law 2369 = .ok (.aload_n 2, 1) := by decide +kernel
theorem dL_law_2370 : decode cL_law 2370 = .ok (.aload_n 0, 1) := by decide +kernel
theorem dL_law_2371 : decode cL_law 2371 = .ok (.iload 4, 2) := by decide +kernel
theorem dL_law_2373 : decode cL_law 2373 = .ok (.iconst 1, 1) := by decide +kernel
theorem dL_law_2374 : decode cL_law 2374 = .ok (.iadd, 1) := by decide +kernel
theorem dL_law_2375 : decode cL_law 2375 = .ok (.iaload, 1) := by decide +kernel
theorem dL_law_2376 : decode cL_law 2376 = .ok (.aload_n 0, 1) := by decide +kernel
theorem dL_law_2377 : decode cL_law 2377 = .ok (.iload 4, 2) := by decide +kernel
theorem dL_law_2379 : decode cL_law 2379 = .ok (.iconst 2, 1) := by decide +kernel
theorem dL_law_2380 : decode cL_law 2380 = .ok (.iadd, 1) := by decide +kernel
theorem dL_law_2381 : decode cL_law 2381 = .ok (.iaload, 1) := by decide +kernel
theorem dL_law_2382 : decode cL_law 2382 = .ok (.invokevirtual 281, 3) := by decide +kernel
theorem dL_law_2385 : decode cL_law 2385 = .ok (.istore 6, 2) := by decide +kernel
theorem dL_law_2387 : decode cL_law 2387 = .ok (.aload_n 2, 1) := by decide +kernel
theorem dL_law_2388 : decode cL_law 2388 = .ok (.invokevirtual 187, 3) := by decide +kernel
theorem dL_law_2391 : decode cL_law 2391 = .ok (.iload 5, 2) := by decide +kernel
theorem dL_law_2393 : decode cL_law 2393 = .ok (.if_icmp .eq 5, 3) := by decide +kernel
theorem dL_law_2396 : decode cL_law 2396 = .ok (.iconst 0, 1) := by decide +kernel
theorem dL_law_2397 : decode cL_law 2397 = .ok (.ireturn, 1) := by decide +kernel
theorem dL_law_2398 : decode cL_law 2398 = .ok (.iload 5, 2) := by decide +kernel
theorem dL_law_2400 : decode cL_law 2400 = .ok (.ifCond .ne 15, 3) := by decide +kernel
theorem dL_law_2403 : decode cL_law 2403 = .ok (.aload_n 3, 1) := by decide +kernel
theorem dL_law_2404 : decode cL_law 2404 = .ok (.iconst 0, 1) := by decide +kernel
theorem dL_law_2405 : decode cL_law 2405 = .ok (.laload, 1) := by decide +kernel
theorem dL_law_2406 : decode cL_law 2406 = .ok (.iload 6, 2) := by decide +kernel
theorem dL_law_2408 : decode cL_law 2408 = .ok (.i2l, 1) := by decide +kernel
theorem dL_law_2409 : decode cL_law 2409 = .ok (.lcmp, 1) := by decide +kernel
theorem dL_law_2410 : decode cL_law 2410 = .ok (.ifCond .eq 5, 3) := by decide +kernel
theorem dL_law_2413 : decode cL_law 2413 = .ok (.iconst 0, 1) := by decide +kernel
theorem dL_law_2414 : decode cL_law 2414 = .ok (.ireturn, 1) := by decide +kernel
theorem dL_law_2415 : decode cL_law 2415 = .ok (.goto 1347, 3) := by decide +kernel
theorem dL_law_2418 : decode cL_law 2418 = .ok (.aload_n 1, 1) := by decide +kernel
theorem dL_law_2419 : decode cL_law 2419 = .ok (.aload_n 0, 1) := by decide +kernel
theorem dL_law_2420 : decode cL_law 2420 = .ok (.iload 4, 2) := by decide +kernel
theorem dL_law_2422 : decode cL_law 2422 = .ok (.iconst 1, 1) := by decide +kernel
theorem dL_law_2423 : decode cL_law 2423 = .ok (.iadd, 1) := by decide +kernel
theorem dL_law_2424 : decode cL_law 2424 = .ok (.iaload, 1) := by decide +kernel
theorem dL_law_2425 : decode cL_law 2425 = .ok (.aload_n 3, 1) := by decide +kernel
theorem dL_law_2426 : decode cL_law 2426 = .ok (.invokestatic 282, 3) := by decide +kernel
theorem dL_law_2429 : decode cL_law 2429 = .ok (.istore 5, 2) := by decide +kernel
theorem dL_law_2431 : decode cL_law 2431 = .ok (.aload_n 2, 1) := by decide +kernel
theorem dL_law_2432 : decode cL_law 2432 = .ok (.aload_n 0, 1) := by decide +kernel
theorem dL_law_2433 : decode cL_law 2433 = .ok (.iload 4, 2) := by decide +kernel
theorem dL_law_2435 : decode cL_law 2435 = .ok (.iconst 1, 1) := by decide +kernel
theorem dL_law_2436 : decode cL_law 2436 = .ok (.iadd, 1) := by decide +kernel
