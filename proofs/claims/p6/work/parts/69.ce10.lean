theorem dL_law_2128 : decode cL_law 2128 = .ok (.iaload, 1) := by decide +kernel
theorem dL_law_2129 : decode cL_law 2129 = .ok (.invokevirtual 322, 3) := by decide +kernel
theorem dL_law_2132 : decode cL_law 2132 = .ok (.istore 6, 2) := by decide +kernel
theorem dL_law_2134 : decode cL_law 2134 = .ok (.goto 368, 3) := by decide +kernel
theorem dL_law_2137 : decode cL_law 2137 = .ok (.aload_n 1, 1) := by decide +kernel
theorem dL_law_2138 : decode cL_law 2138 = .ok (.aload_n 0, 1) := by decide +kernel
theorem dL_law_2139 : decode cL_law 2139 = .ok (.iload 4, 2) := by decide +kernel
theorem dL_law_2141 : decode cL_law 2141 = .ok (.iconst 1, 1) := by decide +kernel
theorem dL_law_2142 : decode cL_law 2142 = .ok (.iadd, 1) := by decide +kernel
theorem dL_law_2143 : decode cL_law 2143 = .ok (.iaload, 1) := by decide +kernel
theorem dL_law_2144 : decode cL_law 2144 = .ok (.aload_n 0, 1) := by decide +kernel
theorem dL_law_2145 : decode cL_law 2145 = .ok (.iload 4, 2) := by decide +kernel
theorem dL_law_2147 : decode cL_law 2147 = .ok (.iconst 2, 1) := by decide +kernel
theorem dL_law_2148 : decode cL_law 2148 = .ok (.iadd, 1) := by decide +kernel
theorem dL_law_2149 : decode cL_law 2149 = .ok (.iaload, 1) := by decide +kernel
theorem dL_law_2150 : decode cL_law 2150 = .ok (.aload_n 0, 1) := by decide +kernel
theorem dL_law_2151 : decode cL_law 2151 = .ok (.iload 4, 2) := by decide +kernel
theorem dL_law_2153 : decode cL_law 2153 = .ok (.iconst 3, 1) := by decide +kernel
theorem dL_law_2154 : decode cL_law 2154 = .ok (.iadd, 1) := by decide +kernel
theorem dL_law_2155 : decode cL_law 2155 = .ok (.iaload, 1) := by decide +kernel
theorem dL_law_2156 : decode cL_law 2156 = .ok (.aload_n 3, 1) := by decide +kernel
theorem dL_law_2157 : decode cL_law 2157 = .ok (.invokestatic 323, 3) := by decide +kernel
theorem dL_law_2160 : decode cL_law 2160 = .ok (.istore 5, 2) := by decide +kernel
theorem dL_law_2162 : decode cL_law 2162 = .ok (.aload_n 2, 1) := by decide +kernel
theorem dL_law_2163 : decode cL_law 2163 = .ok (.aload_n 0, 1) := by decide +kernel
theorem dL_law_2164 : decode cL_law 2164 = .ok (.iload 4, 2) := by decide +kernel
theorem dL_law_2166 : decode cL_law 2166 = .ok (.iconst 1, 1) := by decide +kernel
theorem dL_law_2167 : decode cL_law 2167 = .ok (.iadd, 1) := by decide +kernel
theorem dL_law_2168 : decode cL_law 2168 = .ok (.iaload, 1) := by decide +kernel
theorem dL_law_2169 : decode cL_law 2169 = .ok (.aload_n 0, 1) := by decide +kernel
theorem dL_law_2170 : decode cL_law 2170 = .ok (.iload 4, 2) := by decide +kernel
theorem dL_law_2172 : decode cL_law 2172 = .ok (.iconst 2, 1) := by decide +kernel
theorem dL_law_2173 : decode cL_law 2173 = .ok (.iadd, 1) := by decide +kernel
theorem dL_law_2174 : decode cL_law 2174 = .ok (.iaload, 1) := by decide +kernel
theorem dL_law_2175 : decode cL_law 2175 = .ok (.aload_n 0, 1) := by decide +kernel
theorem dL_law_2176 : decode cL_law 2176 = .ok (.iload 4, 2) := by decide +kernel
theorem dL_law_2178 : decode cL_law 2178 = .ok (.iconst 3, 1) := by decide +kernel
theorem dL_law_2179 : decode cL_law 2179 = .ok (.iadd, 1) := by decide +kernel
theorem dL_law_2180 : decode cL_law 2180 = .ok (.iaload, 1) := by decide +kernel
theorem dL_law_2181 : decode cL_law 2181 = .ok (.invokevirtual 325, 3) := by decide +kernel
theorem dL_law_2184 : decode cL_law 2184 = .ok (.istore 6, 2) := by decide +kernel
theorem dL_law_2186 : decode cL_law 2186 = .ok (.goto 316, 3) := by decide +kernel
theorem dL_law_2189 : decode cL_law 2189 = .ok (.aload_n 1, 1) := by decide +kernel
theorem dL_law_2190 : decode cL_law 2190 = .ok (.aload_n 0, 1) := by decide +kernel
theorem dL_law_2191 : decode cL_law 2191 = .ok (.iload 4, 2) := by decide +kernel
theorem dL_law_2193 : decode cL_law 2193 = .ok (.iconst 1, 1) := by decide +kernel
theorem dL_law_2194 : decode cL_law 2194 = .ok (.iadd, 1) := by decide +kernel
theorem dL_law_2195 : decode cL_law 2195 = .ok (.iaload, 1) := by decide +kernel
theorem dL_law_2196 : decode cL_law 2196 = .ok (.aload_n 0, 1) := by decide +kernel
theorem dL_law_2197 : decode cL_law 2197 = .ok (.iload 4, 2) := by decide +kernel
theorem dL_law_2199 : decode cL_law 2199 = .ok (.iconst 2, 1) := by decide +kernel
theorem dL_law_2200 : decode cL_law 2200 = .ok (.iadd, 1) := by decide +kernel
theorem dL_law_2201 : decode cL_law 2201 = .ok (.iaload, 1) := by decide +kernel
theorem dL_law_2202 : decode cL_law 2202 = .ok (.aload_n 3, 1) := by decide +kernel
theorem dL_law_2203 : decode cL_law 2203 = .ok (.invokestatic 326, 3) := by decide +kernel
theorem dL_law_2206 : decode cL_law 2206 = .ok (.istore 5, 2) := by decide +kernel
theorem dL_law_2208 : decode cL_law 2208 = .ok (.aload_n 2, 1) := by decide +kernel
theorem dL_law_2209 : decode cL_law 2209 = .ok (.aload_n 0, 1) := by decide +kernel
theorem dL_law_2210 : decode cL_law 2210 = .ok (.iload 4, 2) := by decide +kernel
theorem dL_law_2212 : decode cL_law 2212 = .ok (.iconst 1, 1) := by decide +kernel
theorem dL_law_2213 : decode cL_law 2213 = .ok (.iadd, 1) := by decide +kernel
theorem dL_law_2214 : decode cL_law 2214 = .ok (.iaload, 1) := by decide +kernel
theorem dL_law_2215 : decode cL_law 2215 = .ok (.aload_n 0, 1) := by decide +kernel
theorem dL_law_2216 : decode cL_law 2216 = .ok (.iload 4, 2) := by decide +kernel
theorem dL_law_2218 : decode cL_law 2218 = .ok (.iconst 2, 1) := by decide +kernel
theorem dL_law_2219 : decode cL_law 2219 = .ok (.iadd, 1) := by decide +kernel
theorem dL_law_2220 : decode cL_law 2220 = .ok (.iaload, 1) := by decide +kernel
theorem dL_law_2221 : decode cL_law 2221 = .ok (.invokevirtual 328, 3) := by decide +kernel
theorem dL_law_2224 : decode cL_law 2224 = .ok (.istore 6, 2) := by decide +kernel
theorem dL_law_2226 : decode cL_law 2226 = .ok (.goto 276, 3) := by decide +kernel
theorem dL_law_2229 : decode cL_law 2229 = .ok (.aload_n 1, 1) := by decide +kernel
theorem dL_law_2230 : decode cL_law 2230 = .ok (.aload_n 0, 1) := by decide +kernel
theorem dL_law_2231 : decode cL_law 2231 = .ok (.iload 4, 2) := by decide +kernel
theorem dL_law_2233 : decode cL_law 2233 = .ok (.iconst 1, 1) := by decide +kernel
theorem dL_law_2234 : decode cL_law 2234 = .ok (.iadd, 1) := by decide +kernel
theorem dL_law_2235 : decode cL_law 2235 = .ok (.iaload, 1) := by decide +kernel
theorem dL_law_2236 : decode cL_law 2236 = .ok (.aload_n 0, 1) := by decide +kernel
theorem dL_law_2237 : decode cL_law 2237 = .ok (.iload 4, 2) := by decide +kernel
theorem dL_law_2239 : decode cL_law 2239 = .ok (.iconst 2, 1) := by decide +kernel
theorem dL_law_2240 : decode cL_law 2240 = .ok (.iadd, 1) := by decide +kernel
theorem dL_law_2241 : decode cL_law 2241 = .ok (.iaload, 1) := by decide +kernel
theorem dL_law_2242 : decode cL_law 2242 = .ok (.aload_n 0, 1) := by decide +kernel
theorem dL_law_2243 : decode cL_law 2243 = .ok (.iload 4, 2) := by decide +kernel
theorem dL_law_2245 : decode cL_law 2245 = .ok (.iconst 3, 1) := by decide +kernel
theorem dL_law_2246 : decode cL_law 2246 = .ok (.iadd, 1) := by decide +kernel
theorem dL_law_2247 : decode cL_law 2247 = .ok (.iaload, 1) := by decide +kernel
theorem dL_law_2248 : decode cL_law 2248 = .ok (.aload_n 0, 1) := by decide +kernel
theorem dL_law_2249 : decode cL_law 2249 = .ok (.iload 4, 2) := by decide +kernel
theorem dL_law_2251 : decode cL_law 2251 = .ok (.iconst 4, 1) := by decide +kernel
theorem dL_law_2252 : decode cL_law 2252 = .ok (.iadd, 1) := by decide +kernel
theorem dL_law_2253 : decode cL_law 2253 = .ok (.iaload, 1) := by decide +kernel
theorem dL_law_2254 : decode cL_law 2254 = .ok (.aload_n 3, 1) := by decide +kernel
theorem dL_law_2255 : decode cL_law 2255 = .ok (.invokestatic 329, 3) := by decide +kernel
theorem dL_law_2258 : decode cL_law 2258 = .ok (.istore 5, 2) := by decide +kernel
theorem dL_law_2260 : decode cL_law 2260 = .ok (.aload_n 2, 1) := by decide +kernel
theorem dL_law_2261 : decode cL_law 2261 = .ok (.aload_n 0, 1) := by decide +kernel
theorem dL_law_2262 : decode cL_law 2262 = .ok (.iload 4, 2) := by decide +kernel
theorem dL_law_2264 : decode cL_law 2264 = .ok (.iconst 1, 1) := by decide +kernel
theorem dL_law_2265 : decode cL_law 2265 = .ok (.iadd, 1) := by decide +kernel
theorem dL_law_2266 : decode cL_law 2266 = .ok (.iaload, 1) := by decide +kernel
theorem dL_law_2267 : decode cL_law 2267 = .ok (.aload_n 0, 1) := by decide +kernel
theorem dL_law_2268 : decode cL_law 2268 = .ok (.iload 4, 2) := by decide +kernel
theorem dL_law_2270 : decode cL_law 2270 = .ok (.iconst 2, 1) := by decide +kernel
theorem dL_law_2271 : decode cL_law 2271 = .ok (.iadd, 1) := by decide +kernel
theorem dL_law_2272 : decode cL_law 2272 = .ok (.iaload, 1) := by decide +kernel
theorem dL_law_2273 : decode cL_law 2273 = .ok (.aload_n 0, 1) := by decide +kernel
theorem dL_law_2274 : decode cL_law 2274 = .ok (.iload 4, 2) := by decide +kernel
theorem dL_law_2276 : decode cL_law 2276 = .ok (.iconst 3, 1) := by decide +kernel
theorem dL_law_2277 : decode cL_law 2277 = .ok (.iadd, 1) := by decide +kernel
theorem dL_law_2278 : decode cL_law 2278 = .ok (.iaload, 1) := by decide +kernel
theorem dL_law_2279 : decode cL_law 2279 = .ok (.aload_n 0, 1) := by decide +kernel
theorem dL_law_2280 : decode cL_law 2280 = .ok (.iload 4, 2) := by decide +kernel
theorem dL_law_2282 : decode cL_law 2282 = .ok (.iconst 4, 1) := by decide +kernel
theorem dL_law_2283 : decode cL_law 2283 = .ok (.iadd, 1) := by decide +kernel
theorem dL_law_2284 : decode cL_law 2284 = .ok (.iaload, 1) := by decide +kernel
theorem dL_law_2285 : decode cL_law 2285 = .ok (.invokevirtual 331, 3) := by decide +kernel
theorem dL_law_2288 : decode cL_law 2288 = .ok (.istore 6, 2) := by decide +kernel
theorem dL_law_2290 : decode cL_law 2290 = .ok (.goto 212, 3) := by decide +kernel
theorem dL_law_2293 : decode cL_law 2293 = .ok (.aload_n 1, 1) := by decide +kernel
theorem dL_law_2294 : decode cL_law 2294 = .ok (.aload_n 0, 1) := by decide +kernel
theorem dL_law_2295 : decode cL_law 2295 = .ok (.iload 4, 2) := by decide +kernel
theorem dL_law_2297 : decode cL_law 2297 = .ok (.iconst 1, 1) := by decide +kernel
theorem dL_law_2298 : decode cL_law 2298 = .ok (.iadd, 1) := by decide +kernel
theorem dL_law_2299 : decode cL_law 2299 = .ok (.iaload, 1) := by decide +kernel
theorem dL_law_2300 : decode cL_law 2300 = .ok (.aload_n 0, 1) := by decide +kernel
theorem dL_law_2301 : decode cL_law 2301 = .ok (.iload 4, 2) := by decide +kernel
theorem dL_law_2303 : decode cL_law 2303 = .ok (.iconst 2, 1) := by decide +kernel
theorem dL_law_2304 : decode cL_law 2304 = .ok (.iadd, 1) := by decide +kernel
theorem dL_law_2305 : decode cL_law 2305 = .ok (.iaload, 1) := by decide +kernel
theorem dL_law_2306 : decode cL_law 2306 = .ok (.aload_n 3, 1) := by decide +kernel
theorem dL_law_2307 : decode cL_law 2307 = .ok (.invokestatic 332, 3) := by decide +kernel
