theorem dL_law_2128 : decode cL_law 2128 = .ok (.iload 4, 2) := by decide +kernel
theorem dL_law_2130 : decode cL_law 2130 = .ok (.iconst 1, 1) := by decide +kernel
theorem dL_law_2131 : decode cL_law 2131 = .ok (.iadd, 1) := by decide +kernel
theorem dL_law_2132 : decode cL_law 2132 = .ok (.iaload, 1) := by decide +kernel
theorem dL_law_2133 : decode cL_law 2133 = .ok (.aload_n 0, 1) := by decide +kernel
theorem dL_law_2134 : decode cL_law 2134 = .ok (.iload 4, 2) := by decide +kernel
theorem dL_law_2136 : decode cL_law 2136 = .ok (.iconst 2, 1) := by decide +kernel
theorem dL_law_2137 : decode cL_law 2137 = .ok (.iadd, 1) := by decide +kernel
theorem dL_law_2138 : decode cL_law 2138 = .ok (.iaload, 1) := by decide +kernel
theorem dL_law_2139 : decode cL_law 2139 = .ok (.aload_n 0, 1) := by decide +kernel
theorem dL_law_2140 : decode cL_law 2140 = .ok (.iload 4, 2) := by decide +kernel
theorem dL_law_2142 : decode cL_law 2142 = .ok (.iconst 3, 1) := by decide +kernel
theorem dL_law_2143 : decode cL_law 2143 = .ok (.iadd, 1) := by decide +kernel
theorem dL_law_2144 : decode cL_law 2144 = .ok (.iaload, 1) := by decide +kernel
theorem dL_law_2145 : decode cL_law 2145 = .ok (.aload_n 3, 1) := by decide +kernel
theorem dL_law_2146 : decode cL_law 2146 = .ok (.invokestatic 320, 3) := by decide +kernel
theorem dL_law_2149 : decode cL_law 2149 = .ok (.istore 5, 2) := by decide +kernel
theorem dL_law_2151 : decode cL_law 2151 = .ok (.aload_n 2, 1) := by decide +kernel
theorem dL_law_2152 : decode cL_law 2152 = .ok (.aload_n 0, 1) := by decide +kernel
theorem dL_law_2153 : decode cL_law 2153 = .ok (.iload 4, 2) := by decide +kernel
theorem dL_law_2155 : decode cL_law 2155 = .ok (.iconst 1, 1) := by decide +kernel
theorem dL_law_2156 : decode cL_law 2156 = .ok (.iadd, 1) := by decide +kernel
theorem dL_law_2157 : decode cL_law 2157 = .ok (.iaload, 1) := by decide +kernel
theorem dL_law_2158 : decode cL_law 2158 = .ok (.aload_n 0, 1) := by decide +kernel
theorem dL_law_2159 : decode cL_law 2159 = .ok (.iload 4, 2) := by decide +kernel
theorem dL_law_2161 : decode cL_law 2161 = .ok (.iconst 2, 1) := by decide +kernel
theorem dL_law_2162 : decode cL_law 2162 = .ok (.iadd, 1) := by decide +kernel
theorem dL_law_2163 : decode cL_law 2163 = .ok (.iaload, 1) := by decide +kernel
theorem dL_law_2164 : decode cL_law 2164 = .ok (.aload_n 0, 1) := by decide +kernel
theorem dL_law_2165 : decode cL_law 2165 = .ok (.iload 4, 2) := by decide +kernel
theorem dL_law_2167 : decode cL_law 2167 = .ok (.iconst 3, 1) := by decide +kernel
theorem dL_law_2168 : decode cL_law 2168 = .ok (.iadd, 1) := by decide +kernel
theorem dL_law_2169 : decode cL_law 2169 = .ok (.iaload, 1) := by decide +kernel
theorem dL_law_2170 : decode cL_law 2170 = .ok (.invokevirtual 322, 3) := by decide +kernel
theorem dL_law_2173 : decode cL_law 2173 = .ok (.istore 6, 2) := by decide +kernel
theorem dL_law_2175 : decode cL_law 2175 = .ok (.goto 316, 3) := by decide +kernel
theorem dL_law_2178 : decode cL_law 2178 = .ok (.aload_n 1, 1) := by decide +kernel
theorem dL_law_2179 : decode cL_law 2179 = .ok (.aload_n 0, 1) := by decide +kernel
theorem dL_law_2180 : decode cL_law 2180 = .ok (.iload 4, 2) := by decide +kernel
theorem dL_law_2182 : decode cL_law 2182 = .ok (.iconst 1, 1) := by decide +kernel
theorem dL_law_2183 : decode cL_law 2183 = .ok (.iadd, 1) := by decide +kernel
theorem dL_law_2184 : decode cL_law 2184 = .ok (.iaload, 1) := by decide +kernel
theorem dL_law_2185 : decode cL_law 2185 = .ok (.aload_n 0, 1) := by decide +kernel
theorem dL_law_2186 : decode cL_law 2186 = .ok (.iload 4, 2) := by decide +kernel
theorem dL_law_2188 : decode cL_law 2188 = .ok (.iconst 2, 1) := by decide +kernel
theorem dL_law_2189 : decode cL_law 2189 = .ok (.iadd, 1) := by decide +kernel
theorem dL_law_2190 : decode cL_law 2190 = .ok (.iaload, 1) := by decide +kernel
theorem dL_law_2191 : decode cL_law 2191 = .ok (.aload_n 3, 1) := by decide +kernel
theorem dL_law_2192 : decode cL_law 2192 = .ok (.invokestatic 323, 3) := by decide +kernel
theorem dL_law_2195 : decode cL_law 2195 = .ok (.istore 5, 2) := by decide +kernel
theorem dL_law_2197 : decode cL_law 2197 = .ok (.aload_n 2, 1) := by decide +kernel
theorem dL_law_2198 : decode cL_law 2198 = .ok (.aload_n 0, 1) := by decide +kernel
theorem dL_law_2199 : decode cL_law 2199 = .ok (.iload 4, 2) := by decide +kernel
theorem dL_law_2201 : decode cL_law 2201 = .ok (.iconst 1, 1) := by decide +kernel
theorem dL_law_2202 : decode cL_law 2202 = .ok (.iadd, 1) := by decide +kernel
theorem dL_law_2203 : decode cL_law 2203 = .ok (.iaload, 1) := by decide +kernel
theorem dL_law_2204 : decode cL_law 2204 = .ok (.aload_n 0, 1) := by decide +kernel
theorem dL_law_2205 : decode cL_law 2205 = .ok (.iload 4, 2) := by decide +kernel
theorem dL_law_2207 : decode cL_law 2207 = .ok (.iconst 2, 1) := by decide +kernel
theorem dL_law_2208 : decode cL_law 2208 = .ok (.iadd, 1) := by decide +kernel
theorem dL_law_2209 : decode cL_law 2209 = .ok (.iaload, 1) := by decide +kernel
theorem dL_law_2210 : decode cL_law 2210 = .ok (.invokevirtual 325, 3) := by decide +kernel
theorem dL_law_2213 : decode cL_law 2213 = .ok (.istore 6, 2) := by decide +kernel
theorem dL_law_2215 : decode cL_law 2215 = .ok (.goto 276, 3) := by decide +kernel
theorem dL_law_2218 : decode cL_law 2218 = .ok (.aload_n 1, 1) := by decide +kernel
theorem dL_law_2219 : decode cL_law 2219 = .ok (.aload_n 0, 1) := by decide +kernel
theorem dL_law_2220 : decode cL_law 2220 = .ok (.iload 4, 2) := by decide +kernel
theorem dL_law_2222 : decode cL_law 2222 = .ok (.iconst 1, 1) := by decide +kernel
theorem dL_law_2223 : decode cL_law 2223 = .ok (.iadd, 1) := by decide +kernel
theorem dL_law_2224 : decode cL_law 2224 = .ok (.iaload, 1) := by decide +kernel
theorem dL_law_2225 : decode cL_law 2225 = .ok (.aload_n 0, 1) := by decide +kernel
theorem dL_law_2226 : decode cL_law 2226 = .ok (.iload 4, 2) := by decide +kernel
theorem dL_law_2228 : decode cL_law 2228 = .ok (.iconst 2, 1) := by decide +kernel
theorem dL_law_2229 : decode cL_law 2229 = .ok (.iadd, 1) := by decide +kernel
theorem dL_law_2230 : decode cL_law 2230 = .ok (.iaload, 1) := by decide +kernel
theorem dL_law_2231 : decode cL_law 2231 = .ok (.aload_n 0, 1) := by decide +kernel
theorem dL_law_2232 : decode cL_law 2232 = .ok (.iload 4, 2) := by decide +kernel
theorem dL_law_2234 : decode cL_law 2234 = .ok (.iconst 3, 1) := by decide +kernel
theorem dL_law_2235 : decode cL_law 2235 = .ok (.iadd, 1) := by decide +kernel
theorem dL_law_2236 : decode cL_law 2236 = .ok (.iaload, 1) := by decide +kernel
theorem dL_law_2237 : decode cL_law 2237 = .ok (.aload_n 0, 1) := by decide +kernel
theorem dL_law_2238 : decode cL_law 2238 = .ok (.iload 4, 2) := by decide +kernel
theorem dL_law_2240 : decode cL_law 2240 = .ok (.iconst 4, 1) := by decide +kernel
theorem dL_law_2241 : decode cL_law 2241 = .ok (.iadd, 1) := by decide +kernel
theorem dL_law_2242 : decode cL_law 2242 = .ok (.iaload, 1) := by decide +kernel
theorem dL_law_2243 : decode cL_law 2243 = .ok (.aload_n 3, 1) := by decide +kernel
theorem dL_law_2244 : decode cL_law 2244 = .ok (.invokestatic 326, 3) := by decide +kernel
theorem dL_law_2247 : decode cL_law 2247 = .ok (.istore 5, 2) := by decide +kernel
theorem dL_law_2249 : decode cL_law 2249 = .ok (.aload_n 2, 1) := by decide +kernel
theorem dL_law_2250 : decode cL_law 2250 = .ok (.aload_n 0, 1) := by decide +kernel
theorem dL_law_2251 : decode cL_law 2251 = .ok (.iload 4, 2) := by decide +kernel
theorem dL_law_2253 : decode cL_law 2253 = .ok (.iconst 1, 1) := by decide +kernel
theorem dL_law_2254 : decode cL_law 2254 = .ok (.iadd, 1) := by decide +kernel
theorem dL_law_2255 : decode cL_law 2255 = .ok (.iaload, 1) := by decide +kernel
theorem dL_law_2256 : decode cL_law 2256 = .ok (.aload_n 0, 1) := by decide +kernel
theorem dL_law_2257 : decode cL_law 2257 = .ok (.iload 4, 2) := by decide +kernel
theorem dL_law_2259 : decode cL_law 2259 = .ok (.iconst 2, 1) := by decide +kernel
theorem dL_law_2260 : decode cL_law 2260 = .ok (.iadd, 1) := by decide +kernel
theorem dL_law_2261 : decode cL_law 2261 = .ok (.iaload, 1) := by decide +kernel
theorem dL_law_2262 : decode cL_law 2262 = .ok (.aload_n 0, 1) := by decide +kernel
theorem dL_law_2263 : decode cL_law 2263 = .ok (.iload 4, 2) := by decide +kernel
theorem dL_law_2265 : decode cL_law 2265 = .ok (.iconst 3, 1) := by decide +kernel
theorem dL_law_2266 : decode cL_law 2266 = .ok (.iadd, 1) := by decide +kernel
theorem dL_law_2267 : decode cL_law 2267 = .ok (.iaload, 1) := by decide +kernel
theorem dL_law_2268 : decode cL_law 2268 = .ok (.aload_n 0, 1) := by decide +kernel
theorem dL_law_2269 : decode cL_law 2269 = .ok (.iload 4, 2) := by decide +kernel
theorem dL_law_2271 : decode cL_law 2271 = .ok (.iconst 4, 1) := by decide +kernel
theorem dL_law_2272 : decode cL_law 2272 = .ok (.iadd, 1) := by decide +kernel
theorem dL_law_2273 : decode cL_law 2273 = .ok (.iaload, 1) := by decide +kernel
theorem dL_law_2274 : decode cL_law 2274 = .ok (.invokevirtual 328, 3) := by decide +kernel
theorem dL_law_2277 : decode cL_law 2277 = .ok (.istore 6, 2) := by decide +kernel
theorem dL_law_2279 : decode cL_law 2279 = .ok (.goto 212, 3) := by decide +kernel
theorem dL_law_2282 : decode cL_law 2282 = .ok (.aload_n 1, 1) := by decide +kernel
theorem dL_law_2283 : decode cL_law 2283 = .ok (.aload_n 0, 1) := by decide +kernel
theorem dL_law_2284 : decode cL_law 2284 = .ok (.iload 4, 2) := by decide +kernel
theorem dL_law_2286 : decode cL_law 2286 = .ok (.iconst 1, 1) := by decide +kernel
theorem dL_law_2287 : decode cL_law 2287 = .ok (.iadd, 1) := by decide +kernel
theorem dL_law_2288 : decode cL_law 2288 = .ok (.iaload, 1) := by decide +kernel
theorem dL_law_2289 : decode cL_law 2289 = .ok (.aload_n 0, 1) := by decide +kernel
theorem dL_law_2290 : decode cL_law 2290 = .ok (.iload 4, 2) := by decide +kernel
theorem dL_law_2292 : decode cL_law 2292 = .ok (.iconst 2, 1) := by decide +kernel
theorem dL_law_2293 : decode cL_law 2293 = .ok (.iadd, 1) := by decide +kernel
theorem dL_law_2294 : decode cL_law 2294 = .ok (.iaload, 1) := by decide +kernel
theorem dL_law_2295 : decode cL_law 2295 = .ok (.aload_n 3, 1) := by decide +kernel
theorem dL_law_2296 : decode cL_law 2296 = .ok (.invokestatic 329, 3) := by decide +kernel
theorem dL_law_2299 : decode cL_law 2299 = .ok (.istore 5, 2) := by decide +kernel
theorem dL_law_2301 : decode cL_law 2301 = .ok (.aload_n 2, 1) := by decide +kernel
theorem dL_law_2302 : decode cL_law 2302 = .ok (.aload_n 0, 1) := by decide +kernel
theorem dL_law_2303 : decode cL_law 2303 = .ok (.iload 4, 2) := by decide +kernel
theorem dL_law_2305 : decode cL_law 2305 = .ok (.iconst 1, 1) := by decide +kernel
theorem dL_law_2306 : decode cL_law 2306 = .ok (.iadd, 1) := by decide +kernel
