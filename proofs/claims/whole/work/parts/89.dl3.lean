theorem dL_law__2072 : decode cL_law_ 2072 = .ok (.iload 6, 2) := by decide +kernel
theorem dL_law__2074 : decode cL_law_ 2074 = .ok (.i2l, 1) := by decide +kernel
theorem dL_law__2075 : decode cL_law_ 2075 = .ok (.lcmp, 1) := by decide +kernel
theorem dL_law__2076 : decode cL_law_ 2076 = .ok (.ifCond .eq 5, 3) := by decide +kernel
theorem dL_law__2079 : decode cL_law_ 2079 = .ok (.iconst 0, 1) := by decide +kernel
theorem dL_law__2080 : decode cL_law_ 2080 = .ok (.ireturn, 1) := by decide +kernel
theorem dL_law__2081 : decode cL_law_ 2081 = .ok (.goto 1183, 3) := by decide +kernel
theorem dL_law__2084 : decode cL_law_ 2084 = .ok (.aload_n 1, 1) := by decide +kernel
theorem dL_law__2085 : decode cL_law_ 2085 = .ok (.aload_n 3, 1) := by decide +kernel
theorem dL_law__2086 : decode cL_law_ 2086 = .ok (.invokestatic 267, 3) := by decide +kernel
theorem dL_law__2089 : decode cL_law_ 2089 = .ok (.istore 5, 2) := by decide +kernel
theorem dL_law__2091 : decode cL_law_ 2091 = .ok (.aload_n 2, 1) := by decide +kernel
theorem dL_law__2092 : decode cL_law_ 2092 = .ok (.invokevirtual 269, 3) := by decide +kernel
theorem dL_law__2095 : decode cL_law_ 2095 = .ok (.istore 6, 2) := by decide +kernel
theorem dL_law__2097 : decode cL_law_ 2097 = .ok (.aload_n 2, 1) := by decide +kernel
theorem dL_law__2098 : decode cL_law_ 2098 = .ok (.invokevirtual 167, 3) := by decide +kernel
theorem dL_law__2101 : decode cL_law_ 2101 = .ok (.iload 5, 2) := by decide +kernel
theorem dL_law__2103 : decode cL_law_ 2103 = .ok (.if_icmp .eq 5, 3) := by decide +kernel
theorem dL_law__2106 : decode cL_law_ 2106 = .ok (.iconst 0, 1) := by decide +kernel
theorem dL_law__2107 : decode cL_law_ 2107 = .ok (.ireturn, 1) := by decide +kernel
theorem dL_law__2108 : decode cL_law_ 2108 = .ok (.iload 5, 2) := by decide +kernel
theorem dL_law__2110 : decode cL_law_ 2110 = .ok (.ifCond .ne 15, 3) := by decide +kernel
theorem dL_law__2113 : decode cL_law_ 2113 = .ok (.aload_n 3, 1) := by decide +kernel
theorem dL_law__2114 : decode cL_law_ 2114 = .ok (.iconst 0, 1) := by decide +kernel
theorem dL_law__2115 : decode cL_law_ 2115 = .ok (.laload, 1) := by decide +kernel
theorem dL_law__2116 : decode cL_law_ 2116 = .ok (.iload 6, 2) := by decide +kernel
theorem dL_law__2118 : decode cL_law_ 2118 = .ok (.i2l, 1) := by decide +kernel
theorem dL_law__2119 : decode cL_law_ 2119 = .ok (.lcmp, 1) := by decide +kernel
theorem dL_law__2120 : decode cL_law_ 2120 = .ok (.ifCond .eq 5, 3) := by decide +kernel
theorem dL_law__2123 : decode cL_law_ 2123 = .ok (.iconst 0, 1) := by decide +kernel
theorem dL_law__2124 : decode cL_law_ 2124 = .ok (.ireturn, 1) := by decide +kernel
theorem dL_law__2125 : decode cL_law_ 2125 = .ok (.goto 1139, 3) := by decide +kernel
theorem dL_law__2128 : decode cL_law_ 2128 = .ok (.aload_n 1, 1) := by decide +kernel
theorem dL_law__2129 : decode cL_law_ 2129 = .ok (.invokevirtual 270, 3) := by decide +kernel
theorem dL_law__2132 : decode cL_law_ 2132 = .ok (.aload_n 2, 1) := by decide +kernel
theorem dL_law__2133 : decode cL_law_ 2133 = .ok (.invokevirtual 273, 3) := by decide +kernel
theorem dL_law__2136 : decode cL_law_ 2136 = .ok (.if_icmp .eq 1128, 3) := by decide +kernel
theorem dL_law__2139 : decode cL_law_ 2139 = .ok (.iconst 0, 1) := by decide +kernel
theorem dL_law__2140 : decode cL_law_ 2140 = .ok (.ireturn, 1) := by decide +kernel
theorem dL_law__2141 : decode cL_law_ 2141 = .ok (.aload_n 1, 1) := by decide +kernel
theorem dL_law__2142 : decode cL_law_ 2142 = .ok (.aload_n 0, 1) := by decide +kernel
theorem dL_law__2143 : decode cL_law_ 2143 = .ok (.iload 4, 2) := by decide +kernel
theorem dL_law__2145 : decode cL_law_ 2145 = .ok (.iconst 1, 1) := by decide +kernel
theorem dL_law__2146 : decode cL_law_ 2146 = .ok (.iadd, 1) := by decide +kernel
theorem dL_law__2147 : decode cL_law_ 2147 = .ok (.iaload, 1) := by decide +kernel
theorem dL_law__2148 : decode cL_law_ 2148 = .ok (.aload_n 0, 1) := by decide +kernel
theorem dL_law__2149 : decode cL_law_ 2149 = .ok (.iload 4, 2) := by decide +kernel
theorem dL_law__2151 : decode cL_law_ 2151 = .ok (.iconst 2, 1) := by decide +kernel
theorem dL_law__2152 : decode cL_law_ 2152 = .ok (.iadd, 1) := by decide +kernel
theorem dL_law__2153 : decode cL_law_ 2153 = .ok (.iaload, 1) := by decide +kernel
theorem dL_law__2154 : decode cL_law_ 2154 = .ok (.aload_n 3, 1) := by decide +kernel
theorem dL_law__2155 : decode cL_law_ 2155 = .ok (.invokestatic 274, 3) := by decide +kernel
theorem dL_law__2158 : decode cL_law_ 2158 = .ok (.istore 5, 2) := by decide +kernel
theorem dL_law__2160 : decode cL_law_ 2160 = .ok (.aload_n 2, 1) := by decide +kernel
theorem dL_law__2161 : decode cL_law_ 2161 = .ok (.aload_n 0, 1) := by decide +kernel
theorem dL_law__2162 : decode cL_law_ 2162 = .ok (.iload 4, 2) := by decide +kernel
theorem dL_law__2164 : decode cL_law_ 2164 = .ok (.iconst 1, 1) := by decide +kernel
theorem dL_law__2165 : decode cL_law_ 2165 = .ok (.iadd, 1) := by decide +kernel
theorem dL_law__2166 : decode cL_law_ 2166 = .ok (.iaload, 1) := by decide +kernel
theorem dL_law__2167 : decode cL_law_ 2167 = .ok (.aload_n 0, 1) := by decide +kernel
theorem dL_law__2168 : decode cL_law_ 2168 = .ok (.iload 4, 2) := by decide +kernel
theorem dL_law__2170 : decode cL_law_ 2170 = .ok (.iconst 2, 1) := by decide +kernel
theorem dL_law__2171 : decode cL_law_ 2171 = .ok (.iadd, 1) := by decide +kernel
theorem dL_law__2172 : decode cL_law_ 2172 = .ok (.iaload, 1) := by decide +kernel
theorem dL_law__2173 : decode cL_law_ 2173 = .ok (.invokevirtual 276, 3) := by decide +kernel
theorem dL_law__2176 : decode cL_law_ 2176 = .ok (.istore 6, 2) := by decide +kernel
theorem dL_law__2178 : decode cL_law_ 2178 = .ok (.aload_n 2, 1) := by decide +kernel
theorem dL_law__2179 : decode cL_law_ 2179 = .ok (.invokevirtual 167, 3) := by decide +kernel
theorem dL_law__2182 : decode cL_law_ 2182 = .ok (.iload 5, 2) := by decide +kernel
theorem dL_law__2184 : decode cL_law_ 2184 = .ok (.if_icmp .eq 5, 3) := by decide +kernel
theorem dL_law__2187 : decode cL_law_ 2187 = .ok (.iconst 0, 1) := by decide +kernel
theorem dL_law__2188 : decode cL_law_ 2188 = .ok (.ireturn, 1) := by decide +kernel
theorem dL_law__2189 : decode cL_law_ 2189 = .ok (.iload 5, 2) := by decide +kernel
theorem dL_law__2191 : decode cL_law_ 2191 = .ok (.ifCond .ne 22, 3) := by decide +kernel
theorem dL_law__2194 : decode cL_law_ 2194 = .ok (.aload_n 3, 1) := by decide +kernel
theorem dL_law__2195 : decode cL_law_ 2195 = .ok (.iconst 0, 1) := by decide +kernel
theorem dL_law__2196 : decode cL_law_ 2196 = .ok (.laload, 1) := by decide +kernel
theorem dL_law__2197 : decode cL_law_ 2197 = .ok (.iload 6, 2) := by decide +kernel
theorem dL_law__2199 : decode cL_law_ 2199 = .ok (.ifCond .eq 7, 3) := by decide +kernel
theorem dL_law__2202 : decode cL_law_ 2202 = .ok (.lconst 1, 1) := by decide +kernel
theorem dL_law__2203 : decode cL_law_ 2203 = .ok (.goto 4, 3) := by decide +kernel
theorem dL_law__2206 : decode cL_law_ 2206 = .ok (.lconst 0, 1) := by decide +kernel
theorem dL_law__2207 : decode cL_law_ 2207 = .ok (.lcmp, 1) := by decide +kernel
theorem dL_law__2208 : decode cL_law_ 2208 = .ok (.ifCond .eq 5, 3) := by decide +kernel
theorem dL_law__2211 : decode cL_law_ 2211 = .ok (.iconst 0, 1) := by decide +kernel
theorem dL_law__2212 : decode cL_law_ 2212 = .ok (.ireturn, 1) := by decide +kernel
theorem dL_law__2213 : decode cL_law_ 2213 = .ok (.goto 1051, 3) := by decide +kernel
theorem dL_law__2216 : decode cL_law_ 2216 = .ok (.aload_n 1, 1) := by decide +kernel
theorem dL_law__2217 : decode cL_law_ 2217 = .ok (.aload_n 0, 1) := by decide +kernel
theorem dL_law__2218 : decode cL_law_ 2218 = .ok (.iload 4, 2) := by decide +kernel
theorem dL_law__2220 : decode cL_law_ 2220 = .ok (.iconst 1, 1) := by decide +kernel
theorem dL_law__2221 : decode cL_law_ 2221 = .ok (.iadd, 1) := by decide +kernel
theorem dL_law__2222 : decode cL_law_ 2222 = .ok (.iaload, 1) := by decide +kernel
theorem dL_law__2223 : decode cL_law_ 2223 = .ok (.aload_n 0, 1) := by decide +kernel
theorem dL_law__2224 : decode cL_law_ 2224 = .ok (.iload 4, 2) := by decide +kernel
theorem dL_law__2226 : decode cL_law_ 2226 = .ok (.iconst 2, 1) := by decide +kernel
theorem dL_law__2227 : decode cL_law_ 2227 = .ok (.iadd, 1) := by decide +kernel
theorem dL_law__2228 : decode cL_law_ 2228 = .ok (.iaload, 1) := by decide +kernel
theorem dL_law__2229 : decode cL_law_ 2229 = .ok (.aload_n 3, 1) := by decide +kernel
theorem dL_law__2230 : decode cL_law_ 2230 = .ok (.invokestatic 277, 3) := by decide +kernel
theorem dL_law__2233 : decode cL_law_ 2233 = .ok (.istore 5, 2) := by decide +kernel
theorem dL_law__2235 : decode cL_law_ 2235 = .ok (.aload_n 2, 1) := by decide +kernel
theorem dL_law__2236 : decode cL_law_ 2236 = .ok (.aload_n 0, 1) := by decide +kernel
theorem dL_law__2237 : decode cL_law_ 2237 = .ok (.iload 4, 2) := by decide +kernel
theorem dL_law__2239 : decode cL_law_ 2239 = .ok (.iconst 1, 1) := by decide +kernel
theorem dL_law__2240 : decode cL_law_ 2240 = .ok (.iadd, 1) := by decide +kernel
theorem dL_law__2241 : decode cL_law_ 2241 = .ok (.iaload, 1) := by decide +kernel
theorem dL_law__2242 : decode cL_law_ 2242 = .ok (.aload_n 0, 1) := by decide +kernel
theorem dL_law__2243 : decode cL_law_ 2243 = .ok (.iload 4, 2) := by decide +kernel
theorem dL_law__2245 : decode cL_law_ 2245 = .ok (.iconst 2, 1) := by decide +kernel
theorem dL_law__2246 : decode cL_law_ 2246 = .ok (.iadd, 1) := by decide +kernel
theorem dL_law__2247 : decode cL_law_ 2247 = .ok (.iaload, 1) := by decide +kernel
theorem dL_law__2248 : decode cL_law_ 2248 = .ok (.invokevirtual 279, 3) := by decide +kernel
theorem dL_law__2251 : decode cL_law_ 2251 = .ok (.istore 6, 2) := by decide +kernel
theorem dL_law__2253 : decode cL_law_ 2253 = .ok (.aload_n 2, 1) := by decide +kernel
theorem dL_law__2254 : decode cL_law_ 2254 = .ok (.invokevirtual 167, 3) := by decide +kernel
theorem dL_law__2257 : decode cL_law_ 2257 = .ok (.iload 5, 2) := by decide +kernel
theorem dL_law__2259 : decode cL_law_ 2259 = .ok (.if_icmp .eq 5, 3) := by decide +kernel
theorem dL_law__2262 : decode cL_law_ 2262 = .ok (.iconst 0, 1) := by decide +kernel
theorem dL_law__2263 : decode cL_law_ 2263 = .ok (.ireturn, 1) := by decide +kernel
theorem dL_law__2264 : decode cL_law_ 2264 = .ok (.iload 5, 2) := by decide +kernel
theorem dL_law__2266 : decode cL_law_ 2266 = .ok (.ifCond .ne 15, 3) := by decide +kernel
theorem dL_law__2269 : decode cL_law_ 2269 = .ok (.aload_n 3, 1) := by decide +kernel
theorem dL_law__2270 : decode cL_law_ 2270 = .ok (.iconst 0, 1) := by decide +kernel
theorem dL_law__2271 : decode cL_law_ 2271 = .ok (.laload, 1) := by decide +kernel
theorem dL_law__2272 : decode cL_law_ 2272 = .ok (.iload 6, 2) := by decide +kernel
theorem dL_law__2274 : decode cL_law_ 2274 = .ok (.i2l, 1) := by decide +kernel
theorem dL_law__2275 : decode cL_law_ 2275 = .ok (.lcmp, 1) := by decide +kernel
theorem dL_law__2276 : decode cL_law_ 2276 = .ok (.ifCond .eq 5, 3) := by decide +kernel
theorem dL_law__2279 : decode cL_law_ 2279 = .ok (.iconst 0, 1) := by decide +kernel
theorem dL_law__2280 : decode cL_law_ 2280 = .ok (.ireturn, 1) := by decide +kernel
theorem dL_law__2281 : decode cL_law_ 2281 = .ok (.goto 983, 3) := by decide +kernel
theorem dL_law__2284 : decode cL_law_ 2284 = .ok (.aload_n 1, 1) := by decide +kernel
theorem dL_law__2285 : decode cL_law_ 2285 = .ok (.aload_n 0, 1) := by decide +kernel
theorem dL_law__2286 : decode cL_law_ 2286 = .ok (.iload 4, 2) := by decide +kernel
theorem dL_law__2288 : decode cL_law_ 2288 = .ok (.iconst 1, 1) := by decide +kernel
theorem dL_law__2289 : decode cL_law_ 2289 = .ok (.iadd, 1) := by decide +kernel
theorem dL_law__2290 : decode cL_law_ 2290 = .ok (.iaload, 1) := by decide +kernel
theorem dL_law__2291 : decode cL_law_ 2291 = .ok (.aload_n 0, 1) := by decide +kernel
theorem dL_law__2292 : decode cL_law_ 2292 = .ok (.iload 4, 2) := by decide +kernel
theorem dL_law__2294 : decode cL_law_ 2294 = .ok (.iconst 2, 1) := by decide +kernel
theorem dL_law__2295 : decode cL_law_ 2295 = .ok (.iadd, 1) := by decide +kernel
theorem dL_law__2296 : decode cL_law_ 2296 = .ok (.iaload, 1) := by decide +kernel
theorem dL_law__2297 : decode cL_law_ 2297 = .ok (.aload_n 3, 1) := by decide +kernel
theorem dL_law__2298 : decode cL_law_ 2298 = .ok (.invokestatic 280, 3) := by decide +kernel
theorem dL_law__2301 : decode cL_law_ 2301 = .ok (.istore 5, 2) := by decide +kernel
theorem dL_law__2303 : decode cL_law_ 2303 = .ok (.aload_n 2, 1) := by decide +kernel
theorem dL_law__2304 : decode cL_law_ 2304 = .ok (.aload_n 0, 1) := by decide +kernel
theorem dL_law__2305 : decode cL_law_ 2305 = .ok (.iload 4, 2) := by decide +kernel
theorem dL_law__2307 : decode cL_law_ 2307 = .ok (.iconst 1, 1) := by decide +kernel
theorem dL_law__2308 : decode cL_law_ 2308 = .ok (.iadd, 1) := by decide +kernel
theorem dL_law__2309 : decode cL_law_ 2309 = .ok (.iaload, 1) := by decide +kernel
theorem dL_law__2310 : decode cL_law_ 2310 = .ok (.aload_n 0, 1) := by decide +kernel
theorem dL_law__2311 : decode cL_law_ 2311 = .ok (.iload 4, 2) := by decide +kernel
theorem dL_law__2313 : decode cL_law_ 2313 = .ok (.iconst 2, 1) := by decide +kernel
theorem dL_law__2314 : decode cL_law_ 2314 = .ok (.iadd, 1) := by decide +kernel
theorem dL_law__2315 : decode cL_law_ 2315 = .ok (.iaload, 1) := by decide +kernel
theorem dL_law__2316 : decode cL_law_ 2316 = .ok (.invokevirtual 282, 3) := by decide +kernel
theorem dL_law__2319 : decode cL_law_ 2319 = .ok (.istore 6, 2) := by decide +kernel
theorem dL_law__2321 : decode cL_law_ 2321 = .ok (.aload_n 2, 1) := by decide +kernel
theorem dL_law__2322 : decode cL_law_ 2322 = .ok (.invokevirtual 167, 3) := by decide +kernel
theorem dL_law__2325 : decode cL_law_ 2325 = .ok (.iload 5, 2) := by decide +kernel
theorem dL_law__2327 : decode cL_law_ 2327 = .ok (.if_icmp .eq 5, 3) := by decide +kernel
theorem dL_law__2330 : decode cL_law_ 2330 = .ok (.iconst 0, 1) := by decide +kernel
theorem dL_law__2331 : decode cL_law_ 2331 = .ok (.ireturn, 1) := by decide +kernel
theorem dL_law__2332 : decode cL_law_ 2332 = .ok (.iload 5, 2) := by decide +kernel
theorem dL_law__2334 : decode cL_law_ 2334 = .ok (.ifCond .ne 15, 3) := by decide +kernel
theorem dL_law__2337 : decode cL_law_ 2337 = .ok (.aload_n 3, 1) := by decide +kernel
theorem dL_law__2338 : decode cL_law_ 2338 = .ok (.iconst 0, 1) := by decide +kernel
theorem dL_law__2339 : decode cL_law_ 2339 = .ok (.laload, 1) := by decide +kernel
theorem dL_law__2340 : decode cL_law_ 2340 = .ok (.iload 6, 2) := by decide +kernel
theorem dL_law__2342 : decode cL_law_ 2342 = .ok (.i2l, 1) := by decide +kernel
theorem dL_law__2343 : decode cL_law_ 2343 = .ok (.lcmp, 1) := by decide +kernel
theorem dL_law__2344 : decode cL_law_ 2344 = .ok (.ifCond .eq 5, 3) := by decide +kernel
theorem dL_law__2347 : decode cL_law_ 2347 = .ok (.iconst 0, 1) := by decide +kernel
theorem dL_law__2348 : decode cL_law_ 2348 = .ok (.ireturn, 1) := by decide +kernel
theorem dL_law__2349 : decode cL_law_ 2349 = .ok (.goto 915, 3) := by decide +kernel
theorem dL_law__2352 : decode cL_law_ 2352 = .ok (.aload_n 1, 1) := by decide +kernel
theorem dL_law__2353 : decode cL_law_ 2353 = .ok (.invokevirtual 283, 3) := by decide +kernel
theorem dL_law__2356 : decode cL_law_ 2356 = .ok (.aload_n 2, 1) := by decide +kernel
theorem dL_law__2357 : decode cL_law_ 2357 = .ok (.invokevirtual 286, 3) := by decide +kernel
theorem dL_law__2360 : decode cL_law_ 2360 = .ok (.if_icmp .eq 904, 3) := by decide +kernel
theorem dL_law__2363 : decode cL_law_ 2363 = .ok (.iconst 0, 1) := by decide +kernel
theorem dL_law__2364 : decode cL_law_ 2364 = .ok (.ireturn, 1) := by decide +kernel
theorem dL_law__2365 : decode cL_law_ 2365 = .ok (.aload_n 1, 1) := by decide +kernel
theorem dL_law__2366 : decode cL_law_ 2366 = .ok (.aload_n 0, 1) := by decide +kernel
theorem dL_law__2367 : decode cL_law_ 2367 = .ok (.iload 4, 2) := by decide +kernel
theorem dL_law__2369 : decode cL_law_ 2369 = .ok (.iconst 1, 1) := by decide +kernel
theorem dL_law__2370 : decode cL_law_ 2370 = .ok (.iadd, 1) := by decide +kernel
theorem dL_law__2371 : decode cL_law_ 2371 = .ok (.iaload, 1) := by decide +kernel
theorem dL_law__2372 : decode cL_law_ 2372 = .ok (.aload_n 0, 1) := by decide +kernel
theorem dL_law__2373 : decode cL_law_ 2373 = .ok (.iload 4, 2) := by decide +kernel
theorem dL_law__2375 : decode cL_law_ 2375 = .ok (.iconst 2, 1) := by decide +kernel
theorem dL_law__2376 : decode cL_law_ 2376 = .ok (.iadd, 1) := by decide +kernel
theorem dL_law__2377 : decode cL_law_ 2377 = .ok (.iaload, 1) := by decide +kernel
theorem dL_law__2378 : decode cL_law_ 2378 = .ok (.aload_n 3, 1) := by decide +kernel
theorem dL_law__2379 : decode cL_law_ 2379 = .ok (.invokestatic 287, 3) := by decide +kernel
theorem dL_law__2382 : decode cL_law_ 2382 = .ok (.istore 5, 2) := by decide +kernel
theorem dL_law__2384 : decode cL_law_ 2384 = .ok (.aload_n 2, 1) := by decide +kernel
theorem dL_law__2385 : decode cL_law_ 2385 = .ok (.aload_n 0, 1) := by decide +kernel
theorem dL_law__2386 : decode cL_law_ 2386 = .ok (.iload 4, 2) := by decide +kernel
theorem dL_law__2388 : decode cL_law_ 2388 = .ok (.iconst 1, 1) := by decide +kernel
theorem dL_law__2389 : decode cL_law_ 2389 = .ok (.iadd, 1) := by decide +kernel
theorem dL_law__2390 : decode cL_law_ 2390 = .ok (.iaload, 1) := by decide +kernel
theorem dL_law__2391 : decode cL_law_ 2391 = .ok (.aload_n 0, 1) := by decide +kernel
theorem dL_law__2392 : decode cL_law_ 2392 = .ok (.iload 4, 2) := by decide +kernel
theorem dL_law__2394 : decode cL_law_ 2394 = .ok (.iconst 2, 1) := by decide +kernel
theorem dL_law__2395 : decode cL_law_ 2395 = .ok (.iadd, 1) := by decide +kernel
theorem dL_law__2396 : decode cL_law_ 2396 = .ok (.iaload, 1) := by decide +kernel
theorem dL_law__2397 : decode cL_law_ 2397 = .ok (.invokevirtual 289, 3) := by decide +kernel
theorem dL_law__2400 : decode cL_law_ 2400 = .ok (.istore 6, 2) := by decide +kernel
theorem dL_law__2402 : decode cL_law_ 2402 = .ok (.aload_n 2, 1) := by decide +kernel
theorem dL_law__2403 : decode cL_law_ 2403 = .ok (.invokevirtual 167, 3) := by decide +kernel
theorem dL_law__2406 : decode cL_law_ 2406 = .ok (.iload 5, 2) := by decide +kernel
theorem dL_law__2408 : decode cL_law_ 2408 = .ok (.if_icmp .eq 5, 3) := by decide +kernel
theorem dL_law__2411 : decode cL_law_ 2411 = .ok (.iconst 0, 1) := by decide +kernel
theorem dL_law__2412 : decode cL_law_ 2412 = .ok (.ireturn, 1) := by decide +kernel
theorem dL_law__2413 : decode cL_law_ 2413 = .ok (.iload 5, 2) := by decide +kernel
theorem dL_law__2415 : decode cL_law_ 2415 = .ok (.ifCond .ne 15, 3) := by decide +kernel
theorem dL_law__2418 : decode cL_law_ 2418 = .ok (.aload_n 3, 1) := by decide +kernel
theorem dL_law__2419 : decode cL_law_ 2419 = .ok (.iconst 0, 1) := by decide +kernel
theorem dL_law__2420 : decode cL_law_ 2420 = .ok (.laload, 1) := by decide +kernel
theorem dL_law__2421 : decode cL_law_ 2421 = .ok (.iload 6, 2) := by decide +kernel
theorem dL_law__2423 : decode cL_law_ 2423 = .ok (.i2l, 1) := by decide +kernel
theorem dL_law__2424 : decode cL_law_ 2424 = .ok (.lcmp, 1) := by decide +kernel
theorem dL_law__2425 : decode cL_law_ 2425 = .ok (.ifCond .eq 5, 3) := by decide +kernel
theorem dL_law__2428 : decode cL_law_ 2428 = .ok (.iconst 0, 1) := by decide +kernel
theorem dL_law__2429 : decode cL_law_ 2429 = .ok (.ireturn, 1) := by decide +kernel
theorem dL_law__2430 : decode cL_law_ 2430 = .ok (.goto 834, 3) := by decide +kernel
theorem dL_law__2433 : decode cL_law_ 2433 = .ok (.aload_n 1, 1) := by decide +kernel
theorem dL_law__2434 : decode cL_law_ 2434 = .ok (.aload_n 0, 1) := by decide +kernel
theorem dL_law__2435 : decode cL_law_ 2435 = .ok (.iload 4, 2) := by decide +kernel
theorem dL_law__2437 : decode cL_law_ 2437 = .ok (.iconst 1, 1) := by decide +kernel
theorem dL_law__2438 : decode cL_law_ 2438 = .ok (.iadd, 1) := by decide +kernel
theorem dL_law__2439 : decode cL_law_ 2439 = .ok (.iaload, 1) := by decide +kernel
theorem dL_law__2440 : decode cL_law_ 2440 = .ok (.aload_n 3, 1) := by decide +kernel
theorem dL_law__2441 : decode cL_law_ 2441 = .ok (.invokestatic 290, 3) := by decide +kernel
theorem dL_law__2444 : decode cL_law_ 2444 = .ok (.istore 5, 2) := by decide +kernel
theorem dL_law__2446 : decode cL_law_ 2446 = .ok (.aload_n 2, 1) := by decide +kernel
theorem dL_law__2447 : decode cL_law_ 2447 = .ok (.aload_n 0, 1) := by decide +kernel
theorem dL_law__2448 : decode cL_law_ 2448 = .ok (.iload 4, 2) := by decide +kernel
theorem dL_law__2450 : decode cL_law_ 2450 = .ok (.iconst 1, 1) := by decide +kernel
theorem dL_law__2451 : decode cL_law_ 2451 = .ok (.iadd, 1) := by decide +kernel
theorem dL_law__2452 : decode cL_law_ 2452 = .ok (.iaload, 1) := by decide +kernel
theorem dL_law__2453 : decode cL_law_ 2453 = .ok (.invokevirtual 292, 3) := by decide +kernel
theorem dL_law__2456 : decode cL_law_ 2456 = .ok (.istore 6, 2) := by decide +kernel
theorem dL_law__2458 : decode cL_law_ 2458 = .ok (.aload_n 2, 1) := by decide +kernel
theorem dL_law__2459 : decode cL_law_ 2459 = .ok (.invokevirtual 167, 3) := by decide +kernel
theorem dL_law__2462 : decode cL_law_ 2462 = .ok (.iload 5, 2) := by decide +kernel
theorem dL_law__2464 : decode cL_law_ 2464 = .ok (.if_icmp .eq 5, 3) := by decide +kernel
theorem dL_law__2467 : decode cL_law_ 2467 = .ok (.iconst 0, 1) := by decide +kernel
theorem dL_law__2468 : decode cL_law_ 2468 = .ok (.ireturn, 1) := by decide +kernel
theorem dL_law__2469 : decode cL_law_ 2469 = .ok (.iload 5, 2) := by decide +kernel
theorem dL_law__2471 : decode cL_law_ 2471 = .ok (.ifCond .ne 15, 3) := by decide +kernel
theorem dL_law__2474 : decode cL_law_ 2474 = .ok (.aload_n 3, 1) := by decide +kernel
theorem dL_law__2475 : decode cL_law_ 2475 = .ok (.iconst 0, 1) := by decide +kernel
theorem dL_law__2476 : decode cL_law_ 2476 = .ok (.laload, 1) := by decide +kernel
theorem dL_law__2477 : decode cL_law_ 2477 = .ok (.iload 6, 2) := by decide +kernel
theorem dL_law__2479 : decode cL_law_ 2479 = .ok (.i2l, 1) := by decide +kernel
theorem dL_law__2480 : decode cL_law_ 2480 = .ok (.lcmp, 1) := by decide +kernel
theorem dL_law__2481 : decode cL_law_ 2481 = .ok (.ifCond .eq 5, 3) := by decide +kernel
theorem dL_law__2484 : decode cL_law_ 2484 = .ok (.iconst 0, 1) := by decide +kernel
theorem dL_law__2485 : decode cL_law_ 2485 = .ok (.ireturn, 1) := by decide +kernel
theorem dL_law__2486 : decode cL_law_ 2486 = .ok (.goto 778, 3) := by decide +kernel
theorem dL_law__2489 : decode cL_law_ 2489 = .ok (.aload_n 1, 1) := by decide +kernel
theorem dL_law__2490 : decode cL_law_ 2490 = .ok (.aload_n 0, 1) := by decide +kernel
theorem dL_law__2491 : decode cL_law_ 2491 = .ok (.iload 4, 2) := by decide +kernel
theorem dL_law__2493 : decode cL_law_ 2493 = .ok (.iconst 1, 1) := by decide +kernel
theorem dL_law__2494 : decode cL_law_ 2494 = .ok (.iadd, 1) := by decide +kernel
theorem dL_law__2495 : decode cL_law_ 2495 = .ok (.iaload, 1) := by decide +kernel
theorem dL_law__2496 : decode cL_law_ 2496 = .ok (.aload_n 3, 1) := by decide +kernel
theorem dL_law__2497 : decode cL_law_ 2497 = .ok (.invokestatic 293, 3) := by decide +kernel
theorem dL_law__2500 : decode cL_law_ 2500 = .ok (.istore 5, 2) := by decide +kernel
theorem dL_law__2502 : decode cL_law_ 2502 = .ok (.aload_n 2, 1) := by decide +kernel
theorem dL_law__2503 : decode cL_law_ 2503 = .ok (.aload_n 0, 1) := by decide +kernel
theorem dL_law__2504 : decode cL_law_ 2504 = .ok (.iload 4, 2) := by decide +kernel
theorem dL_law__2506 : decode cL_law_ 2506 = .ok (.iconst 1, 1) := by decide +kernel
theorem dL_law__2507 : decode cL_law_ 2507 = .ok (.iadd, 1) := by decide +kernel
theorem dL_law__2508 : decode cL_law_ 2508 = .ok (.iaload, 1) := by decide +kernel
theorem dL_law__2509 : decode cL_law_ 2509 = .ok (.invokevirtual 295, 3) := by decide +kernel
theorem dL_law__2512 : decode cL_law_ 2512 = .ok (.istore 6, 2) := by decide +kernel
theorem dL_law__2514 : decode cL_law_ 2514 = .ok (.aload_n 2, 1) := by decide +kernel
theorem dL_law__2515 : decode cL_law_ 2515 = .ok (.invokevirtual 167, 3) := by decide +kernel
theorem dL_law__2518 : decode cL_law_ 2518 = .ok (.iload 5, 2) := by decide +kernel
theorem dL_law__2520 : decode cL_law_ 2520 = .ok (.if_icmp .eq 5, 3) := by decide +kernel
theorem dL_law__2523 : decode cL_law_ 2523 = .ok (.iconst 0, 1) := by decide +kernel
theorem dL_law__2524 : decode cL_law_ 2524 = .ok (.ireturn, 1) := by decide +kernel
theorem dL_law__2525 : decode cL_law_ 2525 = .ok (.iload 5, 2) := by decide +kernel
theorem dL_law__2527 : decode cL_law_ 2527 = .ok (.ifCond .ne 15, 3) := by decide +kernel
theorem dL_law__2530 : decode cL_law_ 2530 = .ok (.aload_n 3, 1) := by decide +kernel
theorem dL_law__2531 : decode cL_law_ 2531 = .ok (.iconst 0, 1) := by decide +kernel
theorem dL_law__2532 : decode cL_law_ 2532 = .ok (.laload, 1) := by decide +kernel
theorem dL_law__2533 : decode cL_law_ 2533 = .ok (.iload 6, 2) := by decide +kernel
theorem dL_law__2535 : decode cL_law_ 2535 = .ok (.i2l, 1) := by decide +kernel
theorem dL_law__2536 : decode cL_law_ 2536 = .ok (.lcmp, 1) := by decide +kernel
theorem dL_law__2537 : decode cL_law_ 2537 = .ok (.ifCond .eq 5, 3) := by decide +kernel
theorem dL_law__2540 : decode cL_law_ 2540 = .ok (.iconst 0, 1) := by decide +kernel
theorem dL_law__2541 : decode cL_law_ 2541 = .ok (.ireturn, 1) := by decide +kernel
theorem dL_law__2542 : decode cL_law_ 2542 = .ok (.goto 722, 3) := by decide +kernel
theorem dL_law__2545 : decode cL_law_ 2545 = .ok (.aload_n 1, 1) := by decide +kernel
theorem dL_law__2546 : decode cL_law_ 2546 = .ok (.aload_n 0, 1) := by decide +kernel
theorem dL_law__2547 : decode cL_law_ 2547 = .ok (.iload 4, 2) := by decide +kernel
theorem dL_law__2549 : decode cL_law_ 2549 = .ok (.iconst 1, 1) := by decide +kernel
theorem dL_law__2550 : decode cL_law_ 2550 = .ok (.iadd, 1) := by decide +kernel
theorem dL_law__2551 : decode cL_law_ 2551 = .ok (.iaload, 1) := by decide +kernel
theorem dL_law__2552 : decode cL_law_ 2552 = .ok (.aload_n 0, 1) := by decide +kernel
theorem dL_law__2553 : decode cL_law_ 2553 = .ok (.iload 4, 2) := by decide +kernel
theorem dL_law__2555 : decode cL_law_ 2555 = .ok (.iconst 2, 1) := by decide +kernel
theorem dL_law__2556 : decode cL_law_ 2556 = .ok (.iadd, 1) := by decide +kernel
theorem dL_law__2557 : decode cL_law_ 2557 = .ok (.iaload, 1) := by decide +kernel
theorem dL_law__2558 : decode cL_law_ 2558 = .ok (.aload_n 0, 1) := by decide +kernel
theorem dL_law__2559 : decode cL_law_ 2559 = .ok (.iload 4, 2) := by decide +kernel
theorem dL_law__2561 : decode cL_law_ 2561 = .ok (.iconst 3, 1) := by decide +kernel
theorem dL_law__2562 : decode cL_law_ 2562 = .ok (.iadd, 1) := by decide +kernel
theorem dL_law__2563 : decode cL_law_ 2563 = .ok (.iaload, 1) := by decide +kernel
theorem dL_law__2564 : decode cL_law_ 2564 = .ok (.aload_n 3, 1) := by decide +kernel
theorem dL_law__2565 : decode cL_law_ 2565 = .ok (.invokestatic 296, 3) := by decide +kernel
theorem dL_law__2568 : decode cL_law_ 2568 = .ok (.istore 5, 2) := by decide +kernel
theorem dL_law__2570 : decode cL_law_ 2570 = .ok (.aload_n 2, 1) := by decide +kernel
theorem dL_law__2571 : decode cL_law_ 2571 = .ok (.aload_n 0, 1) := by decide +kernel
theorem dL_law__2572 : decode cL_law_ 2572 = .ok (.iload 4, 2) := by decide +kernel
theorem dL_law__2574 : decode cL_law_ 2574 = .ok (.iconst 1, 1) := by decide +kernel
theorem dL_law__2575 : decode cL_law_ 2575 = .ok (.iadd, 1) := by decide +kernel
theorem dL_law__2576 : decode cL_law_ 2576 = .ok (.iaload, 1) := by decide +kernel
theorem dL_law__2577 : decode cL_law_ 2577 = .ok (.aload_n 0, 1) := by decide +kernel
theorem dL_law__2578 : decode cL_law_ 2578 = .ok (.iload 4, 2) := by decide +kernel
theorem dL_law__2580 : decode cL_law_ 2580 = .ok (.iconst 2, 1) := by decide +kernel
theorem dL_law__2581 : decode cL_law_ 2581 = .ok (.iadd, 1) := by decide +kernel
theorem dL_law__2582 : decode cL_law_ 2582 = .ok (.iaload, 1) := by decide +kernel
theorem dL_law__2583 : decode cL_law_ 2583 = .ok (.aload_n 0, 1) := by decide +kernel
theorem dL_law__2584 : decode cL_law_ 2584 = .ok (.iload 4, 2) := by decide +kernel
theorem dL_law__2586 : decode cL_law_ 2586 = .ok (.iconst 3, 1) := by decide +kernel
theorem dL_law__2587 : decode cL_law_ 2587 = .ok (.iadd, 1) := by decide +kernel
theorem dL_law__2588 : decode cL_law_ 2588 = .ok (.iaload, 1) := by decide +kernel
theorem dL_law__2589 : decode cL_law_ 2589 = .ok (.invokevirtual 298, 3) := by decide +kernel
theorem dL_law__2592 : decode cL_law_ 2592 = .ok (.istore 6, 2) := by decide +kernel
theorem dL_law__2594 : decode cL_law_ 2594 = .ok (.aload_n 2, 1) := by decide +kernel
theorem dL_law__2595 : decode cL_law_ 2595 = .ok (.invokevirtual 167, 3) := by decide +kernel
theorem dL_law__2598 : decode cL_law_ 2598 = .ok (.iload 5, 2) := by decide +kernel
theorem dL_law__2600 : decode cL_law_ 2600 = .ok (.if_icmp .eq 5, 3) := by decide +kernel
theorem dL_law__2603 : decode cL_law_ 2603 = .ok (.iconst 0, 1) := by decide +kernel
theorem dL_law__2604 : decode cL_law_ 2604 = .ok (.ireturn, 1) := by decide +kernel
theorem dL_law__2605 : decode cL_law_ 2605 = .ok (.iload 5, 2) := by decide +kernel
theorem dL_law__2607 : decode cL_law_ 2607 = .ok (.ifCond .ne 15, 3) := by decide +kernel
theorem dL_law__2610 : decode cL_law_ 2610 = .ok (.aload_n 3, 1) := by decide +kernel
theorem dL_law__2611 : decode cL_law_ 2611 = .ok (.iconst 0, 1) := by decide +kernel
theorem dL_law__2612 : decode cL_law_ 2612 = .ok (.laload, 1) := by decide +kernel
theorem dL_law__2613 : decode cL_law_ 2613 = .ok (.iload 6, 2) := by decide +kernel
theorem dL_law__2615 : decode cL_law_ 2615 = .ok (.i2l, 1) := by decide +kernel
theorem dL_law__2616 : decode cL_law_ 2616 = .ok (.lcmp, 1) := by decide +kernel
theorem dL_law__2617 : decode cL_law_ 2617 = .ok (.ifCond .eq 5, 3) := by decide +kernel
theorem dL_law__2620 : decode cL_law_ 2620 = .ok (.iconst 0, 1) := by decide +kernel
theorem dL_law__2621 : decode cL_law_ 2621 = .ok (.ireturn, 1) := by decide +kernel
theorem dL_law__2622 : decode cL_law_ 2622 = .ok (.goto 642, 3) := by decide +kernel
theorem dL_law__2625 : decode cL_law_ 2625 = .ok (.aload_n 1, 1) := by decide +kernel
theorem dL_law__2626 : decode cL_law_ 2626 = .ok (.aload_n 0, 1) := by decide +kernel
theorem dL_law__2627 : decode cL_law_ 2627 = .ok (.iload 4, 2) := by decide +kernel
theorem dL_law__2629 : decode cL_law_ 2629 = .ok (.iconst 1, 1) := by decide +kernel
theorem dL_law__2630 : decode cL_law_ 2630 = .ok (.iadd, 1) := by decide +kernel
theorem dL_law__2631 : decode cL_law_ 2631 = .ok (.iaload, 1) := by decide +kernel
theorem dL_law__2632 : decode cL_law_ 2632 = .ok (.ifCond .eq 7, 3) := by decide +kernel
theorem dL_law__2635 : decode cL_law_ 2635 = .ok (.iconst 1, 1) := by decide +kernel
theorem dL_law__2636 : decode cL_law_ 2636 = .ok (.goto 4, 3) := by decide +kernel
theorem dL_law__2639 : decode cL_law_ 2639 = .ok (.iconst 0, 1) := by decide +kernel
theorem dL_law__2640 : decode cL_law_ 2640 = .ok (.invokevirtual 299, 3) := by decide +kernel
theorem dL_law__2643 : decode cL_law_ 2643 = .ok (.aload_n 2, 1) := by decide +kernel
theorem dL_law__2644 : decode cL_law_ 2644 = .ok (.aload_n 0, 1) := by decide +kernel
theorem dL_law__2645 : decode cL_law_ 2645 = .ok (.iload 4, 2) := by decide +kernel
theorem dL_law__2647 : decode cL_law_ 2647 = .ok (.iconst 1, 1) := by decide +kernel
theorem dL_law__2648 : decode cL_law_ 2648 = .ok (.iadd, 1) := by decide +kernel
theorem dL_law__2649 : decode cL_law_ 2649 = .ok (.iaload, 1) := by decide +kernel
theorem dL_law__2650 : decode cL_law_ 2650 = .ok (.ifCond .eq 7, 3) := by decide +kernel
theorem dL_law__2653 : decode cL_law_ 2653 = .ok (.iconst 1, 1) := by decide +kernel
theorem dL_law__2654 : decode cL_law_ 2654 = .ok (.goto 4, 3) := by decide +kernel
theorem dL_law__2657 : decode cL_law_ 2657 = .ok (.iconst 0, 1) := by decide +kernel
theorem dL_law__2658 : decode cL_law_ 2658 = .ok (.invokevirtual 302, 3) := by decide +kernel
theorem dL_law__2661 : decode cL_law_ 2661 = .ok (.if_icmp .eq 603, 3) := by decide +kernel
theorem dL_law__2664 : decode cL_law_ 2664 = .ok (.iconst 0, 1) := by decide +kernel
theorem dL_law__2665 : decode cL_law_ 2665 = .ok (.ireturn, 1) := by decide +kernel
theorem dL_law__2666 : decode cL_law_ 2666 = .ok (.aload_n 1, 1) := by decide +kernel
theorem dL_law__2667 : decode cL_law_ 2667 = .ok (.aload_n 0, 1) := by decide +kernel
theorem dL_law__2668 : decode cL_law_ 2668 = .ok (.iload 4, 2) := by decide +kernel
theorem dL_law__2670 : decode cL_law_ 2670 = .ok (.iconst 1, 1) := by decide +kernel
theorem dL_law__2671 : decode cL_law_ 2671 = .ok (.iadd, 1) := by decide +kernel
theorem dL_law__2672 : decode cL_law_ 2672 = .ok (.iaload, 1) := by decide +kernel
theorem dL_law__2673 : decode cL_law_ 2673 = .ok (.ifCond .eq 7, 3) := by decide +kernel
theorem dL_law__2676 : decode cL_law_ 2676 = .ok (.iconst 1, 1) := by decide +kernel
theorem dL_law__2677 : decode cL_law_ 2677 = .ok (.goto 4, 3) := by decide +kernel
theorem dL_law__2680 : decode cL_law_ 2680 = .ok (.iconst 0, 1) := by decide +kernel
theorem dL_law__2681 : decode cL_law_ 2681 = .ok (.invokevirtual 303, 3) := by decide +kernel
