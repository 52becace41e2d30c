theorem dL_law_2205 : decode cL_law 2205 = .ok (.aload_n 3, 1) := by decide +kernel
theorem dL_law_2206 : decode cL_law 2206 = .ok (.iconst 0, 1) := by decide +kernel
theorem dL_law_2207 : decode cL_law 2207 = .ok (.laload, 1) := by decide +kernel
theorem dL_law_2208 : decode cL_law 2208 = .ok (.iload 7, 2) := by decide +kernel
theorem dL_law_2210 : decode cL_law 2210 = .ok (.i2l, 1) := by decide +kernel
theorem dL_law_2211 : decode cL_law 2211 = .ok (.lcmp, 1) := by decide +kernel
theorem dL_law_2212 : decode cL_law 2212 = .ok (.ifCond .eq 5, 3) := by decide +kernel
theorem dL_law_2215 : decode cL_law 2215 = .ok (.iconst 0, 1) := by decide +kernel
theorem dL_law_2216 : decode cL_law 2216 = .ok (.ireturn, 1) := by decide +kernel
theorem dL_law_2217 : decode cL_law 2217 = .ok (.goto 550, 3) := by decide +kernel
theorem dL_law_2220 : decode cL_law 2220 = .ok (.aload_n 1, 1) := by decide +kernel
theorem dL_law_2221 : decode cL_law 2221 = .ok (.invokevirtual 296, 3) := by decide +kernel
theorem dL_law_2224 : decode cL_law 2224 = .ok (.aload_n 2, 1) := by decide +kernel
theorem dL_law_2225 : decode cL_law 2225 = .ok (.invokevirtual 300, 3) := by decide +kernel
theorem dL_law_2228 : decode cL_law 2228 = .ok (.lcmp, 1) := by decide +kernel
theorem dL_law_2229 : decode cL_law 2229 = .ok (.ifCond .eq 538, 3) := by decide +kernel
theorem dL_law_2232 : decode cL_law 2232 = .ok (.iconst 0, 1) := by decide +kernel
theorem dL_law_2233 : decode cL_law 2233 = .ok (.ireturn, 1) := by decide +kernel
theorem dL_law_2234 : decode cL_law 2234 = .ok (.aload_n 1, 1) := by decide +kernel
theorem dL_law_2235 : decode cL_law 2235 = .ok (.invokevirtual 301, 3) := by decide +kernel
theorem dL_law_2238 : decode cL_law 2238 = .ok (.aload_n 2, 1) := by decide +kernel
theorem dL_law_2239 : decode cL_law 2239 = .ok (.invokevirtual 304, 3) := by decide +kernel
theorem dL_law_2242 : decode cL_law 2242 = .ok (.if_icmp .eq 525, 3) := by decide +kernel
theorem dL_law_2245 : decode cL_law 2245 = .ok (.iconst 0, 1) := by decide +kernel
theorem dL_law_2246 : decode cL_law 2246 = .ok (.ireturn, 1) := by decide +kernel
theorem dL_law_2247 : decode cL_law 2247 = .ok (.aload_n 1, 1) := by decide +kernel
theorem dL_law_2248 : decode cL_law 2248 = .ok (.invokevirtual 305, 3) := by decide +kernel
theorem dL_law_2251 : decode cL_law 2251 = .ok (.aload_n 2, 1) := by decide +kernel
theorem dL_law_2252 : decode cL_law 2252 = .ok (.invokevirtual 308, 3) := by decide +kernel
theorem dL_law_2255 : decode cL_law 2255 = .ok (.if_icmp .eq 512, 3) := by decide +kernel
theorem dL_law_2258 : decode cL_law 2258 = .ok (.iconst 0, 1) := by decide +kernel
theorem dL_law_2259 : decode cL_law 2259 = .ok (.ireturn, 1) := by decide +kernel
theorem dL_law_2260 : decode cL_law 2260 = .ok (.aload_n 1, 1) := by decide +kernel
theorem dL_law_2261 : decode cL_law 2261 = .ok (.invokevirtual 309, 3) := by decide +kernel
theorem dL_law_2264 : decode cL_law 2264 = .ok (.aload_n 2, 1) := by decide +kernel
theorem dL_law_2265 : decode cL_law 2265 = .ok (.invokevirtual 312, 3) := by decide +kernel
theorem dL_law_2268 : decode cL_law 2268 = .ok (.if_icmp .eq 499, 3) := by decide +kernel
theorem dL_law_2271 : decode cL_law 2271 = .ok (.iconst 0, 1) := by decide +kernel
theorem dL_law_2272 : decode cL_law 2272 = .ok (.ireturn, 1) := by decide +kernel
theorem dL_law_2273 : decode cL_law 2273 = .ok (.aload_n 1, 1) := by decide +kernel
theorem dL_law_2274 : decode cL_law 2274 = .ok (.invokevirtual 313, 3) := by decide +kernel
theorem dL_law_2277 : decode cL_law 2277 = .ok (.aload_n 2, 1) := by decide +kernel
theorem dL_law_2278 : decode cL_law 2278 = .ok (.invokevirtual 316, 3) := by decide +kernel
theorem dL_law_2281 : decode cL_law 2281 = .ok (.if_icmp .eq 486, 3) := by decide +kernel
theorem dL_law_2284 : decode cL_law 2284 = .ok (.iconst 0, 1) := by decide +kernel
theorem dL_law_2285 : decode cL_law 2285 = .ok (.ireturn, 1) := by decide +kernel
theorem dL_law_2286 : decode cL_law 2286 = .ok (.aload_n 1, 1) := by decide +kernel
theorem dL_law_2287 : decode cL_law 2287 = .ok (.aload_n 0, 1) := by decide +kernel
theorem dL_law_2288 : decode cL_law 2288 = .ok (.iload 5, 2) := by decide +kernel
theorem dL_law_2290 : decode cL_law 2290 = .ok (.iconst 1, 1) := by decide +kernel
theorem dL_law_2291 : decode cL_law 2291 = .ok (.iadd, 1) := by decide +kernel
theorem dL_law_2292 : decode cL_law 2292 = .ok (.iaload, 1) := by decide +kernel
theorem dL_law_2293 : decode cL_law 2293 = .ok (.i2c, 1) := by decide +kernel
theorem dL_law_2294 : decode cL_law 2294 = .ok (.aload_n 3, 1) := by decide +kernel
theorem dL_law_2295 : decode cL_law 2295 = .ok (.invokestatic 317, 3) := by decide +kernel
theorem dL_law_2298 : decode cL_law 2298 = .ok (.istore 6, 2) := by decide +kernel
theorem dL_law_2300 : decode cL_law 2300 = .ok (.aload_n 2, 1) := by decide +kernel
theorem dL_law_2301 : decode cL_law 2301 = .ok (.aload_n 0, 1) := by decide +kernel
theorem dL_law_2302 : decode cL_law 2302 = .ok (.iload 5, 2) := by decide +kernel
theorem dL_law_2304 : decode cL_law 2304 = .ok (.iconst 1, 1) := by decide +kernel
theorem dL_law_2305 : decode cL_law 2305 = .ok (.iadd, 1) := by decide +kernel
theorem dL_law_2306 : decode cL_law 2306 = .ok (.iaload, 1) := by decide +kernel
theorem dL_law_2307 : decode cL_law 2307 = .ok (.i2c, 1) := by decide +kernel
theorem dL_law_2308 : decode cL_law 2308 = .ok (.invokevirtual 320, 3) := by decide +kernel
theorem dL_law_2311 : decode cL_law 2311 = .ok (.istore 7, 2) := by decide +kernel
theorem dL_law_2313 : decode cL_law 2313 = .ok (.aload_n 2, 1) := by decide +kernel
theorem dL_law_2314 : decode cL_law 2314 = .ok (.invokevirtual 163, 3) := by decide +kernel
theorem dL_law_2317 : decode cL_law 2317 = .ok (.iload 6, 2) := by decide +kernel
theorem dL_law_2319 : decode cL_law 2319 = .ok (.if_icmp .eq 5, 3) := by decide +kernel
theorem dL_law_2322 : decode cL_law 2322 = .ok (.iconst 0, 1) := by decide +kernel
theorem dL_law_2323 : decode cL_law 2323 = .ok (.ireturn, 1) := by decide +kernel
theorem dL_law_2324 : decode cL_law 2324 = .ok (.iload 6, 2) := by decide +kernel
theorem dL_law_2326 : decode cL_law 2326 = .ok (.ifCond .ne 15, 3) := by decide +kernel
theorem dL_law_2329 : decode cL_law 2329 = .ok (.aload_n 3, 1) := by decide +kernel
theorem dL_law_2330 : decode cL_law 2330 = .ok (.iconst 0, 1) := by decide +kernel
theorem dL_law_2331 : decode cL_law 2331 = .ok (.laload, 1) := by decide +kernel
theorem dL_law_2332 : decode cL_law 2332 = .ok (.iload 7, 2) := by decide +kernel
theorem dL_law_2334 : decode cL_law 2334 = .ok (.i2l, 1) := by decide +kernel
theorem dL_law_2335 : decode cL_law 2335 = .ok (.lcmp, 1) := by decide +kernel
theorem dL_law_2336 : decode cL_law 2336 = .ok (.ifCond .eq 5, 3) := by decide +kernel
theorem dL_law_2339 : decode cL_law 2339 = .ok (.iconst 0, 1) := by decide +kernel
theorem dL_law_2340 : decode cL_law 2340 = .ok (.ireturn, 1) := by decide +kernel
theorem dL_law_2341 : decode cL_law 2341 = .ok (.goto 426, 3) := by decide +kernel
theorem dL_law_2344 : decode cL_law 2344 = .ok (.aload_n 1, 1) := by decide +kernel
theorem dL_law_2345 : decode cL_law 2345 = .ok (.aload_n 3, 1) := by decide +kernel
theorem dL_law_2346 : decode cL_law 2346 = .ok (.invokestatic 321, 3) := by decide +kernel
theorem dL_law_2349 : decode cL_law 2349 = .ok (.istore 6, 2) := by decide +kernel
theorem dL_law_2351 : decode cL_law 2351 = .ok (.aload_n 2, 1) := by decide +kernel
theorem dL_law_2352 : decode cL_law 2352 = .ok (.invokevirtual 323, 3) := by decide +kernel
theorem dL_law_2355 : decode cL_law 2355 = .ok (.istore 7, 2) := by decide +kernel
theorem dL_law_2357 : decode cL_law 2357 = .ok (.aload_n 2, 1) := by decide +kernel
theorem dL_law_2358 : decode cL_law 2358 = .ok (.invokevirtual 163, 3) := by decide +kernel
theorem dL_law_2361 : decode cL_law 2361 = .ok (.iload 6, 2) := by decide +kernel
theorem dL_law_2363 : decode cL_law 2363 = .ok (.if_icmp .eq 5, 3) := by decide +kernel
theorem dL_law_2366 : decode cL_law 2366 = .ok (.iconst 0, 1) := by decide +kernel
theorem dL_law_2367 : decode cL_law 2367 = .ok (.ireturn, 1) := by decide +kernel
theorem dL_law_2368 : decode cL_law 2368 = .ok (.iload 6, 2) := by decide +kernel
theorem dL_law_2370 : decode cL_law 2370 = .ok (.ifCond .ne 15, 3) := by decide +kernel
theorem dL_law_2373 : decode cL_law 2373 = .ok (.aload_n 3, 1) := by decide +kernel
theorem dL_law_2374 : decode cL_law 2374 = .ok (.iconst 0, 1) := by decide +kernel
theorem dL_law_2375 : decode cL_law 2375 = .ok (.laload, 1) := by decide +kernel
theorem dL_law_2376 : decode cL_law 2376 = .ok (.iload 7, 2) := by decide +kernel
theorem dL_law_2378 : decode cL_law 2378 = .ok (.i2l, 1) := by decide +kernel
theorem dL_law_2379 : decode cL_law 2379 = .ok (.lcmp, 1) := by decide +kernel
theorem dL_law_2380 : decode cL_law 2380 = .ok (.ifCond .eq 5, 3) := by decide +kernel
theorem dL_law_2383 : decode cL_law 2383 = .ok (.iconst 0, 1) := by decide +kernel
theorem dL_law_2384 : decode cL_law 2384 = .ok (.ireturn, 1) := by decide +kernel
theorem dL_law_2385 : decode cL_law 2385 = .ok (.goto 382, 3) := by decide +kernel
theorem dL_law_2388 : decode cL_law 2388 = .ok (.aload_n 1, 1) := by decide +kernel
theorem dL_law_2389 : decode cL_law 2389 = .ok (.aload_n 3, 1) := by decide +kernel
