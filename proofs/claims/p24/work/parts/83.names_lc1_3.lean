theorem dL_law_2223 : decode cL_law 2223 = .ok (.iaload, 1) := by decide +kernel
theorem dL_law_2224 : decode cL_law 2224 = .ok (.aload_n 0, 1) := by decide +kernel
theorem dL_law_2225 : decode cL_law 2225 = .ok (.iload 4, 2) := by decide +kernel
theorem dL_law_2227 : decode cL_law 2227 = .ok (.iconst 5, 1) := by decide +kernel
theorem dL_law_2228 : decode cL_law 2228 = .ok (.iadd, 1) := by decide +kernel
theorem dL_law_2229 : decode cL_law 2229 = .ok (.iaload, 1) := by decide +kernel
theorem dL_law_2230 : decode cL_law 2230 = .ok (.invokevirtual 182, 3) := by decide +kernel
theorem dL_law_2233 : decode cL_law 2233 = .ok (.pop, 1) := by decide +kernel
theorem dL_law_2234 : decode cL_law 2234 = .ok (.goto 93, 3) := by decide +kernel
theorem dL_law_2237 : decode cL_law 2237 = .ok (.aload_n 1, 1) := by decide +kernel
theorem dL_law_2238 : decode cL_law 2238 = .ok (.aload_n 0, 1) := by decide +kernel
theorem dL_law_2239 : decode cL_law 2239 = .ok (.iload 4, 2) := by decide +kernel
theorem dL_law_2241 : decode cL_law 2241 = .ok (.iconst 1, 1) := by decide +kernel
theorem dL_law_2242 : decode cL_law 2242 = .ok (.iadd, 1) := by decide +kernel
theorem dL_law_2243 : decode cL_law 2243 = .ok (.iaload, 1) := by decide +kernel
theorem dL_law_2244 : decode cL_law 2244 = .ok (.aload_n 0, 1) := by decide +kernel
theorem dL_law_2245 : decode cL_law 2245 = .ok (.iload 4, 2) := by decide +kernel
theorem dL_law_2247 : decode cL_law 2247 = .ok (.iconst 2, 1) := by decide +kernel
theorem dL_law_2248 : decode cL_law 2248 = .ok (.iadd, 1) := by decide +kernel
theorem dL_law_2249 : decode cL_law 2249 = .ok (.iaload, 1) := by decide +kernel
theorem dL_law_2250 : decode cL_law 2250 = .ok (.invokevirtual 183, 3) := by decide +kernel
theorem dL_law_2253 : decode cL_law 2253 = .ok (.pop2, 1) := by decide +kernel
theorem dL_law_2254 : decode cL_law 2254 = .ok (.aload_n 2, 1) := by decide +kernel
theorem dL_law_2255 : decode cL_law 2255 = .ok (.aload_n 0, 1) := by decide +kernel
theorem dL_law_2256 : decode cL_law 2256 = .ok (.iload 4, 2) := by decide +kernel
theorem dL_law_2258 : decode cL_law 2258 = .ok (.iconst 1, 1) := by decide +kernel
theorem dL_law_2259 : decode cL_law 2259 = .ok (.iadd, 1) := by decide +kernel
theorem dL_law_2260 : decode cL_law 2260 = .ok (.iaload, 1) := by decide +kernel
theorem dL_law_2261 : decode cL_law 2261 = .ok (.aload_n 0, 1) := by decide +kernel
theorem dL_law_2262 : decode cL_law 2262 = .ok (.iload 4, 2) := by decide +kernel
theorem dL_law_2264 : decode cL_law 2264 = .ok (.iconst 2, 1) := by decide +kernel
theorem dL_law_2265 : decode cL_law 2265 = .ok (.iadd, 1) := by decide +kernel
theorem dL_law_2266 : decode cL_law 2266 = .ok (.iaload, 1) := by decide +kernel
theorem dL_law_2267 : decode cL_law 2267 = .ok (.invokevirtual 186, 3) := by decide +kernel
theorem dL_law_2270 : decode cL_law 2270 = .ok (.pop2, 1) := by decide +kernel
theorem dL_law_2271 : decode cL_law 2271 = .ok (.goto 56, 3) := by decide +kernel
theorem dL_law_2274 : decode cL_law 2274 = .ok (.aload_n 1, 1) := by decide +kernel
theorem dL_law_2275 : decode cL_law 2275 = .ok (.aload_n 0, 1) := by decide +kernel
theorem dL_law_2276 : decode cL_law 2276 = .ok (.iload 4, 2) := by decide +kernel
theorem dL_law_2278 : decode cL_law 2278 = .ok (.iconst 1, 1) := by decide +kernel
theorem dL_law_2279 : decode cL_law 2279 = .ok (.iadd, 1) := by decide +kernel
theorem dL_law_2280 : decode cL_law 2280 = .ok (.iaload, 1) := by decide +kernel
theorem dL_law_2281 : decode cL_law 2281 = .ok (.aload_n 3, 1) := by decide +kernel
theorem dL_law_2282 : decode cL_law 2282 = .ok (.invokestatic 187, 3) := by decide +kernel
theorem dL_law_2285 : decode cL_law 2285 = .ok (.istore 5, 2) := by decide +kernel
theorem dL_law_2287 : decode cL_law 2287 = .ok (.aload_n 2, 1) := by decide +kernel
theorem dL_law_2288 : decode cL_law 2288 = .ok (.aload_n 0, 1) := by decide +kernel
theorem dL_law_2289 : decode cL_law 2289 = .ok (.iload 4, 2) := by decide +kernel
theorem dL_law_2291 : decode cL_law 2291 = .ok (.iconst 1, 1) := by decide +kernel
theorem dL_law_2292 : decode cL_law 2292 = .ok (.iadd, 1) := by decide +kernel
theorem dL_law_2293 : decode cL_law 2293 = .ok (.iaload, 1) := by decide +kernel
theorem dL_law_2294 : decode cL_law 2294 = .ok (.invokevirtual 189, 3) := by decide +kernel
theorem dL_law_2297 : decode cL_law 2297 = .ok (.istore 6, 2) := by decide +kernel
theorem dL_law_2299 : decode cL_law 2299 = .ok (.goto 28, 3) := by decide +kernel
theorem dL_law_2302 : decode cL_law 2302 = .ok (.aload_n 1, 1) := by decide +kernel
theorem dL_law_2303 : decode cL_law 2303 = .ok (.aload_n 0, 1) := by decide +kernel
theorem dL_law_2304 : decode cL_law 2304 = .ok (.iload 4, 2) := by decide +kernel
theorem dL_law_2306 : decode cL_law 2306 = .ok (.iconst 1, 1) := by decide +kernel
theorem dL_law_2307 : decode cL_law 2307 = .ok (.iadd, 1) := by decide +kernel
theorem dL_law_2308 : decode cL_law 2308 = .ok (.iaload, 1) := by decide +kernel
theorem dL_law_2309 : decode cL_law 2309 = .ok (.invokevirtual 190, 3) := by decide +kernel
theorem dL_law_2312 : decode cL_law 2312 = .ok (.pop, 1) := by decide +kernel
theorem dL_law_2313 : decode cL_law 2313 = .ok (.aload_n 2, 1) := by decide +kernel
theorem dL_law_2314 : decode cL_law 2314 = .ok (.aload_n 0, 1) := by decide +kernel
theorem dL_law_2315 : decode cL_law 2315 = .ok (.iload 4, 2) := by decide +kernel
theorem dL_law_2317 : decode cL_law 2317 = .ok (.iconst 1, 1) := by decide +kernel
theorem dL_law_2318 : decode cL_law 2318 = .ok (.iadd, 1) := by decide +kernel
theorem dL_law_2319 : decode cL_law 2319 = .ok (.iaload, 1) := by decide +kernel
theorem dL_law_2320 : decode cL_law 2320 = .ok (.invokevirtual 193, 3) := by decide +kernel
theorem dL_law_2323 : decode cL_law 2323 = .ok (.pop, 1) := by decide +kernel
theorem dL_law_2324 : decode cL_law 2324 = .ok (.goto 3, 3) := by decide +kernel
