/-! printed: the law's cases 40 to 47, decoded; their words -/
theorem dL_law_2204 : decode cL_law 2204 = .ok (.aload_n 1, 1) := by decide +kernel
theorem dL_law_2205 : decode cL_law 2205 = .ok (.aload_n 0, 1) := by decide +kernel
theorem dL_law_2206 : decode cL_law 2206 = .ok (.iload 4, 2) := by decide +kernel
theorem dL_law_2208 : decode cL_law 2208 = .ok (.iconst 1, 1) := by decide +kernel
theorem dL_law_2209 : decode cL_law 2209 = .ok (.iadd, 1) := by decide +kernel
theorem dL_law_2210 : decode cL_law 2210 = .ok (.iaload, 1) := by decide +kernel
theorem dL_law_2211 : decode cL_law 2211 = .ok (.aload_n 3, 1) := by decide +kernel
theorem dL_law_2212 : decode cL_law 2212 = .ok (.invokestatic 294, 3) := by decide +kernel
theorem dL_law_2215 : decode cL_law 2215 = .ok (.istore 5, 2) := by decide +kernel
theorem dL_law_2217 : decode cL_law 2217 = .ok (.aload_n 2, 1) := by decide +kernel
theorem dL_law_2218 : decode cL_law 2218 = .ok (.aload_n 0, 1) := by decide +kernel
theorem dL_law_2219 : decode cL_law 2219 = .ok (.iload 4, 2) := by decide +kernel
theorem dL_law_2221 : decode cL_law 2221 = .ok (.iconst 1, 1) := by decide +kernel
theorem dL_law_2222 : decode cL_law 2222 = .ok (.iadd, 1) := by decide +kernel
theorem dL_law_2223 : decode cL_law 2223 = .ok (.iaload, 1) := by decide +kernel
theorem dL_law_2224 : decode cL_law 2224 = .ok (.invokevirtual 296, 3) := by decide +kernel
theorem dL_law_2227 : decode cL_law 2227 = .ok (.istore 6, 2) := by decide +kernel
theorem dL_law_2229 : decode cL_law 2229 = .ok (.aload_n 2, 1) := by decide +kernel
theorem dL_law_2230 : decode cL_law 2230 = .ok (.invokevirtual 161, 3) := by decide +kernel
theorem dL_law_2233 : decode cL_law 2233 = .ok (.iload 5, 2) := by decide +kernel
theorem dL_law_2235 : decode cL_law 2235 = .ok (.if_icmp .eq 5, 3) := by decide +kernel
theorem dL_law_2240 : decode cL_law 2240 = .ok (.iload 5, 2) := by decide +kernel
theorem dL_law_2242 : decode cL_law 2242 = .ok (.ifCond .ne 22, 3) := by decide +kernel
theorem dL_law_2245 : decode cL_law 2245 = .ok (.aload_n 3, 1) := by decide +kernel
theorem dL_law_2246 : decode cL_law 2246 = .ok (.iconst 0, 1) := by decide +kernel
theorem dL_law_2247 : decode cL_law 2247 = .ok (.laload, 1) := by decide +kernel
theorem dL_law_2248 : decode cL_law 2248 = .ok (.iload 6, 2) := by decide +kernel
theorem dL_law_2250 : decode cL_law 2250 = .ok (.ifCond .eq 7, 3) := by decide +kernel
theorem dL_law_2253 : decode cL_law 2253 = .ok (.lconst 1, 1) := by decide +kernel
theorem dL_law_2254 : decode cL_law 2254 = .ok (.goto 4, 3) := by decide +kernel
theorem dL_law_2257 : decode cL_law 2257 = .ok (.lconst 0, 1) := by decide +kernel
theorem dL_law_2258 : decode cL_law 2258 = .ok (.lcmp, 1) := by decide +kernel
theorem dL_law_2259 : decode cL_law 2259 = .ok (.ifCond .eq 5, 3) := by decide +kernel
theorem dL_law_2264 : decode cL_law 2264 = .ok (.goto 998, 3) := by decide +kernel
theorem dL_law_2267 : decode cL_law 2267 = .ok (.aload_n 1, 1) := by decide +kernel
theorem dL_law_2268 : decode cL_law 2268 = .ok (.aload_n 0, 1) := by decide +kernel
theorem dL_law_2269 : decode cL_law 2269 = .ok (.iload 4, 2) := by decide +kernel
theorem dL_law_2271 : decode cL_law 2271 = .ok (.iconst 1, 1) := by decide +kernel
theorem dL_law_2272 : decode cL_law 2272 = .ok (.iadd, 1) := by decide +kernel
theorem dL_law_2273 : decode cL_law 2273 = .ok (.iaload, 1) := by decide +kernel
theorem dL_law_2274 : decode cL_law 2274 = .ok (.aload_n 3, 1) := by decide +kernel
theorem dL_law_2275 : decode cL_law 2275 = .ok (.invokestatic 297, 3) := by decide +kernel
theorem dL_law_2278 : decode cL_law 2278 = .ok (.istore 5, 2) := by decide +kernel
theorem dL_law_2280 : decode cL_law 2280 = .ok (.aload_n 2, 1) := by decide +kernel
theorem dL_law_2281 : decode cL_law 2281 = .ok (.aload_n 0, 1) := by decide +kernel
theorem dL_law_2282 : decode cL_law 2282 = .ok (.iload 4, 2) := by decide +kernel
theorem dL_law_2284 : decode cL_law 2284 = .ok (.iconst 1, 1) := by decide +kernel
theorem dL_law_2285 : decode cL_law 2285 = .ok (.iadd, 1) := by decide +kernel
theorem dL_law_2286 : decode cL_law 2286 = .ok (.iaload, 1) := by decide +kernel
theorem dL_law_2287 : decode cL_law 2287 = .ok (.invokevirtual 299, 3) := by decide +kernel
theorem dL_law_2290 : decode cL_law 2290 = .ok (.istore 6, 2) := by decide +kernel
theorem dL_law_2292 : decode cL_law 2292 = .ok (.aload_n 2, 1) := by decide +kernel
theorem dL_law_2293 : decode cL_law 2293 = .ok (.invokevirtual 161, 3) := by decide +kernel
theorem dL_law_2296 : decode cL_law 2296 = .ok (.iload 5, 2) := by decide +kernel
theorem dL_law_2298 : decode cL_law 2298 = .ok (.if_icmp .eq 5, 3) := by decide +kernel
theorem dL_law_2303 : decode cL_law 2303 = .ok (.iload 5, 2) := by decide +kernel
theorem dL_law_2305 : decode cL_law 2305 = .ok (.ifCond .ne 15, 3) := by decide +kernel
theorem dL_law_2308 : decode cL_law 2308 = .ok (.aload_n 3, 1) := by decide +kernel
theorem dL_law_2309 : decode cL_law 2309 = .ok (.iconst 0, 1) := by decide +kernel
theorem dL_law_2310 : decode cL_law 2310 = .ok (.laload, 1) := by decide +kernel
theorem dL_law_2311 : decode cL_law 2311 = .ok (.iload 6, 2) := by decide +kernel
theorem dL_law_2313 : decode cL_law 2313 = .ok (.i2l, 1) := by decide +kernel
theorem dL_law_2314 : decode cL_law 2314 = .ok (.lcmp, 1) := by decide +kernel
theorem dL_law_2315 : decode cL_law 2315 = .ok (.ifCond .eq 5, 3) := by decide +kernel
theorem dL_law_2320 : decode cL_law 2320 = .ok (.goto 942, 3) := by decide +kernel
theorem dL_law_2323 : decode cL_law 2323 = .ok (.aload_n 1, 1) := by decide +kernel
theorem dL_law_2324 : decode cL_law 2324 = .ok (.aload_n 0, 1) := by decide +kernel
theorem dL_law_2325 : decode cL_law 2325 = .ok (.iload 4, 2) := by decide +kernel
theorem dL_law_2327 : decode cL_law 2327 = .ok (.iconst 1, 1) := by decide +kernel
theorem dL_law_2328 : decode cL_law 2328 = .ok (.iadd, 1) := by decide +kernel
theorem dL_law_2329 : decode cL_law 2329 = .ok (.iaload, 1) := by decide +kernel
theorem dL_law_2330 : decode cL_law 2330 = .ok (.aload_n 3, 1) := by decide +kernel
theorem dL_law_2331 : decode cL_law 2331 = .ok (.invokestatic 300, 3) := by decide +kernel
theorem dL_law_2334 : decode cL_law 2334 = .ok (.istore 5, 2) := by decide +kernel
theorem dL_law_2336 : decode cL_law 2336 = .ok (.aload_n 2, 1) := by decide +kernel
theorem dL_law_2337 : decode cL_law 2337 = .ok (.aload_n 0, 1) := by decide +kernel
theorem dL_law_2338 : decode cL_law 2338 = .ok (.iload 4, 2) := by decide +kernel
theorem dL_law_2340 : decode cL_law 2340 = .ok (.iconst 1, 1) := by decide +kernel
theorem dL_law_2341 : decode cL_law 2341 = .ok (.iadd, 1) := by decide +kernel
theorem dL_law_2342 : decode cL_law 2342 = .ok (.iaload, 1) := by decide +kernel
theorem dL_law_2343 : decode cL_law 2343 = .ok (.invokevirtual 302, 3) := by decide +kernel
theorem dL_law_2346 : decode cL_law 2346 = .ok (.istore 6, 2) := by decide +kernel
theorem dL_law_2348 : decode cL_law 2348 = .ok (.aload_n 2, 1) := by decide +kernel
theorem dL_law_2349 : decode cL_law 2349 = .ok (.invokevirtual 161, 3) := by decide +kernel
theorem dL_law_2352 : decode cL_law 2352 = .ok (.iload 5, 2) := by decide +kernel
theorem dL_law_2354 : decode cL_law 2354 = .ok (.if_icmp .eq 5, 3) := by decide +kernel
theorem dL_law_2359 : decode cL_law 2359 = .ok (.iload 5, 2) := by decide +kernel
theorem dL_law_2361 : decode cL_law 2361 = .ok (.ifCond .ne 15, 3) := by decide +kernel
theorem dL_law_2364 : decode cL_law 2364 = .ok (.aload_n 3, 1) := by decide +kernel
theorem dL_law_2365 : decode cL_law 2365 = .ok (.iconst 0, 1) := by decide +kernel
theorem dL_law_2366 : decode cL_law 2366 = .ok (.laload, 1) := by decide +kernel
theorem dL_law_2367 : decode cL_law 2367 = .ok (.iload 6, 2) := by decide +kernel
theorem dL_law_2369 : decode cL_law 2369 = .ok (.i2l, 1) := by decide +kernel
theorem dL_law_2370 : decode cL_law 2370 = .ok (.lcmp, 1) := by decide +kernel
theorem dL_law_2371 : decode cL_law 2371 = .ok (.ifCond .eq 5, 3) := by decide +kernel
theorem dL_law_2376 : decode cL_law 2376 = .ok (.goto 886, 3) := by decide +kernel
theorem dL_law_2379 : decode cL_law 2379 = .ok (.aload_n 1, 1) := by decide +kernel
theorem dL_law_2380 : decode cL_law 2380 = .ok (.aload_n 0, 1) := by decide +kernel
theorem dL_law_2381 : decode cL_law 2381 = .ok (.iload 4, 2) := by decide +kernel
theorem dL_law_2383 : decode cL_law 2383 = .ok (.iconst 1, 1) := by decide +kernel
theorem dL_law_2384 : decode cL_law 2384 = .ok (.iadd, 1) := by decide +kernel
theorem dL_law_2385 : decode cL_law 2385 = .ok (.iaload, 1) := by decide +kernel
theorem dL_law_2386 : decode cL_law 2386 = .ok (.aload_n 3, 1) := by decide +kernel
theorem dL_law_2387 : decode cL_law 2387 = .ok (.invokestatic 303, 3) := by decide +kernel
theorem dL_law_2390 : decode cL_law 2390 = .ok (.istore 5, 2) := by decide +kernel
theorem dL_law_2392 : decode cL_law 2392 = .ok (.aload_n 2, 1) := by decide +kernel
theorem dL_law_2393 : decode cL_law 2393 = .ok (.aload_n 0, 1) := by decide +kernel
theorem dL_law_2394 : decode cL_law 2394 = .ok (.iload 4, 2) := by decide +kernel
theorem dL_law_2396 : decode cL_law 2396 = .ok (.iconst 1, 1) := by decide +kernel
theorem dL_law_2397 : decode cL_law 2397 = .ok (.iadd, 1) := by decide +kernel
theorem dL_law_2398 : decode cL_law 2398 = .ok (.iaload, 1) := by decide +kernel
theorem dL_law_2399 : decode cL_law 2399 = .ok (.invokevirtual 305, 3) := by decide +kernel
theorem dL_law_2402 : decode cL_law 2402 = .ok (.istore 6, 2) := by decide +kernel
theorem dL_law_2404 : decode cL_law 2404 = .ok (.aload_n 2, 1) := by decide +kernel
theorem dL_law_2405 : decode cL_law 2405 = .ok (.invokevirtual 161, 3) := by decide +kernel
theorem dL_law_2408 : decode cL_law 2408 = .ok (.iload 5, 2) := by decide +kernel
theorem dL_law_2410 : decode cL_law 2410 = .ok (.if_icmp .eq 5, 3) := by decide +kernel
theorem dL_law_2415 : decode cL_law 2415 = .ok (.iload 5, 2) := by decide +kernel
theorem dL_law_2417 : decode cL_law 2417 = .ok (.ifCond .ne 15, 3) := by decide +kernel
theorem dL_law_2420 : decode cL_law 2420 = .ok (.aload_n 3, 1) := by decide +kernel
theorem dL_law_2421 : decode cL_law 2421 = .ok (.iconst 0, 1) := by decide +kernel
theorem dL_law_2422 : decode cL_law 2422 = .ok (.laload, 1) := by decide +kernel
theorem dL_law_2423 : decode cL_law 2423 = .ok (.iload 6, 2) := by decide +kernel
theorem dL_law_2425 : decode cL_law 2425 = .ok (.i2l, 1) := by decide +kernel
theorem dL_law_2426 : decode cL_law 2426 = .ok (.lcmp, 1) := by decide +kernel
theorem dL_law_2427 : decode cL_law 2427 = .ok (.ifCond .eq 5, 3) := by decide +kernel
theorem dL_law_2432 : decode cL_law 2432 = .ok (.goto 830, 3) := by decide +kernel
theorem dL_law_2435 : decode cL_law 2435 = .ok (.aload_n 1, 1) := by decide +kernel
theorem dL_law_2436 : decode cL_law 2436 = .ok (.aload_n 0, 1) := by decide +kernel
theorem dL_law_2437 : decode cL_law 2437 = .ok (.iload 4, 2) := by decide +kernel
theorem dL_law_2439 : decode cL_law 2439 = .ok (.iconst 1, 1) := by decide +kernel
theorem dL_law_2440 : decode cL_law 2440 = .ok (.iadd, 1) := by decide +kernel
theorem dL_law_2441 : decode cL_law 2441 = .ok (.iaload, 1) := by decide +kernel
theorem dL_law_2442 : decode cL_law 2442 = .ok (.aload_n 3, 1) := by decide +kernel
theorem dL_law_2443 : decode cL_law 2443 = .ok (.invokestatic 306, 3) := by decide +kernel
theorem dL_law_2446 : decode cL_law 2446 = .ok (.istore 5, 2) := by decide +kernel
theorem dL_law_2448 : decode cL_law 2448 = .ok (.aload_n 2, 1) := by decide +kernel
theorem dL_law_2449 : decode cL_law 2449 = .ok (.aload_n 0, 1) := by decide +kernel
theorem dL_law_2450 : decode cL_law 2450 = .ok (.iload 4, 2) := by decide +kernel
theorem dL_law_2452 : decode cL_law 2452 = .ok (.iconst 1, 1) := by decide +kernel
theorem dL_law_2453 : decode cL_law 2453 = .ok (.iadd, 1) := by decide +kernel
theorem dL_law_2454 : decode cL_law 2454 = .ok (.iaload, 1) := by decide +kernel
theorem dL_law_2455 : decode cL_law 2455 = .ok (.invokevirtual 308, 3) := by decide +kernel
theorem dL_law_2458 : decode cL_law 2458 = .ok (.istore 6, 2) := by decide +kernel
theorem dL_law_2460 : decode cL_law 2460 = .ok (.aload_n 2, 1) := by decide +kernel
theorem dL_law_2461 : decode cL_law 2461 = .ok (.invokevirtual 161, 3) := by decide +kernel
theorem dL_law_2464 : decode cL_law 2464 = .ok (.iload 5, 2) := by decide +kernel
theorem dL_law_2466 : decode cL_law 2466 = .ok (.if_icmp .eq 5, 3) := by decide +kernel
theorem dL_law_2471 : decode cL_law 2471 = .ok (.iload 5, 2) := by decide +kernel
theorem dL_law_2473 : decode cL_law 2473 = .ok (.ifCond .ne 15, 3) := by decide +kernel
theorem dL_law_2476 : decode cL_law 2476 = .ok (.aload_n 3, 1) := by decide +kernel
theorem dL_law_2477 : decode cL_law 2477 = .ok (.iconst 0, 1) := by decide +kernel
theorem dL_law_2478 : decode cL_law 2478 = .ok (.laload, 1) := by decide +kernel
theorem dL_law_2479 : decode cL_law 2479 = .ok (.iload 6, 2) := by decide +kernel
theorem dL_law_2481 : decode cL_law 2481 = .ok (.i2l, 1) := by decide +kernel
theorem dL_law_2482 : decode cL_law 2482 = .ok (.lcmp, 1) := by decide +kernel
theorem dL_law_2483 : decode cL_law 2483 = .ok (.ifCond .eq 5, 3) := by decide +kernel
theorem dL_law_2488 : decode cL_law 2488 = .ok (.goto 774, 3) := by decide +kernel
theorem dL_law_2491 : decode cL_law 2491 = .ok (.aload_n 1, 1) := by decide +kernel
theorem dL_law_2492 : decode cL_law 2492 = .ok (.aload_n 0, 1) := by decide +kernel
theorem dL_law_2493 : decode cL_law 2493 = .ok (.iload 4, 2) := by decide +kernel
theorem dL_law_2495 : decode cL_law 2495 = .ok (.iconst 1, 1) := by decide +kernel
theorem dL_law_2496 : decode cL_law 2496 = .ok (.iadd, 1) := by decide +kernel
theorem dL_law_2497 : decode cL_law 2497 = .ok (.iaload, 1) := by decide +kernel
theorem dL_law_2498 : decode cL_law 2498 = .ok (.aload_n 3, 1) := by decide +kernel
theorem dL_law_2499 : decode cL_law 2499 = .ok (.invokestatic 309, 3) := by decide +kernel
theorem dL_law_2502 : decode cL_law 2502 = .ok (.istore 5, 2) := by decide +kernel
theorem dL_law_2504 : decode cL_law 2504 = .ok (.aload_n 2, 1) := by decide +kernel
theorem dL_law_2505 : decode cL_law 2505 = .ok (.aload_n 0, 1) := by decide +kernel
theorem dL_law_2506 : decode cL_law 2506 = .ok (.iload 4, 2) := by decide +kernel
theorem dL_law_2508 : decode cL_law 2508 = .ok (.iconst 1, 1) := by decide +kernel
theorem dL_law_2509 : decode cL_law 2509 = .ok (.iadd, 1) := by decide +kernel
theorem dL_law_2510 : decode cL_law 2510 = .ok (.iaload, 1) := by decide +kernel
theorem dL_law_2511 : decode cL_law 2511 = .ok (.invokevirtual 311, 3) := by decide +kernel
theorem dL_law_2514 : decode cL_law 2514 = .ok (.istore 6, 2) := by decide +kernel
theorem dL_law_2516 : decode cL_law 2516 = .ok (.aload_n 2, 1) := by decide +kernel
theorem dL_law_2517 : decode cL_law 2517 = .ok (.invokevirtual 161, 3) := by decide +kernel
theorem dL_law_2520 : decode cL_law 2520 = .ok (.iload 5, 2) := by decide +kernel
theorem dL_law_2522 : decode cL_law 2522 = .ok (.if_icmp .eq 5, 3) := by decide +kernel
theorem dL_law_2527 : decode cL_law 2527 = .ok (.iload 5, 2) := by decide +kernel
theorem dL_law_2529 : decode cL_law 2529 = .ok (.ifCond .ne 15, 3) := by decide +kernel
theorem dL_law_2532 : decode cL_law 2532 = .ok (.aload_n 3, 1) := by decide +kernel
theorem dL_law_2533 : decode cL_law 2533 = .ok (.iconst 0, 1) := by decide +kernel
theorem dL_law_2534 : decode cL_law 2534 = .ok (.laload, 1) := by decide +kernel
theorem dL_law_2535 : decode cL_law 2535 = .ok (.iload 6, 2) := by decide +kernel
theorem dL_law_2537 : decode cL_law 2537 = .ok (.i2l, 1) := by decide +kernel
theorem dL_law_2538 : decode cL_law 2538 = .ok (.lcmp, 1) := by decide +kernel
theorem dL_law_2539 : decode cL_law 2539 = .ok (.ifCond .eq 5, 3) := by decide +kernel
theorem dL_law_2544 : decode cL_law 2544 = .ok (.goto 718, 3) := by decide +kernel
theorem dL_law_2547 : decode cL_law 2547 = .ok (.aload_n 1, 1) := by decide +kernel
theorem dL_law_2548 : decode cL_law 2548 = .ok (.invokevirtual 312, 3) := by decide +kernel
theorem dL_law_2551 : decode cL_law 2551 = .ok (.aload_n 2, 1) := by decide +kernel
theorem dL_law_2552 : decode cL_law 2552 = .ok (.invokevirtual 315, 3) := by decide +kernel
theorem dL_law_2555 : decode cL_law 2555 = .ok (.if_icmp .eq 707, 3) := by decide +kernel
theorem dL_law_2560 : decode cL_law 2560 = .ok (.aload_n 1, 1) := by decide +kernel
theorem dL_law_2561 : decode cL_law 2561 = .ok (.aload_n 0, 1) := by decide +kernel
theorem dL_law_2562 : decode cL_law 2562 = .ok (.iload 4, 2) := by decide +kernel
theorem dL_law_2564 : decode cL_law 2564 = .ok (.iconst 1, 1) := by decide +kernel
theorem dL_law_2565 : decode cL_law 2565 = .ok (.iadd, 1) := by decide +kernel
theorem dL_law_2566 : decode cL_law 2566 = .ok (.iaload, 1) := by decide +kernel
theorem dL_law_2567 : decode cL_law 2567 = .ok (.aload_n 3, 1) := by decide +kernel
theorem dL_law_2568 : decode cL_law 2568 = .ok (.invokestatic 316, 3) := by decide +kernel
theorem dL_law_2571 : decode cL_law 2571 = .ok (.istore 5, 2) := by decide +kernel
theorem dL_law_2573 : decode cL_law 2573 = .ok (.aload_n 2, 1) := by decide +kernel
theorem dL_law_2574 : decode cL_law 2574 = .ok (.aload_n 0, 1) := by decide +kernel
theorem dL_law_2575 : decode cL_law 2575 = .ok (.iload 4, 2) := by decide +kernel
theorem dL_law_2577 : decode cL_law 2577 = .ok (.iconst 1, 1) := by decide +kernel
theorem dL_law_2578 : decode cL_law 2578 = .ok (.iadd, 1) := by decide +kernel
theorem dL_law_2579 : decode cL_law 2579 = .ok (.iaload, 1) := by decide +kernel
theorem dL_law_2580 : decode cL_law 2580 = .ok (.invokevirtual 318, 3) := by decide +kernel
theorem dL_law_2583 : decode cL_law 2583 = .ok (.istore 6, 2) := by decide +kernel
theorem dL_law_2585 : decode cL_law 2585 = .ok (.aload_n 2, 1) := by decide +kernel
theorem dL_law_2586 : decode cL_law 2586 = .ok (.invokevirtual 161, 3) := by decide +kernel
theorem dL_law_2589 : decode cL_law 2589 = .ok (.iload 5, 2) := by decide +kernel
theorem dL_law_2591 : decode cL_law 2591 = .ok (.if_icmp .eq 5, 3) := by decide +kernel
theorem dL_law_2596 : decode cL_law 2596 = .ok (.iload 5, 2) := by decide +kernel
theorem dL_law_2598 : decode cL_law 2598 = .ok (.ifCond .ne 15, 3) := by decide +kernel
theorem dL_law_2601 : decode cL_law 2601 = .ok (.aload_n 3, 1) := by decide +kernel
theorem dL_law_2602 : decode cL_law 2602 = .ok (.iconst 0, 1) := by decide +kernel
theorem dL_law_2603 : decode cL_law 2603 = .ok (.laload, 1) := by decide +kernel
theorem dL_law_2604 : decode cL_law 2604 = .ok (.iload 6, 2) := by decide +kernel
theorem dL_law_2606 : decode cL_law 2606 = .ok (.i2l, 1) := by decide +kernel
theorem dL_law_2607 : decode cL_law 2607 = .ok (.lcmp, 1) := by decide +kernel
theorem dL_law_2608 : decode cL_law 2608 = .ok (.ifCond .eq 5, 3) := by decide +kernel
theorem dL_law_2613 : decode cL_law 2613 = .ok (.goto 649, 3) := by decide +kernel
theorem lo_isReturned {σ τ : Sig} (a0 : Int32) (h : Rl σ τ) : OKx [2] (f11_isReturned a0 σ) (f12_isReturned a0 τ) := by
  have e1 : xg σ 8 (σ 9) = σ := xg_self σ 8
  have e2 : mr τ (τ 0 1) = τ := mr_self τ
  have q := ok_isReturned (σ := σ) (τ := τ) (G := σ 9) (w := τ 0 1) a0 (by rw [e1, e2]; exact h)
  rw [e1, e2] at q
  exact q
theorem mz_294 : MWz 294 yL_isReturned cL_isReturned 4 [(0, 16, 19, 19)] 3 := ⟨gw_t (tin6 (List.mem_of_getElem? (i := 155) rfl)) rfl, gw_t (tin6 (List.mem_of_getElem? (i := 156) rfl)) rfl, gw_t (tin1 (List.mem_of_getElem? (i := 0) rfl)) rfl, gw_t (tin6 (List.mem_of_getElem? (i := 157) rfl)) rfl, by decide, by decide, by decide +kernel⟩
theorem mz_296 : MWv RL 296 yX12_isReturned cX12_isReturned 2 (some .boolean) 1 := ⟨gw_t (tin9 (List.mem_of_getElem? (i := 62) rfl)) rfl, gw_t (tin9 (List.mem_of_getElem? (i := 63) rfl)) rfl, gw_t (tin9 (List.mem_of_getElem? (i := 64) rfl)) rfl, gw_t (tin1 (List.mem_of_getElem? (i := 19) rfl)) rfl, gw_t (tin9 (List.mem_of_getElem? (i := 65) rfl)) rfl, by decide, by decide, by decide +kernel⟩
theorem lo_usedDays {σ τ : Sig} (a0 : Int32) (h : Rl σ τ) : OKx [2] (f11_usedDays a0 σ) (f12_usedDays a0 τ) := by
  have e1 : xg σ 8 (σ 9) = σ := xg_self σ 8
  have e2 : mr τ (τ 0 1) = τ := mr_self τ
  have q := ok_usedDays (σ := σ) (τ := τ) (G := σ 9) (w := τ 0 1) a0 (by rw [e1, e2]; exact h)
  rw [e1, e2] at q
  exact q
theorem mz_297 : MWz 297 yL_usedDays cL_usedDays 4 [(0, 9, 12, 19)] 3 := ⟨gw_t (tin6 (List.mem_of_getElem? (i := 162) rfl)) rfl, gw_t (tin6 (List.mem_of_getElem? (i := 163) rfl)) rfl, gw_t (tin1 (List.mem_of_getElem? (i := 0) rfl)) rfl, gw_t (tin6 (List.mem_of_getElem? (i := 164) rfl)) rfl, by decide, by decide, by decide +kernel⟩
theorem mz_299 : MWv RL 299 yX12_usedDays cX12_usedDays 2 (some .int) 1 := ⟨gw_t (tin9 (List.mem_of_getElem? (i := 66) rfl)) rfl, gw_t (tin9 (List.mem_of_getElem? (i := 67) rfl)) rfl, gw_t (tin9 (List.mem_of_getElem? (i := 68) rfl)) rfl, gw_t (tin1 (List.mem_of_getElem? (i := 19) rfl)) rfl, gw_t (tin9 (List.mem_of_getElem? (i := 69) rfl)) rfl, by decide, by decide, by decide +kernel⟩
theorem lo_visitsWith {σ τ : Sig} (a0 : Int32) (h : Rl σ τ) : OKx [2] (f11_visitsWith a0 σ) (f12_visitsWith a0 τ) := by
  have e1 : xg σ 8 (σ 9) = σ := xg_self σ 8
  have e2 : mr τ (τ 0 1) = τ := mr_self τ
  have q := ok_visitsWith (σ := σ) (τ := τ) (G := σ 9) (w := τ 0 1) a0 (by rw [e1, e2]; exact h)
  rw [e1, e2] at q
  exact q
theorem mz_300 : MWz 300 yL_visitsWith cL_visitsWith 4 [(0, 9, 12, 19)] 3 := ⟨gw_t (tin6 (List.mem_of_getElem? (i := 170) rfl)) rfl, gw_t (tin6 (List.mem_of_getElem? (i := 171) rfl)) rfl, gw_t (tin1 (List.mem_of_getElem? (i := 0) rfl)) rfl, gw_t (tin6 (List.mem_of_getElem? (i := 172) rfl)) rfl, by decide, by decide, by decide +kernel⟩
theorem mz_302 : MWv RL 302 yX12_visitsWith cX12_visitsWith 2 (some .int) 1 := ⟨gw_t (tin9 (List.mem_of_getElem? (i := 73) rfl)) rfl, gw_t (tin9 (List.mem_of_getElem? (i := 74) rfl)) rfl, gw_t (tin9 (List.mem_of_getElem? (i := 75) rfl)) rfl, gw_t (tin1 (List.mem_of_getElem? (i := 19) rfl)) rfl, gw_t (tin9 (List.mem_of_getElem? (i := 76) rfl)) rfl, by decide, by decide, by decide +kernel⟩
theorem lo_refundOf {σ τ : Sig} (a0 : Int32) (h : Rl σ τ) : OKx [2] (f11_refundOf a0 σ) (f12_refundOf a0 τ) := by
  have e1 : xg σ 8 (σ 9) = σ := xg_self σ 8
  have e2 : mr τ (τ 0 1) = τ := mr_self τ
  have q := ok_refundOf (σ := σ) (τ := τ) (G := σ 9) (w := τ 0 1) a0 (by rw [e1, e2]; exact h)
  rw [e1, e2] at q
  exact q
theorem mz_303 : MWz 303 yL_refundOf cL_refundOf 4 [(0, 9, 12, 19)] 3 := ⟨gw_t (tin6 (List.mem_of_getElem? (i := 177) rfl)) rfl, gw_t (tin6 (List.mem_of_getElem? (i := 178) rfl)) rfl, gw_t (tin1 (List.mem_of_getElem? (i := 0) rfl)) rfl, gw_t (tin6 (List.mem_of_getElem? (i := 179) rfl)) rfl, by decide, by decide, by decide +kernel⟩
theorem mz_305 : MWv RL 305 yX12_refundOf cX12_refundOf 2 (some .int) 1 := ⟨gw_t (tin9 (List.mem_of_getElem? (i := 77) rfl)) rfl, gw_t (tin9 (List.mem_of_getElem? (i := 78) rfl)) rfl, gw_t (tin9 (List.mem_of_getElem? (i := 79) rfl)) rfl, gw_t (tin1 (List.mem_of_getElem? (i := 19) rfl)) rfl, gw_t (tin9 (List.mem_of_getElem? (i := 80) rfl)) rfl, by decide, by decide, by decide +kernel⟩
theorem lo_owed {σ τ : Sig} (a0 : Int32) (h : Rl σ τ) : OKx [2] (f11_owed a0 σ) (f12_owed a0 τ) := by
  have e1 : xg σ 8 (σ 9) = σ := xg_self σ 8
  have e2 : mr τ (τ 0 1) = τ := mr_self τ
  have q := ok_owed (σ := σ) (τ := τ) (G := σ 9) (w := τ 0 1) a0 (by rw [e1, e2]; exact h)
  rw [e1, e2] at q
  exact q
theorem mz_306 : MWz 306 yL_owed cL_owed 4 [(0, 9, 12, 19)] 3 := ⟨gw_t (tin6 (List.mem_of_getElem? (i := 185) rfl)) rfl, gw_t (tin6 (List.mem_of_getElem? (i := 186) rfl)) rfl, gw_t (tin1 (List.mem_of_getElem? (i := 0) rfl)) rfl, gw_t (tin6 (List.mem_of_getElem? (i := 187) rfl)) rfl, by decide, by decide, by decide +kernel⟩
theorem mz_308 : MWv RL 308 yX12_owed cX12_owed 2 (some .int) 1 := ⟨gw_t (tin9 (List.mem_of_getElem? (i := 81) rfl)) rfl, gw_t (tin9 (List.mem_of_getElem? (i := 82) rfl)) rfl, gw_t (tin9 (List.mem_of_getElem? (i := 83) rfl)) rfl, gw_t (tin1 (List.mem_of_getElem? (i := 19) rfl)) rfl, gw_t (tin9 (List.mem_of_getElem? (i := 84) rfl)) rfl, by decide, by decide, by decide +kernel⟩
theorem lo_ticksUntilReady {σ τ : Sig} (a0 : Int32) (h : Rl σ τ) : OKx [2] (f11_ticksUntilReady a0 σ) (f12_ticksUntilReady a0 τ) := by
  have e1 : xg σ 8 (σ 9) = σ := xg_self σ 8
  have e2 : mr τ (τ 0 1) = τ := mr_self τ
  have q := ok_ticksUntilReady (σ := σ) (τ := τ) (G := σ 9) (w := τ 0 1) a0 (by rw [e1, e2]; exact h)
  rw [e1, e2] at q
  exact q
theorem mz_309 : MWz 309 yL_ticksUntilReady cL_ticksUntilReady 4 [(0, 9, 12, 19)] 3 := ⟨gw_t (tin6 (List.mem_of_getElem? (i := 192) rfl)) rfl, gw_t (tin6 (List.mem_of_getElem? (i := 193) rfl)) rfl, gw_t (tin1 (List.mem_of_getElem? (i := 0) rfl)) rfl, gw_t (tin6 (List.mem_of_getElem? (i := 194) rfl)) rfl, by decide, by decide, by decide +kernel⟩
theorem mz_311 : MWv RL 311 yX12_ticksUntilReady cX12_ticksUntilReady 3 (some .int) 1 := ⟨gw_t (tin9 (List.mem_of_getElem? (i := 85) rfl)) rfl, gw_t (tin9 (List.mem_of_getElem? (i := 86) rfl)) rfl, gw_t (tin9 (List.mem_of_getElem? (i := 87) rfl)) rfl, gw_t (tin1 (List.mem_of_getElem? (i := 19) rfl)) rfl, gw_t (tin9 (List.mem_of_getElem? (i := 88) rfl)) rfl, by decide, by decide, by decide +kernel⟩
theorem lo_cardCount {σ τ : Sig} (h : Rl σ τ) : OKp σ (f11_cardCount σ) (f12_cardCount τ) := by
  have e1 : xg σ 8 (σ 9) = σ := xg_self σ 8
  have e2 : mr τ (τ 0 1) = τ := mr_self τ
  have q := ok_cardCount (σ := σ) (τ := τ) (G := σ 9) (w := τ 0 1) (by rw [e1, e2]; exact h)
  rw [e1, e2] at q
  exact q
theorem mz_312 : MWv RL 312 yX11_cardCount cX11_cardCount 1 (some .int) 0 := ⟨gw_t (tin4 (List.mem_of_getElem? (i := 155) rfl)) rfl, gw_t (tin4 (List.mem_of_getElem? (i := 156) rfl)) rfl, gw_t (tin4 (List.mem_of_getElem? (i := 157) rfl)) rfl, gw_t (tin1 (List.mem_of_getElem? (i := 1) rfl)) rfl, gw_t (tin4 (List.mem_of_getElem? (i := 158) rfl)) rfl, by decide, by decide, by decide +kernel⟩
theorem mz_315 : MWv RL 315 yX12_cardCount cX12_cardCount 1 (some .int) 0 := ⟨gw_t (tin9 (List.mem_of_getElem? (i := 89) rfl)) rfl, gw_t (tin9 (List.mem_of_getElem? (i := 90) rfl)) rfl, gw_t (tin9 (List.mem_of_getElem? (i := 91) rfl)) rfl, gw_t (tin1 (List.mem_of_getElem? (i := 19) rfl)) rfl, gw_t (tin9 (List.mem_of_getElem? (i := 92) rfl)) rfl, by decide, by decide, by decide +kernel⟩
theorem lo_passOf {σ τ : Sig} (a0 : Int32) (h : Rl σ τ) : OKx [2] (f11_passOf a0 σ) (f12_passOf a0 τ) := by
  have e1 : xg σ 8 (σ 9) = σ := xg_self σ 8
  have e2 : mr τ (τ 0 1) = τ := mr_self τ
  have q := ok_passOf (σ := σ) (τ := τ) (G := σ 9) (w := τ 0 1) a0 (by rw [e1, e2]; exact h)
  rw [e1, e2] at q
  exact q
theorem mz_316 : MWz 316 yL_passOf cL_passOf 4 [(0, 9, 12, 19)] 3 := ⟨gw_t (tin6 (List.mem_of_getElem? (i := 200) rfl)) rfl, gw_t (tin6 (List.mem_of_getElem? (i := 201) rfl)) rfl, gw_t (tin1 (List.mem_of_getElem? (i := 0) rfl)) rfl, gw_t (tin6 (List.mem_of_getElem? (i := 202) rfl)) rfl, by decide, by decide, by decide +kernel⟩
theorem mz_318 : MWv RL 318 yX12_passOf cX12_passOf 2 (some .int) 1 := ⟨gw_t (tin9 (List.mem_of_getElem? (i := 93) rfl)) rfl, gw_t (tin9 (List.mem_of_getElem? (i := 94) rfl)) rfl, gw_t (tin9 (List.mem_of_getElem? (i := 95) rfl)) rfl, gw_t (tin1 (List.mem_of_getElem? (i := 19) rfl)) rfl, gw_t (tin9 (List.mem_of_getElem? (i := 96) rfl)) rfl, by decide, by decide, by decide +kernel⟩
