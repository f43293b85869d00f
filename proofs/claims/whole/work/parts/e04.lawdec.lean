/-! the law's instructions, on -/
theorem d_Law_law_2221 : decode code 2221 = .ok (.i2l, 1) := by decide +kernel
theorem d_Law_law_2222 : decode code 2222 = .ok (.lcmp, 1) := by decide +kernel
theorem d_Law_law_2223 : decode code 2223 = .ok (.ifCond .eq 5, 3) := by decide +kernel
theorem d_Law_law_2226 : decode code 2226 = .ok (.iconst 0, 1) := by decide +kernel
theorem d_Law_law_2227 : decode code 2227 = .ok (.ireturn, 1) := by decide +kernel
theorem d_Law_law_2228 : decode code 2228 = .ok (.goto 1001, 3) := by decide +kernel
theorem d_Law_law_2231 : decode code 2231 = .ok (.aload_n 1, 1) := by decide +kernel
theorem d_Law_law_2232 : decode code 2232 = .ok (.invokevirtual 247, 3) := by decide +kernel
theorem d_Law_law_2235 : decode code 2235 = .ok (.aload_n 2, 1) := by decide +kernel
theorem d_Law_law_2236 : decode code 2236 = .ok (.invokevirtual 250, 3) := by decide +kernel
theorem d_Law_law_2239 : decode code 2239 = .ok (.if_icmp .eq 990, 3) := by decide +kernel
theorem d_Law_law_2242 : decode code 2242 = .ok (.iconst 0, 1) := by decide +kernel
theorem d_Law_law_2243 : decode code 2243 = .ok (.ireturn, 1) := by decide +kernel
theorem d_Law_law_2244 : decode code 2244 = .ok (.aload_n 1, 1) := by decide +kernel
theorem d_Law_law_2245 : decode code 2245 = .ok (.aload_n 3, 1) := by decide +kernel
theorem d_Law_law_2246 : decode code 2246 = .ok (.invokestatic 251, 3) := by decide +kernel
theorem d_Law_law_2249 : decode code 2249 = .ok (.istore 5, 2) := by decide +kernel
theorem d_Law_law_2251 : decode code 2251 = .ok (.aload_n 2, 1) := by decide +kernel
theorem d_Law_law_2252 : decode code 2252 = .ok (.invokevirtual 254, 3) := by decide +kernel
theorem d_Law_law_2255 : decode code 2255 = .ok (.istore 6, 2) := by decide +kernel
theorem d_Law_law_2257 : decode code 2257 = .ok (.aload_n 2, 1) := by decide +kernel
theorem d_Law_law_2258 : decode code 2258 = .ok (.invokevirtual 160, 3) := by decide +kernel
theorem d_Law_law_2261 : decode code 2261 = .ok (.iload 5, 2) := by decide +kernel
theorem d_Law_law_2263 : decode code 2263 = .ok (.if_icmp .eq 5, 3) := by decide +kernel
theorem d_Law_law_2266 : decode code 2266 = .ok (.iconst 0, 1) := by decide +kernel
theorem d_Law_law_2267 : decode code 2267 = .ok (.ireturn, 1) := by decide +kernel
theorem d_Law_law_2268 : decode code 2268 = .ok (.iload 5, 2) := by decide +kernel
theorem d_Law_law_2270 : decode code 2270 = .ok (.ifCond .ne 15, 3) := by decide +kernel
theorem d_Law_law_2273 : decode code 2273 = .ok (.aload_n 3, 1) := by decide +kernel
theorem d_Law_law_2274 : decode code 2274 = .ok (.iconst 0, 1) := by decide +kernel
theorem d_Law_law_2275 : decode code 2275 = .ok (.laload, 1) := by decide +kernel
theorem d_Law_law_2276 : decode code 2276 = .ok (.iload 6, 2) := by decide +kernel
theorem d_Law_law_2278 : decode code 2278 = .ok (.i2l, 1) := by decide +kernel
theorem d_Law_law_2279 : decode code 2279 = .ok (.lcmp, 1) := by decide +kernel
theorem d_Law_law_2280 : decode code 2280 = .ok (.ifCond .eq 5, 3) := by decide +kernel
theorem d_Law_law_2283 : decode code 2283 = .ok (.iconst 0, 1) := by decide +kernel
theorem d_Law_law_2284 : decode code 2284 = .ok (.ireturn, 1) := by decide +kernel
theorem d_Law_law_2285 : decode code 2285 = .ok (.goto 944, 3) := by decide +kernel
theorem d_Law_law_2288 : decode code 2288 = .ok (.aload_n 1, 1) := by decide +kernel
theorem d_Law_law_2289 : decode code 2289 = .ok (.aload_n 0, 1) := by decide +kernel
theorem d_Law_law_2290 : decode code 2290 = .ok (.iload 4, 2) := by decide +kernel
theorem d_Law_law_2292 : decode code 2292 = .ok (.iconst 1, 1) := by decide +kernel
theorem d_Law_law_2293 : decode code 2293 = .ok (.iadd, 1) := by decide +kernel
theorem d_Law_law_2294 : decode code 2294 = .ok (.iaload, 1) := by decide +kernel
theorem d_Law_law_2295 : decode code 2295 = .ok (.aload_n 0, 1) := by decide +kernel
theorem d_Law_law_2296 : decode code 2296 = .ok (.iload 4, 2) := by decide +kernel
theorem d_Law_law_2298 : decode code 2298 = .ok (.iconst 2, 1) := by decide +kernel
theorem d_Law_law_2299 : decode code 2299 = .ok (.iadd, 1) := by decide +kernel
theorem d_Law_law_2300 : decode code 2300 = .ok (.iaload, 1) := by decide +kernel
theorem d_Law_law_2301 : decode code 2301 = .ok (.aload_n 3, 1) := by decide +kernel
theorem d_Law_law_2302 : decode code 2302 = .ok (.invokestatic 255, 3) := by decide +kernel
theorem d_Law_law_2305 : decode code 2305 = .ok (.istore 5, 2) := by decide +kernel
theorem d_Law_law_2307 : decode code 2307 = .ok (.aload_n 2, 1) := by decide +kernel
theorem d_Law_law_2308 : decode code 2308 = .ok (.aload_n 0, 1) := by decide +kernel
theorem d_Law_law_2309 : decode code 2309 = .ok (.iload 4, 2) := by decide +kernel
theorem d_Law_law_2311 : decode code 2311 = .ok (.iconst 1, 1) := by decide +kernel
theorem d_Law_law_2312 : decode code 2312 = .ok (.iadd, 1) := by decide +kernel
theorem d_Law_law_2313 : decode code 2313 = .ok (.iaload, 1) := by decide +kernel
theorem d_Law_law_2314 : decode code 2314 = .ok (.aload_n 0, 1) := by decide +kernel
theorem d_Law_law_2315 : decode code 2315 = .ok (.iload 4, 2) := by decide +kernel
theorem d_Law_law_2317 : decode code 2317 = .ok (.iconst 2, 1) := by decide +kernel
theorem d_Law_law_2318 : decode code 2318 = .ok (.iadd, 1) := by decide +kernel
theorem d_Law_law_2319 : decode code 2319 = .ok (.iaload, 1) := by decide +kernel
theorem d_Law_law_2320 : decode code 2320 = .ok (.invokevirtual 257, 3) := by decide +kernel
theorem d_Law_law_2323 : decode code 2323 = .ok (.istore 6, 2) := by decide +kernel
theorem d_Law_law_2325 : decode code 2325 = .ok (.aload_n 2, 1) := by decide +kernel
theorem d_Law_law_2326 : decode code 2326 = .ok (.invokevirtual 160, 3) := by decide +kernel
theorem d_Law_law_2329 : decode code 2329 = .ok (.iload 5, 2) := by decide +kernel
theorem d_Law_law_2331 : decode code 2331 = .ok (.if_icmp .eq 5, 3) := by decide +kernel
theorem d_Law_law_2334 : decode code 2334 = .ok (.iconst 0, 1) := by decide +kernel
theorem d_Law_law_2335 : decode code 2335 = .ok (.ireturn, 1) := by decide +kernel
theorem d_Law_law_2336 : decode code 2336 = .ok (.iload 5, 2) := by decide +kernel
theorem d_Law_law_2338 : decode code 2338 = .ok (.ifCond .ne 15, 3) := by decide +kernel
theorem d_Law_law_2341 : decode code 2341 = .ok (.aload_n 3, 1) := by decide +kernel
theorem d_Law_law_2342 : decode code 2342 = .ok (.iconst 0, 1) := by decide +kernel
theorem d_Law_law_2343 : decode code 2343 = .ok (.laload, 1) := by decide +kernel
theorem d_Law_law_2344 : decode code 2344 = .ok (.iload 6, 2) := by decide +kernel
theorem d_Law_law_2346 : decode code 2346 = .ok (.i2l, 1) := by decide +kernel
theorem d_Law_law_2347 : decode code 2347 = .ok (.lcmp, 1) := by decide +kernel
theorem d_Law_law_2348 : decode code 2348 = .ok (.ifCond .eq 5, 3) := by decide +kernel
theorem d_Law_law_2351 : decode code 2351 = .ok (.iconst 0, 1) := by decide +kernel
theorem d_Law_law_2352 : decode code 2352 = .ok (.ireturn, 1) := by decide +kernel
theorem d_Law_law_2353 : decode code 2353 = .ok (.goto 876, 3) := by decide +kernel
theorem d_Law_law_2356 : decode code 2356 = .ok (.aload_n 1, 1) := by decide +kernel
theorem d_Law_law_2357 : decode code 2357 = .ok (.aload_n 0, 1) := by decide +kernel
theorem d_Law_law_2358 : decode code 2358 = .ok (.iload 4, 2) := by decide +kernel
theorem d_Law_law_2360 : decode code 2360 = .ok (.iconst 1, 1) := by decide +kernel
theorem d_Law_law_2361 : decode code 2361 = .ok (.iadd, 1) := by decide +kernel
theorem d_Law_law_2362 : decode code 2362 = .ok (.iaload, 1) := by decide +kernel
theorem d_Law_law_2363 : decode code 2363 = .ok (.aload_n 0, 1) := by decide +kernel
theorem d_Law_law_2364 : decode code 2364 = .ok (.iload 4, 2) := by decide +kernel
theorem d_Law_law_2366 : decode code 2366 = .ok (.iconst 2, 1) := by decide +kernel
theorem d_Law_law_2367 : decode code 2367 = .ok (.iadd, 1) := by decide +kernel
theorem d_Law_law_2368 : decode code 2368 = .ok (.iaload, 1) := by decide +kernel
theorem d_Law_law_2369 : decode code 2369 = .ok (.aload_n 3, 1) := by decide +kernel
theorem d_Law_law_2370 : decode code 2370 = .ok (.invokestatic 258, 3) := by decide +kernel
theorem d_Law_law_2373 : decode code 2373 = .ok (.istore 5, 2) := by decide +kernel
theorem d_Law_law_2375 : decode code 2375 = .ok (.aload_n 2, 1) := by decide +kernel
theorem d_Law_law_2376 : decode code 2376 = .ok (.aload_n 0, 1) := by decide +kernel
theorem d_Law_law_2377 : decode code 2377 = .ok (.iload 4, 2) := by decide +kernel
theorem d_Law_law_2379 : decode code 2379 = .ok (.iconst 1, 1) := by decide +kernel
theorem d_Law_law_2380 : decode code 2380 = .ok (.iadd, 1) := by decide +kernel
theorem d_Law_law_2381 : decode code 2381 = .ok (.iaload, 1) := by decide +kernel
theorem d_Law_law_2382 : decode code 2382 = .ok (.aload_n 0, 1) := by decide +kernel
theorem d_Law_law_2383 : decode code 2383 = .ok (.iload 4, 2) := by decide +kernel
theorem d_Law_law_2385 : decode code 2385 = .ok (.iconst 2, 1) := by decide +kernel
theorem d_Law_law_2386 : decode code 2386 = .ok (.iadd, 1) := by decide +kernel
theorem d_Law_law_2387 : decode code 2387 = .ok (.iaload, 1) := by decide +kernel
theorem d_Law_law_2388 : decode code 2388 = .ok (.invokevirtual 260, 3) := by decide +kernel
theorem d_Law_law_2391 : decode code 2391 = .ok (.istore 6, 2) := by decide +kernel
theorem d_Law_law_2393 : decode code 2393 = .ok (.aload_n 2, 1) := by decide +kernel
theorem d_Law_law_2394 : decode code 2394 = .ok (.invokevirtual 160, 3) := by decide +kernel
theorem d_Law_law_2397 : decode code 2397 = .ok (.iload 5, 2) := by decide +kernel
theorem d_Law_law_2399 : decode code 2399 = .ok (.if_icmp .eq 5, 3) := by decide +kernel
theorem d_Law_law_2402 : decode code 2402 = .ok (.iconst 0, 1) := by decide +kernel
theorem d_Law_law_2403 : decode code 2403 = .ok (.ireturn, 1) := by decide +kernel
theorem d_Law_law_2404 : decode code 2404 = .ok (.iload 5, 2) := by decide +kernel
theorem d_Law_law_2406 : decode code 2406 = .ok (.ifCond .ne 15, 3) := by decide +kernel
theorem d_Law_law_2409 : decode code 2409 = .ok (.aload_n 3, 1) := by decide +kernel
theorem d_Law_law_2410 : decode code 2410 = .ok (.iconst 0, 1) := by decide +kernel
theorem d_Law_law_2411 : decode code 2411 = .ok (.laload, 1) := by decide +kernel
theorem d_Law_law_2412 : decode code 2412 = .ok (.iload 6, 2) := by decide +kernel
theorem d_Law_law_2414 : decode code 2414 = .ok (.i2l, 1) := by decide +kernel
theorem d_Law_law_2415 : decode code 2415 = .ok (.lcmp, 1) := by decide +kernel
theorem d_Law_law_2416 : decode code 2416 = .ok (.ifCond .eq 5, 3) := by decide +kernel
theorem d_Law_law_2419 : decode code 2419 = .ok (.iconst 0, 1) := by decide +kernel
theorem d_Law_law_2420 : decode code 2420 = .ok (.ireturn, 1) := by decide +kernel
theorem d_Law_law_2421 : decode code 2421 = .ok (.goto 808, 3) := by decide +kernel
theorem d_Law_law_2424 : decode code 2424 = .ok (.aload_n 1, 1) := by decide +kernel
theorem d_Law_law_2425 : decode code 2425 = .ok (.aload_n 0, 1) := by decide +kernel
theorem d_Law_law_2426 : decode code 2426 = .ok (.iload 4, 2) := by decide +kernel
theorem d_Law_law_2428 : decode code 2428 = .ok (.iconst 1, 1) := by decide +kernel
theorem d_Law_law_2429 : decode code 2429 = .ok (.iadd, 1) := by decide +kernel
theorem d_Law_law_2430 : decode code 2430 = .ok (.iaload, 1) := by decide +kernel
theorem d_Law_law_2431 : decode code 2431 = .ok (.aload_n 0, 1) := by decide +kernel
theorem d_Law_law_2432 : decode code 2432 = .ok (.iload 4, 2) := by decide +kernel
theorem d_Law_law_2434 : decode code 2434 = .ok (.iconst 2, 1) := by decide +kernel
theorem d_Law_law_2435 : decode code 2435 = .ok (.iadd, 1) := by decide +kernel
theorem d_Law_law_2436 : decode code 2436 = .ok (.iaload, 1) := by decide +kernel
theorem d_Law_law_2437 : decode code 2437 = .ok (.aload_n 0, 1) := by decide +kernel
theorem d_Law_law_2438 : decode code 2438 = .ok (.iload 4, 2) := by decide +kernel
theorem d_Law_law_2440 : decode code 2440 = .ok (.iconst 3, 1) := by decide +kernel
theorem d_Law_law_2441 : decode code 2441 = .ok (.iadd, 1) := by decide +kernel
theorem d_Law_law_2442 : decode code 2442 = .ok (.iaload, 1) := by decide +kernel
theorem d_Law_law_2443 : decode code 2443 = .ok (.aload_n 0, 1) := by decide +kernel
theorem d_Law_law_2444 : decode code 2444 = .ok (.iload 4, 2) := by decide +kernel
theorem d_Law_law_2446 : decode code 2446 = .ok (.iconst 4, 1) := by decide +kernel
theorem d_Law_law_2447 : decode code 2447 = .ok (.iadd, 1) := by decide +kernel
theorem d_Law_law_2448 : decode code 2448 = .ok (.iaload, 1) := by decide +kernel
theorem d_Law_law_2449 : decode code 2449 = .ok (.aload_n 3, 1) := by decide +kernel
theorem d_Law_law_2450 : decode code 2450 = .ok (.invokestatic 261, 3) := by decide +kernel
theorem d_Law_law_2453 : decode code 2453 = .ok (.istore 5, 2) := by decide +kernel
theorem d_Law_law_2455 : decode code 2455 = .ok (.aload_n 2, 1) := by decide +kernel
theorem d_Law_law_2456 : decode code 2456 = .ok (.aload_n 0, 1) := by decide +kernel
theorem d_Law_law_2457 : decode code 2457 = .ok (.iload 4, 2) := by decide +kernel
theorem d_Law_law_2459 : decode code 2459 = .ok (.iconst 1, 1) := by decide +kernel
theorem d_Law_law_2460 : decode code 2460 = .ok (.iadd, 1) := by decide +kernel
theorem d_Law_law_2461 : decode code 2461 = .ok (.iaload, 1) := by decide +kernel
theorem d_Law_law_2462 : decode code 2462 = .ok (.aload_n 0, 1) := by decide +kernel
theorem d_Law_law_2463 : decode code 2463 = .ok (.iload 4, 2) := by decide +kernel
theorem d_Law_law_2465 : decode code 2465 = .ok (.iconst 2, 1) := by decide +kernel
theorem d_Law_law_2466 : decode code 2466 = .ok (.iadd, 1) := by decide +kernel
theorem d_Law_law_2467 : decode code 2467 = .ok (.iaload, 1) := by decide +kernel
theorem d_Law_law_2468 : decode code 2468 = .ok (.aload_n 0, 1) := by decide +kernel
theorem d_Law_law_2469 : decode code 2469 = .ok (.iload 4, 2) := by decide +kernel
theorem d_Law_law_2471 : decode code 2471 = .ok (.iconst 3, 1) := by decide +kernel
theorem d_Law_law_2472 : decode code 2472 = .ok (.iadd, 1) := by decide +kernel
theorem d_Law_law_2473 : decode code 2473 = .ok (.iaload, 1) := by decide +kernel
theorem d_Law_law_2474 : decode code 2474 = .ok (.aload_n 0, 1) := by decide +kernel
theorem d_Law_law_2475 : decode code 2475 = .ok (.iload 4, 2) := by decide +kernel
theorem d_Law_law_2477 : decode code 2477 = .ok (.iconst 4, 1) := by decide +kernel
theorem d_Law_law_2478 : decode code 2478 = .ok (.iadd, 1) := by decide +kernel
theorem d_Law_law_2479 : decode code 2479 = .ok (.iaload, 1) := by decide +kernel
theorem d_Law_law_2480 : decode code 2480 = .ok (.invokevirtual 263, 3) := by decide +kernel
theorem d_Law_law_2483 : decode code 2483 = .ok (.istore 6, 2) := by decide +kernel
theorem d_Law_law_2485 : decode code 2485 = .ok (.aload_n 2, 1) := by decide +kernel
theorem d_Law_law_2486 : decode code 2486 = .ok (.invokevirtual 160, 3) := by decide +kernel
theorem d_Law_law_2489 : decode code 2489 = .ok (.iload 5, 2) := by decide +kernel
theorem d_Law_law_2491 : decode code 2491 = .ok (.if_icmp .eq 5, 3) := by decide +kernel
theorem d_Law_law_2494 : decode code 2494 = .ok (.iconst 0, 1) := by decide +kernel
theorem d_Law_law_2495 : decode code 2495 = .ok (.ireturn, 1) := by decide +kernel
theorem d_Law_law_2496 : decode code 2496 = .ok (.iload 5, 2) := by decide +kernel
theorem d_Law_law_2498 : decode code 2498 = .ok (.ifCond .ne 15, 3) := by decide +kernel
theorem d_Law_law_2501 : decode code 2501 = .ok (.aload_n 3, 1) := by decide +kernel
theorem d_Law_law_2502 : decode code 2502 = .ok (.iconst 0, 1) := by decide +kernel
theorem d_Law_law_2503 : decode code 2503 = .ok (.laload, 1) := by decide +kernel
theorem d_Law_law_2504 : decode code 2504 = .ok (.iload 6, 2) := by decide +kernel
theorem d_Law_law_2506 : decode code 2506 = .ok (.i2l, 1) := by decide +kernel
theorem d_Law_law_2507 : decode code 2507 = .ok (.lcmp, 1) := by decide +kernel
theorem d_Law_law_2508 : decode code 2508 = .ok (.ifCond .eq 5, 3) := by decide +kernel
theorem d_Law_law_2511 : decode code 2511 = .ok (.iconst 0, 1) := by decide +kernel
theorem d_Law_law_2512 : decode code 2512 = .ok (.ireturn, 1) := by decide +kernel
theorem d_Law_law_2513 : decode code 2513 = .ok (.goto 716, 3) := by decide +kernel
theorem d_Law_law_2516 : decode code 2516 = .ok (.aload_n 1, 1) := by decide +kernel
theorem d_Law_law_2517 : decode code 2517 = .ok (.invokevirtual 264, 3) := by decide +kernel
theorem d_Law_law_2520 : decode code 2520 = .ok (.aload_n 2, 1) := by decide +kernel
theorem d_Law_law_2521 : decode code 2521 = .ok (.invokevirtual 267, 3) := by decide +kernel
theorem d_Law_law_2524 : decode code 2524 = .ok (.if_icmp .eq 705, 3) := by decide +kernel
theorem d_Law_law_2527 : decode code 2527 = .ok (.iconst 0, 1) := by decide +kernel
theorem d_Law_law_2528 : decode code 2528 = .ok (.ireturn, 1) := by decide +kernel
theorem d_Law_law_2529 : decode code 2529 = .ok (.aload_n 1, 1) := by decide +kernel
theorem d_Law_law_2530 : decode code 2530 = .ok (.aload_n 0, 1) := by decide +kernel
theorem d_Law_law_2531 : decode code 2531 = .ok (.iload 4, 2) := by decide +kernel
theorem d_Law_law_2533 : decode code 2533 = .ok (.iconst 1, 1) := by decide +kernel
theorem d_Law_law_2534 : decode code 2534 = .ok (.iadd, 1) := by decide +kernel
theorem d_Law_law_2535 : decode code 2535 = .ok (.iaload, 1) := by decide +kernel
theorem d_Law_law_2536 : decode code 2536 = .ok (.aload_n 3, 1) := by decide +kernel
theorem d_Law_law_2537 : decode code 2537 = .ok (.invokestatic 268, 3) := by decide +kernel
theorem d_Law_law_2540 : decode code 2540 = .ok (.istore 5, 2) := by decide +kernel
theorem d_Law_law_2542 : decode code 2542 = .ok (.aload_n 2, 1) := by decide +kernel
theorem d_Law_law_2543 : decode code 2543 = .ok (.aload_n 0, 1) := by decide +kernel
theorem d_Law_law_2544 : decode code 2544 = .ok (.iload 4, 2) := by decide +kernel
theorem d_Law_law_2546 : decode code 2546 = .ok (.iconst 1, 1) := by decide +kernel
theorem d_Law_law_2547 : decode code 2547 = .ok (.iadd, 1) := by decide +kernel
theorem d_Law_law_2548 : decode code 2548 = .ok (.iaload, 1) := by decide +kernel
theorem d_Law_law_2549 : decode code 2549 = .ok (.invokevirtual 270, 3) := by decide +kernel
theorem d_Law_law_2552 : decode code 2552 = .ok (.istore 6, 2) := by decide +kernel
theorem d_Law_law_2554 : decode code 2554 = .ok (.aload_n 2, 1) := by decide +kernel
theorem d_Law_law_2555 : decode code 2555 = .ok (.invokevirtual 160, 3) := by decide +kernel
theorem d_Law_law_2558 : decode code 2558 = .ok (.iload 5, 2) := by decide +kernel
theorem d_Law_law_2560 : decode code 2560 = .ok (.if_icmp .eq 5, 3) := by decide +kernel
theorem d_Law_law_2563 : decode code 2563 = .ok (.iconst 0, 1) := by decide +kernel
theorem d_Law_law_2564 : decode code 2564 = .ok (.ireturn, 1) := by decide +kernel
theorem d_Law_law_2565 : decode code 2565 = .ok (.iload 5, 2) := by decide +kernel
theorem d_Law_law_2567 : decode code 2567 = .ok (.ifCond .ne 15, 3) := by decide +kernel
theorem d_Law_law_2570 : decode code 2570 = .ok (.aload_n 3, 1) := by decide +kernel
theorem d_Law_law_2571 : decode code 2571 = .ok (.iconst 0, 1) := by decide +kernel
theorem d_Law_law_2572 : decode code 2572 = .ok (.laload, 1) := by decide +kernel
theorem d_Law_law_2573 : decode code 2573 = .ok (.iload 6, 2) := by decide +kernel
theorem d_Law_law_2575 : decode code 2575 = .ok (.i2l, 1) := by decide +kernel
theorem d_Law_law_2576 : decode code 2576 = .ok (.lcmp, 1) := by decide +kernel
theorem d_Law_law_2577 : decode code 2577 = .ok (.ifCond .eq 5, 3) := by decide +kernel
theorem d_Law_law_2580 : decode code 2580 = .ok (.iconst 0, 1) := by decide +kernel
theorem d_Law_law_2581 : decode code 2581 = .ok (.ireturn, 1) := by decide +kernel
theorem d_Law_law_2582 : decode code 2582 = .ok (.goto 647, 3) := by decide +kernel
theorem d_Law_law_2585 : decode code 2585 = .ok (.aload_n 1, 1) := by decide +kernel
theorem d_Law_law_2586 : decode code 2586 = .ok (.aload_n 0, 1) := by decide +kernel
theorem d_Law_law_2587 : decode code 2587 = .ok (.iload 4, 2) := by decide +kernel
theorem d_Law_law_2589 : decode code 2589 = .ok (.iconst 1, 1) := by decide +kernel
theorem d_Law_law_2590 : decode code 2590 = .ok (.iadd, 1) := by decide +kernel
theorem d_Law_law_2591 : decode code 2591 = .ok (.iaload, 1) := by decide +kernel
theorem d_Law_law_2592 : decode code 2592 = .ok (.aload_n 0, 1) := by decide +kernel
theorem d_Law_law_2593 : decode code 2593 = .ok (.iload 4, 2) := by decide +kernel
theorem d_Law_law_2595 : decode code 2595 = .ok (.iconst 2, 1) := by decide +kernel
theorem d_Law_law_2596 : decode code 2596 = .ok (.iadd, 1) := by decide +kernel
theorem d_Law_law_2597 : decode code 2597 = .ok (.iaload, 1) := by decide +kernel
theorem d_Law_law_2598 : decode code 2598 = .ok (.aload_n 3, 1) := by decide +kernel
theorem d_Law_law_2599 : decode code 2599 = .ok (.invokestatic 271, 3) := by decide +kernel
theorem d_Law_law_2602 : decode code 2602 = .ok (.istore 5, 2) := by decide +kernel
theorem d_Law_law_2604 : decode code 2604 = .ok (.aload_n 2, 1) := by decide +kernel
theorem d_Law_law_2605 : decode code 2605 = .ok (.aload_n 0, 1) := by decide +kernel
theorem d_Law_law_2606 : decode code 2606 = .ok (.iload 4, 2) := by decide +kernel
theorem d_Law_law_2608 : decode code 2608 = .ok (.iconst 1, 1) := by decide +kernel
theorem d_Law_law_2609 : decode code 2609 = .ok (.iadd, 1) := by decide +kernel
theorem d_Law_law_2610 : decode code 2610 = .ok (.iaload, 1) := by decide +kernel
theorem d_Law_law_2611 : decode code 2611 = .ok (.aload_n 0, 1) := by decide +kernel
theorem d_Law_law_2612 : decode code 2612 = .ok (.iload 4, 2) := by decide +kernel
theorem d_Law_law_2614 : decode code 2614 = .ok (.iconst 2, 1) := by decide +kernel
theorem d_Law_law_2615 : decode code 2615 = .ok (.iadd, 1) := by decide +kernel
theorem d_Law_law_2616 : decode code 2616 = .ok (.iaload, 1) := by decide +kernel
theorem d_Law_law_2617 : decode code 2617 = .ok (.invokevirtual 273, 3) := by decide +kernel
theorem d_Law_law_2620 : decode code 2620 = .ok (.istore 6, 2) := by decide +kernel
theorem d_Law_law_2622 : decode code 2622 = .ok (.aload_n 2, 1) := by decide +kernel
theorem d_Law_law_2623 : decode code 2623 = .ok (.invokevirtual 160, 3) := by decide +kernel
theorem d_Law_law_2626 : decode code 2626 = .ok (.iload 5, 2) := by decide +kernel
theorem d_Law_law_2628 : decode code 2628 = .ok (.if_icmp .eq 5, 3) := by decide +kernel
theorem d_Law_law_2631 : decode code 2631 = .ok (.iconst 0, 1) := by decide +kernel
theorem d_Law_law_2632 : decode code 2632 = .ok (.ireturn, 1) := by decide +kernel
theorem d_Law_law_2633 : decode code 2633 = .ok (.iload 5, 2) := by decide +kernel
theorem d_Law_law_2635 : decode code 2635 = .ok (.ifCond .ne 15, 3) := by decide +kernel
theorem d_Law_law_2638 : decode code 2638 = .ok (.aload_n 3, 1) := by decide +kernel
theorem d_Law_law_2639 : decode code 2639 = .ok (.iconst 0, 1) := by decide +kernel
theorem d_Law_law_2640 : decode code 2640 = .ok (.laload, 1) := by decide +kernel
theorem d_Law_law_2641 : decode code 2641 = .ok (.iload 6, 2) := by decide +kernel
theorem d_Law_law_2643 : decode code 2643 = .ok (.i2l, 1) := by decide +kernel
theorem d_Law_law_2644 : decode code 2644 = .ok (.lcmp, 1) := by decide +kernel
theorem d_Law_law_2645 : decode code 2645 = .ok (.ifCond .eq 5, 3) := by decide +kernel
theorem d_Law_law_2648 : decode code 2648 = .ok (.iconst 0, 1) := by decide +kernel
theorem d_Law_law_2649 : decode code 2649 = .ok (.ireturn, 1) := by decide +kernel
theorem d_Law_law_2650 : decode code 2650 = .ok (.goto 579, 3) := by decide +kernel
theorem d_Law_law_2653 : decode code 2653 = .ok (.aload_n 1, 1) := by decide +kernel
theorem d_Law_law_2654 : decode code 2654 = .ok (.invokevirtual 274, 3) := by decide +kernel
theorem d_Law_law_2657 : decode code 2657 = .ok (.aload_n 2, 1) := by decide +kernel
theorem d_Law_law_2658 : decode code 2658 = .ok (.invokevirtual 277, 3) := by decide +kernel
theorem d_Law_law_2661 : decode code 2661 = .ok (.if_icmp .eq 568, 3) := by decide +kernel
theorem d_Law_law_2664 : decode code 2664 = .ok (.iconst 0, 1) := by decide +kernel
theorem d_Law_law_2665 : decode code 2665 = .ok (.ireturn, 1) := by decide +kernel
theorem d_Law_law_2666 : decode code 2666 = .ok (.aload_n 1, 1) := by decide +kernel
theorem d_Law_law_2667 : decode code 2667 = .ok (.aload_n 0, 1) := by decide +kernel
theorem d_Law_law_2668 : decode code 2668 = .ok (.iload 4, 2) := by decide +kernel
theorem d_Law_law_2670 : decode code 2670 = .ok (.iconst 1, 1) := by decide +kernel
theorem d_Law_law_2671 : decode code 2671 = .ok (.iadd, 1) := by decide +kernel
theorem d_Law_law_2672 : decode code 2672 = .ok (.iaload, 1) := by decide +kernel
theorem d_Law_law_2673 : decode code 2673 = .ok (.aload_n 3, 1) := by decide +kernel
theorem d_Law_law_2674 : decode code 2674 = .ok (.invokestatic 278, 3) := by decide +kernel
theorem d_Law_law_2677 : decode code 2677 = .ok (.istore 5, 2) := by decide +kernel
theorem d_Law_law_2679 : decode code 2679 = .ok (.aload_n 2, 1) := by decide +kernel
theorem d_Law_law_2680 : decode code 2680 = .ok (.aload_n 0, 1) := by decide +kernel
theorem d_Law_law_2681 : decode code 2681 = .ok (.iload 4, 2) := by decide +kernel
theorem d_Law_law_2683 : decode code 2683 = .ok (.iconst 1, 1) := by decide +kernel
theorem d_Law_law_2684 : decode code 2684 = .ok (.iadd, 1) := by decide +kernel
theorem d_Law_law_2685 : decode code 2685 = .ok (.iaload, 1) := by decide +kernel
theorem d_Law_law_2686 : decode code 2686 = .ok (.invokevirtual 280, 3) := by decide +kernel
theorem d_Law_law_2689 : decode code 2689 = .ok (.istore 6, 2) := by decide +kernel
theorem d_Law_law_2691 : decode code 2691 = .ok (.aload_n 2, 1) := by decide +kernel
theorem d_Law_law_2692 : decode code 2692 = .ok (.invokevirtual 160, 3) := by decide +kernel
theorem d_Law_law_2695 : decode code 2695 = .ok (.iload 5, 2) := by decide +kernel
theorem d_Law_law_2697 : decode code 2697 = .ok (.if_icmp .eq 5, 3) := by decide +kernel
theorem d_Law_law_2700 : decode code 2700 = .ok (.iconst 0, 1) := by decide +kernel
theorem d_Law_law_2701 : decode code 2701 = .ok (.ireturn, 1) := by decide +kernel
theorem d_Law_law_2702 : decode code 2702 = .ok (.iload 5, 2) := by decide +kernel
theorem d_Law_law_2704 : decode code 2704 = .ok (.ifCond .ne 15, 3) := by decide +kernel
theorem d_Law_law_2707 : decode code 2707 = .ok (.aload_n 3, 1) := by decide +kernel
theorem d_Law_law_2708 : decode code 2708 = .ok (.iconst 0, 1) := by decide +kernel
theorem d_Law_law_2709 : decode code 2709 = .ok (.laload, 1) := by decide +kernel
theorem d_Law_law_2710 : decode code 2710 = .ok (.iload 6, 2) := by decide +kernel
theorem d_Law_law_2712 : decode code 2712 = .ok (.i2l, 1) := by decide +kernel
theorem d_Law_law_2713 : decode code 2713 = .ok (.lcmp, 1) := by decide +kernel
theorem d_Law_law_2714 : decode code 2714 = .ok (.ifCond .eq 5, 3) := by decide +kernel
theorem d_Law_law_2717 : decode code 2717 = .ok (.iconst 0, 1) := by decide +kernel
theorem d_Law_law_2718 : decode code 2718 = .ok (.ireturn, 1) := by decide +kernel
theorem d_Law_law_2719 : decode code 2719 = .ok (.goto 510, 3) := by decide +kernel
theorem d_Law_law_2722 : decode code 2722 = .ok (.aload_n 1, 1) := by decide +kernel
theorem d_Law_law_2723 : decode code 2723 = .ok (.aload_n 0, 1) := by decide +kernel
theorem d_Law_law_2724 : decode code 2724 = .ok (.iload 4, 2) := by decide +kernel
theorem d_Law_law_2726 : decode code 2726 = .ok (.iconst 1, 1) := by decide +kernel
theorem d_Law_law_2727 : decode code 2727 = .ok (.iadd, 1) := by decide +kernel
theorem d_Law_law_2728 : decode code 2728 = .ok (.iaload, 1) := by decide +kernel
theorem d_Law_law_2729 : decode code 2729 = .ok (.aload_n 3, 1) := by decide +kernel
theorem d_Law_law_2730 : decode code 2730 = .ok (.invokestatic 281, 3) := by decide +kernel
theorem d_Law_law_2733 : decode code 2733 = .ok (.istore 5, 2) := by decide +kernel
theorem d_Law_law_2735 : decode code 2735 = .ok (.aload_n 2, 1) := by decide +kernel
theorem d_Law_law_2736 : decode code 2736 = .ok (.aload_n 0, 1) := by decide +kernel
theorem d_Law_law_2737 : decode code 2737 = .ok (.iload 4, 2) := by decide +kernel
theorem d_Law_law_2739 : decode code 2739 = .ok (.iconst 1, 1) := by decide +kernel
theorem d_Law_law_2740 : decode code 2740 = .ok (.iadd, 1) := by decide +kernel
theorem d_Law_law_2741 : decode code 2741 = .ok (.iaload, 1) := by decide +kernel
theorem d_Law_law_2742 : decode code 2742 = .ok (.invokevirtual 283, 3) := by decide +kernel
theorem d_Law_law_2745 : decode code 2745 = .ok (.istore 6, 2) := by decide +kernel
theorem d_Law_law_2747 : decode code 2747 = .ok (.aload_n 2, 1) := by decide +kernel
theorem d_Law_law_2748 : decode code 2748 = .ok (.invokevirtual 160, 3) := by decide +kernel
theorem d_Law_law_2751 : decode code 2751 = .ok (.iload 5, 2) := by decide +kernel
theorem d_Law_law_2753 : decode code 2753 = .ok (.if_icmp .eq 5, 3) := by decide +kernel
theorem d_Law_law_2756 : decode code 2756 = .ok (.iconst 0, 1) := by decide +kernel
theorem d_Law_law_2757 : decode code 2757 = .ok (.ireturn, 1) := by decide +kernel
theorem d_Law_law_2758 : decode code 2758 = .ok (.iload 5, 2) := by decide +kernel
theorem d_Law_law_2760 : decode code 2760 = .ok (.ifCond .ne 15, 3) := by decide +kernel
theorem d_Law_law_2763 : decode code 2763 = .ok (.aload_n 3, 1) := by decide +kernel
theorem d_Law_law_2764 : decode code 2764 = .ok (.iconst 0, 1) := by decide +kernel
theorem d_Law_law_2765 : decode code 2765 = .ok (.laload, 1) := by decide +kernel
theorem d_Law_law_2766 : decode code 2766 = .ok (.iload 6, 2) := by decide +kernel
theorem d_Law_law_2768 : decode code 2768 = .ok (.i2l, 1) := by decide +kernel
theorem d_Law_law_2769 : decode code 2769 = .ok (.lcmp, 1) := by decide +kernel
theorem d_Law_law_2770 : decode code 2770 = .ok (.ifCond .eq 5, 3) := by decide +kernel
theorem d_Law_law_2773 : decode code 2773 = .ok (.iconst 0, 1) := by decide +kernel
theorem d_Law_law_2774 : decode code 2774 = .ok (.ireturn, 1) := by decide +kernel
theorem d_Law_law_2775 : decode code 2775 = .ok (.goto 454, 3) := by decide +kernel
theorem d_Law_law_2778 : decode code 2778 = .ok (.aload_n 1, 1) := by decide +kernel
theorem d_Law_law_2779 : decode code 2779 = .ok (.aload_n 0, 1) := by decide +kernel
theorem d_Law_law_2780 : decode code 2780 = .ok (.iload 4, 2) := by decide +kernel
theorem d_Law_law_2782 : decode code 2782 = .ok (.iconst 1, 1) := by decide +kernel
theorem d_Law_law_2783 : decode code 2783 = .ok (.iadd, 1) := by decide +kernel
theorem d_Law_law_2784 : decode code 2784 = .ok (.iaload, 1) := by decide +kernel
theorem d_Law_law_2785 : decode code 2785 = .ok (.aload_n 0, 1) := by decide +kernel
theorem d_Law_law_2786 : decode code 2786 = .ok (.iload 4, 2) := by decide +kernel
theorem d_Law_law_2788 : decode code 2788 = .ok (.iconst 2, 1) := by decide +kernel
theorem d_Law_law_2789 : decode code 2789 = .ok (.iadd, 1) := by decide +kernel
theorem d_Law_law_2790 : decode code 2790 = .ok (.iaload, 1) := by decide +kernel
theorem d_Law_law_2791 : decode code 2791 = .ok (.aload_n 0, 1) := by decide +kernel
theorem d_Law_law_2792 : decode code 2792 = .ok (.iload 4, 2) := by decide +kernel
theorem d_Law_law_2794 : decode code 2794 = .ok (.iconst 3, 1) := by decide +kernel
theorem d_Law_law_2795 : decode code 2795 = .ok (.iadd, 1) := by decide +kernel
theorem d_Law_law_2796 : decode code 2796 = .ok (.iaload, 1) := by decide +kernel
theorem d_Law_law_2797 : decode code 2797 = .ok (.aload_n 3, 1) := by decide +kernel
theorem d_Law_law_2798 : decode code 2798 = .ok (.invokestatic 284, 3) := by decide +kernel
theorem d_Law_law_2801 : decode code 2801 = .ok (.istore 5, 2) := by decide +kernel
theorem d_Law_law_2803 : decode code 2803 = .ok (.aload_n 2, 1) := by decide +kernel
theorem d_Law_law_2804 : decode code 2804 = .ok (.aload_n 0, 1) := by decide +kernel
theorem d_Law_law_2805 : decode code 2805 = .ok (.iload 4, 2) := by decide +kernel
theorem d_Law_law_2807 : decode code 2807 = .ok (.iconst 1, 1) := by decide +kernel
theorem d_Law_law_2808 : decode code 2808 = .ok (.iadd, 1) := by decide +kernel
theorem d_Law_law_2809 : decode code 2809 = .ok (.iaload, 1) := by decide +kernel
theorem d_Law_law_2810 : decode code 2810 = .ok (.aload_n 0, 1) := by decide +kernel
theorem d_Law_law_2811 : decode code 2811 = .ok (.iload 4, 2) := by decide +kernel
theorem d_Law_law_2813 : decode code 2813 = .ok (.iconst 2, 1) := by decide +kernel
theorem d_Law_law_2814 : decode code 2814 = .ok (.iadd, 1) := by decide +kernel
theorem d_Law_law_2815 : decode code 2815 = .ok (.iaload, 1) := by decide +kernel
theorem d_Law_law_2816 : decode code 2816 = .ok (.aload_n 0, 1) := by decide +kernel
theorem d_Law_law_2817 : decode code 2817 = .ok (.iload 4, 2) := by decide +kernel
theorem d_Law_law_2819 : decode code 2819 = .ok (.iconst 3, 1) := by decide +kernel
theorem d_Law_law_2820 : decode code 2820 = .ok (.iadd, 1) := by decide +kernel
theorem d_Law_law_2821 : decode code 2821 = .ok (.iaload, 1) := by decide +kernel
theorem d_Law_law_2822 : decode code 2822 = .ok (.invokevirtual 286, 3) := by decide +kernel
theorem d_Law_law_2825 : decode code 2825 = .ok (.istore 6, 2) := by decide +kernel
theorem d_Law_law_2827 : decode code 2827 = .ok (.aload_n 2, 1) := by decide +kernel
theorem d_Law_law_2828 : decode code 2828 = .ok (.invokevirtual 160, 3) := by decide +kernel
theorem d_Law_law_2831 : decode code 2831 = .ok (.iload 5, 2) := by decide +kernel
theorem d_Law_law_2833 : decode code 2833 = .ok (.if_icmp .eq 5, 3) := by decide +kernel
theorem d_Law_law_2836 : decode code 2836 = .ok (.iconst 0, 1) := by decide +kernel
theorem d_Law_law_2837 : decode code 2837 = .ok (.ireturn, 1) := by decide +kernel
theorem d_Law_law_2838 : decode code 2838 = .ok (.iload 5, 2) := by decide +kernel
theorem d_Law_law_2840 : decode code 2840 = .ok (.ifCond .ne 15, 3) := by decide +kernel
theorem d_Law_law_2843 : decode code 2843 = .ok (.aload_n 3, 1) := by decide +kernel
theorem d_Law_law_2844 : decode code 2844 = .ok (.iconst 0, 1) := by decide +kernel
theorem d_Law_law_2845 : decode code 2845 = .ok (.laload, 1) := by decide +kernel
theorem d_Law_law_2846 : decode code 2846 = .ok (.iload 6, 2) := by decide +kernel
theorem d_Law_law_2848 : decode code 2848 = .ok (.i2l, 1) := by decide +kernel
theorem d_Law_law_2849 : decode code 2849 = .ok (.lcmp, 1) := by decide +kernel
theorem d_Law_law_2850 : decode code 2850 = .ok (.ifCond .eq 5, 3) := by decide +kernel
theorem d_Law_law_2853 : decode code 2853 = .ok (.iconst 0, 1) := by decide +kernel
theorem d_Law_law_2854 : decode code 2854 = .ok (.ireturn, 1) := by decide +kernel
theorem d_Law_law_2855 : decode code 2855 = .ok (.goto 374, 3) := by decide +kernel
theorem d_Law_law_2858 : decode code 2858 = .ok (.aload_n 1, 1) := by decide +kernel
theorem d_Law_law_2859 : decode code 2859 = .ok (.aload_n 0, 1) := by decide +kernel
theorem d_Law_law_2860 : decode code 2860 = .ok (.iload 4, 2) := by decide +kernel
theorem d_Law_law_2862 : decode code 2862 = .ok (.iconst 1, 1) := by decide +kernel
theorem d_Law_law_2863 : decode code 2863 = .ok (.iadd, 1) := by decide +kernel
theorem d_Law_law_2864 : decode code 2864 = .ok (.iaload, 1) := by decide +kernel
theorem d_Law_law_2865 : decode code 2865 = .ok (.aload_n 0, 1) := by decide +kernel
theorem d_Law_law_2866 : decode code 2866 = .ok (.iload 4, 2) := by decide +kernel
theorem d_Law_law_2868 : decode code 2868 = .ok (.iconst 2, 1) := by decide +kernel
theorem d_Law_law_2869 : decode code 2869 = .ok (.iadd, 1) := by decide +kernel
theorem d_Law_law_2870 : decode code 2870 = .ok (.iaload, 1) := by decide +kernel
theorem d_Law_law_2871 : decode code 2871 = .ok (.aload_n 0, 1) := by decide +kernel
theorem d_Law_law_2872 : decode code 2872 = .ok (.iload 4, 2) := by decide +kernel
theorem d_Law_law_2874 : decode code 2874 = .ok (.iconst 3, 1) := by decide +kernel
theorem d_Law_law_2875 : decode code 2875 = .ok (.iadd, 1) := by decide +kernel
theorem d_Law_law_2876 : decode code 2876 = .ok (.iaload, 1) := by decide +kernel
theorem d_Law_law_2877 : decode code 2877 = .ok (.aload_n 3, 1) := by decide +kernel
theorem d_Law_law_2878 : decode code 2878 = .ok (.invokestatic 287, 3) := by decide +kernel
theorem d_Law_law_2881 : decode code 2881 = .ok (.istore 5, 2) := by decide +kernel
theorem d_Law_law_2883 : decode code 2883 = .ok (.aload_n 2, 1) := by decide +kernel
theorem d_Law_law_2884 : decode code 2884 = .ok (.aload_n 0, 1) := by decide +kernel
theorem d_Law_law_2885 : decode code 2885 = .ok (.iload 4, 2) := by decide +kernel
theorem d_Law_law_2887 : decode code 2887 = .ok (.iconst 1, 1) := by decide +kernel
theorem d_Law_law_2888 : decode code 2888 = .ok (.iadd, 1) := by decide +kernel
theorem d_Law_law_2889 : decode code 2889 = .ok (.iaload, 1) := by decide +kernel
theorem d_Law_law_2890 : decode code 2890 = .ok (.aload_n 0, 1) := by decide +kernel
theorem d_Law_law_2891 : decode code 2891 = .ok (.iload 4, 2) := by decide +kernel
theorem d_Law_law_2893 : decode code 2893 = .ok (.iconst 2, 1) := by decide +kernel
theorem d_Law_law_2894 : decode code 2894 = .ok (.iadd, 1) := by decide +kernel
theorem d_Law_law_2895 : decode code 2895 = .ok (.iaload, 1) := by decide +kernel
theorem d_Law_law_2896 : decode code 2896 = .ok (.aload_n 0, 1) := by decide +kernel
theorem d_Law_law_2897 : decode code 2897 = .ok (.iload 4, 2) := by decide +kernel
theorem d_Law_law_2899 : decode code 2899 = .ok (.iconst 3, 1) := by decide +kernel
theorem d_Law_law_2900 : decode code 2900 = .ok (.iadd, 1) := by decide +kernel
theorem d_Law_law_2901 : decode code 2901 = .ok (.iaload, 1) := by decide +kernel
theorem d_Law_law_2902 : decode code 2902 = .ok (.invokevirtual 289, 3) := by decide +kernel
theorem d_Law_law_2905 : decode code 2905 = .ok (.istore 6, 2) := by decide +kernel
theorem d_Law_law_2907 : decode code 2907 = .ok (.aload_n 2, 1) := by decide +kernel
