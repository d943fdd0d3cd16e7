theorem dL_law_2307 : decode cL_law 2307 = .ok (.iaload, 1) := by decide +kernel
theorem dL_law_2308 : decode cL_law 2308 = .ok (.aload_n 0, 1) := by decide +kernel
theorem dL_law_2309 : decode cL_law 2309 = .ok (.iload 4, 2) := by decide +kernel
theorem dL_law_2311 : decode cL_law 2311 = .ok (.iconst 2, 1) := by decide +kernel
theorem dL_law_2312 : decode cL_law 2312 = .ok (.iadd, 1) := by decide +kernel
theorem dL_law_2313 : decode cL_law 2313 = .ok (.iaload, 1) := by decide +kernel
theorem dL_law_2314 : decode cL_law 2314 = .ok (.invokevirtual 331, 3) := by decide +kernel
theorem dL_law_2317 : decode cL_law 2317 = .ok (.istore 6, 2) := by decide +kernel
theorem dL_law_2319 : decode cL_law 2319 = .ok (.goto 172, 3) := by decide +kernel
theorem dL_law_2322 : decode cL_law 2322 = .ok (.aload_n 1, 1) := by decide +kernel
theorem dL_law_2323 : decode cL_law 2323 = .ok (.invokevirtual 332, 3) := by decide +kernel
theorem dL_law_2326 : decode cL_law 2326 = .ok (.aload_n 2, 1) := by decide +kernel
theorem dL_law_2327 : decode cL_law 2327 = .ok (.invokevirtual 335, 3) := by decide +kernel
theorem dL_law_2330 : decode cL_law 2330 = .ok (.if_icmp .eq 161, 3) := by decide +kernel
theorem dL_law_2333 : decode cL_law 2333 = .ok (.iconst 0, 1) := by decide +kernel
theorem dL_law_2334 : decode cL_law 2334 = .ok (.ireturn, 1) := by decide +kernel
theorem dL_law_2335 : decode cL_law 2335 = .ok (.aload_n 1, 1) := by decide +kernel
theorem dL_law_2336 : decode cL_law 2336 = .ok (.aload_n 0, 1) := by decide +kernel
theorem dL_law_2337 : decode cL_law 2337 = .ok (.iload 4, 2) := by decide +kernel
theorem dL_law_2339 : decode cL_law 2339 = .ok (.iconst 1, 1) := by decide +kernel
theorem dL_law_2340 : decode cL_law 2340 = .ok (.iadd, 1) := by decide +kernel
theorem dL_law_2341 : decode cL_law 2341 = .ok (.iaload, 1) := by decide +kernel
theorem dL_law_2342 : decode cL_law 2342 = .ok (.aload_n 0, 1) := by decide +kernel
theorem dL_law_2343 : decode cL_law 2343 = .ok (.iload 4, 2) := by decide +kernel
theorem dL_law_2345 : decode cL_law 2345 = .ok (.iconst 2, 1) := by decide +kernel
theorem dL_law_2346 : decode cL_law 2346 = .ok (.iadd, 1) := by decide +kernel
theorem dL_law_2347 : decode cL_law 2347 = .ok (.iaload, 1) := by decide +kernel
theorem dL_law_2348 : decode cL_law 2348 = .ok (.aload_n 3, 1) := by decide +kernel
theorem dL_law_2349 : decode cL_law 2349 = .ok (.invokestatic 336, 3) := by decide +kernel
theorem dL_law_2352 : decode cL_law 2352 = .ok (.istore 5, 2) := by decide +kernel
theorem dL_law_2354 : decode cL_law 2354 = .ok (.aload_n 2, 1) := by decide +kernel
theorem dL_law_2355 : decode cL_law 2355 = .ok (.aload_n 0, 1) := by decide +kernel
theorem dL_law_2356 : decode cL_law 2356 = .ok (.iload 4, 2) := by decide +kernel
theorem dL_law_2358 : decode cL_law 2358 = .ok (.iconst 1, 1) := by decide +kernel
theorem dL_law_2359 : decode cL_law 2359 = .ok (.iadd, 1) := by decide +kernel
theorem dL_law_2360 : decode cL_law 2360 = .ok (.iaload, 1) := by decide +kernel
theorem dL_law_2361 : decode cL_law 2361 = .ok (.aload_n 0, 1) := by decide +kernel
theorem dL_law_2362 : decode cL_law 2362 = .ok (.iload 4, 2) := by decide +kernel
theorem dL_law_2364 : decode cL_law 2364 = .ok (.iconst 2, 1) := by decide +kernel
theorem dL_law_2365 : decode cL_law 2365 = .ok (.iadd, 1) := by decide +kernel
theorem dL_law_2366 : decode cL_law 2366 = .ok (.iaload, 1) := by decide +kernel
theorem dL_law_2367 : decode cL_law 2367 = .ok (.invokevirtual 338, 3) := by decide +kernel
theorem dL_law_2370 : decode cL_law 2370 = .ok (.istore 6, 2) := by decide +kernel
theorem dL_law_2372 : decode cL_law 2372 = .ok (.goto 119, 3) := by decide +kernel
theorem dL_law_2375 : decode cL_law 2375 = .ok (.aload_n 1, 1) := by decide +kernel
theorem dL_law_2376 : decode cL_law 2376 = .ok (.aload_n 0, 1) := by decide +kernel
theorem dL_law_2377 : decode cL_law 2377 = .ok (.iload 4, 2) := by decide +kernel
theorem dL_law_2379 : decode cL_law 2379 = .ok (.iconst 1, 1) := by decide +kernel
theorem dL_law_2380 : decode cL_law 2380 = .ok (.iadd, 1) := by decide +kernel
theorem dL_law_2381 : decode cL_law 2381 = .ok (.iaload, 1) := by decide +kernel
theorem dL_law_2382 : decode cL_law 2382 = .ok (.aload_n 0, 1) := by decide +kernel
theorem dL_law_2383 : decode cL_law 2383 = .ok (.iload 4, 2) := by decide +kernel
theorem dL_law_2385 : decode cL_law 2385 = .ok (.iconst 2, 1) := by decide +kernel
theorem dL_law_2386 : decode cL_law 2386 = .ok (.iadd, 1) := by decide +kernel
theorem dL_law_2387 : decode cL_law 2387 = .ok (.iaload, 1) := by decide +kernel
theorem dL_law_2388 : decode cL_law 2388 = .ok (.aload_n 0, 1) := by decide +kernel
theorem dL_law_2389 : decode cL_law 2389 = .ok (.iload 4, 2) := by decide +kernel
theorem dL_law_2391 : decode cL_law 2391 = .ok (.iconst 3, 1) := by decide +kernel
theorem dL_law_2392 : decode cL_law 2392 = .ok (.iadd, 1) := by decide +kernel
theorem dL_law_2393 : decode cL_law 2393 = .ok (.iaload, 1) := by decide +kernel
theorem dL_law_2394 : decode cL_law 2394 = .ok (.aload_n 3, 1) := by decide +kernel
theorem dL_law_2395 : decode cL_law 2395 = .ok (.invokestatic 339, 3) := by decide +kernel
theorem dL_law_2398 : decode cL_law 2398 = .ok (.istore 5, 2) := by decide +kernel
theorem dL_law_2400 : decode cL_law 2400 = .ok (.aload_n 2, 1) := by decide +kernel
theorem dL_law_2401 : decode cL_law 2401 = .ok (.aload_n 0, 1) := by decide +kernel
theorem dL_law_2402 : decode cL_law 2402 = .ok (.iload 4, 2) := by decide +kernel
theorem dL_law_2404 : decode cL_law 2404 = .ok (.iconst 1, 1) := by decide +kernel
theorem dL_law_2405 : decode cL_law 2405 = .ok (.iadd, 1) := by decide +kernel
theorem dL_law_2406 : decode cL_law 2406 = .ok (.iaload, 1) := by decide +kernel
theorem dL_law_2407 : decode cL_law 2407 = .ok (.aload_n 0, 1) := by decide +kernel
theorem dL_law_2408 : decode cL_law 2408 = .ok (.iload 4, 2) := by decide +kernel
theorem dL_law_2410 : decode cL_law 2410 = .ok (.iconst 2, 1) := by decide +kernel
theorem dL_law_2411 : decode cL_law 2411 = .ok (.iadd, 1) := by decide +kernel
theorem dL_law_2412 : decode cL_law 2412 = .ok (.iaload, 1) := by decide +kernel
theorem dL_law_2413 : decode cL_law 2413 = .ok (.aload_n 0, 1) := by decide +kernel
theorem dL_law_2414 : decode cL_law 2414 = .ok (.iload 4, 2) := by decide +kernel
theorem dL_law_2416 : decode cL_law 2416 = .ok (.iconst 3, 1) := by decide +kernel
theorem dL_law_2417 : decode cL_law 2417 = .ok (.iadd, 1) := by decide +kernel
theorem dL_law_2418 : decode cL_law 2418 = .ok (.iaload, 1) := by decide +kernel
theorem dL_law_2419 : decode cL_law 2419 = .ok (.invokevirtual 341, 3) := by decide +kernel
theorem dL_law_2422 : decode cL_law 2422 = .ok (.istore 6, 2) := by decide +kernel
theorem dL_law_2424 : decode cL_law 2424 = .ok (.goto 67, 3) := by decide +kernel
theorem dL_law_2427 : decode cL_law 2427 = .ok (.aload_n 1, 1) := by decide +kernel
theorem dL_law_2428 : decode cL_law 2428 = .ok (.invokevirtual 342, 3) := by decide +kernel
theorem dL_law_2431 : decode cL_law 2431 = .ok (.pop, 1) := by decide +kernel
theorem dL_law_2432 : decode cL_law 2432 = .ok (.aload_n 2, 1) := by decide +kernel
theorem dL_law_2433 : decode cL_law 2433 = .ok (.invokevirtual 345, 3) := by decide +kernel
theorem dL_law_2436 : decode cL_law 2436 = .ok (.pop, 1) := by decide +kernel
theorem dL_law_2437 : decode cL_law 2437 = .ok (.goto 54, 3) := by decide +kernel
theorem dL_law_2440 : decode cL_law 2440 = .ok (.aload_n 1, 1) := by decide +kernel
theorem dL_law_2441 : decode cL_law 2441 = .ok (.invokevirtual 346, 3) := by decide +kernel
theorem dL_law_2444 : decode cL_law 2444 = .ok (.pop, 1) := by decide +kernel
theorem dL_law_2445 : decode cL_law 2445 = .ok (.aload_n 2, 1) := by decide +kernel
theorem dL_law_2446 : decode cL_law 2446 = .ok (.invokevirtual 349, 3) := by decide +kernel
theorem dL_law_2449 : decode cL_law 2449 = .ok (.pop, 1) := by decide +kernel
theorem dL_law_2450 : decode cL_law 2450 = .ok (.goto 41, 3) := by decide +kernel
theorem dL_law_2453 : decode cL_law 2453 = .ok (.aload_n 1, 1) := by decide +kernel
theorem dL_law_2454 : decode cL_law 2454 = .ok (.invokevirtual 350, 3) := by decide +kernel
theorem dL_law_2457 : decode cL_law 2457 = .ok (.pop, 1) := by decide +kernel
theorem dL_law_2458 : decode cL_law 2458 = .ok (.aload_n 2, 1) := by decide +kernel
theorem dL_law_2459 : decode cL_law 2459 = .ok (.invokevirtual 353, 3) := by decide +kernel
theorem dL_law_2462 : decode cL_law 2462 = .ok (.pop, 1) := by decide +kernel
theorem dL_law_2463 : decode cL_law 2463 = .ok (.goto 28, 3) := by decide +kernel
theorem dL_law_2466 : decode cL_law 2466 = .ok (.aload_n 1, 1) := by decide +kernel
theorem dL_law_2467 : decode cL_law 2467 = .ok (.aload_n 0, 1) := by decide +kernel
theorem dL_law_2468 : decode cL_law 2468 = .ok (.iload 4, 2) := by decide +kernel
theorem dL_law_2470 : decode cL_law 2470 = .ok (.iconst 1, 1) := by decide +kernel
theorem dL_law_2471 : decode cL_law 2471 = .ok (.iadd, 1) := by decide +kernel
theorem dL_law_2472 : decode cL_law 2472 = .ok (.iaload, 1) := by decide +kernel
theorem dL_law_2473 : decode cL_law 2473 = .ok (.invokevirtual 354, 3) := by decide +kernel
theorem dL_law_2476 : decode cL_law 2476 = .ok (.pop, 1) := by decide +kernel
theorem dL_law_2477 : decode cL_law 2477 = .ok (.aload_n 2, 1) := by decide +kernel
theorem dL_law_2478 : decode cL_law 2478 = .ok (.aload_n 0, 1) := by decide +kernel
theorem dL_law_2479 : decode cL_law 2479 = .ok (.iload 4, 2) := by decide +kernel
theorem dL_law_2481 : decode cL_law 2481 = .ok (.iconst 1, 1) := by decide +kernel
theorem dL_law_2482 : decode cL_law 2482 = .ok (.iadd, 1) := by decide +kernel
theorem dL_law_2483 : decode cL_law 2483 = .ok (.iaload, 1) := by decide +kernel
theorem dL_law_2484 : decode cL_law 2484 = .ok (.invokevirtual 357, 3) := by decide +kernel
theorem dL_law_2487 : decode cL_law 2487 = .ok (.pop, 1) := by decide +kernel
theorem dL_law_2488 : decode cL_law 2488 = .ok (.goto 3, 3) := by decide +kernel
theorem dL_law_2491 : decode cL_law 2491 = .ok (.iinc 4 8, 3) := by decide +kernel
theorem dL_law_2494 : decode cL_law 2494 = .ok (.goto (-2471), 3) := by decide +kernel
theorem dL_law_2497 : decode cL_law 2497 = .ok (.iconst 1, 1) := by decide +kernel
theorem dL_law_2498 : decode cL_law 2498 = .ok (.ireturn, 1) := by decide +kernel
