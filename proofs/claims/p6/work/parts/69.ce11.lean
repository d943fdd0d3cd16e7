theorem dL_law_2310 : decode cL_law 2310 = .ok (.istore 5, 2) := by decide +kernel
theorem dL_law_2312 : decode cL_law 2312 = .ok (.aload_n 2, 1) := by decide +kernel
theorem dL_law_2313 : decode cL_law 2313 = .ok (.aload_n 0, 1) := by decide +kernel
theorem dL_law_2314 : decode cL_law 2314 = .ok (.iload 4, 2) := by decide +kernel
theorem dL_law_2316 : decode cL_law 2316 = .ok (.iconst 1, 1) := by decide +kernel
theorem dL_law_2317 : decode cL_law 2317 = .ok (.iadd, 1) := by decide +kernel
theorem dL_law_2318 : decode cL_law 2318 = .ok (.iaload, 1) := by decide +kernel
theorem dL_law_2319 : decode cL_law 2319 = .ok (.aload_n 0, 1) := by decide +kernel
theorem dL_law_2320 : decode cL_law 2320 = .ok (.iload 4, 2) := by decide +kernel
theorem dL_law_2322 : decode cL_law 2322 = .ok (.iconst 2, 1) := by decide +kernel
theorem dL_law_2323 : decode cL_law 2323 = .ok (.iadd, 1) := by decide +kernel
theorem dL_law_2324 : decode cL_law 2324 = .ok (.iaload, 1) := by decide +kernel
theorem dL_law_2325 : decode cL_law 2325 = .ok (.invokevirtual 334, 3) := by decide +kernel
theorem dL_law_2328 : decode cL_law 2328 = .ok (.istore 6, 2) := by decide +kernel
theorem dL_law_2330 : decode cL_law 2330 = .ok (.goto 172, 3) := by decide +kernel
theorem dL_law_2333 : decode cL_law 2333 = .ok (.aload_n 1, 1) := by decide +kernel
theorem dL_law_2334 : decode cL_law 2334 = .ok (.invokevirtual 335, 3) := by decide +kernel
theorem dL_law_2337 : decode cL_law 2337 = .ok (.pop, 1) := by decide +kernel
theorem dL_law_2338 : decode cL_law 2338 = .ok (.aload_n 2, 1) := by decide +kernel
theorem dL_law_2339 : decode cL_law 2339 = .ok (.invokevirtual 338, 3) := by decide +kernel
theorem dL_law_2342 : decode cL_law 2342 = .ok (.pop, 1) := by decide +kernel
theorem dL_law_2343 : decode cL_law 2343 = .ok (.goto 159, 3) := by decide +kernel
theorem dL_law_2346 : decode cL_law 2346 = .ok (.aload_n 1, 1) := by decide +kernel
theorem dL_law_2347 : decode cL_law 2347 = .ok (.aload_n 0, 1) := by decide +kernel
theorem dL_law_2348 : decode cL_law 2348 = .ok (.iload 4, 2) := by decide +kernel
theorem dL_law_2350 : decode cL_law 2350 = .ok (.iconst 1, 1) := by decide +kernel
theorem dL_law_2351 : decode cL_law 2351 = .ok (.iadd, 1) := by decide +kernel
theorem dL_law_2352 : decode cL_law 2352 = .ok (.iaload, 1) := by decide +kernel
theorem dL_law_2353 : decode cL_law 2353 = .ok (.aload_n 0, 1) := by decide +kernel
theorem dL_law_2354 : decode cL_law 2354 = .ok (.iload 4, 2) := by decide +kernel
theorem dL_law_2356 : decode cL_law 2356 = .ok (.iconst 2, 1) := by decide +kernel
theorem dL_law_2357 : decode cL_law 2357 = .ok (.iadd, 1) := by decide +kernel
theorem dL_law_2358 : decode cL_law 2358 = .ok (.iaload, 1) := by decide +kernel
theorem dL_law_2359 : decode cL_law 2359 = .ok (.aload_n 3, 1) := by decide +kernel
theorem dL_law_2360 : decode cL_law 2360 = .ok (.invokestatic 339, 3) := by decide +kernel
theorem dL_law_2363 : decode cL_law 2363 = .ok (.istore 5, 2) := by decide +kernel
theorem dL_law_2365 : decode cL_law 2365 = .ok (.aload_n 2, 1) := by decide +kernel
theorem dL_law_2366 : decode cL_law 2366 = .ok (.aload_n 0, 1) := by decide +kernel
theorem dL_law_2367 : decode cL_law 2367 = .ok (.iload 4, 2) := by decide +kernel
theorem dL_law_2369 : decode cL_law 2369 = .ok (.iconst 1, 1) := by decide +kernel
theorem dL_law_2370 : decode cL_law 2370 = .ok (.iadd, 1) := by decide +kernel
theorem dL_law_2371 : decode cL_law 2371 = .ok (.iaload, 1) := by decide +kernel
theorem dL_law_2372 : decode cL_law 2372 = .ok (.aload_n 0, 1) := by decide +kernel
theorem dL_law_2373 : decode cL_law 2373 = .ok (.iload 4, 2) := by decide +kernel
theorem dL_law_2375 : decode cL_law 2375 = .ok (.iconst 2, 1) := by decide +kernel
theorem dL_law_2376 : decode cL_law 2376 = .ok (.iadd, 1) := by decide +kernel
theorem dL_law_2377 : decode cL_law 2377 = .ok (.iaload, 1) := by decide +kernel
theorem dL_law_2378 : decode cL_law 2378 = .ok (.invokevirtual 341, 3) := by decide +kernel
theorem dL_law_2381 : decode cL_law 2381 = .ok (.istore 6, 2) := by decide +kernel
theorem dL_law_2383 : decode cL_law 2383 = .ok (.goto 119, 3) := by decide +kernel
theorem dL_law_2386 : decode cL_law 2386 = .ok (.aload_n 1, 1) := by decide +kernel
theorem dL_law_2387 : decode cL_law 2387 = .ok (.aload_n 0, 1) := by decide +kernel
theorem dL_law_2388 : decode cL_law 2388 = .ok (.iload 4, 2) := by decide +kernel
theorem dL_law_2390 : decode cL_law 2390 = .ok (.iconst 1, 1) := by decide +kernel
theorem dL_law_2391 : decode cL_law 2391 = .ok (.iadd, 1) := by decide +kernel
theorem dL_law_2392 : decode cL_law 2392 = .ok (.iaload, 1) := by decide +kernel
theorem dL_law_2393 : decode cL_law 2393 = .ok (.aload_n 0, 1) := by decide +kernel
theorem dL_law_2394 : decode cL_law 2394 = .ok (.iload 4, 2) := by decide +kernel
theorem dL_law_2396 : decode cL_law 2396 = .ok (.iconst 2, 1) := by decide +kernel
theorem dL_law_2397 : decode cL_law 2397 = .ok (.iadd, 1) := by decide +kernel
theorem dL_law_2398 : decode cL_law 2398 = .ok (.iaload, 1) := by decide +kernel
theorem dL_law_2399 : decode cL_law 2399 = .ok (.aload_n 0, 1) := by decide +kernel
theorem dL_law_2400 : decode cL_law 2400 = .ok (.iload 4, 2) := by decide +kernel
theorem dL_law_2402 : decode cL_law 2402 = .ok (.iconst 3, 1) := by decide +kernel
theorem dL_law_2403 : decode cL_law 2403 = .ok (.iadd, 1) := by decide +kernel
theorem dL_law_2404 : decode cL_law 2404 = .ok (.iaload, 1) := by decide +kernel
theorem dL_law_2405 : decode cL_law 2405 = .ok (.aload_n 3, 1) := by decide +kernel
theorem dL_law_2406 : decode cL_law 2406 = .ok (.invokestatic 342, 3) := by decide +kernel
theorem dL_law_2409 : decode cL_law 2409 = .ok (.istore 5, 2) := by decide +kernel
theorem dL_law_2411 : decode cL_law 2411 = .ok (.aload_n 2, 1) := by decide +kernel
theorem dL_law_2412 : decode cL_law 2412 = .ok (.aload_n 0, 1) := by decide +kernel
theorem dL_law_2413 : decode cL_law 2413 = .ok (.iload 4, 2) := by decide +kernel
theorem dL_law_2415 : decode cL_law 2415 = .ok (.iconst 1, 1) := by decide +kernel
theorem dL_law_2416 : decode cL_law 2416 = .ok (.iadd, 1) := by decide +kernel
theorem dL_law_2417 : decode cL_law 2417 = .ok (.iaload, 1) := by decide +kernel
theorem dL_law_2418 : decode cL_law 2418 = .ok (.aload_n 0, 1) := by decide +kernel
theorem dL_law_2419 : decode cL_law 2419 = .ok (.iload 4, 2) := by decide +kernel
theorem dL_law_2421 : decode cL_law 2421 = .ok (.iconst 2, 1) := by decide +kernel
theorem dL_law_2422 : decode cL_law 2422 = .ok (.iadd, 1) := by decide +kernel
theorem dL_law_2423 : decode cL_law 2423 = .ok (.iaload, 1) := by decide +kernel
theorem dL_law_2424 : decode cL_law 2424 = .ok (.aload_n 0, 1) := by decide +kernel
theorem dL_law_2425 : decode cL_law 2425 = .ok (.iload 4, 2) := by decide +kernel
theorem dL_law_2427 : decode cL_law 2427 = .ok (.iconst 3, 1) := by decide +kernel
theorem dL_law_2428 : decode cL_law 2428 = .ok (.iadd, 1) := by decide +kernel
theorem dL_law_2429 : decode cL_law 2429 = .ok (.iaload, 1) := by decide +kernel
theorem dL_law_2430 : decode cL_law 2430 = .ok (.invokevirtual 344, 3) := by decide +kernel
theorem dL_law_2433 : decode cL_law 2433 = .ok (.istore 6, 2) := by decide +kernel
theorem dL_law_2435 : decode cL_law 2435 = .ok (.goto 67, 3) := by decide +kernel
theorem dL_law_2438 : decode cL_law 2438 = .ok (.aload_n 1, 1) := by decide +kernel
theorem dL_law_2439 : decode cL_law 2439 = .ok (.invokevirtual 345, 3) := by decide +kernel
theorem dL_law_2442 : decode cL_law 2442 = .ok (.pop, 1) := by decide +kernel
theorem dL_law_2443 : decode cL_law 2443 = .ok (.aload_n 2, 1) := by decide +kernel
theorem dL_law_2444 : decode cL_law 2444 = .ok (.invokevirtual 348, 3) := by decide +kernel
theorem dL_law_2447 : decode cL_law 2447 = .ok (.pop, 1) := by decide +kernel
theorem dL_law_2448 : decode cL_law 2448 = .ok (.goto 54, 3) := by decide +kernel
theorem dL_law_2451 : decode cL_law 2451 = .ok (.aload_n 1, 1) := by decide +kernel
theorem dL_law_2452 : decode cL_law 2452 = .ok (.invokevirtual 349, 3) := by decide +kernel
theorem dL_law_2455 : decode cL_law 2455 = .ok (.pop, 1) := by decide +kernel
theorem dL_law_2456 : decode cL_law 2456 = .ok (.aload_n 2, 1) := by decide +kernel
theorem dL_law_2457 : decode cL_law 2457 = .ok (.invokevirtual 352, 3) := by decide +kernel
theorem dL_law_2460 : decode cL_law 2460 = .ok (.pop, 1) := by decide +kernel
theorem dL_law_2461 : decode cL_law 2461 = .ok (.goto 41, 3) := by decide +kernel
theorem dL_law_2464 : decode cL_law 2464 = .ok (.aload_n 1, 1) := by decide +kernel
theorem dL_law_2465 : decode cL_law 2465 = .ok (.invokevirtual 353, 3) := by decide +kernel
theorem dL_law_2468 : decode cL_law 2468 = .ok (.pop, 1) := by decide +kernel
theorem dL_law_2469 : decode cL_law 2469 = .ok (.aload_n 2, 1) := by decide +kernel
theorem dL_law_2470 : decode cL_law 2470 = .ok (.invokevirtual 356, 3) := by decide +kernel
theorem dL_law_2473 : decode cL_law 2473 = .ok (.pop, 1) := by decide +kernel
theorem dL_law_2474 : decode cL_law 2474 = .ok (.goto 28, 3) := by decide +kernel
theorem dL_law_2477 : decode cL_law 2477 = .ok (.aload_n 1, 1) := by decide +kernel
theorem dL_law_2478 : decode cL_law 2478 = .ok (.aload_n 0, 1) := by decide +kernel
theorem dL_law_2479 : decode cL_law 2479 = .ok (.iload 4, 2) := by decide +kernel
theorem dL_law_2481 : decode cL_law 2481 = .ok (.iconst 1, 1) := by decide +kernel
theorem dL_law_2482 : decode cL_law 2482 = .ok (.iadd, 1) := by decide +kernel
theorem dL_law_2483 : decode cL_law 2483 = .ok (.iaload, 1) := by decide +kernel
theorem dL_law_2484 : decode cL_law 2484 = .ok (.invokevirtual 357, 3) := by decide +kernel
theorem dL_law_2487 : decode cL_law 2487 = .ok (.pop, 1) := by decide +kernel
theorem dL_law_2488 : decode cL_law 2488 = .ok (.aload_n 2, 1) := by decide +kernel
theorem dL_law_2489 : decode cL_law 2489 = .ok (.aload_n 0, 1) := by decide +kernel
theorem dL_law_2490 : decode cL_law 2490 = .ok (.iload 4, 2) := by decide +kernel
theorem dL_law_2492 : decode cL_law 2492 = .ok (.iconst 1, 1) := by decide +kernel
theorem dL_law_2493 : decode cL_law 2493 = .ok (.iadd, 1) := by decide +kernel
theorem dL_law_2494 : decode cL_law 2494 = .ok (.iaload, 1) := by decide +kernel
theorem dL_law_2495 : decode cL_law 2495 = .ok (.invokevirtual 360, 3) := by decide +kernel
theorem dL_law_2498 : decode cL_law 2498 = .ok (.pop, 1) := by decide +kernel
theorem dL_law_2499 : decode cL_law 2499 = .ok (.goto 3, 3) := by decide +kernel
theorem dL_law_2502 : decode cL_law 2502 = .ok (.iinc 4 8, 3) := by decide +kernel
theorem dL_law_2505 : decode cL_law 2505 = .ok (.goto (-2482), 3) := by decide +kernel
theorem dL_law_2508 : decode cL_law 2508 = .ok (.iconst 1, 1) := by decide +kernel
theorem dL_law_2509 : decode cL_law 2509 = .ok (.ireturn, 1) := by decide +kernel
