theorem dL_law__2246 : decode cL_law_ 2246 = .ok (.iconst 2, 1) := by decide +kernel
theorem dL_law__2247 : decode cL_law_ 2247 = .ok (.iadd, 1) := by decide +kernel
theorem dL_law__2248 : decode cL_law_ 2248 = .ok (.iaload, 1) := by decide +kernel
theorem dL_law__2249 : decode cL_law_ 2249 = .ok (.aload_n 3, 1) := by decide +kernel
theorem dL_law__2250 : decode cL_law_ 2250 = .ok (.invokestatic 220, 3) := by decide +kernel
theorem dL_law__2253 : decode cL_law_ 2253 = .ok (.istore 5, 2) := by decide +kernel
theorem dL_law__2255 : decode cL_law_ 2255 = .ok (.aload_n 2, 1) := by decide +kernel
theorem dL_law__2256 : decode cL_law_ 2256 = .ok (.aload_n 0, 1) := by decide +kernel
theorem dL_law__2257 : decode cL_law_ 2257 = .ok (.iload 4, 2) := by decide +kernel
theorem dL_law__2259 : decode cL_law_ 2259 = .ok (.iconst 1, 1) := by decide +kernel
theorem dL_law__2260 : decode cL_law_ 2260 = .ok (.iadd, 1) := by decide +kernel
theorem dL_law__2261 : decode cL_law_ 2261 = .ok (.iaload, 1) := by decide +kernel
theorem dL_law__2262 : decode cL_law_ 2262 = .ok (.aload_n 0, 1) := by decide +kernel
theorem dL_law__2263 : decode cL_law_ 2263 = .ok (.iload 4, 2) := by decide +kernel
theorem dL_law__2265 : decode cL_law_ 2265 = .ok (.iconst 2, 1) := by decide +kernel
theorem dL_law__2266 : decode cL_law_ 2266 = .ok (.iadd, 1) := by decide +kernel
theorem dL_law__2267 : decode cL_law_ 2267 = .ok (.iaload, 1) := by decide +kernel
theorem dL_law__2268 : decode cL_law_ 2268 = .ok (.invokevirtual 222, 3) := by decide +kernel
theorem dL_law__2271 : decode cL_law_ 2271 = .ok (.istore 6, 2) := by decide +kernel
theorem dL_law__2273 : decode cL_law_ 2273 = .ok (.aload_n 2, 1) := by decide +kernel
theorem dL_law__2274 : decode cL_law_ 2274 = .ok (.invokevirtual 129, 3) := by decide +kernel
theorem dL_law__2277 : decode cL_law_ 2277 = .ok (.iload 5, 2) := by decide +kernel
theorem dL_law__2279 : decode cL_law_ 2279 = .ok (.if_icmp .eq 5, 3) := by decide +kernel
theorem dL_law__2282 : decode cL_law_ 2282 = .ok (.iconst 0, 1) := by decide +kernel
theorem dL_law__2283 : decode cL_law_ 2283 = .ok (.ireturn, 1) := by decide +kernel
theorem dL_law__2284 : decode cL_law_ 2284 = .ok (.iload 5, 2) := by decide +kernel
theorem dL_law__2286 : decode cL_law_ 2286 = .ok (.ifCond .ne 15, 3) := by decide +kernel
theorem dL_law__2289 : decode cL_law_ 2289 = .ok (.aload_n 3, 1) := by decide +kernel
theorem dL_law__2290 : decode cL_law_ 2290 = .ok (.iconst 0, 1) := by decide +kernel
theorem dL_law__2291 : decode cL_law_ 2291 = .ok (.laload, 1) := by decide +kernel
theorem dL_law__2292 : decode cL_law_ 2292 = .ok (.iload 6, 2) := by decide +kernel
theorem dL_law__2294 : decode cL_law_ 2294 = .ok (.i2l, 1) := by decide +kernel
theorem dL_law__2295 : decode cL_law_ 2295 = .ok (.lcmp, 1) := by decide +kernel
theorem dL_law__2296 : decode cL_law_ 2296 = .ok (.ifCond .eq 5, 3) := by decide +kernel
theorem dL_law__2299 : decode cL_law_ 2299 = .ok (.iconst 0, 1) := by decide +kernel
theorem dL_law__2300 : decode cL_law_ 2300 = .ok (.ireturn, 1) := by decide +kernel
theorem dL_law__2301 : decode cL_law_ 2301 = .ok (.goto 270, 3) := by decide +kernel
theorem dL_law__2304 : decode cL_law_ 2304 = .ok (.aload_n 1, 1) := by decide +kernel
theorem dL_law__2305 : decode cL_law_ 2305 = .ok (.aload_n 0, 1) := by decide +kernel
theorem dL_law__2306 : decode cL_law_ 2306 = .ok (.iload 4, 2) := by decide +kernel
theorem dL_law__2308 : decode cL_law_ 2308 = .ok (.iconst 1, 1) := by decide +kernel
theorem dL_law__2309 : decode cL_law_ 2309 = .ok (.iadd, 1) := by decide +kernel
theorem dL_law__2310 : decode cL_law_ 2310 = .ok (.iaload, 1) := by decide +kernel
theorem dL_law__2311 : decode cL_law_ 2311 = .ok (.aload_n 0, 1) := by decide +kernel
theorem dL_law__2312 : decode cL_law_ 2312 = .ok (.iload 4, 2) := by decide +kernel
theorem dL_law__2314 : decode cL_law_ 2314 = .ok (.iconst 2, 1) := by decide +kernel
theorem dL_law__2315 : decode cL_law_ 2315 = .ok (.iadd, 1) := by decide +kernel
theorem dL_law__2316 : decode cL_law_ 2316 = .ok (.iaload, 1) := by decide +kernel
theorem dL_law__2317 : decode cL_law_ 2317 = .ok (.aload_n 0, 1) := by decide +kernel
theorem dL_law__2318 : decode cL_law_ 2318 = .ok (.iload 4, 2) := by decide +kernel
theorem dL_law__2320 : decode cL_law_ 2320 = .ok (.iconst 3, 1) := by decide +kernel
theorem dL_law__2321 : decode cL_law_ 2321 = .ok (.iadd, 1) := by decide +kernel
theorem dL_law__2322 : decode cL_law_ 2322 = .ok (.iaload, 1) := by decide +kernel
theorem dL_law__2323 : decode cL_law_ 2323 = .ok (.aload_n 3, 1) := by decide +kernel
theorem dL_law__2324 : decode cL_law_ 2324 = .ok (.invokestatic 223, 3) := by decide +kernel
theorem dL_law__2327 : decode cL_law_ 2327 = .ok (.istore 5, 2) := by decide +kernel
theorem dL_law__2329 : decode cL_law_ 2329 = .ok (.aload_n 2, 1) := by decide +kernel
theorem dL_law__2330 : decode cL_law_ 2330 = .ok (.aload_n 0, 1) := by decide +kernel
theorem dL_law__2331 : decode cL_law_ 2331 = .ok (.iload 4, 2) := by decide +kernel
theorem dL_law__2333 : decode cL_law_ 2333 = .ok (.iconst 1, 1) := by decide +kernel
theorem dL_law__2334 : decode cL_law_ 2334 = .ok (.iadd, 1) := by decide +kernel
theorem dL_law__2335 : decode cL_law_ 2335 = .ok (.iaload, 1) := by decide +kernel
theorem dL_law__2336 : decode cL_law_ 2336 = .ok (.aload_n 0, 1) := by decide +kernel
theorem dL_law__2337 : decode cL_law_ 2337 = .ok (.iload 4, 2) := by decide +kernel
theorem dL_law__2339 : decode cL_law_ 2339 = .ok (.iconst 2, 1) := by decide +kernel
theorem dL_law__2340 : decode cL_law_ 2340 = .ok (.iadd, 1) := by decide +kernel
theorem dL_law__2341 : decode cL_law_ 2341 = .ok (.iaload, 1) := by decide +kernel
theorem dL_law__2342 : decode cL_law_ 2342 = .ok (.aload_n 0, 1) := by decide +kernel
theorem dL_law__2343 : decode cL_law_ 2343 = .ok (.iload 4, 2) := by decide +kernel
theorem dL_law__2345 : decode cL_law_ 2345 = .ok (.iconst 3, 1) := by decide +kernel
theorem dL_law__2346 : decode cL_law_ 2346 = .ok (.iadd, 1) := by decide +kernel
theorem dL_law__2347 : decode cL_law_ 2347 = .ok (.iaload, 1) := by decide +kernel
theorem dL_law__2348 : decode cL_law_ 2348 = .ok (.invokevirtual 225, 3) := by decide +kernel
theorem dL_law__2351 : decode cL_law_ 2351 = .ok (.istore 6, 2) := by decide +kernel
theorem dL_law__2353 : decode cL_law_ 2353 = .ok (.aload_n 2, 1) := by decide +kernel
theorem dL_law__2354 : decode cL_law_ 2354 = .ok (.invokevirtual 129, 3) := by decide +kernel
theorem dL_law__2357 : decode cL_law_ 2357 = .ok (.iload 5, 2) := by decide +kernel
theorem dL_law__2359 : decode cL_law_ 2359 = .ok (.if_icmp .eq 5, 3) := by decide +kernel
theorem dL_law__2362 : decode cL_law_ 2362 = .ok (.iconst 0, 1) := by decide +kernel
theorem dL_law__2363 : decode cL_law_ 2363 = .ok (.ireturn, 1) := by decide +kernel
theorem dL_law__2364 : decode cL_law_ 2364 = .ok (.iload 5, 2) := by decide +kernel
theorem dL_law__2366 : decode cL_law_ 2366 = .ok (.ifCond .ne 15, 3) := by decide +kernel
theorem dL_law__2369 : decode cL_law_ 2369 = .ok (.aload_n 3, 1) := by decide +kernel
theorem dL_law__2370 : decode cL_law_ 2370 = .ok (.iconst 0, 1) := by decide +kernel
theorem dL_law__2371 : decode cL_law_ 2371 = .ok (.laload, 1) := by decide +kernel
theorem dL_law__2372 : decode cL_law_ 2372 = .ok (.iload 6, 2) := by decide +kernel
theorem dL_law__2374 : decode cL_law_ 2374 = .ok (.i2l, 1) := by decide +kernel
theorem dL_law__2375 : decode cL_law_ 2375 = .ok (.lcmp, 1) := by decide +kernel
theorem dL_law__2376 : decode cL_law_ 2376 = .ok (.ifCond .eq 5, 3) := by decide +kernel
theorem dL_law__2379 : decode cL_law_ 2379 = .ok (.iconst 0, 1) := by decide +kernel
theorem dL_law__2380 : decode cL_law_ 2380 = .ok (.ireturn, 1) := by decide +kernel
theorem dL_law__2381 : decode cL_law_ 2381 = .ok (.goto 190, 3) := by decide +kernel
theorem dL_law__2384 : decode cL_law_ 2384 = .ok (.aload_n 1, 1) := by decide +kernel
theorem dL_law__2385 : decode cL_law_ 2385 = .ok (.aload_n 0, 1) := by decide +kernel
theorem dL_law__2386 : decode cL_law_ 2386 = .ok (.iload 4, 2) := by decide +kernel
theorem dL_law__2388 : decode cL_law_ 2388 = .ok (.iconst 1, 1) := by decide +kernel
theorem dL_law__2389 : decode cL_law_ 2389 = .ok (.iadd, 1) := by decide +kernel
theorem dL_law__2390 : decode cL_law_ 2390 = .ok (.iaload, 1) := by decide +kernel
theorem dL_law__2391 : decode cL_law_ 2391 = .ok (.aload_n 0, 1) := by decide +kernel
theorem dL_law__2392 : decode cL_law_ 2392 = .ok (.iload 4, 2) := by decide +kernel
theorem dL_law__2394 : decode cL_law_ 2394 = .ok (.iconst 2, 1) := by decide +kernel
theorem dL_law__2395 : decode cL_law_ 2395 = .ok (.iadd, 1) := by decide +kernel
theorem dL_law__2396 : decode cL_law_ 2396 = .ok (.iaload, 1) := by decide +kernel
theorem dL_law__2397 : decode cL_law_ 2397 = .ok (.aload_n 3, 1) := by decide +kernel
theorem dL_law__2398 : decode cL_law_ 2398 = .ok (.invokestatic 226, 3) := by decide +kernel
theorem dL_law__2401 : decode cL_law_ 2401 = .ok (.istore 5, 2) := by decide +kernel
theorem dL_law__2403 : decode cL_law_ 2403 = .ok (.aload_n 2, 1) := by decide +kernel
theorem dL_law__2404 : decode cL_law_ 2404 = .ok (.aload_n 0, 1) := by decide +kernel
theorem dL_law__2405 : decode cL_law_ 2405 = .ok (.iload 4, 2) := by decide +kernel
theorem dL_law__2407 : decode cL_law_ 2407 = .ok (.iconst 1, 1) := by decide +kernel
theorem dL_law__2408 : decode cL_law_ 2408 = .ok (.iadd, 1) := by decide +kernel
theorem dL_law__2409 : decode cL_law_ 2409 = .ok (.iaload, 1) := by decide +kernel
theorem dL_law__2410 : decode cL_law_ 2410 = .ok (.aload_n 0, 1) := by decide +kernel
theorem dL_law__2411 : decode cL_law_ 2411 = .ok (.iload 4, 2) := by decide +kernel
theorem dL_law__2413 : decode cL_law_ 2413 = .ok (.iconst 2, 1) := by decide +kernel
theorem dL_law__2414 : decode cL_law_ 2414 = .ok (.iadd, 1) := by decide +kernel
theorem dL_law__2415 : decode cL_law_ 2415 = .ok (.iaload, 1) := by decide +kernel
theorem dL_law__2416 : decode cL_law_ 2416 = .ok (.invokevirtual 228, 3) := by decide +kernel
theorem dL_law__2419 : decode cL_law_ 2419 = .ok (.istore 6, 2) := by decide +kernel
theorem dL_law__2421 : decode cL_law_ 2421 = .ok (.aload_n 2, 1) := by decide +kernel
theorem dL_law__2422 : decode cL_law_ 2422 = .ok (.invokevirtual 129, 3) := by decide +kernel
theorem dL_law__2425 : decode cL_law_ 2425 = .ok (.iload 5, 2) := by decide +kernel
theorem dL_law__2427 : decode cL_law_ 2427 = .ok (.if_icmp .eq 5, 3) := by decide +kernel
theorem dL_law__2430 : decode cL_law_ 2430 = .ok (.iconst 0, 1) := by decide +kernel
theorem dL_law__2431 : decode cL_law_ 2431 = .ok (.ireturn, 1) := by decide +kernel
theorem dL_law__2432 : decode cL_law_ 2432 = .ok (.iload 5, 2) := by decide +kernel
theorem dL_law__2434 : decode cL_law_ 2434 = .ok (.ifCond .ne 15, 3) := by decide +kernel
theorem dL_law__2437 : decode cL_law_ 2437 = .ok (.aload_n 3, 1) := by decide +kernel
theorem dL_law__2438 : decode cL_law_ 2438 = .ok (.iconst 0, 1) := by decide +kernel
theorem dL_law__2439 : decode cL_law_ 2439 = .ok (.laload, 1) := by decide +kernel
theorem dL_law__2440 : decode cL_law_ 2440 = .ok (.iload 6, 2) := by decide +kernel
theorem dL_law__2442 : decode cL_law_ 2442 = .ok (.i2l, 1) := by decide +kernel
theorem dL_law__2443 : decode cL_law_ 2443 = .ok (.lcmp, 1) := by decide +kernel
theorem dL_law__2444 : decode cL_law_ 2444 = .ok (.ifCond .eq 5, 3) := by decide +kernel
theorem dL_law__2447 : decode cL_law_ 2447 = .ok (.iconst 0, 1) := by decide +kernel
theorem dL_law__2448 : decode cL_law_ 2448 = .ok (.ireturn, 1) := by decide +kernel
theorem dL_law__2449 : decode cL_law_ 2449 = .ok (.goto 122, 3) := by decide +kernel
theorem dL_law__2452 : decode cL_law_ 2452 = .ok (.aload_n 1, 1) := by decide +kernel
theorem dL_law__2453 : decode cL_law_ 2453 = .ok (.aload_n 0, 1) := by decide +kernel
theorem dL_law__2454 : decode cL_law_ 2454 = .ok (.iload 4, 2) := by decide +kernel
theorem dL_law__2456 : decode cL_law_ 2456 = .ok (.iconst 1, 1) := by decide +kernel
theorem dL_law__2457 : decode cL_law_ 2457 = .ok (.iadd, 1) := by decide +kernel
theorem dL_law__2458 : decode cL_law_ 2458 = .ok (.iaload, 1) := by decide +kernel
theorem dL_law__2459 : decode cL_law_ 2459 = .ok (.aload_n 0, 1) := by decide +kernel
theorem dL_law__2460 : decode cL_law_ 2460 = .ok (.iload 4, 2) := by decide +kernel
theorem dL_law__2462 : decode cL_law_ 2462 = .ok (.iconst 2, 1) := by decide +kernel
theorem dL_law__2463 : decode cL_law_ 2463 = .ok (.iadd, 1) := by decide +kernel
theorem dL_law__2464 : decode cL_law_ 2464 = .ok (.iaload, 1) := by decide +kernel
theorem dL_law__2465 : decode cL_law_ 2465 = .ok (.aload_n 3, 1) := by decide +kernel
theorem dL_law__2466 : decode cL_law_ 2466 = .ok (.invokestatic 229, 3) := by decide +kernel
theorem dL_law__2469 : decode cL_law_ 2469 = .ok (.istore 5, 2) := by decide +kernel
theorem dL_law__2471 : decode cL_law_ 2471 = .ok (.aload_n 2, 1) := by decide +kernel
theorem dL_law__2472 : decode cL_law_ 2472 = .ok (.aload_n 0, 1) := by decide +kernel
theorem dL_law__2473 : decode cL_law_ 2473 = .ok (.iload 4, 2) := by decide +kernel
theorem dL_law__2475 : decode cL_law_ 2475 = .ok (.iconst 1, 1) := by decide +kernel
theorem dL_law__2476 : decode cL_law_ 2476 = .ok (.iadd, 1) := by decide +kernel
theorem dL_law__2477 : decode cL_law_ 2477 = .ok (.iaload, 1) := by decide +kernel
theorem dL_law__2478 : decode cL_law_ 2478 = .ok (.aload_n 0, 1) := by decide +kernel
theorem dL_law__2479 : decode cL_law_ 2479 = .ok (.iload 4, 2) := by decide +kernel
theorem dL_law__2481 : decode cL_law_ 2481 = .ok (.iconst 2, 1) := by decide +kernel
theorem dL_law__2482 : decode cL_law_ 2482 = .ok (.iadd, 1) := by decide +kernel
theorem dL_law__2483 : decode cL_law_ 2483 = .ok (.iaload, 1) := by decide +kernel
theorem dL_law__2484 : decode cL_law_ 2484 = .ok (.invokevirtual 231, 3) := by decide +kernel
theorem dL_law__2487 : decode cL_law_ 2487 = .ok (.istore 6, 2) := by decide +kernel
theorem dL_law__2489 : decode cL_law_ 2489 = .ok (.aload_n 2, 1) := by decide +kernel
theorem dL_law__2490 : decode cL_law_ 2490 = .ok (.invokevirtual 129, 3) := by decide +kernel
theorem dL_law__2493 : decode cL_law_ 2493 = .ok (.iload 5, 2) := by decide +kernel
theorem dL_law__2495 : decode cL_law_ 2495 = .ok (.if_icmp .eq 5, 3) := by decide +kernel
theorem dL_law__2498 : decode cL_law_ 2498 = .ok (.iconst 0, 1) := by decide +kernel
theorem dL_law__2499 : decode cL_law_ 2499 = .ok (.ireturn, 1) := by decide +kernel
theorem dL_law__2500 : decode cL_law_ 2500 = .ok (.iload 5, 2) := by decide +kernel
theorem dL_law__2502 : decode cL_law_ 2502 = .ok (.ifCond .ne 15, 3) := by decide +kernel
theorem dL_law__2505 : decode cL_law_ 2505 = .ok (.aload_n 3, 1) := by decide +kernel
theorem dL_law__2506 : decode cL_law_ 2506 = .ok (.iconst 0, 1) := by decide +kernel
theorem dL_law__2507 : decode cL_law_ 2507 = .ok (.laload, 1) := by decide +kernel
theorem dL_law__2508 : decode cL_law_ 2508 = .ok (.iload 6, 2) := by decide +kernel
theorem dL_law__2510 : decode cL_law_ 2510 = .ok (.i2l, 1) := by decide +kernel
theorem dL_law__2511 : decode cL_law_ 2511 = .ok (.lcmp, 1) := by decide +kernel
theorem dL_law__2512 : decode cL_law_ 2512 = .ok (.ifCond .eq 5, 3) := by decide +kernel
theorem dL_law__2515 : decode cL_law_ 2515 = .ok (.iconst 0, 1) := by decide +kernel
theorem dL_law__2516 : decode cL_law_ 2516 = .ok (.ireturn, 1) := by decide +kernel
theorem dL_law__2517 : decode cL_law_ 2517 = .ok (.goto 54, 3) := by decide +kernel
theorem dL_law__2520 : decode cL_law_ 2520 = .ok (.aload_n 1, 1) := by decide +kernel
theorem dL_law__2521 : decode cL_law_ 2521 = .ok (.invokevirtual 232, 3) := by decide +kernel
theorem dL_law__2524 : decode cL_law_ 2524 = .ok (.aload_n 2, 1) := by decide +kernel
theorem dL_law__2525 : decode cL_law_ 2525 = .ok (.invokevirtual 235, 3) := by decide +kernel
theorem dL_law__2528 : decode cL_law_ 2528 = .ok (.if_icmp .eq 43, 3) := by decide +kernel
theorem dL_law__2531 : decode cL_law_ 2531 = .ok (.iconst 0, 1) := by decide +kernel
theorem dL_law__2532 : decode cL_law_ 2532 = .ok (.ireturn, 1) := by decide +kernel
theorem dL_law__2533 : decode cL_law_ 2533 = .ok (.aload_n 1, 1) := by decide +kernel
theorem dL_law__2534 : decode cL_law_ 2534 = .ok (.invokevirtual 236, 3) := by decide +kernel
theorem dL_law__2537 : decode cL_law_ 2537 = .ok (.aload_n 2, 1) := by decide +kernel
theorem dL_law__2538 : decode cL_law_ 2538 = .ok (.invokevirtual 239, 3) := by decide +kernel
theorem dL_law__2541 : decode cL_law_ 2541 = .ok (.if_icmp .eq 30, 3) := by decide +kernel
theorem dL_law__2544 : decode cL_law_ 2544 = .ok (.iconst 0, 1) := by decide +kernel
theorem dL_law__2545 : decode cL_law_ 2545 = .ok (.ireturn, 1) := by decide +kernel
theorem dL_law__2546 : decode cL_law_ 2546 = .ok (.aload_n 1, 1) := by decide +kernel
theorem dL_law__2547 : decode cL_law_ 2547 = .ok (.aload_n 0, 1) := by decide +kernel
theorem dL_law__2548 : decode cL_law_ 2548 = .ok (.iload 4, 2) := by decide +kernel
theorem dL_law__2550 : decode cL_law_ 2550 = .ok (.iconst 1, 1) := by decide +kernel
