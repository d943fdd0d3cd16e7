theorem dL_law_2437 : decode cL_law 2437 = .ok (.iaload, 1) := by decide +kernel
theorem dL_law_2438 : decode cL_law 2438 = .ok (.invokevirtual 284, 3) := by decide +kernel
theorem dL_law_2441 : decode cL_law 2441 = .ok (.istore 6, 2) := by decide +kernel
theorem dL_law_2443 : decode cL_law 2443 = .ok (.aload_n 2, 1) := by decide +kernel
theorem dL_law_2444 : decode cL_law 2444 = .ok (.invokevirtual 187, 3) := by decide +kernel
theorem dL_law_2447 : decode cL_law 2447 = .ok (.iload 5, 2) := by decide +kernel
theorem dL_law_2449 : decode cL_law 2449 = .ok (.if_icmp .eq 5, 3) := by decide +kernel
theorem dL_law_2452 : decode cL_law 2452 = .ok (.iconst 0, 1) := by decide +kernel
theorem dL_law_2453 : decode cL_law 2453 = .ok (.ireturn, 1) := by decide +kernel
theorem dL_law_2454 : decode cL_law 2454 = .ok (.iload 5, 2) := by decide +kernel
theorem dL_law_2456 : decode cL_law 2456 = .ok (.ifCond .ne 15, 3) := by decide +kernel
theorem dL_law_2459 : decode cL_law 2459 = .ok (.aload_n 3, 1) := by decide +kernel
theorem dL_law_2460 : decode cL_law 2460 = .ok (.iconst 0, 1) := by decide +kernel
theorem dL_law_2461 : decode cL_law 2461 = .ok (.laload, 1) := by decide +kernel
theorem dL_law_2462 : decode cL_law 2462 = .ok (.iload 6, 2) := by decide +kernel
theorem dL_law_2464 : decode cL_law 2464 = .ok (.i2l, 1) := by decide +kernel
theorem dL_law_2465 : decode cL_law 2465 = .ok (.lcmp, 1) := by decide +kernel
theorem dL_law_2466 : decode cL_law 2466 = .ok (.ifCond .eq 5, 3) := by decide +kernel
theorem dL_law_2469 : decode cL_law 2469 = .ok (.iconst 0, 1) := by decide +kernel
theorem dL_law_2470 : decode cL_law 2470 = .ok (.ireturn, 1) := by decide +kernel
theorem dL_law_2471 : decode cL_law 2471 = .ok (.goto 1291, 3) := by decide +kernel
theorem dL_law_2474 : decode cL_law 2474 = .ok (.aload_n 1, 1) := by decide +kernel
theorem dL_law_2475 : decode cL_law 2475 = .ok (.aload_n 0, 1) := by decide +kernel
theorem dL_law_2476 : decode cL_law 2476 = .ok (.iload 4, 2) := by decide +kernel
theorem dL_law_2478 : decode cL_law 2478 = .ok (.iconst 1, 1) := by decide +kernel
theorem dL_law_2479 : decode cL_law 2479 = .ok (.iadd, 1) := by decide +kernel
theorem dL_law_2480 : decode cL_law 2480 = .ok (.iaload, 1) := by decide +kernel
theorem dL_law_2481 : decode cL_law 2481 = .ok (.aload_n 3, 1) := by decide +kernel
theorem dL_law_2482 : decode cL_law 2482 = .ok (.invokestatic 285, 3) := by decide +kernel
theorem dL_law_2485 : decode cL_law 2485 = .ok (.istore 5, 2) := by decide +kernel
theorem dL_law_2487 : decode cL_law 2487 = .ok (.aload_n 2, 1) := by decide +kernel
theorem dL_law_2488 : decode cL_law 2488 = .ok (.aload_n 0, 1) := by decide +kernel
theorem dL_law_2489 : decode cL_law 2489 = .ok (.iload 4, 2) := by decide +kernel
theorem dL_law_2491 : decode cL_law 2491 = .ok (.iconst 1, 1) := by decide +kernel
theorem dL_law_2492 : decode cL_law 2492 = .ok (.iadd, 1) := by decide +kernel
theorem dL_law_2493 : decode cL_law 2493 = .ok (.iaload, 1) := by decide +kernel
theorem dL_law_2494 : decode cL_law 2494 = .ok (.invokevirtual 287, 3) := by decide +kernel
theorem dL_law_2497 : decode cL_law 2497 = .ok (.istore 6, 2) := by decide +kernel
theorem dL_law_2499 : decode cL_law 2499 = .ok (.aload_n 2, 1) := by decide +kernel
theorem dL_law_2500 : decode cL_law 2500 = .ok (.invokevirtual 187, 3) := by decide +kernel
theorem dL_law_2503 : decode cL_law 2503 = .ok (.iload 5, 2) := by decide +kernel
theorem dL_law_2505 : decode cL_law 2505 = .ok (.if_icmp .eq 5, 3) := by decide +kernel
theorem dL_law_2508 : decode cL_law 2508 = .ok (.iconst 0, 1) := by decide +kernel
theorem dL_law_2509 : decode cL_law 2509 = .ok (.ireturn, 1) := by decide +kernel
theorem dL_law_2510 : decode cL_law 2510 = .ok (.iload 5, 2) := by decide +kernel
theorem dL_law_2512 : decode cL_law 2512 = .ok (.ifCond .ne 15, 3) := by decide +kernel
theorem dL_law_2515 : decode cL_law 2515 = .ok (.aload_n 3, 1) := by decide +kernel
theorem dL_law_2516 : decode cL_law 2516 = .ok (.iconst 0, 1) := by decide +kernel
theorem dL_law_2517 : decode cL_law 2517 = .ok (.laload, 1) := by decide +kernel
theorem dL_law_2518 : decode cL_law 2518 = .ok (.iload 6, 2) := by decide +kernel
theorem dL_law_2520 : decode cL_law 2520 = .ok (.i2l, 1) := by decide +kernel
theorem dL_law_2521 : decode cL_law 2521 = .ok (.lcmp, 1) := by decide +kernel
theorem dL_law_2522 : decode cL_law 2522 = .ok (.ifCond .eq 5, 3) := by decide +kernel
theorem dL_law_2525 : decode cL_law 2525 = .ok (.iconst 0, 1) := by decide +kernel
theorem dL_law_2526 : decode cL_law 2526 = .ok (.ireturn, 1) := by decide +kernel
theorem dL_law_2527 : decode cL_law 2527 = .ok (.goto 1235, 3) := by decide +kernel
theorem dL_law_2530 : decode cL_law 2530 = .ok (.aload_n 1, 1) := by decide +kernel
theorem dL_law_2531 : decode cL_law 2531 = .ok (.aload_n 0, 1) := by decide +kernel
theorem dL_law_2532 : decode cL_law 2532 = .ok (.iload 4, 2) := by decide +kernel
theorem dL_law_2534 : decode cL_law 2534 = .ok (.iconst 1, 1) := by decide +kernel
theorem dL_law_2535 : decode cL_law 2535 = .ok (.iadd, 1) := by decide +kernel
theorem dL_law_2536 : decode cL_law 2536 = .ok (.iaload, 1) := by decide +kernel
theorem dL_law_2537 : decode cL_law 2537 = .ok (.aload_n 0, 1) := by decide +kernel
theorem dL_law_2538 : decode cL_law 2538 = .ok (.iload 4, 2) := by decide +kernel
theorem dL_law_2540 : decode cL_law 2540 = .ok (.iconst 2, 1) := by decide +kernel
theorem dL_law_2541 : decode cL_law 2541 = .ok (.iadd, 1) := by decide +kernel
theorem dL_law_2542 : decode cL_law 2542 = .ok (.iaload, 1) := by decide +kernel
theorem dL_law_2543 : decode cL_law 2543 = .ok (.aload_n 3, 1) := by decide +kernel
theorem dL_law_2544 : decode cL_law 2544 = .ok (.invokestatic 288, 3) := by decide +kernel
theorem dL_law_2547 : decode cL_law 2547 = .ok (.istore 5, 2) := by decide +kernel
theorem dL_law_2549 : decode cL_law 2549 = .ok (.aload_n 2, 1) := by decide +kernel
theorem dL_law_2550 : decode cL_law 2550 = .ok (.aload_n 0, 1) := by decide +kernel
theorem dL_law_2551 : decode cL_law 2551 = .ok (.iload 4, 2) := by decide +kernel
theorem dL_law_2553 : decode cL_law 2553 = .ok (.iconst 1, 1) := by decide +kernel
theorem dL_law_2554 : decode cL_law 2554 = .ok (.iadd, 1) := by decide +kernel
theorem dL_law_2555 : decode cL_law 2555 = .ok (.iaload, 1) := by decide +kernel
theorem dL_law_2556 : decode cL_law 2556 = .ok (.aload_n 0, 1) := by decide +kernel
theorem dL_law_2557 : decode cL_law 2557 = .ok (.iload 4, 2) := by decide +kernel
theorem dL_law_2559 : decode cL_law 2559 = .ok (.iconst 2, 1) := by decide +kernel
theorem dL_law_2560 : decode cL_law 2560 = .ok (.iadd, 1) := by decide +kernel
theorem dL_law_2561 : decode cL_law 2561 = .ok (.iaload, 1) := by decide +kernel
theorem dL_law_2562 : decode cL_law 2562 = .ok (.invokevirtual 290, 3) := by decide +kernel
theorem dL_law_2565 : decode cL_law 2565 = .ok (.istore 6, 2) := by decide +kernel
theorem dL_law_2567 : decode cL_law 2567 = .ok (.aload_n 2, 1) := by decide +kernel
theorem dL_law_2568 : decode cL_law 2568 = .ok (.invokevirtual 187, 3) := by decide +kernel
theorem dL_law_2571 : decode cL_law 2571 = .ok (.iload 5, 2) := by decide +kernel
theorem dL_law_2573 : decode cL_law 2573 = .ok (.if_icmp .eq 5, 3) := by decide +kernel
theorem dL_law_2576 : decode cL_law 2576 = .ok (.iconst 0, 1) := by decide +kernel
theorem dL_law_2577 : decode cL_law 2577 = .ok (.ireturn, 1) := by decide +kernel
theorem dL_law_2578 : decode cL_law 2578 = .ok (.iload 5, 2) := by decide +kernel
theorem dL_law_2580 : decode cL_law 2580 = .ok (.ifCond .ne 22, 3) := by decide +kernel
theorem dL_law_2583 : decode cL_law 2583 = .ok (.aload_n 3, 1) := by decide +kernel
theorem dL_law_2584 : decode cL_law 2584 = .ok (.iconst 0, 1) := by decide +kernel
theorem dL_law_2585 : decode cL_law 2585 = .ok (.laload, 1) := by decide +kernel
theorem dL_law_2586 : decode cL_law 2586 = .ok (.iload 6, 2) := by decide +kernel
theorem dL_law_2588 : decode cL_law 2588 = .ok (.ifCond .eq 7, 3) := by decide +kernel
theorem dL_law_2591 : decode cL_law 2591 = .ok (.lconst 1, 1) := by decide +kernel
theorem dL_law_2592 : decode cL_law 2592 = .ok (.goto 4, 3) := by decide +kernel
theorem dL_law_2595 : decode cL_law 2595 = .ok (.lconst 0, 1) := by decide +kernel
theorem dL_law_2596 : decode cL_law 2596 = .ok (.lcmp, 1) := by decide +kernel
theorem dL_law_2597 : decode cL_law 2597 = .ok (.ifCond .eq 5, 3) := by decide +kernel
theorem dL_law_2600 : decode cL_law 2600 = .ok (.iconst 0, 1) := by decide +kernel
theorem dL_law_2601 : decode cL_law 2601 = .ok (.ireturn, 1) := by decide +kernel
theorem dL_law_2602 : decode cL_law 2602 = .ok (.goto 1160, 3) := by decide +kernel
theorem dL_law_2605 : decode cL_law 2605 = .ok (.aload_n 1, 1) := by decide +kernel
theorem dL_law_2606 : decode cL_law 2606 = .ok (.aload_n 0, 1) := by decide +kernel
theorem dL_law_2607 : decode cL_law 2607 = .ok (.iload 4, 2) := by decide +kernel
theorem dL_law_2609 : decode cL_law 2609 = .ok (.iconst 1, 1) := by decide +kernel
theorem dL_law_2610 : decode cL_law 2610 = .ok (.iadd, 1) := by decide +kernel
theorem dL_law_2611 : decode cL_law 2611 = .ok (.iaload, 1) := by decide +kernel
theorem dL_law_2612 : decode cL_law 2612 = .ok (.aload_n 3, 1) := by decide +kernel
theorem dL_law_2613 : decode cL_law 2613 = .ok (.invokestatic 291, 3) := by decide +kernel
theorem dL_law_2616 : decode cL_law 2616 = .ok (.istore 5, 2) := by decide +kernel
theorem dL_law_2618 : decode cL_law 2618 = .ok (.aload_n 2, 1) := by decide +kernel
theorem dL_law_2619 : decode cL_law 2619 = .ok (.aload_n 0, 1) := by decide +kernel
theorem dL_law_2620 : decode cL_law 2620 = .ok (.iload 4, 2) := by decide +kernel
theorem dL_law_2622 : decode cL_law 2622 = .ok (.iconst 1, 1) := by decide +kernel
theorem dL_law_2623 : decode cL_law 2623 = .ok (.iadd, 1) := by decide +kernel
theorem dL_law_2624 : decode cL_law 2624 = .ok (.iaload, 1) := by decide +kernel
theorem dL_law_2625 : decode cL_law 2625 = .ok (.invokevirtual 293, 3) := by decide +kernel
theorem dL_law_2628 : decode cL_law 2628 = .ok (.istore 6, 2) := by decide +kernel
theorem dL_law_2630 : decode cL_law 2630 = .ok (.aload_n 2, 1) := by decide +kernel
theorem dL_law_2631 : decode cL_law 2631 = .ok (.invokevirtual 187, 3) := by decide +kernel
theorem dL_law_2634 : decode cL_law 2634 = .ok (.iload 5, 2) := by decide +kernel
theorem dL_law_2636 : decode cL_law 2636 = .ok (.if_icmp .eq 5, 3) := by decide +kernel
theorem dL_law_2639 : decode cL_law 2639 = .ok (.iconst 0, 1) := by decide +kernel
theorem dL_law_2640 : decode cL_law 2640 = .ok (.ireturn, 1) := by decide +kernel
theorem dL_law_2641 : decode cL_law 2641 = .ok (.iload 5, 2) := by decide +kernel
theorem dL_law_2643 : decode cL_law 2643 = .ok (.ifCond .ne 22, 3) := by decide +kernel
theorem dL_law_2646 : decode cL_law 2646 = .ok (.aload_n 3, 1) := by decide +kernel
theorem dL_law_2647 : decode cL_law 2647 = .ok (.iconst 0, 1) := by decide +kernel
theorem dL_law_2648 : decode cL_law 2648 = .ok (.laload, 1) := by decide +kernel
theorem dL_law_2649 : decode cL_law 2649 = .ok (.iload 6, 2) := by decide +kernel
theorem dL_law_2651 : decode cL_law 2651 = .ok (.ifCond .eq 7, 3) := by decide +kernel
theorem dL_law_2654 : decode cL_law 2654 = .ok (.lconst 1, 1) := by decide +kernel
theorem dL_law_2655 : decode cL_law 2655 = .ok (.goto 4, 3) := by decide +kernel
theorem dL_law_2658 : decode cL_law 2658 = .ok (.lconst 0, 1) := by decide +kernel
theorem dL_law_2659 : decode cL_law 2659 = .ok (.lcmp, 1) := by decide +kernel
theorem dL_law_2660 : decode cL_law 2660 = .ok (.ifCond .eq 5, 3) := by decide +kernel
theorem dL_law_2663 : decode cL_law 2663 = .ok (.iconst 0, 1) := by decide +kernel
theorem dL_law_2664 : decode cL_law 2664 = .ok (.ireturn, 1) := by decide +kernel
theorem dL_law_2665 : decode cL_law 2665 = .ok (.goto 1097, 3) := by decide +kernel
theorem dL_law_2668 : decode cL_law 2668 = .ok (.aload_n 1, 1) := by decide +kernel
theorem dL_law_2669 : decode cL_law 2669 = .ok (.invokevirtual 294, 3) := by decide +kernel
theorem dL_law_2672 : decode cL_law 2672 = .ok (.aload_n 2, 1) := by decide +kernel
theorem dL_law_2673 : decode cL_law 2673 = .ok (.invokevirtual 297, 3) := by decide +kernel
theorem dL_law_2676 : decode cL_law 2676 = .ok (.if_icmp .eq 1086, 3) := by decide +kernel
theorem dL_law_2679 : decode cL_law 2679 = .ok (.iconst 0, 1) := by decide +kernel
theorem dL_law_2680 : decode cL_law 2680 = .ok (.ireturn, 1) := by decide +kernel
theorem dL_law_2681 : decode cL_law 2681 = .ok (.aload_n 1, 1) := by decide +kernel
theorem dL_law_2682 : decode cL_law 2682 = .ok (.aload_n 0, 1) := by decide +kernel
theorem dL_law_2683 : decode cL_law 2683 = .ok (.iload 4, 2) := by decide +kernel
theorem dL_law_2685 : decode cL_law 2685 = .ok (.iconst 1, 1) := by decide +kernel
theorem dL_law_2686 : decode cL_law 2686 = .ok (.iadd, 1) := by decide +kernel
theorem dL_law_2687 : decode cL_law 2687 = .ok (.iaload, 1) := by decide +kernel
theorem dL_law_2688 : decode cL_law 2688 = .ok (.aload_n 0, 1) := by decide +kernel
theorem dL_law_2689 : decode cL_law 2689 = .ok (.iload 4, 2) := by decide +kernel
theorem dL_law_2691 : decode cL_law 2691 = .ok (.iconst 2, 1) := by decide +kernel
theorem dL_law_2692 : decode cL_law 2692 = .ok (.iadd, 1) := by decide +kernel
theorem dL_law_2693 : decode cL_law 2693 = .ok (.iaload, 1) := by decide +kernel
theorem dL_law_2694 : decode cL_law 2694 = .ok (.aload_n 3, 1) := by decide +kernel
theorem dL_law_2695 : decode cL_law 2695 = .ok (.invokestatic 298, 3) := by decide +kernel
theorem dL_law_2698 : decode cL_law 2698 = .ok (.istore 5, 2) := by decide +kernel
theorem dL_law_2700 : decode cL_law 2700 = .ok (.aload_n 2, 1) := by decide +kernel
theorem dL_law_2701 : decode cL_law 2701 = .ok (.aload_n 0, 1) := by decide +kernel
theorem dL_law_2702 : decode cL_law 2702 = .ok (.iload 4, 2) := by decide +kernel
theorem dL_law_2704 : decode cL_law 2704 = .ok (.iconst 1, 1) := by decide +kernel
theorem dL_law_2705 : decode cL_law 2705 = .ok (.iadd, 1) := by decide +kernel
theorem dL_law_2706 : decode cL_law 2706 = .ok (.iaload, 1) := by decide +kernel
theorem dL_law_2707 : decode cL_law 2707 = .ok (.aload_n 0, 1) := by decide +kernel
theorem dL_law_2708 : decode cL_law 2708 = .ok (.iload 4, 2) := by decide +kernel
theorem dL_law_2710 : decode cL_law 2710 = .ok (.iconst 2, 1) := by decide +kernel
theorem dL_law_2711 : decode cL_law 2711 = .ok (.iadd, 1) := by decide +kernel
theorem dL_law_2712 : decode cL_law 2712 = .ok (.iaload, 1) := by decide +kernel
theorem dL_law_2713 : decode cL_law 2713 = .ok (.invokevirtual 300, 3) := by decide +kernel
theorem dL_law_2716 : decode cL_law 2716 = .ok (.istore 6, 2) := by decide +kernel
theorem dL_law_2718 : decode cL_law 2718 = .ok (.aload_n 2, 1) := by decide +kernel
theorem dL_law_2719 : decode cL_law 2719 = .ok (.invokevirtual 187, 3) := by decide +kernel
theorem dL_law_2722 : decode cL_law 2722 = .ok (.iload 5, 2) := by decide +kernel
theorem dL_law_2724 : decode cL_law 2724 = .ok (.if_icmp .eq 5, 3) := by decide +kernel
theorem dL_law_2727 : decode cL_law 2727 = .ok (.iconst 0, 1) := by decide +kernel
theorem dL_law_2728 : decode cL_law 2728 = .ok (.ireturn, 1) := by decide +kernel
theorem dL_law_2729 : decode cL_law 2729 = .ok (.iload 5, 2) := by decide +kernel
theorem dL_law_2731 : decode cL_law 2731 = .ok (.ifCond .ne 15, 3) := by decide +kernel
theorem dL_law_2734 : decode cL_law 2734 = .ok (.aload_n 3, 1) := by decide +kernel
theorem dL_law_2735 : decode cL_law 2735 = .ok (.iconst 0, 1) := by decide +kernel
theorem dL_law_2736 : decode cL_law 2736 = .ok (.laload, 1) := by decide +kernel
theorem dL_law_2737 : decode cL_law 2737 = .ok (.iload 6, 2) := by decide +kernel
theorem dL_law_2739 : decode cL_law 2739 = .ok (.i2l, 1) := by decide +kernel
theorem dL_law_2740 : decode cL_law 2740 = .ok (.lcmp, 1) := by decide +kernel
theorem dL_law_2741 : decode cL_law 2741 = .ok (.ifCond .eq 5, 3) := by decide +kernel
theorem dL_law_2744 : decode cL_law 2744 = .ok (.iconst 0, 1) := by decide +kernel
theorem dL_law_2745 : decode cL_law 2745 = .ok (.ireturn, 1) := by decide +kernel
theorem dL_law_2746 : decode cL_law 2746 = .ok (.goto 1016, 3) := by decide +kernel
theorem dL_law_2749 : decode cL_law 2749 = .ok (.aload_n 1, 1) := by decide +kernel
theorem dL_law_2750 : decode cL_law 2750 = .ok (.aload_n 0, 1) := by decide +kernel
theorem dL_law_2751 : decode cL_law 2751 = .ok (.iload 4, 2) := by decide +kernel
theorem dL_law_2753 : decode cL_law 2753 = .ok (.iconst 1, 1) := by decide +kernel
theorem dL_law_2754 : decode cL_law 2754 = .ok (.iadd, 1) := by decide +kernel
theorem dL_law_2755 : decode cL_law 2755 = .ok (.iaload, 1) := by decide +kernel
theorem dL_law_2756 : decode cL_law 2756 = .ok (.invokevirtual 301, 3) := by decide +kernel
theorem dL_law_2759 : decode cL_law 2759 = .ok (.aload_n 2, 1) := by decide +kernel
theorem dL_law_2760 : decode cL_law 2760 = .ok (.aload_n 0, 1) := by decide +kernel
theorem dL_law_2761 : decode cL_law 2761 = .ok (.iload 4, 2) := by decide +kernel
theorem dL_law_2763 : decode cL_law 2763 = .ok (.iconst 1, 1) := by decide +kernel
theorem dL_law_2764 : decode cL_law 2764 = .ok (.iadd, 1) := by decide +kernel
theorem dL_law_2765 : decode cL_law 2765 = .ok (.iaload, 1) := by decide +kernel
theorem dL_law_2766 : decode cL_law 2766 = .ok (.invokevirtual 304, 3) := by decide +kernel
theorem dL_law_2769 : decode cL_law 2769 = .ok (.if_icmp .eq 993, 3) := by decide +kernel
theorem dL_law_2772 : decode cL_law 2772 = .ok (.iconst 0, 1) := by decide +kernel
theorem dL_law_2773 : decode cL_law 2773 = .ok (.ireturn, 1) := by decide +kernel
theorem dL_law_2774 : decode cL_law 2774 = .ok (.aload_n 1, 1) := by decide +kernel
theorem dL_law_2775 : decode cL_law 2775 = .ok (.aload_n 0, 1) := by decide +kernel
theorem dL_law_2776 : decode cL_law 2776 = .ok (.iload 4, 2) := by decide +kernel
theorem dL_law_2778 : decode cL_law 2778 = .ok (.iconst 1, 1) := by decide +kernel
theorem dL_law_2779 : decode cL_law 2779 = .ok (.iadd, 1) := by decide +kernel
theorem dL_law_2780 : decode cL_law 2780 = .ok (.iaload, 1) := by decide +kernel
theorem dL_law_2781 : decode cL_law 2781 = .ok (.aload_n 3, 1) := by decide +kernel
theorem dL_law_2782 : decode cL_law 2782 = .ok (.invokestatic 305, 3) := by decide +kernel
theorem dL_law_2785 : decode cL_law 2785 = .ok (.istore 5, 2) := by decide +kernel
theorem dL_law_2787 : decode cL_law 2787 = .ok (.aload_n 2, 1) := by decide +kernel
theorem dL_law_2788 : decode cL_law 2788 = .ok (.aload_n 0, 1) := by decide +kernel
theorem dL_law_2789 : decode cL_law 2789 = .ok (.iload 4, 2) := by decide +kernel
theorem dL_law_2791 : decode cL_law 2791 = .ok (.iconst 1, 1) := by decide +kernel
theorem dL_law_2792 : decode cL_law 2792 = .ok (.iadd, 1) := by decide +kernel
theorem dL_law_2793 : decode cL_law 2793 = .ok (.iaload, 1) := by decide +kernel
theorem dL_law_2794 : decode cL_law 2794 = .ok (.invokevirtual 307, 3) := by decide +kernel
theorem dL_law_2797 : decode cL_law 2797 = .ok (.istore 6, 2) := by decide +kernel
theorem dL_law_2799 : decode cL_law 2799 = .ok (.aload_n 2, 1) := by decide +kernel
theorem dL_law_2800 : decode cL_law 2800 = .ok (.invokevirtual 187, 3) := by decide +kernel
theorem dL_law_2803 : decode cL_law 2803 = .ok (.iload 5, 2) := by decide +kernel
theorem dL_law_2805 : decode cL_law 2805 = .ok (.if_icmp .eq 5, 3) := by decide +kernel
theorem dL_law_2808 : decode cL_law 2808 = .ok (.iconst 0, 1) := by decide +kernel
theorem dL_law_2809 : decode cL_law 2809 = .ok (.ireturn, 1) := by decide +kernel
theorem dL_law_2810 : decode cL_law 2810 = .ok (.iload 5, 2) := by decide +kernel
theorem dL_law_2812 : decode cL_law 2812 = .ok (.ifCond .ne 15, 3) := by decide +kernel
theorem dL_law_2815 : decode cL_law 2815 = .ok (.aload_n 3, 1) := by decide +kernel
theorem dL_law_2816 : decode cL_law 2816 = .ok (.iconst 0, 1) := by decide +kernel
theorem dL_law_2817 : decode cL_law 2817 = .ok (.laload, 1) := by decide +kernel
theorem dL_law_2818 : decode cL_law 2818 = .ok (.iload 6, 2) := by decide +kernel
theorem dL_law_2820 : decode cL_law 2820 = .ok (.i2l, 1) := by decide +kernel
theorem dL_law_2821 : decode cL_law 2821 = .ok (.lcmp, 1) := by decide +kernel
theorem dL_law_2822 : decode cL_law 2822 = .ok (.ifCond .eq 5, 3) := by decide +kernel
theorem dL_law_2825 : decode cL_law 2825 = .ok (.iconst 0, 1) := by decide +kernel
theorem dL_law_2826 : decode cL_law 2826 = .ok (.ireturn, 1) := by decide +kernel
theorem dL_law_2827 : decode cL_law 2827 = .ok (.goto 935, 3) := by decide +kernel
theorem dL_law_2830 : decode cL_law 2830 = .ok (.aload_n 1, 1) := by decide +kernel
theorem dL_law_2831 : decode cL_law 2831 = .ok (.aload_n 0, 1) := by decide +kernel
theorem dL_law_2832 : decode cL_law 2832 = .ok (.iload 4, 2) := by decide +kernel
theorem dL_law_2834 : decode cL_law 2834 = .ok (.iconst 1, 1) := by decide +kernel
theorem dL_law_2835 : decode cL_law 2835 = .ok (.iadd, 1) := by decide +kernel
theorem dL_law_2836 : decode cL_law 2836 = .ok (.iaload, 1) := by decide +kernel
theorem dL_law_2837 : decode cL_law 2837 = .ok (.aload_n 0, 1) := by decide +kernel
theorem dL_law_2838 : decode cL_law 2838 = .ok (.iload 4, 2) := by decide +kernel
theorem dL_law_2840 : decode cL_law 2840 = .ok (.iconst 2, 1) := by decide +kernel
theorem dL_law_2841 : decode cL_law 2841 = .ok (.iadd, 1) := by decide +kernel
theorem dL_law_2842 : decode cL_law 2842 = .ok (.iaload, 1) := by decide +kernel
theorem dL_law_2843 : decode cL_law 2843 = .ok (.aload_n 0, 1) := by decide +kernel
theorem dL_law_2844 : decode cL_law 2844 = .ok (.iload 4, 2) := by decide +kernel
theorem dL_law_2846 : decode cL_law 2846 = .ok (.iconst 3, 1) := by decide +kernel
theorem dL_law_2847 : decode cL_law 2847 = .ok (.iadd, 1) := by decide +kernel
theorem dL_law_2848 : decode cL_law 2848 = .ok (.iaload, 1) := by decide +kernel
theorem dL_law_2849 : decode cL_law 2849 = .ok (.aload_n 0, 1) := by decide +kernel
theorem dL_law_2850 : decode cL_law 2850 = .ok (.iload 4, 2) := by decide +kernel
theorem dL_law_2852 : decode cL_law 2852 = .ok (.iconst 4, 1) := by decide +kernel
theorem dL_law_2853 : decode cL_law 2853 = .ok (.iadd, 1) := by decide +kernel
theorem dL_law_2854 : decode cL_law 2854 = .ok (.iaload, 1) := by decide +kernel
theorem dL_law_2855 : decode cL_law 2855 = .ok (.aload_n 3, 1) := by decide +kernel
theorem dL_law_2856 : decode cL_law 2856 = .ok (.invokestatic 308, 3) := by decide +kernel
theorem dL_law_2859 : decode cL_law 2859 = .ok (.istore 5, 2) := by decide +kernel
theorem dL_law_2861 : decode cL_law 2861 = .ok (.aload_n 2, 1) := by decide +kernel
theorem dL_law_2862 : decode cL_law 2862 = .ok (.aload_n 0, 1) := by decide +kernel
theorem dL_law_2863 : decode cL_law 2863 = .ok (.iload 4, 2) := by decide +kernel
theorem dL_law_2865 : decode cL_law 2865 = .ok (.iconst 1, 1) := by decide +kernel
theorem dL_law_2866 : decode cL_law 2866 = .ok (.iadd, 1) := by decide +kernel
theorem dL_law_2867 : decode cL_law 2867 = .ok (.iaload, 1) := by decide +kernel
theorem dL_law_2868 : decode cL_law 2868 = .ok (.aload_n 0, 1) := by decide +kernel
theorem dL_law_2869 : decode cL_law 2869 = .ok (.iload 4, 2) := by decide +kernel
theorem dL_law_2871 : decode cL_law 2871 = .ok (.iconst 2, 1) := by decide +kernel
theorem dL_law_2872 : decode cL_law 2872 = .ok (.iadd, 1) := by decide +kernel
theorem dL_law_2873 : decode cL_law 2873 = .ok (.iaload, 1) := by decide +kernel
theorem dL_law_2874 : decode cL_law 2874 = .ok (.aload_n 0, 1) := by decide +kernel
theorem dL_law_2875 : decode cL_law 2875 = .ok (.iload 4, 2) := by decide +kernel
theorem dL_law_2877 : decode cL_law 2877 = .ok (.iconst 3, 1) := by decide +kernel
theorem dL_law_2878 : decode cL_law 2878 = .ok (.iadd, 1) := by decide +kernel
theorem dL_law_2879 : decode cL_law 2879 = .ok (.iaload, 1) := by decide +kernel
theorem dL_law_2880 : decode cL_law 2880 = .ok (.aload_n 0, 1) := by decide +kernel
theorem dL_law_2881 : decode cL_law 2881 = .ok (.iload 4, 2) := by decide +kernel
theorem dL_law_2883 : decode cL_law 2883 = .ok (.iconst 4, 1) := by decide +kernel
theorem dL_law_2884 : decode cL_law 2884 = .ok (.iadd, 1) := by decide +kernel
theorem dL_law_2885 : decode cL_law 2885 = .ok (.iaload, 1) := by decide +kernel
