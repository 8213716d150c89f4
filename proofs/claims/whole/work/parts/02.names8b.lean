theorem dL_law_2423 : decode cL_law 2423 = .ok (.invokevirtual 173, 3) := by decide +kernel
theorem dL_law_2426 : decode cL_law 2426 = .ok (.iload 6, 2) := by decide +kernel
theorem dL_law_2428 : decode cL_law 2428 = .ok (.if_icmp .eq 5, 3) := by decide +kernel
theorem dL_law_2431 : decode cL_law 2431 = .ok (.iconst 0, 1) := by decide +kernel
theorem dL_law_2432 : decode cL_law 2432 = .ok (.ireturn, 1) := by decide +kernel
theorem dL_law_2433 : decode cL_law 2433 = .ok (.iload 6, 2) := by decide +kernel
theorem dL_law_2435 : decode cL_law 2435 = .ok (.ifCond .ne 15, 3) := by decide +kernel
theorem dL_law_2438 : decode cL_law 2438 = .ok (.aload_n 3, 1) := by decide +kernel
theorem dL_law_2439 : decode cL_law 2439 = .ok (.iconst 0, 1) := by decide +kernel
theorem dL_law_2440 : decode cL_law 2440 = .ok (.laload, 1) := by decide +kernel
theorem dL_law_2441 : decode cL_law 2441 = .ok (.iload 7, 2) := by decide +kernel
theorem dL_law_2443 : decode cL_law 2443 = .ok (.i2l, 1) := by decide +kernel
theorem dL_law_2444 : decode cL_law 2444 = .ok (.lcmp, 1) := by decide +kernel
theorem dL_law_2445 : decode cL_law 2445 = .ok (.ifCond .eq 5, 3) := by decide +kernel
theorem dL_law_2448 : decode cL_law 2448 = .ok (.iconst 0, 1) := by decide +kernel
theorem dL_law_2449 : decode cL_law 2449 = .ok (.ireturn, 1) := by decide +kernel
theorem dL_law_2450 : decode cL_law 2450 = .ok (.goto 539, 3) := by decide +kernel
theorem dL_law_2453 : decode cL_law 2453 = .ok (.aload_n 1, 1) := by decide +kernel
theorem dL_law_2454 : decode cL_law 2454 = .ok (.invokevirtual 295, 3) := by decide +kernel
theorem dL_law_2457 : decode cL_law 2457 = .ok (.dstore 6, 2) := by decide +kernel
theorem dL_law_2459 : decode cL_law 2459 = .ok (.aload_n 2, 1) := by decide +kernel
theorem dL_law_2460 : decode cL_law 2460 = .ok (.invokevirtual 299, 3) := by decide +kernel
theorem dL_law_2463 : decode cL_law 2463 = .ok (.dstore 8, 2) := by decide +kernel
theorem dL_law_2465 : decode cL_law 2465 = .ok (.dload 6, 2) := by decide +kernel
theorem dL_law_2467 : decode cL_law 2467 = .ok (.dload 8, 2) := by decide +kernel
theorem dL_law_2469 : decode cL_law 2469 = .ok (.dcmp .l, 1) := by decide +kernel
theorem dL_law_2470 : decode cL_law 2470 = .ok (.ifCond .eq 21, 3) := by decide +kernel
theorem dL_law_2473 : decode cL_law 2473 = .ok (.dload 6, 2) := by decide +kernel
theorem dL_law_2475 : decode cL_law 2475 = .ok (.dload 6, 2) := by decide +kernel
theorem dL_law_2477 : decode cL_law 2477 = .ok (.dcmp .l, 1) := by decide +kernel
theorem dL_law_2478 : decode cL_law 2478 = .ok (.ifCond .eq 11, 3) := by decide +kernel
theorem dL_law_2481 : decode cL_law 2481 = .ok (.dload 8, 2) := by decide +kernel
theorem dL_law_2483 : decode cL_law 2483 = .ok (.dload 8, 2) := by decide +kernel
theorem dL_law_2485 : decode cL_law 2485 = .ok (.dcmp .l, 1) := by decide +kernel
theorem dL_law_2486 : decode cL_law 2486 = .ok (.ifCond .ne 5, 3) := by decide +kernel
theorem dL_law_2489 : decode cL_law 2489 = .ok (.iconst 0, 1) := by decide +kernel
theorem dL_law_2490 : decode cL_law 2490 = .ok (.ireturn, 1) := by decide +kernel
theorem dL_law_2491 : decode cL_law 2491 = .ok (.goto 498, 3) := by decide +kernel
theorem dL_law_2494 : decode cL_law 2494 = .ok (.aload_n 1, 1) := by decide +kernel
theorem dL_law_2495 : decode cL_law 2495 = .ok (.aload 4, 2) := by decide +kernel
theorem dL_law_2497 : decode cL_law 2497 = .ok (.invokestatic 300, 3) := by decide +kernel
theorem dL_law_2500 : decode cL_law 2500 = .ok (.istore 6, 2) := by decide +kernel
theorem dL_law_2502 : decode cL_law 2502 = .ok (.aload_n 2, 1) := by decide +kernel
theorem dL_law_2503 : decode cL_law 2503 = .ok (.invokevirtual 303, 3) := by decide +kernel
theorem dL_law_2506 : decode cL_law 2506 = .ok (.fstore 7, 2) := by decide +kernel
theorem dL_law_2508 : decode cL_law 2508 = .ok (.aload_n 2, 1) := by decide +kernel
theorem dL_law_2509 : decode cL_law 2509 = .ok (.invokevirtual 173, 3) := by decide +kernel
theorem dL_law_2512 : decode cL_law 2512 = .ok (.iload 6, 2) := by decide +kernel
theorem dL_law_2514 : decode cL_law 2514 = .ok (.if_icmp .eq 5, 3) := by decide +kernel
theorem dL_law_2517 : decode cL_law 2517 = .ok (.iconst 0, 1) := by decide +kernel
theorem dL_law_2518 : decode cL_law 2518 = .ok (.ireturn, 1) := by decide +kernel
theorem dL_law_2519 : decode cL_law 2519 = .ok (.iload 6, 2) := by decide +kernel
theorem dL_law_2521 : decode cL_law 2521 = .ok (.ifCond .ne 36, 3) := by decide +kernel
theorem dL_law_2524 : decode cL_law 2524 = .ok (.aload 4, 2) := by decide +kernel
theorem dL_law_2526 : decode cL_law 2526 = .ok (.iconst 0, 1) := by decide +kernel
theorem dL_law_2527 : decode cL_law 2527 = .ok (.daload, 1) := by decide +kernel
theorem dL_law_2528 : decode cL_law 2528 = .ok (.fload 7, 2) := by decide +kernel
theorem dL_law_2530 : decode cL_law 2530 = .ok (.f2d, 1) := by decide +kernel
theorem dL_law_2531 : decode cL_law 2531 = .ok (.dcmp .l, 1) := by decide +kernel
theorem dL_law_2532 : decode cL_law 2532 = .ok (.ifCond .eq 25, 3) := by decide +kernel
theorem dL_law_2535 : decode cL_law 2535 = .ok (.aload 4, 2) := by decide +kernel
theorem dL_law_2537 : decode cL_law 2537 = .ok (.iconst 0, 1) := by decide +kernel
theorem dL_law_2538 : decode cL_law 2538 = .ok (.daload, 1) := by decide +kernel
theorem dL_law_2539 : decode cL_law 2539 = .ok (.aload 4, 2) := by decide +kernel
theorem dL_law_2541 : decode cL_law 2541 = .ok (.iconst 0, 1) := by decide +kernel
theorem dL_law_2542 : decode cL_law 2542 = .ok (.daload, 1) := by decide +kernel
theorem dL_law_2543 : decode cL_law 2543 = .ok (.dcmp .l, 1) := by decide +kernel
theorem dL_law_2544 : decode cL_law 2544 = .ok (.ifCond .eq 11, 3) := by decide +kernel
theorem dL_law_2547 : decode cL_law 2547 = .ok (.fload 7, 2) := by decide +kernel
theorem dL_law_2549 : decode cL_law 2549 = .ok (.fload 7, 2) := by decide +kernel
theorem dL_law_2551 : decode cL_law 2551 = .ok (.fcmp .l, 1) := by decide +kernel
theorem dL_law_2552 : decode cL_law 2552 = .ok (.ifCond .ne 5, 3) := by decide +kernel
theorem dL_law_2555 : decode cL_law 2555 = .ok (.iconst 0, 1) := by decide +kernel
theorem dL_law_2556 : decode cL_law 2556 = .ok (.ireturn, 1) := by decide +kernel
theorem dL_law_2557 : decode cL_law 2557 = .ok (.goto 432, 3) := by decide +kernel
theorem dL_law_2560 : decode cL_law 2560 = .ok (.aload_n 1, 1) := by decide +kernel
theorem dL_law_2561 : decode cL_law 2561 = .ok (.invokevirtual 304, 3) := by decide +kernel
theorem dL_law_2564 : decode cL_law 2564 = .ok (.aload_n 2, 1) := by decide +kernel
theorem dL_law_2565 : decode cL_law 2565 = .ok (.invokevirtual 308, 3) := by decide +kernel
theorem dL_law_2568 : decode cL_law 2568 = .ok (.if_icmp .eq 421, 3) := by decide +kernel
theorem dL_law_2571 : decode cL_law 2571 = .ok (.iconst 0, 1) := by decide +kernel
theorem dL_law_2572 : decode cL_law 2572 = .ok (.ireturn, 1) := by decide +kernel
theorem dL_law_2573 : decode cL_law 2573 = .ok (.aload_n 1, 1) := by decide +kernel
theorem dL_law_2574 : decode cL_law 2574 = .ok (.aload_n 0, 1) := by decide +kernel
theorem dL_law_2575 : decode cL_law 2575 = .ok (.iload 5, 2) := by decide +kernel
theorem dL_law_2577 : decode cL_law 2577 = .ok (.iconst 1, 1) := by decide +kernel
theorem dL_law_2578 : decode cL_law 2578 = .ok (.iadd, 1) := by decide +kernel
theorem dL_law_2579 : decode cL_law 2579 = .ok (.iaload, 1) := by decide +kernel
theorem dL_law_2580 : decode cL_law 2580 = .ok (.aload_n 3, 1) := by decide +kernel
theorem dL_law_2581 : decode cL_law 2581 = .ok (.invokestatic 309, 3) := by decide +kernel
theorem dL_law_2584 : decode cL_law 2584 = .ok (.istore 6, 2) := by decide +kernel
theorem dL_law_2586 : decode cL_law 2586 = .ok (.aload_n 2, 1) := by decide +kernel
theorem dL_law_2587 : decode cL_law 2587 = .ok (.aload_n 0, 1) := by decide +kernel
theorem dL_law_2588 : decode cL_law 2588 = .ok (.iload 5, 2) := by decide +kernel
theorem dL_law_2590 : decode cL_law 2590 = .ok (.iconst 1, 1) := by decide +kernel
theorem dL_law_2591 : decode cL_law 2591 = .ok (.iadd, 1) := by decide +kernel
theorem dL_law_2592 : decode cL_law 2592 = .ok (.iaload, 1) := by decide +kernel
theorem dL_law_2593 : decode cL_law 2593 = .ok (.invokevirtual 311, 3) := by decide +kernel
theorem dL_law_2596 : decode cL_law 2596 = .ok (.istore 7, 2) := by decide +kernel
theorem dL_law_2598 : decode cL_law 2598 = .ok (.aload_n 2, 1) := by decide +kernel
theorem dL_law_2599 : decode cL_law 2599 = .ok (.invokevirtual 173, 3) := by decide +kernel
theorem dL_law_2602 : decode cL_law 2602 = .ok (.iload 6, 2) := by decide +kernel
theorem dL_law_2604 : decode cL_law 2604 = .ok (.if_icmp .eq 5, 3) := by decide +kernel
theorem dL_law_2607 : decode cL_law 2607 = .ok (.iconst 0, 1) := by decide +kernel
theorem dL_law_2608 : decode cL_law 2608 = .ok (.ireturn, 1) := by decide +kernel
theorem dL_law_2609 : decode cL_law 2609 = .ok (.iload 6, 2) := by decide +kernel
theorem dL_law_2611 : decode cL_law 2611 = .ok (.ifCond .ne 15, 3) := by decide +kernel
theorem dL_law_2614 : decode cL_law 2614 = .ok (.aload_n 3, 1) := by decide +kernel
theorem dL_law_2615 : decode cL_law 2615 = .ok (.iconst 0, 1) := by decide +kernel
theorem dL_law_2616 : decode cL_law 2616 = .ok (.laload, 1) := by decide +kernel
theorem dL_law_2617 : decode cL_law 2617 = .ok (.iload 7, 2) := by decide +kernel
theorem dL_law_2619 : decode cL_law 2619 = .ok (.i2l, 1) := by decide +kernel
theorem dL_law_2620 : decode cL_law 2620 = .ok (.lcmp, 1) := by decide +kernel
theorem dL_law_2621 : decode cL_law 2621 = .ok (.ifCond .eq 5, 3) := by decide +kernel
theorem dL_law_2624 : decode cL_law 2624 = .ok (.iconst 0, 1) := by decide +kernel
theorem dL_law_2625 : decode cL_law 2625 = .ok (.ireturn, 1) := by decide +kernel
theorem dL_law_2626 : decode cL_law 2626 = .ok (.goto 363, 3) := by decide +kernel
theorem dL_law_2629 : decode cL_law 2629 = .ok (.aload_n 1, 1) := by decide +kernel
theorem dL_law_2630 : decode cL_law 2630 = .ok (.invokevirtual 312, 3) := by decide +kernel
theorem dL_law_2633 : decode cL_law 2633 = .ok (.aload_n 2, 1) := by decide +kernel
theorem dL_law_2634 : decode cL_law 2634 = .ok (.invokevirtual 315, 3) := by decide +kernel
theorem dL_law_2637 : decode cL_law 2637 = .ok (.if_icmp .eq 352, 3) := by decide +kernel
theorem dL_law_2640 : decode cL_law 2640 = .ok (.iconst 0, 1) := by decide +kernel
theorem dL_law_2641 : decode cL_law 2641 = .ok (.ireturn, 1) := by decide +kernel
theorem dL_law_2642 : decode cL_law 2642 = .ok (.aload_n 1, 1) := by decide +kernel
theorem dL_law_2643 : decode cL_law 2643 = .ok (.aload_n 0, 1) := by decide +kernel
theorem dL_law_2644 : decode cL_law 2644 = .ok (.iload 5, 2) := by decide +kernel
theorem dL_law_2646 : decode cL_law 2646 = .ok (.iconst 1, 1) := by decide +kernel
theorem dL_law_2647 : decode cL_law 2647 = .ok (.iadd, 1) := by decide +kernel
theorem dL_law_2648 : decode cL_law 2648 = .ok (.iaload, 1) := by decide +kernel
theorem dL_law_2649 : decode cL_law 2649 = .ok (.aload_n 3, 1) := by decide +kernel
theorem dL_law_2650 : decode cL_law 2650 = .ok (.invokestatic 316, 3) := by decide +kernel
theorem dL_law_2653 : decode cL_law 2653 = .ok (.istore 6, 2) := by decide +kernel
theorem dL_law_2655 : decode cL_law 2655 = .ok (.aload_n 2, 1) := by decide +kernel
theorem dL_law_2656 : decode cL_law 2656 = .ok (.aload_n 0, 1) := by decide +kernel
theorem dL_law_2657 : decode cL_law 2657 = .ok (.iload 5, 2) := by decide +kernel
theorem dL_law_2659 : decode cL_law 2659 = .ok (.iconst 1, 1) := by decide +kernel
theorem dL_law_2660 : decode cL_law 2660 = .ok (.iadd, 1) := by decide +kernel
theorem dL_law_2661 : decode cL_law 2661 = .ok (.iaload, 1) := by decide +kernel
theorem dL_law_2662 : decode cL_law 2662 = .ok (.invokevirtual 318, 3) := by decide +kernel
theorem dL_law_2665 : decode cL_law 2665 = .ok (.istore 7, 2) := by decide +kernel
theorem dL_law_2667 : decode cL_law 2667 = .ok (.aload_n 2, 1) := by decide +kernel
theorem dL_law_2668 : decode cL_law 2668 = .ok (.invokevirtual 173, 3) := by decide +kernel
theorem dL_law_2671 : decode cL_law 2671 = .ok (.iload 6, 2) := by decide +kernel
theorem dL_law_2673 : decode cL_law 2673 = .ok (.if_icmp .eq 5, 3) := by decide +kernel
theorem dL_law_2676 : decode cL_law 2676 = .ok (.iconst 0, 1) := by decide +kernel
theorem dL_law_2677 : decode cL_law 2677 = .ok (.ireturn, 1) := by decide +kernel
theorem dL_law_2678 : decode cL_law 2678 = .ok (.iload 6, 2) := by decide +kernel
theorem dL_law_2680 : decode cL_law 2680 = .ok (.ifCond .ne 15, 3) := by decide +kernel
theorem dL_law_2683 : decode cL_law 2683 = .ok (.aload_n 3, 1) := by decide +kernel
theorem dL_law_2684 : decode cL_law 2684 = .ok (.iconst 0, 1) := by decide +kernel
theorem dL_law_2685 : decode cL_law 2685 = .ok (.laload, 1) := by decide +kernel
theorem dL_law_2686 : decode cL_law 2686 = .ok (.iload 7, 2) := by decide +kernel
theorem dL_law_2688 : decode cL_law 2688 = .ok (.i2l, 1) := by decide +kernel
theorem dL_law_2689 : decode cL_law 2689 = .ok (.lcmp, 1) := by decide +kernel
theorem dL_law_2690 : decode cL_law 2690 = .ok (.ifCond .eq 5, 3) := by decide +kernel
theorem dL_law_2693 : decode cL_law 2693 = .ok (.iconst 0, 1) := by decide +kernel
theorem dL_law_2694 : decode cL_law 2694 = .ok (.ireturn, 1) := by decide +kernel
theorem dL_law_2695 : decode cL_law 2695 = .ok (.goto 294, 3) := by decide +kernel
theorem dL_law_2698 : decode cL_law 2698 = .ok (.aload_n 1, 1) := by decide +kernel
theorem dL_law_2699 : decode cL_law 2699 = .ok (.aload_n 0, 1) := by decide +kernel
theorem dL_law_2700 : decode cL_law 2700 = .ok (.iload 5, 2) := by decide +kernel
theorem dL_law_2702 : decode cL_law 2702 = .ok (.iconst 1, 1) := by decide +kernel
theorem dL_law_2703 : decode cL_law 2703 = .ok (.iadd, 1) := by decide +kernel
theorem dL_law_2704 : decode cL_law 2704 = .ok (.iaload, 1) := by decide +kernel
theorem dL_law_2705 : decode cL_law 2705 = .ok (.i2c, 1) := by decide +kernel
theorem dL_law_2706 : decode cL_law 2706 = .ok (.aload_n 3, 1) := by decide +kernel
theorem dL_law_2707 : decode cL_law 2707 = .ok (.invokestatic 319, 3) := by decide +kernel
theorem dL_law_2710 : decode cL_law 2710 = .ok (.istore 6, 2) := by decide +kernel
theorem dL_law_2712 : decode cL_law 2712 = .ok (.aload_n 2, 1) := by decide +kernel
theorem dL_law_2713 : decode cL_law 2713 = .ok (.aload_n 0, 1) := by decide +kernel
theorem dL_law_2714 : decode cL_law 2714 = .ok (.iload 5, 2) := by decide +kernel
theorem dL_law_2716 : decode cL_law 2716 = .ok (.iconst 1, 1) := by decide +kernel
theorem dL_law_2717 : decode cL_law 2717 = .ok (.iadd, 1) := by decide +kernel
theorem dL_law_2718 : decode cL_law 2718 = .ok (.iaload, 1) := by decide +kernel
theorem dL_law_2719 : decode cL_law 2719 = .ok (.i2c, 1) := by decide +kernel
theorem dL_law_2720 : decode cL_law 2720 = .ok (.invokevirtual 321, 3) := by decide +kernel
theorem dL_law_2723 : decode cL_law 2723 = .ok (.istore 7, 2) := by decide +kernel
theorem dL_law_2725 : decode cL_law 2725 = .ok (.aload_n 2, 1) := by decide +kernel
theorem dL_law_2726 : decode cL_law 2726 = .ok (.invokevirtual 173, 3) := by decide +kernel
theorem dL_law_2729 : decode cL_law 2729 = .ok (.iload 6, 2) := by decide +kernel
theorem dL_law_2731 : decode cL_law 2731 = .ok (.if_icmp .eq 5, 3) := by decide +kernel
theorem dL_law_2734 : decode cL_law 2734 = .ok (.iconst 0, 1) := by decide +kernel
theorem dL_law_2735 : decode cL_law 2735 = .ok (.ireturn, 1) := by decide +kernel
theorem dL_law_2736 : decode cL_law 2736 = .ok (.iload 6, 2) := by decide +kernel
theorem dL_law_2738 : decode cL_law 2738 = .ok (.ifCond .ne 15, 3) := by decide +kernel
theorem dL_law_2741 : decode cL_law 2741 = .ok (.aload_n 3, 1) := by decide +kernel
theorem dL_law_2742 : decode cL_law 2742 = .ok (.iconst 0, 1) := by decide +kernel
theorem dL_law_2743 : decode cL_law 2743 = .ok (.laload, 1) := by decide +kernel
theorem dL_law_2744 : decode cL_law 2744 = .ok (.iload 7, 2) := by decide +kernel
theorem dL_law_2746 : decode cL_law 2746 = .ok (.i2l, 1) := by decide +kernel
theorem dL_law_2747 : decode cL_law 2747 = .ok (.lcmp, 1) := by decide +kernel
theorem dL_law_2748 : decode cL_law 2748 = .ok (.ifCond .eq 5, 3) := by decide +kernel
theorem dL_law_2751 : decode cL_law 2751 = .ok (.iconst 0, 1) := by decide +kernel
theorem dL_law_2752 : decode cL_law 2752 = .ok (.ireturn, 1) := by decide +kernel
theorem dL_law_2753 : decode cL_law 2753 = .ok (.goto 236, 3) := by decide +kernel
theorem dL_law_2756 : decode cL_law 2756 = .ok (.aload_n 1, 1) := by decide +kernel
theorem dL_law_2757 : decode cL_law 2757 = .ok (.aload_n 3, 1) := by decide +kernel
theorem dL_law_2758 : decode cL_law 2758 = .ok (.invokestatic 322, 3) := by decide +kernel
theorem dL_law_2761 : decode cL_law 2761 = .ok (.istore 6, 2) := by decide +kernel
theorem dL_law_2763 : decode cL_law 2763 = .ok (.aload_n 2, 1) := by decide +kernel
theorem dL_law_2764 : decode cL_law 2764 = .ok (.invokevirtual 325, 3) := by decide +kernel
theorem dL_law_2767 : decode cL_law 2767 = .ok (.istore 7, 2) := by decide +kernel
theorem dL_law_2769 : decode cL_law 2769 = .ok (.aload_n 2, 1) := by decide +kernel
theorem dL_law_2770 : decode cL_law 2770 = .ok (.invokevirtual 173, 3) := by decide +kernel
theorem dL_law_2773 : decode cL_law 2773 = .ok (.iload 6, 2) := by decide +kernel
theorem dL_law_2775 : decode cL_law 2775 = .ok (.if_icmp .eq 5, 3) := by decide +kernel
theorem dL_law_2778 : decode cL_law 2778 = .ok (.iconst 0, 1) := by decide +kernel
theorem dL_law_2779 : decode cL_law 2779 = .ok (.ireturn, 1) := by decide +kernel
theorem dL_law_2780 : decode cL_law 2780 = .ok (.iload 6, 2) := by decide +kernel
theorem dL_law_2782 : decode cL_law 2782 = .ok (.ifCond .ne 15, 3) := by decide +kernel
theorem dL_law_2785 : decode cL_law 2785 = .ok (.aload_n 3, 1) := by decide +kernel
theorem dL_law_2786 : decode cL_law 2786 = .ok (.iconst 0, 1) := by decide +kernel
theorem dL_law_2787 : decode cL_law 2787 = .ok (.laload, 1) := by decide +kernel
theorem dL_law_2788 : decode cL_law 2788 = .ok (.iload 7, 2) := by decide +kernel
theorem dL_law_2790 : decode cL_law 2790 = .ok (.i2l, 1) := by decide +kernel
theorem dL_law_2791 : decode cL_law 2791 = .ok (.lcmp, 1) := by decide +kernel
theorem dL_law_2792 : decode cL_law 2792 = .ok (.ifCond .eq 5, 3) := by decide +kernel
theorem dL_law_2795 : decode cL_law 2795 = .ok (.iconst 0, 1) := by decide +kernel
theorem dL_law_2796 : decode cL_law 2796 = .ok (.ireturn, 1) := by decide +kernel
theorem dL_law_2797 : decode cL_law 2797 = .ok (.goto 192, 3) := by decide +kernel
theorem dL_law_2800 : decode cL_law 2800 = .ok (.aload_n 1, 1) := by decide +kernel
theorem dL_law_2801 : decode cL_law 2801 = .ok (.aload_n 3, 1) := by decide +kernel
theorem dL_law_2802 : decode cL_law 2802 = .ok (.invokestatic 326, 3) := by decide +kernel
theorem dL_law_2805 : decode cL_law 2805 = .ok (.istore 6, 2) := by decide +kernel
theorem dL_law_2807 : decode cL_law 2807 = .ok (.aload_n 2, 1) := by decide +kernel
theorem dL_law_2808 : decode cL_law 2808 = .ok (.invokevirtual 328, 3) := by decide +kernel
theorem dL_law_2811 : decode cL_law 2811 = .ok (.istore 7, 2) := by decide +kernel
theorem dL_law_2813 : decode cL_law 2813 = .ok (.aload_n 2, 1) := by decide +kernel
theorem dL_law_2814 : decode cL_law 2814 = .ok (.invokevirtual 173, 3) := by decide +kernel
theorem dL_law_2817 : decode cL_law 2817 = .ok (.iload 6, 2) := by decide +kernel
theorem dL_law_2819 : decode cL_law 2819 = .ok (.if_icmp .eq 5, 3) := by decide +kernel
theorem dL_law_2822 : decode cL_law 2822 = .ok (.iconst 0, 1) := by decide +kernel
theorem dL_law_2823 : decode cL_law 2823 = .ok (.ireturn, 1) := by decide +kernel
theorem dL_law_2824 : decode cL_law 2824 = .ok (.iload 6, 2) := by decide +kernel
theorem dL_law_2826 : decode cL_law 2826 = .ok (.ifCond .ne 15, 3) := by decide +kernel
theorem dL_law_2829 : decode cL_law 2829 = .ok (.aload_n 3, 1) := by decide +kernel
theorem dL_law_2830 : decode cL_law 2830 = .ok (.iconst 0, 1) := by decide +kernel
theorem dL_law_2831 : decode cL_law 2831 = .ok (.laload, 1) := by decide +kernel
theorem dL_law_2832 : decode cL_law 2832 = .ok (.iload 7, 2) := by decide +kernel
theorem dL_law_2834 : decode cL_law 2834 = .ok (.i2l, 1) := by decide +kernel
theorem dL_law_2835 : decode cL_law 2835 = .ok (.lcmp, 1) := by decide +kernel
theorem dL_law_2836 : decode cL_law 2836 = .ok (.ifCond .eq 5, 3) := by decide +kernel
theorem dL_law_2839 : decode cL_law 2839 = .ok (.iconst 0, 1) := by decide +kernel
theorem dL_law_2840 : decode cL_law 2840 = .ok (.ireturn, 1) := by decide +kernel
theorem dL_law_2841 : decode cL_law 2841 = .ok (.goto 148, 3) := by decide +kernel
theorem dL_law_2844 : decode cL_law 2844 = .ok (.aload_n 1, 1) := by decide +kernel
theorem dL_law_2845 : decode cL_law 2845 = .ok (.aload_n 3, 1) := by decide +kernel
theorem dL_law_2846 : decode cL_law 2846 = .ok (.invokestatic 329, 3) := by decide +kernel
theorem dL_law_2849 : decode cL_law 2849 = .ok (.istore 6, 2) := by decide +kernel
theorem dL_law_2851 : decode cL_law 2851 = .ok (.aload_n 2, 1) := by decide +kernel
theorem dL_law_2852 : decode cL_law 2852 = .ok (.invokevirtual 331, 3) := by decide +kernel
theorem dL_law_2855 : decode cL_law 2855 = .ok (.istore 7, 2) := by decide +kernel
theorem dL_law_2857 : decode cL_law 2857 = .ok (.aload_n 2, 1) := by decide +kernel
theorem dL_law_2858 : decode cL_law 2858 = .ok (.invokevirtual 173, 3) := by decide +kernel
theorem dL_law_2861 : decode cL_law 2861 = .ok (.iload 6, 2) := by decide +kernel
theorem dL_law_2863 : decode cL_law 2863 = .ok (.if_icmp .eq 5, 3) := by decide +kernel
theorem dL_law_2866 : decode cL_law 2866 = .ok (.iconst 0, 1) := by decide +kernel
theorem dL_law_2867 : decode cL_law 2867 = .ok (.ireturn, 1) := by decide +kernel
theorem dL_law_2868 : decode cL_law 2868 = .ok (.iload 6, 2) := by decide +kernel
theorem dL_law_2870 : decode cL_law 2870 = .ok (.ifCond .ne 15, 3) := by decide +kernel
theorem dL_law_2873 : decode cL_law 2873 = .ok (.aload_n 3, 1) := by decide +kernel
theorem dL_law_2874 : decode cL_law 2874 = .ok (.iconst 0, 1) := by decide +kernel
theorem dL_law_2875 : decode cL_law 2875 = .ok (.laload, 1) := by decide +kernel
theorem dL_law_2876 : decode cL_law 2876 = .ok (.iload 7, 2) := by decide +kernel
theorem dL_law_2878 : decode cL_law 2878 = .ok (.i2l, 1) := by decide +kernel
theorem dL_law_2879 : decode cL_law 2879 = .ok (.lcmp, 1) := by decide +kernel
theorem dL_law_2880 : decode cL_law 2880 = .ok (.ifCond .eq 5, 3) := by decide +kernel
theorem dL_law_2883 : decode cL_law 2883 = .ok (.iconst 0, 1) := by decide +kernel
theorem dL_law_2884 : decode cL_law 2884 = .ok (.ireturn, 1) := by decide +kernel
theorem dL_law_2885 : decode cL_law 2885 = .ok (.goto 104, 3) := by decide +kernel
theorem dL_law_2888 : decode cL_law 2888 = .ok (.aload_n 1, 1) := by decide +kernel
theorem dL_law_2889 : decode cL_law 2889 = .ok (.aload_n 3, 1) := by decide +kernel
theorem dL_law_2890 : decode cL_law 2890 = .ok (.invokestatic 332, 3) := by decide +kernel
theorem dL_law_2893 : decode cL_law 2893 = .ok (.istore 6, 2) := by decide +kernel
theorem dL_law_2895 : decode cL_law 2895 = .ok (.aload_n 2, 1) := by decide +kernel
theorem dL_law_2896 : decode cL_law 2896 = .ok (.invokevirtual 334, 3) := by decide +kernel
theorem dL_law_2899 : decode cL_law 2899 = .ok (.istore 7, 2) := by decide +kernel
theorem dL_law_2901 : decode cL_law 2901 = .ok (.aload_n 2, 1) := by decide +kernel
theorem dL_law_2902 : decode cL_law 2902 = .ok (.invokevirtual 173, 3) := by decide +kernel
theorem dL_law_2905 : decode cL_law 2905 = .ok (.iload 6, 2) := by decide +kernel
theorem dL_law_2907 : decode cL_law 2907 = .ok (.if_icmp .eq 5, 3) := by decide +kernel
theorem dL_law_2910 : decode cL_law 2910 = .ok (.iconst 0, 1) := by decide +kernel
theorem dL_law_2911 : decode cL_law 2911 = .ok (.ireturn, 1) := by decide +kernel
theorem dL_law_2912 : decode cL_law 2912 = .ok (.iload 6, 2) := by decide +kernel
theorem dL_law_2914 : decode cL_law 2914 = .ok (.ifCond .ne 15, 3) := by decide +kernel
theorem dL_law_2917 : decode cL_law 2917 = .ok (.aload_n 3, 1) := by decide +kernel
theorem dL_law_2918 : decode cL_law 2918 = .ok (.iconst 0, 1) := by decide +kernel
theorem dL_law_2919 : decode cL_law 2919 = .ok (.laload, 1) := by decide +kernel
theorem dL_law_2920 : decode cL_law 2920 = .ok (.iload 7, 2) := by decide +kernel
theorem dL_law_2922 : decode cL_law 2922 = .ok (.i2l, 1) := by decide +kernel
theorem dL_law_2923 : decode cL_law 2923 = .ok (.lcmp, 1) := by decide +kernel
theorem dL_law_2924 : decode cL_law 2924 = .ok (.ifCond .eq 5, 3) := by decide +kernel
theorem dL_law_2927 : decode cL_law 2927 = .ok (.iconst 0, 1) := by decide +kernel
theorem dL_law_2928 : decode cL_law 2928 = .ok (.ireturn, 1) := by decide +kernel
theorem dL_law_2929 : decode cL_law 2929 = .ok (.goto 60, 3) := by decide +kernel
theorem dL_law_2932 : decode cL_law 2932 = .ok (.aload_n 1, 1) := by decide +kernel
theorem dL_law_2933 : decode cL_law 2933 = .ok (.invokevirtual 335, 3) := by decide +kernel
theorem dL_law_2936 : decode cL_law 2936 = .ok (.aload_n 2, 1) := by decide +kernel
theorem dL_law_2937 : decode cL_law 2937 = .ok (.invokevirtual 338, 3) := by decide +kernel
theorem dL_law_2940 : decode cL_law 2940 = .ok (.if_icmp .eq 49, 3) := by decide +kernel
theorem dL_law_2943 : decode cL_law 2943 = .ok (.iconst 0, 1) := by decide +kernel
theorem dL_law_2944 : decode cL_law 2944 = .ok (.ireturn, 1) := by decide +kernel
theorem dL_law_2945 : decode cL_law 2945 = .ok (.aload_n 1, 1) := by decide +kernel
theorem dL_law_2946 : decode cL_law 2946 = .ok (.aload_n 3, 1) := by decide +kernel
theorem dL_law_2947 : decode cL_law 2947 = .ok (.invokestatic 339, 3) := by decide +kernel
theorem dL_law_2950 : decode cL_law 2950 = .ok (.istore 6, 2) := by decide +kernel
theorem dL_law_2952 : decode cL_law 2952 = .ok (.aload_n 2, 1) := by decide +kernel
theorem dL_law_2953 : decode cL_law 2953 = .ok (.invokevirtual 341, 3) := by decide +kernel
theorem dL_law_2956 : decode cL_law 2956 = .ok (.istore 7, 2) := by decide +kernel
theorem dL_law_2958 : decode cL_law 2958 = .ok (.aload_n 2, 1) := by decide +kernel
theorem dL_law_2959 : decode cL_law 2959 = .ok (.invokevirtual 173, 3) := by decide +kernel
theorem dL_law_2962 : decode cL_law 2962 = .ok (.iload 6, 2) := by decide +kernel
theorem dL_law_2964 : decode cL_law 2964 = .ok (.if_icmp .eq 5, 3) := by decide +kernel
theorem dL_law_2967 : decode cL_law 2967 = .ok (.iconst 0, 1) := by decide +kernel
theorem dL_law_2968 : decode cL_law 2968 = .ok (.ireturn, 1) := by decide +kernel
theorem dL_law_2969 : decode cL_law 2969 = .ok (.iload 6, 2) := by decide +kernel
theorem dL_law_2971 : decode cL_law 2971 = .ok (.ifCond .ne 15, 3) := by decide +kernel
theorem dL_law_2974 : decode cL_law 2974 = .ok (.aload_n 3, 1) := by decide +kernel
theorem dL_law_2975 : decode cL_law 2975 = .ok (.iconst 0, 1) := by decide +kernel
theorem dL_law_2976 : decode cL_law 2976 = .ok (.laload, 1) := by decide +kernel
theorem dL_law_2977 : decode cL_law 2977 = .ok (.iload 7, 2) := by decide +kernel
theorem dL_law_2979 : decode cL_law 2979 = .ok (.i2l, 1) := by decide +kernel
theorem dL_law_2980 : decode cL_law 2980 = .ok (.lcmp, 1) := by decide +kernel
theorem dL_law_2981 : decode cL_law 2981 = .ok (.ifCond .eq 5, 3) := by decide +kernel
theorem dL_law_2984 : decode cL_law 2984 = .ok (.iconst 0, 1) := by decide +kernel
theorem dL_law_2985 : decode cL_law 2985 = .ok (.ireturn, 1) := by decide +kernel
theorem dL_law_2986 : decode cL_law 2986 = .ok (.goto 3, 3) := by decide +kernel
theorem dL_law_2989 : decode cL_law 2989 = .ok (.iinc 5 4, 3) := by decide +kernel
theorem dL_law_2992 : decode cL_law 2992 = .ok (.goto (-2964), 3) := by decide +kernel
theorem dL_law_2995 : decode cL_law 2995 = .ok (.iconst 1, 1) := by decide +kernel
theorem dL_law_2996 : decode cL_law 2996 = .ok (.ireturn, 1) := by decide +kernel

