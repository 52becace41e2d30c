theorem dL_law_2575 : decode cL_law 2575 = .ok (.laload, 1) := by decide +kernel
theorem dL_law_2576 : decode cL_law 2576 = .ok (.iload 7, 2) := by decide +kernel
theorem dL_law_2578 : decode cL_law 2578 = .ok (.i2l, 1) := by decide +kernel
theorem dL_law_2579 : decode cL_law 2579 = .ok (.lcmp, 1) := by decide +kernel
theorem dL_law_2580 : decode cL_law 2580 = .ok (.ifCond .eq 5, 3) := by decide +kernel
theorem dL_law_2583 : decode cL_law 2583 = .ok (.iconst 0, 1) := by decide +kernel
theorem dL_law_2584 : decode cL_law 2584 = .ok (.ireturn, 1) := by decide +kernel
theorem dL_law_2585 : decode cL_law 2585 = .ok (.goto 182, 3) := by decide +kernel
theorem dL_law_2588 : decode cL_law 2588 = .ok (.aload_n 1, 1) := by decide +kernel
theorem dL_law_2589 : decode cL_law 2589 = .ok (.aload 4, 2) := by decide +kernel
theorem dL_law_2591 : decode cL_law 2591 = .ok (.invokestatic 336, 3) := by decide +kernel
theorem dL_law_2594 : decode cL_law 2594 = .ok (.istore 6, 2) := by decide +kernel
theorem dL_law_2596 : decode cL_law 2596 = .ok (.aload_n 2, 1) := by decide +kernel
theorem dL_law_2597 : decode cL_law 2597 = .ok (.invokevirtual 339, 3) := by decide +kernel
theorem dL_law_2600 : decode cL_law 2600 = .ok (.dstore 7, 2) := by decide +kernel
theorem dL_law_2602 : decode cL_law 2602 = .ok (.aload_n 2, 1) := by decide +kernel
theorem dL_law_2603 : decode cL_law 2603 = .ok (.invokevirtual 163, 3) := by decide +kernel
theorem dL_law_2606 : decode cL_law 2606 = .ok (.iload 6, 2) := by decide +kernel
theorem dL_law_2608 : decode cL_law 2608 = .ok (.if_icmp .eq 5, 3) := by decide +kernel
theorem dL_law_2611 : decode cL_law 2611 = .ok (.iconst 0, 1) := by decide +kernel
theorem dL_law_2612 : decode cL_law 2612 = .ok (.ireturn, 1) := by decide +kernel
theorem dL_law_2613 : decode cL_law 2613 = .ok (.iload 6, 2) := by decide +kernel
theorem dL_law_2615 : decode cL_law 2615 = .ok (.ifCond .ne 35, 3) := by decide +kernel
theorem dL_law_2618 : decode cL_law 2618 = .ok (.aload 4, 2) := by decide +kernel
theorem dL_law_2620 : decode cL_law 2620 = .ok (.iconst 0, 1) := by decide +kernel
theorem dL_law_2621 : decode cL_law 2621 = .ok (.daload, 1) := by decide +kernel
theorem dL_law_2622 : decode cL_law 2622 = .ok (.dload 7, 2) := by decide +kernel
theorem dL_law_2624 : decode cL_law 2624 = .ok (.dcmp .l, 1) := by decide +kernel
theorem dL_law_2625 : decode cL_law 2625 = .ok (.ifCond .eq 25, 3) := by decide +kernel
theorem dL_law_2628 : decode cL_law 2628 = .ok (.aload 4, 2) := by decide +kernel
theorem dL_law_2630 : decode cL_law 2630 = .ok (.iconst 0, 1) := by decide +kernel
theorem dL_law_2631 : decode cL_law 2631 = .ok (.daload, 1) := by decide +kernel
theorem dL_law_2632 : decode cL_law 2632 = .ok (.aload 4, 2) := by decide +kernel
theorem dL_law_2634 : decode cL_law 2634 = .ok (.iconst 0, 1) := by decide +kernel
theorem dL_law_2635 : decode cL_law 2635 = .ok (.daload, 1) := by decide +kernel
theorem dL_law_2636 : decode cL_law 2636 = .ok (.dcmp .l, 1) := by decide +kernel
theorem dL_law_2637 : decode cL_law 2637 = .ok (.ifCond .eq 11, 3) := by decide +kernel
theorem dL_law_2640 : decode cL_law 2640 = .ok (.dload 7, 2) := by decide +kernel
theorem dL_law_2642 : decode cL_law 2642 = .ok (.dload 7, 2) := by decide +kernel
theorem dL_law_2644 : decode cL_law 2644 = .ok (.dcmp .l, 1) := by decide +kernel
theorem dL_law_2645 : decode cL_law 2645 = .ok (.ifCond .ne 5, 3) := by decide +kernel
theorem dL_law_2648 : decode cL_law 2648 = .ok (.iconst 0, 1) := by decide +kernel
theorem dL_law_2649 : decode cL_law 2649 = .ok (.ireturn, 1) := by decide +kernel
theorem dL_law_2650 : decode cL_law 2650 = .ok (.goto 117, 3) := by decide +kernel
theorem dL_law_2653 : decode cL_law 2653 = .ok (.aload_n 1, 1) := by decide +kernel
theorem dL_law_2654 : decode cL_law 2654 = .ok (.invokevirtual 340, 3) := by decide +kernel
theorem dL_law_2657 : decode cL_law 2657 = .ok (.aload_n 2, 1) := by decide +kernel
theorem dL_law_2658 : decode cL_law 2658 = .ok (.invokevirtual 343, 3) := by decide +kernel
theorem dL_law_2661 : decode cL_law 2661 = .ok (.if_icmp .eq 106, 3) := by decide +kernel
theorem dL_law_2664 : decode cL_law 2664 = .ok (.iconst 0, 1) := by decide +kernel
theorem dL_law_2665 : decode cL_law 2665 = .ok (.ireturn, 1) := by decide +kernel
theorem dL_law_2666 : decode cL_law 2666 = .ok (.aload_n 1, 1) := by decide +kernel
theorem dL_law_2667 : decode cL_law 2667 = .ok (.aload_n 3, 1) := by decide +kernel
theorem dL_law_2668 : decode cL_law 2668 = .ok (.invokestatic 344, 3) := by decide +kernel
theorem dL_law_2671 : decode cL_law 2671 = .ok (.istore 6, 2) := by decide +kernel
theorem dL_law_2673 : decode cL_law 2673 = .ok (.aload_n 2, 1) := by decide +kernel
theorem dL_law_2674 : decode cL_law 2674 = .ok (.invokevirtual 346, 3) := by decide +kernel
theorem dL_law_2677 : decode cL_law 2677 = .ok (.istore 7, 2) := by decide +kernel
theorem dL_law_2679 : decode cL_law 2679 = .ok (.aload_n 2, 1) := by decide +kernel
theorem dL_law_2680 : decode cL_law 2680 = .ok (.invokevirtual 163, 3) := by decide +kernel
theorem dL_law_2683 : decode cL_law 2683 = .ok (.iload 6, 2) := by decide +kernel
theorem dL_law_2685 : decode cL_law 2685 = .ok (.if_icmp .eq 5, 3) := by decide +kernel
theorem dL_law_2688 : decode cL_law 2688 = .ok (.iconst 0, 1) := by decide +kernel
theorem dL_law_2689 : decode cL_law 2689 = .ok (.ireturn, 1) := by decide +kernel
theorem dL_law_2690 : decode cL_law 2690 = .ok (.iload 6, 2) := by decide +kernel
theorem dL_law_2692 : decode cL_law 2692 = .ok (.ifCond .ne 15, 3) := by decide +kernel
theorem dL_law_2695 : decode cL_law 2695 = .ok (.aload_n 3, 1) := by decide +kernel
theorem dL_law_2696 : decode cL_law 2696 = .ok (.iconst 0, 1) := by decide +kernel
theorem dL_law_2697 : decode cL_law 2697 = .ok (.laload, 1) := by decide +kernel
theorem dL_law_2698 : decode cL_law 2698 = .ok (.iload 7, 2) := by decide +kernel
theorem dL_law_2700 : decode cL_law 2700 = .ok (.i2l, 1) := by decide +kernel
theorem dL_law_2701 : decode cL_law 2701 = .ok (.lcmp, 1) := by decide +kernel
theorem dL_law_2702 : decode cL_law 2702 = .ok (.ifCond .eq 5, 3) := by decide +kernel
theorem dL_law_2705 : decode cL_law 2705 = .ok (.iconst 0, 1) := by decide +kernel
theorem dL_law_2706 : decode cL_law 2706 = .ok (.ireturn, 1) := by decide +kernel
theorem dL_law_2707 : decode cL_law 2707 = .ok (.goto 60, 3) := by decide +kernel
theorem dL_law_2710 : decode cL_law 2710 = .ok (.aload_n 1, 1) := by decide +kernel
theorem dL_law_2711 : decode cL_law 2711 = .ok (.invokevirtual 347, 3) := by decide +kernel
theorem dL_law_2714 : decode cL_law 2714 = .ok (.aload_n 2, 1) := by decide +kernel
theorem dL_law_2715 : decode cL_law 2715 = .ok (.invokevirtual 350, 3) := by decide +kernel
theorem dL_law_2718 : decode cL_law 2718 = .ok (.if_icmp .eq 49, 3) := by decide +kernel
theorem dL_law_2721 : decode cL_law 2721 = .ok (.iconst 0, 1) := by decide +kernel
theorem dL_law_2722 : decode cL_law 2722 = .ok (.ireturn, 1) := by decide +kernel
theorem dL_law_2723 : decode cL_law 2723 = .ok (.aload_n 1, 1) := by decide +kernel
theorem dL_law_2724 : decode cL_law 2724 = .ok (.aload_n 3, 1) := by decide +kernel
theorem dL_law_2725 : decode cL_law 2725 = .ok (.invokestatic 351, 3) := by decide +kernel
theorem dL_law_2728 : decode cL_law 2728 = .ok (.istore 6, 2) := by decide +kernel
theorem dL_law_2730 : decode cL_law 2730 = .ok (.aload_n 2, 1) := by decide +kernel
theorem dL_law_2731 : decode cL_law 2731 = .ok (.invokevirtual 353, 3) := by decide +kernel
theorem dL_law_2734 : decode cL_law 2734 = .ok (.istore 7, 2) := by decide +kernel
theorem dL_law_2736 : decode cL_law 2736 = .ok (.aload_n 2, 1) := by decide +kernel
theorem dL_law_2737 : decode cL_law 2737 = .ok (.invokevirtual 163, 3) := by decide +kernel
theorem dL_law_2740 : decode cL_law 2740 = .ok (.iload 6, 2) := by decide +kernel
theorem dL_law_2742 : decode cL_law 2742 = .ok (.if_icmp .eq 5, 3) := by decide +kernel
theorem dL_law_2745 : decode cL_law 2745 = .ok (.iconst 0, 1) := by decide +kernel
theorem dL_law_2746 : decode cL_law 2746 = .ok (.ireturn, 1) := by decide +kernel
theorem dL_law_2747 : decode cL_law 2747 = .ok (.iload 6, 2) := by decide +kernel
theorem dL_law_2749 : decode cL_law 2749 = .ok (.ifCond .ne 15, 3) := by decide +kernel
theorem dL_law_2752 : decode cL_law 2752 = .ok (.aload_n 3, 1) := by decide +kernel
theorem dL_law_2753 : decode cL_law 2753 = .ok (.iconst 0, 1) := by decide +kernel
theorem dL_law_2754 : decode cL_law 2754 = .ok (.laload, 1) := by decide +kernel
theorem dL_law_2755 : decode cL_law 2755 = .ok (.iload 7, 2) := by decide +kernel
theorem dL_law_2757 : decode cL_law 2757 = .ok (.i2l, 1) := by decide +kernel
theorem dL_law_2758 : decode cL_law 2758 = .ok (.lcmp, 1) := by decide +kernel
theorem dL_law_2759 : decode cL_law 2759 = .ok (.ifCond .eq 5, 3) := by decide +kernel
theorem dL_law_2762 : decode cL_law 2762 = .ok (.iconst 0, 1) := by decide +kernel
theorem dL_law_2763 : decode cL_law 2763 = .ok (.ireturn, 1) := by decide +kernel
theorem dL_law_2764 : decode cL_law 2764 = .ok (.goto 3, 3) := by decide +kernel
theorem dL_law_2767 : decode cL_law 2767 = .ok (.iinc 5 3, 3) := by decide +kernel
theorem dL_law_2770 : decode cL_law 2770 = .ok (.goto (-2742), 3) := by decide +kernel
