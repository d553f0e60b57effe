/-! ===== decode rows: the law ===== -/
theorem dL_law_2620 : decode cL_law 2620 = .ok (.aload_n 0, 1) := by decide +kernel
theorem dL_law_2621 : decode cL_law 2621 = .ok (.iload 5, 2) := by decide +kernel
theorem dL_law_2623 : decode cL_law 2623 = .ok (.iconst 1, 1) := by decide +kernel
theorem dL_law_2624 : decode cL_law 2624 = .ok (.iadd, 1) := by decide +kernel
theorem dL_law_2625 : decode cL_law 2625 = .ok (.iaload, 1) := by decide +kernel
theorem dL_law_2626 : decode cL_law 2626 = .ok (.invokevirtual 316, 3) := by decide +kernel
theorem dL_law_2629 : decode cL_law 2629 = .ok (.istore 7, 2) := by decide +kernel
theorem dL_law_2631 : decode cL_law 2631 = .ok (.aload_n 2, 1) := by decide +kernel
theorem dL_law_2632 : decode cL_law 2632 = .ok (.invokevirtual 166, 3) := by decide +kernel
theorem dL_law_2635 : decode cL_law 2635 = .ok (.iload 6, 2) := by decide +kernel
theorem dL_law_2637 : decode cL_law 2637 = .ok (.if_icmp .eq 5, 3) := by decide +kernel
theorem dL_law_2640 : decode cL_law 2640 = .ok (.iconst 0, 1) := by decide +kernel
theorem dL_law_2641 : decode cL_law 2641 = .ok (.ireturn, 1) := by decide +kernel
theorem dL_law_2642 : decode cL_law 2642 = .ok (.iload 6, 2) := by decide +kernel
theorem dL_law_2644 : decode cL_law 2644 = .ok (.ifCond .ne 15, 3) := by decide +kernel
theorem dL_law_2647 : decode cL_law 2647 = .ok (.aload_n 3, 1) := by decide +kernel
theorem dL_law_2648 : decode cL_law 2648 = .ok (.iconst 0, 1) := by decide +kernel
theorem dL_law_2649 : decode cL_law 2649 = .ok (.laload, 1) := by decide +kernel
theorem dL_law_2650 : decode cL_law 2650 = .ok (.iload 7, 2) := by decide +kernel
theorem dL_law_2652 : decode cL_law 2652 = .ok (.i2l, 1) := by decide +kernel
theorem dL_law_2653 : decode cL_law 2653 = .ok (.lcmp, 1) := by decide +kernel
theorem dL_law_2654 : decode cL_law 2654 = .ok (.ifCond .eq 5, 3) := by decide +kernel
theorem dL_law_2657 : decode cL_law 2657 = .ok (.iconst 0, 1) := by decide +kernel
theorem dL_law_2658 : decode cL_law 2658 = .ok (.ireturn, 1) := by decide +kernel
theorem dL_law_2659 : decode cL_law 2659 = .ok (.goto 475, 3) := by decide +kernel
theorem dL_law_2662 : decode cL_law 2662 = .ok (.aload_n 1, 1) := by decide +kernel
theorem dL_law_2663 : decode cL_law 2663 = .ok (.aload_n 0, 1) := by decide +kernel
theorem dL_law_2664 : decode cL_law 2664 = .ok (.iload 5, 2) := by decide +kernel
theorem dL_law_2666 : decode cL_law 2666 = .ok (.iconst 1, 1) := by decide +kernel
theorem dL_law_2667 : decode cL_law 2667 = .ok (.iadd, 1) := by decide +kernel
theorem dL_law_2668 : decode cL_law 2668 = .ok (.iaload, 1) := by decide +kernel
theorem dL_law_2669 : decode cL_law 2669 = .ok (.aload_n 0, 1) := by decide +kernel
theorem dL_law_2670 : decode cL_law 2670 = .ok (.iload 5, 2) := by decide +kernel
theorem dL_law_2672 : decode cL_law 2672 = .ok (.iconst 2, 1) := by decide +kernel
theorem dL_law_2673 : decode cL_law 2673 = .ok (.iadd, 1) := by decide +kernel
theorem dL_law_2674 : decode cL_law 2674 = .ok (.iaload, 1) := by decide +kernel
theorem dL_law_2675 : decode cL_law 2675 = .ok (.aload_n 3, 1) := by decide +kernel
theorem dL_law_2676 : decode cL_law 2676 = .ok (.invokestatic 317, 3) := by decide +kernel
theorem dL_law_2679 : decode cL_law 2679 = .ok (.istore 6, 2) := by decide +kernel
theorem dL_law_2681 : decode cL_law 2681 = .ok (.aload_n 2, 1) := by decide +kernel
theorem dL_law_2682 : decode cL_law 2682 = .ok (.aload_n 0, 1) := by decide +kernel
theorem dL_law_2683 : decode cL_law 2683 = .ok (.iload 5, 2) := by decide +kernel
theorem dL_law_2685 : decode cL_law 2685 = .ok (.iconst 1, 1) := by decide +kernel
theorem dL_law_2686 : decode cL_law 2686 = .ok (.iadd, 1) := by decide +kernel
theorem dL_law_2687 : decode cL_law 2687 = .ok (.iaload, 1) := by decide +kernel
theorem dL_law_2688 : decode cL_law 2688 = .ok (.aload_n 0, 1) := by decide +kernel
theorem dL_law_2689 : decode cL_law 2689 = .ok (.iload 5, 2) := by decide +kernel
theorem dL_law_2691 : decode cL_law 2691 = .ok (.iconst 2, 1) := by decide +kernel
theorem dL_law_2692 : decode cL_law 2692 = .ok (.iadd, 1) := by decide +kernel
theorem dL_law_2693 : decode cL_law 2693 = .ok (.iaload, 1) := by decide +kernel
theorem dL_law_2694 : decode cL_law 2694 = .ok (.invokevirtual 319, 3) := by decide +kernel
theorem dL_law_2697 : decode cL_law 2697 = .ok (.istore 7, 2) := by decide +kernel
theorem dL_law_2699 : decode cL_law 2699 = .ok (.aload_n 2, 1) := by decide +kernel
theorem dL_law_2700 : decode cL_law 2700 = .ok (.invokevirtual 166, 3) := by decide +kernel
theorem dL_law_2703 : decode cL_law 2703 = .ok (.iload 6, 2) := by decide +kernel
theorem dL_law_2705 : decode cL_law 2705 = .ok (.if_icmp .eq 5, 3) := by decide +kernel
theorem dL_law_2708 : decode cL_law 2708 = .ok (.iconst 0, 1) := by decide +kernel
theorem dL_law_2709 : decode cL_law 2709 = .ok (.ireturn, 1) := by decide +kernel
theorem dL_law_2710 : decode cL_law 2710 = .ok (.iload 6, 2) := by decide +kernel
theorem dL_law_2712 : decode cL_law 2712 = .ok (.ifCond .ne 15, 3) := by decide +kernel
theorem dL_law_2715 : decode cL_law 2715 = .ok (.aload_n 3, 1) := by decide +kernel
theorem dL_law_2716 : decode cL_law 2716 = .ok (.iconst 0, 1) := by decide +kernel
theorem dL_law_2717 : decode cL_law 2717 = .ok (.laload, 1) := by decide +kernel
theorem dL_law_2718 : decode cL_law 2718 = .ok (.iload 7, 2) := by decide +kernel
theorem dL_law_2720 : decode cL_law 2720 = .ok (.i2l, 1) := by decide +kernel
theorem dL_law_2721 : decode cL_law 2721 = .ok (.lcmp, 1) := by decide +kernel
theorem dL_law_2722 : decode cL_law 2722 = .ok (.ifCond .eq 5, 3) := by decide +kernel
theorem dL_law_2725 : decode cL_law 2725 = .ok (.iconst 0, 1) := by decide +kernel
theorem dL_law_2726 : decode cL_law 2726 = .ok (.ireturn, 1) := by decide +kernel
theorem dL_law_2727 : decode cL_law 2727 = .ok (.goto 407, 3) := by decide +kernel
theorem dL_law_2730 : decode cL_law 2730 = .ok (.aload_n 1, 1) := by decide +kernel
theorem dL_law_2731 : decode cL_law 2731 = .ok (.aload_n 0, 1) := by decide +kernel
theorem dL_law_2732 : decode cL_law 2732 = .ok (.iload 5, 2) := by decide +kernel
theorem dL_law_2734 : decode cL_law 2734 = .ok (.iconst 1, 1) := by decide +kernel
theorem dL_law_2735 : decode cL_law 2735 = .ok (.iadd, 1) := by decide +kernel
theorem dL_law_2736 : decode cL_law 2736 = .ok (.iaload, 1) := by decide +kernel
theorem dL_law_2737 : decode cL_law 2737 = .ok (.aload_n 0, 1) := by decide +kernel
theorem dL_law_2738 : decode cL_law 2738 = .ok (.iload 5, 2) := by decide +kernel
theorem dL_law_2740 : decode cL_law 2740 = .ok (.iconst 2, 1) := by decide +kernel
theorem dL_law_2741 : decode cL_law 2741 = .ok (.iadd, 1) := by decide +kernel
theorem dL_law_2742 : decode cL_law 2742 = .ok (.iaload, 1) := by decide +kernel
theorem dL_law_2743 : decode cL_law 2743 = .ok (.aload_n 3, 1) := by decide +kernel
theorem dL_law_2744 : decode cL_law 2744 = .ok (.invokestatic 320, 3) := by decide +kernel
theorem dL_law_2747 : decode cL_law 2747 = .ok (.istore 6, 2) := by decide +kernel
theorem dL_law_2749 : decode cL_law 2749 = .ok (.aload_n 2, 1) := by decide +kernel
theorem dL_law_2750 : decode cL_law 2750 = .ok (.aload_n 0, 1) := by decide +kernel
theorem dL_law_2751 : decode cL_law 2751 = .ok (.iload 5, 2) := by decide +kernel
theorem dL_law_2753 : decode cL_law 2753 = .ok (.iconst 1, 1) := by decide +kernel
theorem dL_law_2754 : decode cL_law 2754 = .ok (.iadd, 1) := by decide +kernel
theorem dL_law_2755 : decode cL_law 2755 = .ok (.iaload, 1) := by decide +kernel
theorem dL_law_2756 : decode cL_law 2756 = .ok (.aload_n 0, 1) := by decide +kernel
theorem dL_law_2757 : decode cL_law 2757 = .ok (.iload 5, 2) := by decide +kernel
theorem dL_law_2759 : decode cL_law 2759 = .ok (.iconst 2, 1) := by decide +kernel
theorem dL_law_2760 : decode cL_law 2760 = .ok (.iadd, 1) := by decide +kernel
theorem dL_law_2761 : decode cL_law 2761 = .ok (.iaload, 1) := by decide +kernel
theorem dL_law_2762 : decode cL_law 2762 = .ok (.invokevirtual 322, 3) := by decide +kernel
theorem dL_law_2765 : decode cL_law 2765 = .ok (.istore 7, 2) := by decide +kernel
theorem dL_law_2767 : decode cL_law 2767 = .ok (.aload_n 2, 1) := by decide +kernel
theorem dL_law_2768 : decode cL_law 2768 = .ok (.invokevirtual 166, 3) := by decide +kernel
theorem dL_law_2771 : decode cL_law 2771 = .ok (.iload 6, 2) := by decide +kernel
