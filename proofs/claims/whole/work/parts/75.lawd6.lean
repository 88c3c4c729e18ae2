/-! printed: the law's cases 48 to 55, decoded; their words -/
theorem dL_law_2616 : decode cL_law 2616 = .ok (.aload_n 1, 1) := by decide +kernel
theorem dL_law_2617 : decode cL_law 2617 = .ok (.aload_n 0, 1) := by decide +kernel
theorem dL_law_2618 : decode cL_law 2618 = .ok (.iload 4, 2) := by decide +kernel
theorem dL_law_2620 : decode cL_law 2620 = .ok (.iconst 1, 1) := by decide +kernel
theorem dL_law_2621 : decode cL_law 2621 = .ok (.iadd, 1) := by decide +kernel
theorem dL_law_2622 : decode cL_law 2622 = .ok (.iaload, 1) := by decide +kernel
theorem dL_law_2623 : decode cL_law 2623 = .ok (.aload_n 3, 1) := by decide +kernel
theorem dL_law_2624 : decode cL_law 2624 = .ok (.invokestatic 319, 3) := by decide +kernel
theorem dL_law_2627 : decode cL_law 2627 = .ok (.istore 5, 2) := by decide +kernel
theorem dL_law_2629 : decode cL_law 2629 = .ok (.aload_n 2, 1) := by decide +kernel
theorem dL_law_2630 : decode cL_law 2630 = .ok (.aload_n 0, 1) := by decide +kernel
theorem dL_law_2631 : decode cL_law 2631 = .ok (.iload 4, 2) := by decide +kernel
theorem dL_law_2633 : decode cL_law 2633 = .ok (.iconst 1, 1) := by decide +kernel
theorem dL_law_2634 : decode cL_law 2634 = .ok (.iadd, 1) := by decide +kernel
theorem dL_law_2635 : decode cL_law 2635 = .ok (.iaload, 1) := by decide +kernel
theorem dL_law_2636 : decode cL_law 2636 = .ok (.invokevirtual 321, 3) := by decide +kernel
theorem dL_law_2639 : decode cL_law 2639 = .ok (.istore 6, 2) := by decide +kernel
theorem dL_law_2641 : decode cL_law 2641 = .ok (.aload_n 2, 1) := by decide +kernel
theorem dL_law_2642 : decode cL_law 2642 = .ok (.invokevirtual 161, 3) := by decide +kernel
theorem dL_law_2645 : decode cL_law 2645 = .ok (.iload 5, 2) := by decide +kernel
theorem dL_law_2647 : decode cL_law 2647 = .ok (.if_icmp .eq 5, 3) := by decide +kernel
theorem dL_law_2652 : decode cL_law 2652 = .ok (.iload 5, 2) := by decide +kernel
theorem dL_law_2654 : decode cL_law 2654 = .ok (.ifCond .ne 22, 3) := by decide +kernel
theorem dL_law_2657 : decode cL_law 2657 = .ok (.aload_n 3, 1) := by decide +kernel
theorem dL_law_2658 : decode cL_law 2658 = .ok (.iconst 0, 1) := by decide +kernel
theorem dL_law_2659 : decode cL_law 2659 = .ok (.laload, 1) := by decide +kernel
theorem dL_law_2660 : decode cL_law 2660 = .ok (.iload 6, 2) := by decide +kernel
theorem dL_law_2662 : decode cL_law 2662 = .ok (.ifCond .eq 7, 3) := by decide +kernel
theorem dL_law_2665 : decode cL_law 2665 = .ok (.lconst 1, 1) := by decide +kernel
theorem dL_law_2666 : decode cL_law 2666 = .ok (.goto 4, 3) := by decide +kernel
theorem dL_law_2669 : decode cL_law 2669 = .ok (.lconst 0, 1) := by decide +kernel
theorem dL_law_2670 : decode cL_law 2670 = .ok (.lcmp, 1) := by decide +kernel
theorem dL_law_2671 : decode cL_law 2671 = .ok (.ifCond .eq 5, 3) := by decide +kernel
theorem dL_law_2676 : decode cL_law 2676 = .ok (.goto 586, 3) := by decide +kernel
theorem dL_law_2679 : decode cL_law 2679 = .ok (.aload_n 1, 1) := by decide +kernel
theorem dL_law_2680 : decode cL_law 2680 = .ok (.aload_n 0, 1) := by decide +kernel
theorem dL_law_2681 : decode cL_law 2681 = .ok (.iload 4, 2) := by decide +kernel
theorem dL_law_2683 : decode cL_law 2683 = .ok (.iconst 1, 1) := by decide +kernel
theorem dL_law_2684 : decode cL_law 2684 = .ok (.iadd, 1) := by decide +kernel
theorem dL_law_2685 : decode cL_law 2685 = .ok (.iaload, 1) := by decide +kernel
theorem dL_law_2686 : decode cL_law 2686 = .ok (.aload_n 0, 1) := by decide +kernel
theorem dL_law_2687 : decode cL_law 2687 = .ok (.iload 4, 2) := by decide +kernel
theorem dL_law_2689 : decode cL_law 2689 = .ok (.iconst 2, 1) := by decide +kernel
theorem dL_law_2690 : decode cL_law 2690 = .ok (.iadd, 1) := by decide +kernel
theorem dL_law_2691 : decode cL_law 2691 = .ok (.iaload, 1) := by decide +kernel
theorem dL_law_2692 : decode cL_law 2692 = .ok (.aload_n 3, 1) := by decide +kernel
theorem dL_law_2693 : decode cL_law 2693 = .ok (.invokestatic 322, 3) := by decide +kernel
theorem dL_law_2696 : decode cL_law 2696 = .ok (.istore 5, 2) := by decide +kernel
theorem dL_law_2698 : decode cL_law 2698 = .ok (.aload_n 2, 1) := by decide +kernel
theorem dL_law_2699 : decode cL_law 2699 = .ok (.aload_n 0, 1) := by decide +kernel
theorem dL_law_2700 : decode cL_law 2700 = .ok (.iload 4, 2) := by decide +kernel
theorem dL_law_2702 : decode cL_law 2702 = .ok (.iconst 1, 1) := by decide +kernel
theorem dL_law_2703 : decode cL_law 2703 = .ok (.iadd, 1) := by decide +kernel
theorem dL_law_2704 : decode cL_law 2704 = .ok (.iaload, 1) := by decide +kernel
theorem dL_law_2705 : decode cL_law 2705 = .ok (.aload_n 0, 1) := by decide +kernel
theorem dL_law_2706 : decode cL_law 2706 = .ok (.iload 4, 2) := by decide +kernel
theorem dL_law_2708 : decode cL_law 2708 = .ok (.iconst 2, 1) := by decide +kernel
theorem dL_law_2709 : decode cL_law 2709 = .ok (.iadd, 1) := by decide +kernel
theorem dL_law_2710 : decode cL_law 2710 = .ok (.iaload, 1) := by decide +kernel
theorem dL_law_2711 : decode cL_law 2711 = .ok (.invokevirtual 324, 3) := by decide +kernel
theorem dL_law_2714 : decode cL_law 2714 = .ok (.istore 6, 2) := by decide +kernel
theorem dL_law_2716 : decode cL_law 2716 = .ok (.aload_n 2, 1) := by decide +kernel
theorem dL_law_2717 : decode cL_law 2717 = .ok (.invokevirtual 161, 3) := by decide +kernel
theorem dL_law_2720 : decode cL_law 2720 = .ok (.iload 5, 2) := by decide +kernel
theorem dL_law_2722 : decode cL_law 2722 = .ok (.if_icmp .eq 5, 3) := by decide +kernel
theorem dL_law_2727 : decode cL_law 2727 = .ok (.iload 5, 2) := by decide +kernel
theorem dL_law_2729 : decode cL_law 2729 = .ok (.ifCond .ne 15, 3) := by decide +kernel
theorem dL_law_2732 : decode cL_law 2732 = .ok (.aload_n 3, 1) := by decide +kernel
theorem dL_law_2733 : decode cL_law 2733 = .ok (.iconst 0, 1) := by decide +kernel
theorem dL_law_2734 : decode cL_law 2734 = .ok (.laload, 1) := by decide +kernel
theorem dL_law_2735 : decode cL_law 2735 = .ok (.iload 6, 2) := by decide +kernel
theorem dL_law_2737 : decode cL_law 2737 = .ok (.i2l, 1) := by decide +kernel
theorem dL_law_2738 : decode cL_law 2738 = .ok (.lcmp, 1) := by decide +kernel
theorem dL_law_2739 : decode cL_law 2739 = .ok (.ifCond .eq 5, 3) := by decide +kernel
theorem dL_law_2744 : decode cL_law 2744 = .ok (.goto 518, 3) := by decide +kernel
theorem dL_law_2747 : decode cL_law 2747 = .ok (.aload_n 1, 1) := by decide +kernel
theorem dL_law_2748 : decode cL_law 2748 = .ok (.aload_n 0, 1) := by decide +kernel
theorem dL_law_2749 : decode cL_law 2749 = .ok (.iload 4, 2) := by decide +kernel
theorem dL_law_2751 : decode cL_law 2751 = .ok (.iconst 1, 1) := by decide +kernel
theorem dL_law_2752 : decode cL_law 2752 = .ok (.iadd, 1) := by decide +kernel
theorem dL_law_2753 : decode cL_law 2753 = .ok (.iaload, 1) := by decide +kernel
theorem dL_law_2754 : decode cL_law 2754 = .ok (.aload_n 0, 1) := by decide +kernel
theorem dL_law_2755 : decode cL_law 2755 = .ok (.iload 4, 2) := by decide +kernel
theorem dL_law_2757 : decode cL_law 2757 = .ok (.iconst 2, 1) := by decide +kernel
theorem dL_law_2758 : decode cL_law 2758 = .ok (.iadd, 1) := by decide +kernel
theorem dL_law_2759 : decode cL_law 2759 = .ok (.iaload, 1) := by decide +kernel
theorem dL_law_2760 : decode cL_law 2760 = .ok (.aload_n 3, 1) := by decide +kernel
theorem dL_law_2761 : decode cL_law 2761 = .ok (.invokestatic 325, 3) := by decide +kernel
theorem dL_law_2764 : decode cL_law 2764 = .ok (.istore 5, 2) := by decide +kernel
theorem dL_law_2766 : decode cL_law 2766 = .ok (.aload_n 2, 1) := by decide +kernel
theorem dL_law_2767 : decode cL_law 2767 = .ok (.aload_n 0, 1) := by decide +kernel
theorem dL_law_2768 : decode cL_law 2768 = .ok (.iload 4, 2) := by decide +kernel
theorem dL_law_2770 : decode cL_law 2770 = .ok (.iconst 1, 1) := by decide +kernel
theorem dL_law_2771 : decode cL_law 2771 = .ok (.iadd, 1) := by decide +kernel
theorem dL_law_2772 : decode cL_law 2772 = .ok (.iaload, 1) := by decide +kernel
theorem dL_law_2773 : decode cL_law 2773 = .ok (.aload_n 0, 1) := by decide +kernel
theorem dL_law_2774 : decode cL_law 2774 = .ok (.iload 4, 2) := by decide +kernel
theorem dL_law_2776 : decode cL_law 2776 = .ok (.iconst 2, 1) := by decide +kernel
theorem dL_law_2777 : decode cL_law 2777 = .ok (.iadd, 1) := by decide +kernel
theorem dL_law_2778 : decode cL_law 2778 = .ok (.iaload, 1) := by decide +kernel
theorem dL_law_2779 : decode cL_law 2779 = .ok (.invokevirtual 327, 3) := by decide +kernel
theorem dL_law_2782 : decode cL_law 2782 = .ok (.istore 6, 2) := by decide +kernel
theorem dL_law_2784 : decode cL_law 2784 = .ok (.aload_n 2, 1) := by decide +kernel
theorem dL_law_2785 : decode cL_law 2785 = .ok (.invokevirtual 161, 3) := by decide +kernel
theorem dL_law_2788 : decode cL_law 2788 = .ok (.iload 5, 2) := by decide +kernel
theorem dL_law_2790 : decode cL_law 2790 = .ok (.if_icmp .eq 5, 3) := by decide +kernel
theorem dL_law_2795 : decode cL_law 2795 = .ok (.iload 5, 2) := by decide +kernel
theorem dL_law_2797 : decode cL_law 2797 = .ok (.ifCond .ne 15, 3) := by decide +kernel
theorem dL_law_2800 : decode cL_law 2800 = .ok (.aload_n 3, 1) := by decide +kernel
theorem dL_law_2801 : decode cL_law 2801 = .ok (.iconst 0, 1) := by decide +kernel
theorem dL_law_2802 : decode cL_law 2802 = .ok (.laload, 1) := by decide +kernel
theorem dL_law_2803 : decode cL_law 2803 = .ok (.iload 6, 2) := by decide +kernel
theorem dL_law_2805 : decode cL_law 2805 = .ok (.i2l, 1) := by decide +kernel
theorem dL_law_2806 : decode cL_law 2806 = .ok (.lcmp, 1) := by decide +kernel
theorem dL_law_2807 : decode cL_law 2807 = .ok (.ifCond .eq 5, 3) := by decide +kernel
theorem dL_law_2812 : decode cL_law 2812 = .ok (.goto 450, 3) := by decide +kernel
theorem dL_law_2815 : decode cL_law 2815 = .ok (.aload_n 1, 1) := by decide +kernel
theorem dL_law_2816 : decode cL_law 2816 = .ok (.aload_n 0, 1) := by decide +kernel
theorem dL_law_2817 : decode cL_law 2817 = .ok (.iload 4, 2) := by decide +kernel
theorem dL_law_2819 : decode cL_law 2819 = .ok (.iconst 1, 1) := by decide +kernel
theorem dL_law_2820 : decode cL_law 2820 = .ok (.iadd, 1) := by decide +kernel
theorem dL_law_2821 : decode cL_law 2821 = .ok (.iaload, 1) := by decide +kernel
theorem dL_law_2822 : decode cL_law 2822 = .ok (.aload_n 3, 1) := by decide +kernel
theorem dL_law_2823 : decode cL_law 2823 = .ok (.invokestatic 328, 3) := by decide +kernel
theorem dL_law_2826 : decode cL_law 2826 = .ok (.istore 5, 2) := by decide +kernel
theorem dL_law_2828 : decode cL_law 2828 = .ok (.aload_n 2, 1) := by decide +kernel
theorem dL_law_2829 : decode cL_law 2829 = .ok (.aload_n 0, 1) := by decide +kernel
theorem dL_law_2830 : decode cL_law 2830 = .ok (.iload 4, 2) := by decide +kernel
theorem dL_law_2832 : decode cL_law 2832 = .ok (.iconst 1, 1) := by decide +kernel
theorem dL_law_2833 : decode cL_law 2833 = .ok (.iadd, 1) := by decide +kernel
theorem dL_law_2834 : decode cL_law 2834 = .ok (.iaload, 1) := by decide +kernel
theorem dL_law_2835 : decode cL_law 2835 = .ok (.invokevirtual 330, 3) := by decide +kernel
theorem dL_law_2838 : decode cL_law 2838 = .ok (.istore 6, 2) := by decide +kernel
theorem dL_law_2840 : decode cL_law 2840 = .ok (.aload_n 2, 1) := by decide +kernel
theorem dL_law_2841 : decode cL_law 2841 = .ok (.invokevirtual 161, 3) := by decide +kernel
theorem dL_law_2844 : decode cL_law 2844 = .ok (.iload 5, 2) := by decide +kernel
theorem dL_law_2846 : decode cL_law 2846 = .ok (.if_icmp .eq 5, 3) := by decide +kernel
theorem dL_law_2851 : decode cL_law 2851 = .ok (.iload 5, 2) := by decide +kernel
theorem dL_law_2853 : decode cL_law 2853 = .ok (.ifCond .ne 15, 3) := by decide +kernel
theorem dL_law_2856 : decode cL_law 2856 = .ok (.aload_n 3, 1) := by decide +kernel
theorem dL_law_2857 : decode cL_law 2857 = .ok (.iconst 0, 1) := by decide +kernel
theorem dL_law_2858 : decode cL_law 2858 = .ok (.laload, 1) := by decide +kernel
theorem dL_law_2859 : decode cL_law 2859 = .ok (.iload 6, 2) := by decide +kernel
theorem dL_law_2861 : decode cL_law 2861 = .ok (.i2l, 1) := by decide +kernel
theorem dL_law_2862 : decode cL_law 2862 = .ok (.lcmp, 1) := by decide +kernel
theorem dL_law_2863 : decode cL_law 2863 = .ok (.ifCond .eq 5, 3) := by decide +kernel
theorem dL_law_2868 : decode cL_law 2868 = .ok (.goto 394, 3) := by decide +kernel
theorem dL_law_2871 : decode cL_law 2871 = .ok (.aload_n 1, 1) := by decide +kernel
theorem dL_law_2872 : decode cL_law 2872 = .ok (.aload_n 0, 1) := by decide +kernel
theorem dL_law_2873 : decode cL_law 2873 = .ok (.iload 4, 2) := by decide +kernel
theorem dL_law_2875 : decode cL_law 2875 = .ok (.iconst 1, 1) := by decide +kernel
theorem dL_law_2876 : decode cL_law 2876 = .ok (.iadd, 1) := by decide +kernel
theorem dL_law_2877 : decode cL_law 2877 = .ok (.iaload, 1) := by decide +kernel
theorem dL_law_2878 : decode cL_law 2878 = .ok (.aload_n 0, 1) := by decide +kernel
theorem dL_law_2879 : decode cL_law 2879 = .ok (.iload 4, 2) := by decide +kernel
theorem dL_law_2881 : decode cL_law 2881 = .ok (.iconst 2, 1) := by decide +kernel
theorem dL_law_2882 : decode cL_law 2882 = .ok (.iadd, 1) := by decide +kernel
theorem dL_law_2883 : decode cL_law 2883 = .ok (.iaload, 1) := by decide +kernel
theorem dL_law_2884 : decode cL_law 2884 = .ok (.aload_n 0, 1) := by decide +kernel
theorem dL_law_2885 : decode cL_law 2885 = .ok (.iload 4, 2) := by decide +kernel
theorem dL_law_2887 : decode cL_law 2887 = .ok (.iconst 3, 1) := by decide +kernel
theorem dL_law_2888 : decode cL_law 2888 = .ok (.iadd, 1) := by decide +kernel
theorem dL_law_2889 : decode cL_law 2889 = .ok (.iaload, 1) := by decide +kernel
theorem dL_law_2890 : decode cL_law 2890 = .ok (.aload_n 3, 1) := by decide +kernel
theorem dL_law_2891 : decode cL_law 2891 = .ok (.invokestatic 331, 3) := by decide +kernel
theorem dL_law_2894 : decode cL_law 2894 = .ok (.istore 5, 2) := by decide +kernel
theorem dL_law_2896 : decode cL_law 2896 = .ok (.aload_n 2, 1) := by decide +kernel
theorem dL_law_2897 : decode cL_law 2897 = .ok (.aload_n 0, 1) := by decide +kernel
theorem dL_law_2898 : decode cL_law 2898 = .ok (.iload 4, 2) := by decide +kernel
theorem dL_law_2900 : decode cL_law 2900 = .ok (.iconst 1, 1) := by decide +kernel
theorem dL_law_2901 : decode cL_law 2901 = .ok (.iadd, 1) := by decide +kernel
theorem dL_law_2902 : decode cL_law 2902 = .ok (.iaload, 1) := by decide +kernel
theorem dL_law_2903 : decode cL_law 2903 = .ok (.aload_n 0, 1) := by decide +kernel
theorem dL_law_2904 : decode cL_law 2904 = .ok (.iload 4, 2) := by decide +kernel
theorem dL_law_2906 : decode cL_law 2906 = .ok (.iconst 2, 1) := by decide +kernel
theorem dL_law_2907 : decode cL_law 2907 = .ok (.iadd, 1) := by decide +kernel
theorem dL_law_2908 : decode cL_law 2908 = .ok (.iaload, 1) := by decide +kernel
theorem dL_law_2909 : decode cL_law 2909 = .ok (.aload_n 0, 1) := by decide +kernel
theorem dL_law_2910 : decode cL_law 2910 = .ok (.iload 4, 2) := by decide +kernel
theorem dL_law_2912 : decode cL_law 2912 = .ok (.iconst 3, 1) := by decide +kernel
theorem dL_law_2913 : decode cL_law 2913 = .ok (.iadd, 1) := by decide +kernel
theorem dL_law_2914 : decode cL_law 2914 = .ok (.iaload, 1) := by decide +kernel
theorem dL_law_2915 : decode cL_law 2915 = .ok (.invokevirtual 334, 3) := by decide +kernel
theorem dL_law_2918 : decode cL_law 2918 = .ok (.istore 6, 2) := by decide +kernel
theorem dL_law_2920 : decode cL_law 2920 = .ok (.aload_n 2, 1) := by decide +kernel
theorem dL_law_2921 : decode cL_law 2921 = .ok (.invokevirtual 161, 3) := by decide +kernel
theorem dL_law_2924 : decode cL_law 2924 = .ok (.iload 5, 2) := by decide +kernel
theorem dL_law_2926 : decode cL_law 2926 = .ok (.if_icmp .eq 5, 3) := by decide +kernel
theorem dL_law_2931 : decode cL_law 2931 = .ok (.iload 5, 2) := by decide +kernel
theorem dL_law_2933 : decode cL_law 2933 = .ok (.ifCond .ne 15, 3) := by decide +kernel
theorem dL_law_2936 : decode cL_law 2936 = .ok (.aload_n 3, 1) := by decide +kernel
theorem dL_law_2937 : decode cL_law 2937 = .ok (.iconst 0, 1) := by decide +kernel
theorem dL_law_2938 : decode cL_law 2938 = .ok (.laload, 1) := by decide +kernel
theorem dL_law_2939 : decode cL_law 2939 = .ok (.iload 6, 2) := by decide +kernel
theorem dL_law_2941 : decode cL_law 2941 = .ok (.i2l, 1) := by decide +kernel
theorem dL_law_2942 : decode cL_law 2942 = .ok (.lcmp, 1) := by decide +kernel
theorem dL_law_2943 : decode cL_law 2943 = .ok (.ifCond .eq 5, 3) := by decide +kernel
theorem dL_law_2948 : decode cL_law 2948 = .ok (.goto 314, 3) := by decide +kernel
theorem dL_law_2951 : decode cL_law 2951 = .ok (.aload_n 1, 1) := by decide +kernel
theorem dL_law_2952 : decode cL_law 2952 = .ok (.aload_n 0, 1) := by decide +kernel
theorem dL_law_2953 : decode cL_law 2953 = .ok (.iload 4, 2) := by decide +kernel
theorem dL_law_2955 : decode cL_law 2955 = .ok (.iconst 1, 1) := by decide +kernel
theorem dL_law_2956 : decode cL_law 2956 = .ok (.iadd, 1) := by decide +kernel
theorem dL_law_2957 : decode cL_law 2957 = .ok (.iaload, 1) := by decide +kernel
theorem dL_law_2958 : decode cL_law 2958 = .ok (.aload_n 0, 1) := by decide +kernel
theorem dL_law_2959 : decode cL_law 2959 = .ok (.iload 4, 2) := by decide +kernel
theorem dL_law_2961 : decode cL_law 2961 = .ok (.iconst 2, 1) := by decide +kernel
theorem dL_law_2962 : decode cL_law 2962 = .ok (.iadd, 1) := by decide +kernel
theorem dL_law_2963 : decode cL_law 2963 = .ok (.iaload, 1) := by decide +kernel
theorem dL_law_2964 : decode cL_law 2964 = .ok (.aload_n 3, 1) := by decide +kernel
theorem dL_law_2965 : decode cL_law 2965 = .ok (.invokestatic 335, 3) := by decide +kernel
theorem dL_law_2968 : decode cL_law 2968 = .ok (.istore 5, 2) := by decide +kernel
theorem dL_law_2970 : decode cL_law 2970 = .ok (.aload_n 2, 1) := by decide +kernel
theorem dL_law_2971 : decode cL_law 2971 = .ok (.aload_n 0, 1) := by decide +kernel
theorem dL_law_2972 : decode cL_law 2972 = .ok (.iload 4, 2) := by decide +kernel
theorem dL_law_2974 : decode cL_law 2974 = .ok (.iconst 1, 1) := by decide +kernel
theorem dL_law_2975 : decode cL_law 2975 = .ok (.iadd, 1) := by decide +kernel
theorem dL_law_2976 : decode cL_law 2976 = .ok (.iaload, 1) := by decide +kernel
theorem dL_law_2977 : decode cL_law 2977 = .ok (.aload_n 0, 1) := by decide +kernel
theorem dL_law_2978 : decode cL_law 2978 = .ok (.iload 4, 2) := by decide +kernel
theorem dL_law_2980 : decode cL_law 2980 = .ok (.iconst 2, 1) := by decide +kernel
theorem dL_law_2981 : decode cL_law 2981 = .ok (.iadd, 1) := by decide +kernel
theorem dL_law_2982 : decode cL_law 2982 = .ok (.iaload, 1) := by decide +kernel
theorem dL_law_2983 : decode cL_law 2983 = .ok (.invokevirtual 337, 3) := by decide +kernel
theorem dL_law_2986 : decode cL_law 2986 = .ok (.istore 6, 2) := by decide +kernel
theorem dL_law_2988 : decode cL_law 2988 = .ok (.aload_n 2, 1) := by decide +kernel
theorem dL_law_2989 : decode cL_law 2989 = .ok (.invokevirtual 161, 3) := by decide +kernel
theorem dL_law_2992 : decode cL_law 2992 = .ok (.iload 5, 2) := by decide +kernel
theorem dL_law_2994 : decode cL_law 2994 = .ok (.if_icmp .eq 5, 3) := by decide +kernel
theorem dL_law_2999 : decode cL_law 2999 = .ok (.iload 5, 2) := by decide +kernel
theorem dL_law_3001 : decode cL_law 3001 = .ok (.ifCond .ne 15, 3) := by decide +kernel
theorem dL_law_3004 : decode cL_law 3004 = .ok (.aload_n 3, 1) := by decide +kernel
theorem dL_law_3005 : decode cL_law 3005 = .ok (.iconst 0, 1) := by decide +kernel
theorem dL_law_3006 : decode cL_law 3006 = .ok (.laload, 1) := by decide +kernel
theorem dL_law_3007 : decode cL_law 3007 = .ok (.iload 6, 2) := by decide +kernel
theorem dL_law_3009 : decode cL_law 3009 = .ok (.i2l, 1) := by decide +kernel
theorem dL_law_3010 : decode cL_law 3010 = .ok (.lcmp, 1) := by decide +kernel
theorem dL_law_3011 : decode cL_law 3011 = .ok (.ifCond .eq 5, 3) := by decide +kernel
theorem dL_law_3016 : decode cL_law 3016 = .ok (.goto 246, 3) := by decide +kernel
theorem dL_law_3019 : decode cL_law 3019 = .ok (.aload_n 1, 1) := by decide +kernel
theorem dL_law_3020 : decode cL_law 3020 = .ok (.invokevirtual 338, 3) := by decide +kernel
theorem dL_law_3023 : decode cL_law 3023 = .ok (.aload_n 2, 1) := by decide +kernel
theorem dL_law_3024 : decode cL_law 3024 = .ok (.invokevirtual 341, 3) := by decide +kernel
theorem dL_law_3027 : decode cL_law 3027 = .ok (.if_icmp .eq 235, 3) := by decide +kernel
theorem dL_law_3032 : decode cL_law 3032 = .ok (.aload_n 1, 1) := by decide +kernel
theorem dL_law_3033 : decode cL_law 3033 = .ok (.invokevirtual 342, 3) := by decide +kernel
theorem dL_law_3036 : decode cL_law 3036 = .ok (.aload_n 2, 1) := by decide +kernel
theorem dL_law_3037 : decode cL_law 3037 = .ok (.invokevirtual 345, 3) := by decide +kernel
theorem dL_law_3040 : decode cL_law 3040 = .ok (.if_icmp .eq 222, 3) := by decide +kernel
theorem lo_isBlocked {σ τ : Sig} (a0 : Int32) (h : Rl σ τ) : OKx [2] (f11_isBlocked a0 σ) (f12_isBlocked a0 τ) := by
  have e1 : xg σ 8 (σ 9) = σ := xg_self σ 8
  have e2 : mr τ (τ 0 1) = τ := mr_self τ
  have q := ok_isBlocked (σ := σ) (τ := τ) (G := σ 9) (w := τ 0 1) a0 (by rw [e1, e2]; exact h)
  rw [e1, e2] at q
  exact q
theorem mz_319 : MWz 319 yL_isBlocked cL_isBlocked 4 [(0, 16, 19, 19)] 3 := ⟨gw_t (tin6 (List.mem_of_getElem? (i := 207) rfl)) rfl, gw_t (tin6 (List.mem_of_getElem? (i := 208) rfl)) rfl, gw_t (tin1 (List.mem_of_getElem? (i := 0) rfl)) rfl, gw_t (tin6 (List.mem_of_getElem? (i := 209) rfl)) rfl, by decide, by decide, by decide +kernel⟩
theorem mz_321 : MWv RL 321 yX12_isBlocked cX12_isBlocked 2 (some .boolean) 1 := ⟨gw_t (tin9 (List.mem_of_getElem? (i := 97) rfl)) rfl, gw_t (tin9 (List.mem_of_getElem? (i := 98) rfl)) rfl, gw_t (tin9 (List.mem_of_getElem? (i := 99) rfl)) rfl, gw_t (tin1 (List.mem_of_getElem? (i := 19) rfl)) rfl, gw_t (tin9 (List.mem_of_getElem? (i := 100) rfl)) rfl, by decide, by decide, by decide +kernel⟩
theorem lo_whyRefused {σ τ : Sig} (a0 a1 : Int32) (h : Rl σ τ) : OKx [2] (f11_whyRefused a0 a1 σ) (f12_whyRefused a0 a1 τ) := by
  have e1 : xg σ 8 (σ 9) = σ := xg_self σ 8
  have e2 : mr τ (τ 0 1) = τ := mr_self τ
  have q := ok_whyRefused (σ := σ) (τ := τ) (G := σ 9) (w := τ 0 1) a0 a1 (by rw [e1, e2]; exact h)
  rw [e1, e2] at q
  exact q
theorem mz_322 : MWz 322 yL_whyRefused cL_whyRefused 5 [(0, 10, 13, 19)] 4 := ⟨gw_t (tin6 (List.mem_of_getElem? (i := 214) rfl)) rfl, gw_t (tin6 (List.mem_of_getElem? (i := 215) rfl)) rfl, gw_t (tin1 (List.mem_of_getElem? (i := 0) rfl)) rfl, gw_t (tin6 (List.mem_of_getElem? (i := 216) rfl)) rfl, by decide, by decide, by decide +kernel⟩
theorem mz_324 : MWv RL 324 yX12_whyRefused cX12_whyRefused 3 (some .int) 2 := ⟨gw_t (tin9 (List.mem_of_getElem? (i := 101) rfl)) rfl, gw_t (tin9 (List.mem_of_getElem? (i := 102) rfl)) rfl, gw_t (tin9 (List.mem_of_getElem? (i := 103) rfl)) rfl, gw_t (tin1 (List.mem_of_getElem? (i := 19) rfl)) rfl, gw_t (tin9 (List.mem_of_getElem? (i := 104) rfl)) rfl, by decide, by decide, by decide +kernel⟩
theorem lo_sign {σ τ : Sig} (a0 a1 : Int32) (h : Rl σ τ) : OKx [2] (f11_sign a0 a1 σ) (f12_sign a0 a1 τ) := by
  have e1 : xg σ 8 (σ 9) = σ := xg_self σ 8
  have e2 : mr τ (τ 0 1) = τ := mr_self τ
  have q := ok_sign (σ := σ) (τ := τ) (G := σ 9) (w := τ 0 1) a0 a1 (by rw [e1, e2]; exact h)
  rw [e1, e2] at q
  exact q
theorem mz_325 : MWz 325 yL_sign cL_sign 5 [(0, 10, 13, 19)] 4 := ⟨gw_t (tin6 (List.mem_of_getElem? (i := 222) rfl)) rfl, gw_t (tin6 (List.mem_of_getElem? (i := 223) rfl)) rfl, gw_t (tin1 (List.mem_of_getElem? (i := 0) rfl)) rfl, gw_t (tin6 (List.mem_of_getElem? (i := 224) rfl)) rfl, by decide, by decide, by decide +kernel⟩
theorem mz_327 : MWv RL 327 yX12_sign cX12_sign 4 (some .int) 2 := ⟨gw_t (tin9 (List.mem_of_getElem? (i := 105) rfl)) rfl, gw_t (tin9 (List.mem_of_getElem? (i := 106) rfl)) rfl, gw_t (tin9 (List.mem_of_getElem? (i := 107) rfl)) rfl, gw_t (tin1 (List.mem_of_getElem? (i := 19) rfl)) rfl, gw_t (tin9 (List.mem_of_getElem? (i := 108) rfl)) rfl, by decide, by decide, by decide +kernel⟩
theorem lo_bedsFor {σ τ : Sig} (a0 : Int32) (h : Rl σ τ) : OKx [2] (f11_bedsFor a0 σ) (f12_bedsFor a0 τ) := by
  have e1 : xg σ 8 (σ 9) = σ := xg_self σ 8
  have e2 : mr τ (τ 0 1) = τ := mr_self τ
  have q := ok_bedsFor (σ := σ) (τ := τ) (G := σ 9) (w := τ 0 1) a0 (by rw [e1, e2]; exact h)
  rw [e1, e2] at q
  exact q
theorem mz_328 : MWz 328 yL_bedsFor cL_bedsFor 4 [(0, 9, 12, 19)] 3 := ⟨gw_t (tin6 (List.mem_of_getElem? (i := 229) rfl)) rfl, gw_t (tin6 (List.mem_of_getElem? (i := 230) rfl)) rfl, gw_t (tin1 (List.mem_of_getElem? (i := 0) rfl)) rfl, gw_t (tin6 (List.mem_of_getElem? (i := 231) rfl)) rfl, by decide, by decide, by decide +kernel⟩
theorem mz_330 : MWv RL 330 yX12_bedsFor cX12_bedsFor 4 (some .int) 1 := ⟨gw_t (tin9 (List.mem_of_getElem? (i := 109) rfl)) rfl, gw_t (tin9 (List.mem_of_getElem? (i := 110) rfl)) rfl, gw_t (tin9 (List.mem_of_getElem? (i := 111) rfl)) rfl, gw_t (tin1 (List.mem_of_getElem? (i := 19) rfl)) rfl, gw_t (tin9 (List.mem_of_getElem? (i := 112) rfl)) rfl, by decide, by decide, by decide +kernel⟩
theorem lo_quote {σ τ : Sig} (a0 a1 a2 : Int32) (h : Rl σ τ) : OKx [1] (f11_quote a0 a1 a2 σ) (f12_quote a0 a1 a2 τ) := by
  have e1 : xg σ 8 (σ 9) = σ := xg_self σ 8
  have e2 : mr τ (τ 0 1) = τ := mr_self τ
  have q := ok_quote (σ := σ) (τ := τ) (G := σ 9) (w := τ 0 1) a0 a1 a2 (by rw [e1, e2]; exact h)
  rw [e1, e2] at q
  exact q
theorem mz_331 : MWz 331 yL_quote cL_quote 6 [(0, 12, 15, 13)] 5 := ⟨gw_t (tin7 (List.mem_of_getElem? (i := 0) rfl)) rfl, gw_t (tin7 (List.mem_of_getElem? (i := 1) rfl)) rfl, gw_t (tin1 (List.mem_of_getElem? (i := 0) rfl)) rfl, gw_t (tin7 (List.mem_of_getElem? (i := 2) rfl)) rfl, by decide, by decide, by decide +kernel⟩
theorem mz_334 : MWv RL 334 yX12_quote cX12_quote 4 (some .int) 3 := ⟨gw_t (tin9 (List.mem_of_getElem? (i := 113) rfl)) rfl, gw_t (tin9 (List.mem_of_getElem? (i := 114) rfl)) rfl, gw_t (tin9 (List.mem_of_getElem? (i := 115) rfl)) rfl, gw_t (tin1 (List.mem_of_getElem? (i := 19) rfl)) rfl, gw_t (tin9 (List.mem_of_getElem? (i := 116) rfl)) rfl, by decide, by decide, by decide +kernel⟩
theorem lo_fineFor {σ τ : Sig} (a0 a1 : Int32) (h : Rl σ τ) : OKx [2, 1] (f11_fineFor a0 a1 σ) (f12_fineFor a0 a1 τ) := by
  have e1 : xg σ 8 (σ 9) = σ := xg_self σ 8
  have e2 : mr τ (τ 0 1) = τ := mr_self τ
  have q := ok_fineFor (σ := σ) (τ := τ) (G := σ 9) (w := τ 0 1) a0 a1 (by rw [e1, e2]; exact h)
  rw [e1, e2] at q
  exact q
theorem mz_335 : MWz 335 yL_fineFor cL_fineFor 5 [(0, 10, 13, 19), (0, 10, 17, 13)] 4 := ⟨gw_t (tin7 (List.mem_of_getElem? (i := 8) rfl)) rfl, gw_t (tin7 (List.mem_of_getElem? (i := 9) rfl)) rfl, gw_t (tin1 (List.mem_of_getElem? (i := 0) rfl)) rfl, gw_t (tin7 (List.mem_of_getElem? (i := 10) rfl)) rfl, by decide, by decide, by decide +kernel⟩
theorem mz_337 : MWv RL 337 yX12_fineFor cX12_fineFor 3 (some .int) 2 := ⟨gw_t (tin9 (List.mem_of_getElem? (i := 117) rfl)) rfl, gw_t (tin9 (List.mem_of_getElem? (i := 118) rfl)) rfl, gw_t (tin9 (List.mem_of_getElem? (i := 119) rfl)) rfl, gw_t (tin1 (List.mem_of_getElem? (i := 19) rfl)) rfl, gw_t (tin9 (List.mem_of_getElem? (i := 120) rfl)) rfl, by decide, by decide, by decide +kernel⟩
theorem lo_takings {σ τ : Sig} (h : Rl σ τ) : OKp σ (f11_takings σ) (f12_takings τ) := by
  have e1 : xg σ 8 (σ 9) = σ := xg_self σ 8
  have e2 : mr τ (τ 0 1) = τ := mr_self τ
  have q := ok_takings (σ := σ) (τ := τ) (G := σ 9) (w := τ 0 1) (by rw [e1, e2]; exact h)
  rw [e1, e2] at q
  exact q
theorem mz_338 : MWv RL 338 yX11_takings cX11_takings 1 (some .int) 0 := ⟨gw_t (tin4 (List.mem_of_getElem? (i := 159) rfl)) rfl, gw_t (tin4 (List.mem_of_getElem? (i := 160) rfl)) rfl, gw_t (tin4 (List.mem_of_getElem? (i := 161) rfl)) rfl, gw_t (tin1 (List.mem_of_getElem? (i := 1) rfl)) rfl, gw_t (tin4 (List.mem_of_getElem? (i := 162) rfl)) rfl, by decide, by decide, by decide +kernel⟩
theorem mz_341 : MWv RL 341 yX12_takings cX12_takings 1 (some .int) 0 := ⟨gw_t (tin9 (List.mem_of_getElem? (i := 121) rfl)) rfl, gw_t (tin9 (List.mem_of_getElem? (i := 122) rfl)) rfl, gw_t (tin9 (List.mem_of_getElem? (i := 123) rfl)) rfl, gw_t (tin1 (List.mem_of_getElem? (i := 19) rfl)) rfl, gw_t (tin9 (List.mem_of_getElem? (i := 124) rfl)) rfl, by decide, by decide, by decide +kernel⟩
theorem lo_refunds {σ τ : Sig} (h : Rl σ τ) : OKp σ (f11_refunds σ) (f12_refunds τ) := by
  have e1 : xg σ 8 (σ 9) = σ := xg_self σ 8
  have e2 : mr τ (τ 0 1) = τ := mr_self τ
  have q := ok_refunds (σ := σ) (τ := τ) (G := σ 9) (w := τ 0 1) (by rw [e1, e2]; exact h)
  rw [e1, e2] at q
  exact q
theorem mz_342 : MWv RL 342 yX11_refunds cX11_refunds 1 (some .int) 0 := ⟨gw_t (tin4 (List.mem_of_getElem? (i := 163) rfl)) rfl, gw_t (tin4 (List.mem_of_getElem? (i := 164) rfl)) rfl, gw_t (tin4 (List.mem_of_getElem? (i := 165) rfl)) rfl, gw_t (tin1 (List.mem_of_getElem? (i := 1) rfl)) rfl, gw_t (tin4 (List.mem_of_getElem? (i := 166) rfl)) rfl, by decide, by decide, by decide +kernel⟩
theorem mz_345 : MWv RL 345 yX12_refunds cX12_refunds 1 (some .int) 0 := ⟨gw_t (tin9 (List.mem_of_getElem? (i := 125) rfl)) rfl, gw_t (tin9 (List.mem_of_getElem? (i := 126) rfl)) rfl, gw_t (tin9 (List.mem_of_getElem? (i := 127) rfl)) rfl, gw_t (tin1 (List.mem_of_getElem? (i := 19) rfl)) rfl, gw_t (tin9 (List.mem_of_getElem? (i := 128) rfl)) rfl, by decide, by decide, by decide +kernel⟩
