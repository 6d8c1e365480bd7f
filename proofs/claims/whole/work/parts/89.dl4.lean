theorem dL_law__2684 : decode cL_law_ 2684 = .ok (.aload_n 2, 1) := by decide +kernel
theorem dL_law__2685 : decode cL_law_ 2685 = .ok (.aload_n 0, 1) := by decide +kernel
theorem dL_law__2686 : decode cL_law_ 2686 = .ok (.iload 4, 2) := by decide +kernel
theorem dL_law__2688 : decode cL_law_ 2688 = .ok (.iconst 1, 1) := by decide +kernel
theorem dL_law__2689 : decode cL_law_ 2689 = .ok (.iadd, 1) := by decide +kernel
theorem dL_law__2690 : decode cL_law_ 2690 = .ok (.iaload, 1) := by decide +kernel
theorem dL_law__2691 : decode cL_law_ 2691 = .ok (.ifCond .eq 7, 3) := by decide +kernel
theorem dL_law__2694 : decode cL_law_ 2694 = .ok (.iconst 1, 1) := by decide +kernel
theorem dL_law__2695 : decode cL_law_ 2695 = .ok (.goto 4, 3) := by decide +kernel
theorem dL_law__2698 : decode cL_law_ 2698 = .ok (.iconst 0, 1) := by decide +kernel
theorem dL_law__2699 : decode cL_law_ 2699 = .ok (.invokevirtual 306, 3) := by decide +kernel
theorem dL_law__2702 : decode cL_law_ 2702 = .ok (.if_icmp .eq 562, 3) := by decide +kernel
theorem dL_law__2705 : decode cL_law_ 2705 = .ok (.iconst 0, 1) := by decide +kernel
theorem dL_law__2706 : decode cL_law_ 2706 = .ok (.ireturn, 1) := by decide +kernel
theorem dL_law__2707 : decode cL_law_ 2707 = .ok (.aload_n 1, 1) := by decide +kernel
theorem dL_law__2708 : decode cL_law_ 2708 = .ok (.invokevirtual 307, 3) := by decide +kernel
theorem dL_law__2711 : decode cL_law_ 2711 = .ok (.aload_n 2, 1) := by decide +kernel
theorem dL_law__2712 : decode cL_law_ 2712 = .ok (.invokevirtual 310, 3) := by decide +kernel
theorem dL_law__2715 : decode cL_law_ 2715 = .ok (.if_icmp .eq 549, 3) := by decide +kernel
theorem dL_law__2718 : decode cL_law_ 2718 = .ok (.iconst 0, 1) := by decide +kernel
theorem dL_law__2719 : decode cL_law_ 2719 = .ok (.ireturn, 1) := by decide +kernel
theorem dL_law__2720 : decode cL_law_ 2720 = .ok (.aload_n 1, 1) := by decide +kernel
theorem dL_law__2721 : decode cL_law_ 2721 = .ok (.aload_n 0, 1) := by decide +kernel
theorem dL_law__2722 : decode cL_law_ 2722 = .ok (.iload 4, 2) := by decide +kernel
theorem dL_law__2724 : decode cL_law_ 2724 = .ok (.iconst 1, 1) := by decide +kernel
theorem dL_law__2725 : decode cL_law_ 2725 = .ok (.iadd, 1) := by decide +kernel
theorem dL_law__2726 : decode cL_law_ 2726 = .ok (.iaload, 1) := by decide +kernel
theorem dL_law__2727 : decode cL_law_ 2727 = .ok (.aload_n 3, 1) := by decide +kernel
theorem dL_law__2728 : decode cL_law_ 2728 = .ok (.invokestatic 311, 3) := by decide +kernel
theorem dL_law__2731 : decode cL_law_ 2731 = .ok (.istore 5, 2) := by decide +kernel
theorem dL_law__2733 : decode cL_law_ 2733 = .ok (.aload_n 2, 1) := by decide +kernel
theorem dL_law__2734 : decode cL_law_ 2734 = .ok (.aload_n 0, 1) := by decide +kernel
theorem dL_law__2735 : decode cL_law_ 2735 = .ok (.iload 4, 2) := by decide +kernel
theorem dL_law__2737 : decode cL_law_ 2737 = .ok (.iconst 1, 1) := by decide +kernel
theorem dL_law__2738 : decode cL_law_ 2738 = .ok (.iadd, 1) := by decide +kernel
theorem dL_law__2739 : decode cL_law_ 2739 = .ok (.iaload, 1) := by decide +kernel
theorem dL_law__2740 : decode cL_law_ 2740 = .ok (.invokevirtual 313, 3) := by decide +kernel
theorem dL_law__2743 : decode cL_law_ 2743 = .ok (.istore 6, 2) := by decide +kernel
theorem dL_law__2745 : decode cL_law_ 2745 = .ok (.aload_n 2, 1) := by decide +kernel
theorem dL_law__2746 : decode cL_law_ 2746 = .ok (.invokevirtual 167, 3) := by decide +kernel
theorem dL_law__2749 : decode cL_law_ 2749 = .ok (.iload 5, 2) := by decide +kernel
theorem dL_law__2751 : decode cL_law_ 2751 = .ok (.if_icmp .eq 5, 3) := by decide +kernel
theorem dL_law__2754 : decode cL_law_ 2754 = .ok (.iconst 0, 1) := by decide +kernel
theorem dL_law__2755 : decode cL_law_ 2755 = .ok (.ireturn, 1) := by decide +kernel
theorem dL_law__2756 : decode cL_law_ 2756 = .ok (.iload 5, 2) := by decide +kernel
theorem dL_law__2758 : decode cL_law_ 2758 = .ok (.ifCond .ne 15, 3) := by decide +kernel
theorem dL_law__2761 : decode cL_law_ 2761 = .ok (.aload_n 3, 1) := by decide +kernel
theorem dL_law__2762 : decode cL_law_ 2762 = .ok (.iconst 0, 1) := by decide +kernel
theorem dL_law__2763 : decode cL_law_ 2763 = .ok (.laload, 1) := by decide +kernel
theorem dL_law__2764 : decode cL_law_ 2764 = .ok (.iload 6, 2) := by decide +kernel
theorem dL_law__2766 : decode cL_law_ 2766 = .ok (.i2l, 1) := by decide +kernel
theorem dL_law__2767 : decode cL_law_ 2767 = .ok (.lcmp, 1) := by decide +kernel
theorem dL_law__2768 : decode cL_law_ 2768 = .ok (.ifCond .eq 5, 3) := by decide +kernel
theorem dL_law__2771 : decode cL_law_ 2771 = .ok (.iconst 0, 1) := by decide +kernel
theorem dL_law__2772 : decode cL_law_ 2772 = .ok (.ireturn, 1) := by decide +kernel
theorem dL_law__2773 : decode cL_law_ 2773 = .ok (.goto 491, 3) := by decide +kernel
theorem dL_law__2776 : decode cL_law_ 2776 = .ok (.aload_n 1, 1) := by decide +kernel
theorem dL_law__2777 : decode cL_law_ 2777 = .ok (.invokevirtual 314, 3) := by decide +kernel
theorem dL_law__2780 : decode cL_law_ 2780 = .ok (.aload_n 2, 1) := by decide +kernel
theorem dL_law__2781 : decode cL_law_ 2781 = .ok (.invokevirtual 317, 3) := by decide +kernel
theorem dL_law__2784 : decode cL_law_ 2784 = .ok (.if_icmp .eq 480, 3) := by decide +kernel
theorem dL_law__2787 : decode cL_law_ 2787 = .ok (.iconst 0, 1) := by decide +kernel
theorem dL_law__2788 : decode cL_law_ 2788 = .ok (.ireturn, 1) := by decide +kernel
theorem dL_law__2789 : decode cL_law_ 2789 = .ok (.aload_n 1, 1) := by decide +kernel
theorem dL_law__2790 : decode cL_law_ 2790 = .ok (.aload_n 0, 1) := by decide +kernel
theorem dL_law__2791 : decode cL_law_ 2791 = .ok (.iload 4, 2) := by decide +kernel
theorem dL_law__2793 : decode cL_law_ 2793 = .ok (.iconst 1, 1) := by decide +kernel
theorem dL_law__2794 : decode cL_law_ 2794 = .ok (.iadd, 1) := by decide +kernel
theorem dL_law__2795 : decode cL_law_ 2795 = .ok (.iaload, 1) := by decide +kernel
theorem dL_law__2796 : decode cL_law_ 2796 = .ok (.aload_n 0, 1) := by decide +kernel
theorem dL_law__2797 : decode cL_law_ 2797 = .ok (.iload 4, 2) := by decide +kernel
theorem dL_law__2799 : decode cL_law_ 2799 = .ok (.iconst 2, 1) := by decide +kernel
theorem dL_law__2800 : decode cL_law_ 2800 = .ok (.iadd, 1) := by decide +kernel
theorem dL_law__2801 : decode cL_law_ 2801 = .ok (.iaload, 1) := by decide +kernel
theorem dL_law__2802 : decode cL_law_ 2802 = .ok (.aload_n 3, 1) := by decide +kernel
theorem dL_law__2803 : decode cL_law_ 2803 = .ok (.invokestatic 318, 3) := by decide +kernel
theorem dL_law__2806 : decode cL_law_ 2806 = .ok (.istore 5, 2) := by decide +kernel
theorem dL_law__2808 : decode cL_law_ 2808 = .ok (.aload_n 2, 1) := by decide +kernel
theorem dL_law__2809 : decode cL_law_ 2809 = .ok (.aload_n 0, 1) := by decide +kernel
theorem dL_law__2810 : decode cL_law_ 2810 = .ok (.iload 4, 2) := by decide +kernel
theorem dL_law__2812 : decode cL_law_ 2812 = .ok (.iconst 1, 1) := by decide +kernel
theorem dL_law__2813 : decode cL_law_ 2813 = .ok (.iadd, 1) := by decide +kernel
theorem dL_law__2814 : decode cL_law_ 2814 = .ok (.iaload, 1) := by decide +kernel
theorem dL_law__2815 : decode cL_law_ 2815 = .ok (.aload_n 0, 1) := by decide +kernel
theorem dL_law__2816 : decode cL_law_ 2816 = .ok (.iload 4, 2) := by decide +kernel
theorem dL_law__2818 : decode cL_law_ 2818 = .ok (.iconst 2, 1) := by decide +kernel
theorem dL_law__2819 : decode cL_law_ 2819 = .ok (.iadd, 1) := by decide +kernel
theorem dL_law__2820 : decode cL_law_ 2820 = .ok (.iaload, 1) := by decide +kernel
theorem dL_law__2821 : decode cL_law_ 2821 = .ok (.invokevirtual 320, 3) := by decide +kernel
theorem dL_law__2824 : decode cL_law_ 2824 = .ok (.istore 6, 2) := by decide +kernel
theorem dL_law__2826 : decode cL_law_ 2826 = .ok (.aload_n 2, 1) := by decide +kernel
theorem dL_law__2827 : decode cL_law_ 2827 = .ok (.invokevirtual 167, 3) := by decide +kernel
theorem dL_law__2830 : decode cL_law_ 2830 = .ok (.iload 5, 2) := by decide +kernel
theorem dL_law__2832 : decode cL_law_ 2832 = .ok (.if_icmp .eq 5, 3) := by decide +kernel
theorem dL_law__2835 : decode cL_law_ 2835 = .ok (.iconst 0, 1) := by decide +kernel
theorem dL_law__2836 : decode cL_law_ 2836 = .ok (.ireturn, 1) := by decide +kernel
theorem dL_law__2837 : decode cL_law_ 2837 = .ok (.iload 5, 2) := by decide +kernel
theorem dL_law__2839 : decode cL_law_ 2839 = .ok (.ifCond .ne 15, 3) := by decide +kernel
theorem dL_law__2842 : decode cL_law_ 2842 = .ok (.aload_n 3, 1) := by decide +kernel
theorem dL_law__2843 : decode cL_law_ 2843 = .ok (.iconst 0, 1) := by decide +kernel
theorem dL_law__2844 : decode cL_law_ 2844 = .ok (.laload, 1) := by decide +kernel
theorem dL_law__2845 : decode cL_law_ 2845 = .ok (.iload 6, 2) := by decide +kernel
theorem dL_law__2847 : decode cL_law_ 2847 = .ok (.i2l, 1) := by decide +kernel
theorem dL_law__2848 : decode cL_law_ 2848 = .ok (.lcmp, 1) := by decide +kernel
theorem dL_law__2849 : decode cL_law_ 2849 = .ok (.ifCond .eq 5, 3) := by decide +kernel
theorem dL_law__2852 : decode cL_law_ 2852 = .ok (.iconst 0, 1) := by decide +kernel
theorem dL_law__2853 : decode cL_law_ 2853 = .ok (.ireturn, 1) := by decide +kernel
theorem dL_law__2854 : decode cL_law_ 2854 = .ok (.goto 410, 3) := by decide +kernel
theorem dL_law__2857 : decode cL_law_ 2857 = .ok (.aload_n 1, 1) := by decide +kernel
theorem dL_law__2858 : decode cL_law_ 2858 = .ok (.aload_n 0, 1) := by decide +kernel
theorem dL_law__2859 : decode cL_law_ 2859 = .ok (.iload 4, 2) := by decide +kernel
theorem dL_law__2861 : decode cL_law_ 2861 = .ok (.iconst 1, 1) := by decide +kernel
theorem dL_law__2862 : decode cL_law_ 2862 = .ok (.iadd, 1) := by decide +kernel
theorem dL_law__2863 : decode cL_law_ 2863 = .ok (.iaload, 1) := by decide +kernel
theorem dL_law__2864 : decode cL_law_ 2864 = .ok (.aload_n 0, 1) := by decide +kernel
theorem dL_law__2865 : decode cL_law_ 2865 = .ok (.iload 4, 2) := by decide +kernel
theorem dL_law__2867 : decode cL_law_ 2867 = .ok (.iconst 2, 1) := by decide +kernel
theorem dL_law__2868 : decode cL_law_ 2868 = .ok (.iadd, 1) := by decide +kernel
theorem dL_law__2869 : decode cL_law_ 2869 = .ok (.iaload, 1) := by decide +kernel
theorem dL_law__2870 : decode cL_law_ 2870 = .ok (.ifCond .eq 7, 3) := by decide +kernel
theorem dL_law__2873 : decode cL_law_ 2873 = .ok (.iconst 1, 1) := by decide +kernel
theorem dL_law__2874 : decode cL_law_ 2874 = .ok (.goto 4, 3) := by decide +kernel
theorem dL_law__2877 : decode cL_law_ 2877 = .ok (.iconst 0, 1) := by decide +kernel
theorem dL_law__2878 : decode cL_law_ 2878 = .ok (.aload_n 3, 1) := by decide +kernel
theorem dL_law__2879 : decode cL_law_ 2879 = .ok (.invokestatic 321, 3) := by decide +kernel
theorem dL_law__2882 : decode cL_law_ 2882 = .ok (.istore 5, 2) := by decide +kernel
theorem dL_law__2884 : decode cL_law_ 2884 = .ok (.aload_n 2, 1) := by decide +kernel
theorem dL_law__2885 : decode cL_law_ 2885 = .ok (.aload_n 0, 1) := by decide +kernel
theorem dL_law__2886 : decode cL_law_ 2886 = .ok (.iload 4, 2) := by decide +kernel
theorem dL_law__2888 : decode cL_law_ 2888 = .ok (.iconst 1, 1) := by decide +kernel
theorem dL_law__2889 : decode cL_law_ 2889 = .ok (.iadd, 1) := by decide +kernel
theorem dL_law__2890 : decode cL_law_ 2890 = .ok (.iaload, 1) := by decide +kernel
theorem dL_law__2891 : decode cL_law_ 2891 = .ok (.aload_n 0, 1) := by decide +kernel
theorem dL_law__2892 : decode cL_law_ 2892 = .ok (.iload 4, 2) := by decide +kernel
theorem dL_law__2894 : decode cL_law_ 2894 = .ok (.iconst 2, 1) := by decide +kernel
theorem dL_law__2895 : decode cL_law_ 2895 = .ok (.iadd, 1) := by decide +kernel
theorem dL_law__2896 : decode cL_law_ 2896 = .ok (.iaload, 1) := by decide +kernel
theorem dL_law__2897 : decode cL_law_ 2897 = .ok (.ifCond .eq 7, 3) := by decide +kernel
theorem dL_law__2900 : decode cL_law_ 2900 = .ok (.iconst 1, 1) := by decide +kernel
theorem dL_law__2901 : decode cL_law_ 2901 = .ok (.goto 4, 3) := by decide +kernel
theorem dL_law__2904 : decode cL_law_ 2904 = .ok (.iconst 0, 1) := by decide +kernel
theorem dL_law__2905 : decode cL_law_ 2905 = .ok (.invokevirtual 323, 3) := by decide +kernel
theorem dL_law__2908 : decode cL_law_ 2908 = .ok (.istore 6, 2) := by decide +kernel
theorem dL_law__2910 : decode cL_law_ 2910 = .ok (.aload_n 2, 1) := by decide +kernel
theorem dL_law__2911 : decode cL_law_ 2911 = .ok (.invokevirtual 167, 3) := by decide +kernel
theorem dL_law__2914 : decode cL_law_ 2914 = .ok (.iload 5, 2) := by decide +kernel
theorem dL_law__2916 : decode cL_law_ 2916 = .ok (.if_icmp .eq 5, 3) := by decide +kernel
theorem dL_law__2919 : decode cL_law_ 2919 = .ok (.iconst 0, 1) := by decide +kernel
theorem dL_law__2920 : decode cL_law_ 2920 = .ok (.ireturn, 1) := by decide +kernel
theorem dL_law__2921 : decode cL_law_ 2921 = .ok (.iload 5, 2) := by decide +kernel
theorem dL_law__2923 : decode cL_law_ 2923 = .ok (.ifCond .ne 15, 3) := by decide +kernel
theorem dL_law__2926 : decode cL_law_ 2926 = .ok (.aload_n 3, 1) := by decide +kernel
theorem dL_law__2927 : decode cL_law_ 2927 = .ok (.iconst 0, 1) := by decide +kernel
theorem dL_law__2928 : decode cL_law_ 2928 = .ok (.laload, 1) := by decide +kernel
theorem dL_law__2929 : decode cL_law_ 2929 = .ok (.iload 6, 2) := by decide +kernel
theorem dL_law__2931 : decode cL_law_ 2931 = .ok (.i2l, 1) := by decide +kernel
theorem dL_law__2932 : decode cL_law_ 2932 = .ok (.lcmp, 1) := by decide +kernel
theorem dL_law__2933 : decode cL_law_ 2933 = .ok (.ifCond .eq 5, 3) := by decide +kernel
theorem dL_law__2936 : decode cL_law_ 2936 = .ok (.iconst 0, 1) := by decide +kernel
theorem dL_law__2937 : decode cL_law_ 2937 = .ok (.ireturn, 1) := by decide +kernel
theorem dL_law__2938 : decode cL_law_ 2938 = .ok (.goto 326, 3) := by decide +kernel
theorem dL_law__2941 : decode cL_law_ 2941 = .ok (.aload_n 1, 1) := by decide +kernel
theorem dL_law__2942 : decode cL_law_ 2942 = .ok (.aload_n 0, 1) := by decide +kernel
theorem dL_law__2943 : decode cL_law_ 2943 = .ok (.iload 4, 2) := by decide +kernel
theorem dL_law__2945 : decode cL_law_ 2945 = .ok (.iconst 1, 1) := by decide +kernel
theorem dL_law__2946 : decode cL_law_ 2946 = .ok (.iadd, 1) := by decide +kernel
theorem dL_law__2947 : decode cL_law_ 2947 = .ok (.iaload, 1) := by decide +kernel
theorem dL_law__2948 : decode cL_law_ 2948 = .ok (.aload_n 0, 1) := by decide +kernel
theorem dL_law__2949 : decode cL_law_ 2949 = .ok (.iload 4, 2) := by decide +kernel
theorem dL_law__2951 : decode cL_law_ 2951 = .ok (.iconst 2, 1) := by decide +kernel
theorem dL_law__2952 : decode cL_law_ 2952 = .ok (.iadd, 1) := by decide +kernel
theorem dL_law__2953 : decode cL_law_ 2953 = .ok (.iaload, 1) := by decide +kernel
theorem dL_law__2954 : decode cL_law_ 2954 = .ok (.ifCond .eq 7, 3) := by decide +kernel
theorem dL_law__2957 : decode cL_law_ 2957 = .ok (.iconst 1, 1) := by decide +kernel
theorem dL_law__2958 : decode cL_law_ 2958 = .ok (.goto 4, 3) := by decide +kernel
theorem dL_law__2961 : decode cL_law_ 2961 = .ok (.iconst 0, 1) := by decide +kernel
theorem dL_law__2962 : decode cL_law_ 2962 = .ok (.aload_n 3, 1) := by decide +kernel
theorem dL_law__2963 : decode cL_law_ 2963 = .ok (.invokestatic 324, 3) := by decide +kernel
theorem dL_law__2966 : decode cL_law_ 2966 = .ok (.istore 5, 2) := by decide +kernel
theorem dL_law__2968 : decode cL_law_ 2968 = .ok (.aload_n 2, 1) := by decide +kernel
theorem dL_law__2969 : decode cL_law_ 2969 = .ok (.aload_n 0, 1) := by decide +kernel
theorem dL_law__2970 : decode cL_law_ 2970 = .ok (.iload 4, 2) := by decide +kernel
theorem dL_law__2972 : decode cL_law_ 2972 = .ok (.iconst 1, 1) := by decide +kernel
theorem dL_law__2973 : decode cL_law_ 2973 = .ok (.iadd, 1) := by decide +kernel
theorem dL_law__2974 : decode cL_law_ 2974 = .ok (.iaload, 1) := by decide +kernel
theorem dL_law__2975 : decode cL_law_ 2975 = .ok (.aload_n 0, 1) := by decide +kernel
theorem dL_law__2976 : decode cL_law_ 2976 = .ok (.iload 4, 2) := by decide +kernel
theorem dL_law__2978 : decode cL_law_ 2978 = .ok (.iconst 2, 1) := by decide +kernel
theorem dL_law__2979 : decode cL_law_ 2979 = .ok (.iadd, 1) := by decide +kernel
theorem dL_law__2980 : decode cL_law_ 2980 = .ok (.iaload, 1) := by decide +kernel
theorem dL_law__2981 : decode cL_law_ 2981 = .ok (.ifCond .eq 7, 3) := by decide +kernel
theorem dL_law__2984 : decode cL_law_ 2984 = .ok (.iconst 1, 1) := by decide +kernel
theorem dL_law__2985 : decode cL_law_ 2985 = .ok (.goto 4, 3) := by decide +kernel
theorem dL_law__2988 : decode cL_law_ 2988 = .ok (.iconst 0, 1) := by decide +kernel
theorem dL_law__2989 : decode cL_law_ 2989 = .ok (.invokevirtual 326, 3) := by decide +kernel
theorem dL_law__2992 : decode cL_law_ 2992 = .ok (.istore 6, 2) := by decide +kernel
theorem dL_law__2994 : decode cL_law_ 2994 = .ok (.aload_n 2, 1) := by decide +kernel
theorem dL_law__2995 : decode cL_law_ 2995 = .ok (.invokevirtual 167, 3) := by decide +kernel
theorem dL_law__2998 : decode cL_law_ 2998 = .ok (.iload 5, 2) := by decide +kernel
theorem dL_law__3000 : decode cL_law_ 3000 = .ok (.if_icmp .eq 5, 3) := by decide +kernel
theorem dL_law__3003 : decode cL_law_ 3003 = .ok (.iconst 0, 1) := by decide +kernel
theorem dL_law__3004 : decode cL_law_ 3004 = .ok (.ireturn, 1) := by decide +kernel
theorem dL_law__3005 : decode cL_law_ 3005 = .ok (.iload 5, 2) := by decide +kernel
theorem dL_law__3007 : decode cL_law_ 3007 = .ok (.ifCond .ne 15, 3) := by decide +kernel
theorem dL_law__3010 : decode cL_law_ 3010 = .ok (.aload_n 3, 1) := by decide +kernel
theorem dL_law__3011 : decode cL_law_ 3011 = .ok (.iconst 0, 1) := by decide +kernel
theorem dL_law__3012 : decode cL_law_ 3012 = .ok (.laload, 1) := by decide +kernel
theorem dL_law__3013 : decode cL_law_ 3013 = .ok (.iload 6, 2) := by decide +kernel
theorem dL_law__3015 : decode cL_law_ 3015 = .ok (.i2l, 1) := by decide +kernel
theorem dL_law__3016 : decode cL_law_ 3016 = .ok (.lcmp, 1) := by decide +kernel
theorem dL_law__3017 : decode cL_law_ 3017 = .ok (.ifCond .eq 5, 3) := by decide +kernel
theorem dL_law__3020 : decode cL_law_ 3020 = .ok (.iconst 0, 1) := by decide +kernel
theorem dL_law__3021 : decode cL_law_ 3021 = .ok (.ireturn, 1) := by decide +kernel
theorem dL_law__3022 : decode cL_law_ 3022 = .ok (.goto 242, 3) := by decide +kernel
theorem dL_law__3025 : decode cL_law_ 3025 = .ok (.aload_n 1, 1) := by decide +kernel
theorem dL_law__3026 : decode cL_law_ 3026 = .ok (.aload_n 0, 1) := by decide +kernel
theorem dL_law__3027 : decode cL_law_ 3027 = .ok (.iload 4, 2) := by decide +kernel
theorem dL_law__3029 : decode cL_law_ 3029 = .ok (.iconst 1, 1) := by decide +kernel
theorem dL_law__3030 : decode cL_law_ 3030 = .ok (.iadd, 1) := by decide +kernel
theorem dL_law__3031 : decode cL_law_ 3031 = .ok (.iaload, 1) := by decide +kernel
theorem dL_law__3032 : decode cL_law_ 3032 = .ok (.aload_n 0, 1) := by decide +kernel
theorem dL_law__3033 : decode cL_law_ 3033 = .ok (.iload 4, 2) := by decide +kernel
theorem dL_law__3035 : decode cL_law_ 3035 = .ok (.iconst 2, 1) := by decide +kernel
theorem dL_law__3036 : decode cL_law_ 3036 = .ok (.iadd, 1) := by decide +kernel
theorem dL_law__3037 : decode cL_law_ 3037 = .ok (.iaload, 1) := by decide +kernel
theorem dL_law__3038 : decode cL_law_ 3038 = .ok (.ifCond .eq 7, 3) := by decide +kernel
theorem dL_law__3041 : decode cL_law_ 3041 = .ok (.iconst 1, 1) := by decide +kernel
theorem dL_law__3042 : decode cL_law_ 3042 = .ok (.goto 4, 3) := by decide +kernel
theorem dL_law__3045 : decode cL_law_ 3045 = .ok (.iconst 0, 1) := by decide +kernel
theorem dL_law__3046 : decode cL_law_ 3046 = .ok (.aload_n 3, 1) := by decide +kernel
theorem dL_law__3047 : decode cL_law_ 3047 = .ok (.invokestatic 327, 3) := by decide +kernel
theorem dL_law__3050 : decode cL_law_ 3050 = .ok (.istore 5, 2) := by decide +kernel
theorem dL_law__3052 : decode cL_law_ 3052 = .ok (.aload_n 2, 1) := by decide +kernel
theorem dL_law__3053 : decode cL_law_ 3053 = .ok (.aload_n 0, 1) := by decide +kernel
theorem dL_law__3054 : decode cL_law_ 3054 = .ok (.iload 4, 2) := by decide +kernel
theorem dL_law__3056 : decode cL_law_ 3056 = .ok (.iconst 1, 1) := by decide +kernel
theorem dL_law__3057 : decode cL_law_ 3057 = .ok (.iadd, 1) := by decide +kernel
theorem dL_law__3058 : decode cL_law_ 3058 = .ok (.iaload, 1) := by decide +kernel
theorem dL_law__3059 : decode cL_law_ 3059 = .ok (.aload_n 0, 1) := by decide +kernel
theorem dL_law__3060 : decode cL_law_ 3060 = .ok (.iload 4, 2) := by decide +kernel
theorem dL_law__3062 : decode cL_law_ 3062 = .ok (.iconst 2, 1) := by decide +kernel
theorem dL_law__3063 : decode cL_law_ 3063 = .ok (.iadd, 1) := by decide +kernel
theorem dL_law__3064 : decode cL_law_ 3064 = .ok (.iaload, 1) := by decide +kernel
theorem dL_law__3065 : decode cL_law_ 3065 = .ok (.ifCond .eq 7, 3) := by decide +kernel
theorem dL_law__3068 : decode cL_law_ 3068 = .ok (.iconst 1, 1) := by decide +kernel
theorem dL_law__3069 : decode cL_law_ 3069 = .ok (.goto 4, 3) := by decide +kernel
theorem dL_law__3072 : decode cL_law_ 3072 = .ok (.iconst 0, 1) := by decide +kernel
theorem dL_law__3073 : decode cL_law_ 3073 = .ok (.invokevirtual 329, 3) := by decide +kernel
theorem dL_law__3076 : decode cL_law_ 3076 = .ok (.istore 6, 2) := by decide +kernel
theorem dL_law__3078 : decode cL_law_ 3078 = .ok (.aload_n 2, 1) := by decide +kernel
theorem dL_law__3079 : decode cL_law_ 3079 = .ok (.invokevirtual 167, 3) := by decide +kernel
theorem dL_law__3082 : decode cL_law_ 3082 = .ok (.iload 5, 2) := by decide +kernel
theorem dL_law__3084 : decode cL_law_ 3084 = .ok (.if_icmp .eq 5, 3) := by decide +kernel
theorem dL_law__3087 : decode cL_law_ 3087 = .ok (.iconst 0, 1) := by decide +kernel
theorem dL_law__3088 : decode cL_law_ 3088 = .ok (.ireturn, 1) := by decide +kernel
theorem dL_law__3089 : decode cL_law_ 3089 = .ok (.iload 5, 2) := by decide +kernel
theorem dL_law__3091 : decode cL_law_ 3091 = .ok (.ifCond .ne 15, 3) := by decide +kernel
theorem dL_law__3094 : decode cL_law_ 3094 = .ok (.aload_n 3, 1) := by decide +kernel
theorem dL_law__3095 : decode cL_law_ 3095 = .ok (.iconst 0, 1) := by decide +kernel
theorem dL_law__3096 : decode cL_law_ 3096 = .ok (.laload, 1) := by decide +kernel
theorem dL_law__3097 : decode cL_law_ 3097 = .ok (.iload 6, 2) := by decide +kernel
theorem dL_law__3099 : decode cL_law_ 3099 = .ok (.i2l, 1) := by decide +kernel
theorem dL_law__3100 : decode cL_law_ 3100 = .ok (.lcmp, 1) := by decide +kernel
theorem dL_law__3101 : decode cL_law_ 3101 = .ok (.ifCond .eq 5, 3) := by decide +kernel
theorem dL_law__3104 : decode cL_law_ 3104 = .ok (.iconst 0, 1) := by decide +kernel
theorem dL_law__3105 : decode cL_law_ 3105 = .ok (.ireturn, 1) := by decide +kernel
theorem dL_law__3106 : decode cL_law_ 3106 = .ok (.goto 158, 3) := by decide +kernel
theorem dL_law__3109 : decode cL_law_ 3109 = .ok (.aload_n 1, 1) := by decide +kernel
theorem dL_law__3110 : decode cL_law_ 3110 = .ok (.aload_n 0, 1) := by decide +kernel
theorem dL_law__3111 : decode cL_law_ 3111 = .ok (.iload 4, 2) := by decide +kernel
theorem dL_law__3113 : decode cL_law_ 3113 = .ok (.iconst 1, 1) := by decide +kernel
theorem dL_law__3114 : decode cL_law_ 3114 = .ok (.iadd, 1) := by decide +kernel
theorem dL_law__3115 : decode cL_law_ 3115 = .ok (.iaload, 1) := by decide +kernel
theorem dL_law__3116 : decode cL_law_ 3116 = .ok (.aload_n 0, 1) := by decide +kernel
theorem dL_law__3117 : decode cL_law_ 3117 = .ok (.iload 4, 2) := by decide +kernel
theorem dL_law__3119 : decode cL_law_ 3119 = .ok (.iconst 2, 1) := by decide +kernel
theorem dL_law__3120 : decode cL_law_ 3120 = .ok (.iadd, 1) := by decide +kernel
theorem dL_law__3121 : decode cL_law_ 3121 = .ok (.iaload, 1) := by decide +kernel
theorem dL_law__3122 : decode cL_law_ 3122 = .ok (.aload_n 3, 1) := by decide +kernel
theorem dL_law__3123 : decode cL_law_ 3123 = .ok (.invokestatic 330, 3) := by decide +kernel
theorem dL_law__3126 : decode cL_law_ 3126 = .ok (.istore 5, 2) := by decide +kernel
theorem dL_law__3128 : decode cL_law_ 3128 = .ok (.aload_n 2, 1) := by decide +kernel
theorem dL_law__3129 : decode cL_law_ 3129 = .ok (.aload_n 0, 1) := by decide +kernel
theorem dL_law__3130 : decode cL_law_ 3130 = .ok (.iload 4, 2) := by decide +kernel
theorem dL_law__3132 : decode cL_law_ 3132 = .ok (.iconst 1, 1) := by decide +kernel
theorem dL_law__3133 : decode cL_law_ 3133 = .ok (.iadd, 1) := by decide +kernel
theorem dL_law__3134 : decode cL_law_ 3134 = .ok (.iaload, 1) := by decide +kernel
theorem dL_law__3135 : decode cL_law_ 3135 = .ok (.aload_n 0, 1) := by decide +kernel
theorem dL_law__3136 : decode cL_law_ 3136 = .ok (.iload 4, 2) := by decide +kernel
theorem dL_law__3138 : decode cL_law_ 3138 = .ok (.iconst 2, 1) := by decide +kernel
theorem dL_law__3139 : decode cL_law_ 3139 = .ok (.iadd, 1) := by decide +kernel
theorem dL_law__3140 : decode cL_law_ 3140 = .ok (.iaload, 1) := by decide +kernel
theorem dL_law__3141 : decode cL_law_ 3141 = .ok (.invokevirtual 332, 3) := by decide +kernel
theorem dL_law__3144 : decode cL_law_ 3144 = .ok (.istore 6, 2) := by decide +kernel
theorem dL_law__3146 : decode cL_law_ 3146 = .ok (.aload_n 2, 1) := by decide +kernel
theorem dL_law__3147 : decode cL_law_ 3147 = .ok (.invokevirtual 167, 3) := by decide +kernel
theorem dL_law__3150 : decode cL_law_ 3150 = .ok (.iload 5, 2) := by decide +kernel
theorem dL_law__3152 : decode cL_law_ 3152 = .ok (.if_icmp .eq 5, 3) := by decide +kernel
theorem dL_law__3155 : decode cL_law_ 3155 = .ok (.iconst 0, 1) := by decide +kernel
theorem dL_law__3156 : decode cL_law_ 3156 = .ok (.ireturn, 1) := by decide +kernel
theorem dL_law__3157 : decode cL_law_ 3157 = .ok (.iload 5, 2) := by decide +kernel
theorem dL_law__3159 : decode cL_law_ 3159 = .ok (.ifCond .ne 15, 3) := by decide +kernel
theorem dL_law__3162 : decode cL_law_ 3162 = .ok (.aload_n 3, 1) := by decide +kernel
theorem dL_law__3163 : decode cL_law_ 3163 = .ok (.iconst 0, 1) := by decide +kernel
theorem dL_law__3164 : decode cL_law_ 3164 = .ok (.laload, 1) := by decide +kernel
theorem dL_law__3165 : decode cL_law_ 3165 = .ok (.iload 6, 2) := by decide +kernel
theorem dL_law__3167 : decode cL_law_ 3167 = .ok (.i2l, 1) := by decide +kernel
theorem dL_law__3168 : decode cL_law_ 3168 = .ok (.lcmp, 1) := by decide +kernel
theorem dL_law__3169 : decode cL_law_ 3169 = .ok (.ifCond .eq 5, 3) := by decide +kernel
theorem dL_law__3172 : decode cL_law_ 3172 = .ok (.iconst 0, 1) := by decide +kernel
theorem dL_law__3173 : decode cL_law_ 3173 = .ok (.ireturn, 1) := by decide +kernel
theorem dL_law__3174 : decode cL_law_ 3174 = .ok (.goto 90, 3) := by decide +kernel
theorem dL_law__3177 : decode cL_law_ 3177 = .ok (.aload_n 1, 1) := by decide +kernel
theorem dL_law__3178 : decode cL_law_ 3178 = .ok (.aload_n 0, 1) := by decide +kernel
theorem dL_law__3179 : decode cL_law_ 3179 = .ok (.iload 4, 2) := by decide +kernel
theorem dL_law__3181 : decode cL_law_ 3181 = .ok (.iconst 1, 1) := by decide +kernel
theorem dL_law__3182 : decode cL_law_ 3182 = .ok (.iadd, 1) := by decide +kernel
theorem dL_law__3183 : decode cL_law_ 3183 = .ok (.iaload, 1) := by decide +kernel
theorem dL_law__3184 : decode cL_law_ 3184 = .ok (.invokevirtual 333, 3) := by decide +kernel
theorem dL_law__3187 : decode cL_law_ 3187 = .ok (.aload_n 2, 1) := by decide +kernel
theorem dL_law__3188 : decode cL_law_ 3188 = .ok (.aload_n 0, 1) := by decide +kernel
theorem dL_law__3189 : decode cL_law_ 3189 = .ok (.iload 4, 2) := by decide +kernel
theorem dL_law__3191 : decode cL_law_ 3191 = .ok (.iconst 1, 1) := by decide +kernel
theorem dL_law__3192 : decode cL_law_ 3192 = .ok (.iadd, 1) := by decide +kernel
theorem dL_law__3193 : decode cL_law_ 3193 = .ok (.iaload, 1) := by decide +kernel
theorem dL_law__3194 : decode cL_law_ 3194 = .ok (.invokevirtual 336, 3) := by decide +kernel
theorem dL_law__3197 : decode cL_law_ 3197 = .ok (.if_icmp .eq 67, 3) := by decide +kernel
theorem dL_law__3200 : decode cL_law_ 3200 = .ok (.iconst 0, 1) := by decide +kernel
theorem dL_law__3201 : decode cL_law_ 3201 = .ok (.ireturn, 1) := by decide +kernel
theorem dL_law__3202 : decode cL_law_ 3202 = .ok (.aload_n 1, 1) := by decide +kernel
theorem dL_law__3203 : decode cL_law_ 3203 = .ok (.invokevirtual 337, 3) := by decide +kernel
theorem dL_law__3206 : decode cL_law_ 3206 = .ok (.aload_n 2, 1) := by decide +kernel
theorem dL_law__3207 : decode cL_law_ 3207 = .ok (.invokevirtual 341, 3) := by decide +kernel
theorem dL_law__3210 : decode cL_law_ 3210 = .ok (.if_icmp .eq 54, 3) := by decide +kernel
theorem dL_law__3213 : decode cL_law_ 3213 = .ok (.iconst 0, 1) := by decide +kernel
theorem dL_law__3214 : decode cL_law_ 3214 = .ok (.ireturn, 1) := by decide +kernel
theorem dL_law__3215 : decode cL_law_ 3215 = .ok (.aload_n 1, 1) := by decide +kernel
theorem dL_law__3216 : decode cL_law_ 3216 = .ok (.invokevirtual 342, 3) := by decide +kernel
theorem dL_law__3219 : decode cL_law_ 3219 = .ok (.aload_n 2, 1) := by decide +kernel
theorem dL_law__3220 : decode cL_law_ 3220 = .ok (.invokevirtual 345, 3) := by decide +kernel
theorem dL_law__3223 : decode cL_law_ 3223 = .ok (.goto 41, 3) := by decide +kernel
theorem dL_law__3226 : decode cL_law_ 3226 = .ok (.aload_n 1, 1) := by decide +kernel
theorem dL_law__3227 : decode cL_law_ 3227 = .ok (.invokevirtual 346, 3) := by decide +kernel
theorem dL_law__3230 : decode cL_law_ 3230 = .ok (.aload_n 2, 1) := by decide +kernel
theorem dL_law__3231 : decode cL_law_ 3231 = .ok (.invokevirtual 349, 3) := by decide +kernel
theorem dL_law__3234 : decode cL_law_ 3234 = .ok (.if_icmp .eq 30, 3) := by decide +kernel
theorem dL_law__3237 : decode cL_law_ 3237 = .ok (.iconst 0, 1) := by decide +kernel
theorem dL_law__3238 : decode cL_law_ 3238 = .ok (.ireturn, 1) := by decide +kernel
theorem dL_law__3239 : decode cL_law_ 3239 = .ok (.aload_n 1, 1) := by decide +kernel
theorem dL_law__3240 : decode cL_law_ 3240 = .ok (.aload_n 0, 1) := by decide +kernel
theorem dL_law__3241 : decode cL_law_ 3241 = .ok (.iload 4, 2) := by decide +kernel
theorem dL_law__3243 : decode cL_law_ 3243 = .ok (.iconst 1, 1) := by decide +kernel
theorem dL_law__3244 : decode cL_law_ 3244 = .ok (.iadd, 1) := by decide +kernel
theorem dL_law__3245 : decode cL_law_ 3245 = .ok (.iaload, 1) := by decide +kernel
theorem dL_law__3246 : decode cL_law_ 3246 = .ok (.invokevirtual 350, 3) := by decide +kernel
theorem dL_law__3249 : decode cL_law_ 3249 = .ok (.aload_n 2, 1) := by decide +kernel
theorem dL_law__3250 : decode cL_law_ 3250 = .ok (.aload_n 0, 1) := by decide +kernel
theorem dL_law__3251 : decode cL_law_ 3251 = .ok (.iload 4, 2) := by decide +kernel
theorem dL_law__3253 : decode cL_law_ 3253 = .ok (.iconst 1, 1) := by decide +kernel
theorem dL_law__3254 : decode cL_law_ 3254 = .ok (.iadd, 1) := by decide +kernel
theorem dL_law__3255 : decode cL_law_ 3255 = .ok (.iaload, 1) := by decide +kernel
theorem dL_law__3256 : decode cL_law_ 3256 = .ok (.invokevirtual 353, 3) := by decide +kernel
theorem dL_law__3259 : decode cL_law_ 3259 = .ok (.if_icmp .eq 5, 3) := by decide +kernel
theorem dL_law__3262 : decode cL_law_ 3262 = .ok (.iconst 0, 1) := by decide +kernel
theorem dL_law__3263 : decode cL_law_ 3263 = .ok (.ireturn, 1) := by decide +kernel
theorem dL_law__3264 : decode cL_law_ 3264 = .ok (.iinc 4 6, 3) := by decide +kernel
theorem dL_law__3267 : decode cL_law_ 3267 = .ok (.goto (-3244), 3) := by decide +kernel
theorem dL_law__3270 : decode cL_law_ 3270 = .ok (.iconst 1, 1) := by decide +kernel
theorem dL_law__3271 : decode cL_law_ 3271 = .ok (.ireturn, 1) := by decide +kernel
