theorem dL_law_2773 : decode cL_law 2773 = .ok (.aload_n 3, 1) := by decide +kernel
theorem dL_law_2774 : decode cL_law 2774 = .ok (.invokestatic 323, 3) := by decide +kernel
theorem dL_law_2777 : decode cL_law 2777 = .ok (.istore 6, 2) := by decide +kernel
theorem dL_law_2779 : decode cL_law 2779 = .ok (.aload_n 2, 1) := by decide +kernel
theorem dL_law_2780 : decode cL_law 2780 = .ok (.aload_n 0, 1) := by decide +kernel
theorem dL_law_2781 : decode cL_law 2781 = .ok (.iload 5, 2) := by decide +kernel
theorem dL_law_2783 : decode cL_law 2783 = .ok (.iconst 1, 1) := by decide +kernel
theorem dL_law_2784 : decode cL_law 2784 = .ok (.iadd, 1) := by decide +kernel
theorem dL_law_2785 : decode cL_law 2785 = .ok (.iaload, 1) := by decide +kernel
theorem dL_law_2786 : decode cL_law 2786 = .ok (.aload_n 0, 1) := by decide +kernel
theorem dL_law_2787 : decode cL_law 2787 = .ok (.iload 5, 2) := by decide +kernel
theorem dL_law_2789 : decode cL_law 2789 = .ok (.iconst 2, 1) := by decide +kernel
theorem dL_law_2790 : decode cL_law 2790 = .ok (.iadd, 1) := by decide +kernel
theorem dL_law_2791 : decode cL_law 2791 = .ok (.iaload, 1) := by decide +kernel
theorem dL_law_2792 : decode cL_law 2792 = .ok (.invokevirtual 325, 3) := by decide +kernel
theorem dL_law_2795 : decode cL_law 2795 = .ok (.istore 7, 2) := by decide +kernel
theorem dL_law_2797 : decode cL_law 2797 = .ok (.aload_n 2, 1) := by decide +kernel
theorem dL_law_2798 : decode cL_law 2798 = .ok (.invokevirtual 203, 3) := by decide +kernel
theorem dL_law_2801 : decode cL_law 2801 = .ok (.iload 6, 2) := by decide +kernel
theorem dL_law_2803 : decode cL_law 2803 = .ok (.if_icmp .eq 5, 3) := by decide +kernel
theorem dL_law_2806 : decode cL_law 2806 = .ok (.iconst 0, 1) := by decide +kernel
theorem dL_law_2807 : decode cL_law 2807 = .ok (.ireturn, 1) := by decide +kernel
theorem dL_law_2808 : decode cL_law 2808 = .ok (.iload 6, 2) := by decide +kernel
theorem dL_law_2810 : decode cL_law 2810 = .ok (.ifCond .ne 15, 3) := by decide +kernel
theorem dL_law_2813 : decode cL_law 2813 = .ok (.aload_n 3, 1) := by decide +kernel
theorem dL_law_2814 : decode cL_law 2814 = .ok (.iconst 0, 1) := by decide +kernel
theorem dL_law_2815 : decode cL_law 2815 = .ok (.laload, 1) := by decide +kernel
theorem dL_law_2816 : decode cL_law 2816 = .ok (.iload 7, 2) := by decide +kernel
theorem dL_law_2818 : decode cL_law 2818 = .ok (.i2l, 1) := by decide +kernel
theorem dL_law_2819 : decode cL_law 2819 = .ok (.lcmp, 1) := by decide +kernel
theorem dL_law_2820 : decode cL_law 2820 = .ok (.ifCond .eq 5, 3) := by decide +kernel
theorem dL_law_2823 : decode cL_law 2823 = .ok (.iconst 0, 1) := by decide +kernel
theorem dL_law_2824 : decode cL_law 2824 = .ok (.ireturn, 1) := by decide +kernel
theorem dL_law_2825 : decode cL_law 2825 = .ok (.goto 791, 3) := by decide +kernel
theorem dL_law_2828 : decode cL_law 2828 = .ok (.aload_n 1, 1) := by decide +kernel
theorem dL_law_2829 : decode cL_law 2829 = .ok (.aload_n 0, 1) := by decide +kernel
theorem dL_law_2830 : decode cL_law 2830 = .ok (.iload 5, 2) := by decide +kernel
theorem dL_law_2832 : decode cL_law 2832 = .ok (.iconst 1, 1) := by decide +kernel
theorem dL_law_2833 : decode cL_law 2833 = .ok (.iadd, 1) := by decide +kernel
theorem dL_law_2834 : decode cL_law 2834 = .ok (.iaload, 1) := by decide +kernel
theorem dL_law_2835 : decode cL_law 2835 = .ok (.aload_n 0, 1) := by decide +kernel
theorem dL_law_2836 : decode cL_law 2836 = .ok (.iload 5, 2) := by decide +kernel
theorem dL_law_2838 : decode cL_law 2838 = .ok (.iconst 2, 1) := by decide +kernel
theorem dL_law_2839 : decode cL_law 2839 = .ok (.iadd, 1) := by decide +kernel
theorem dL_law_2840 : decode cL_law 2840 = .ok (.iaload, 1) := by decide +kernel
theorem dL_law_2841 : decode cL_law 2841 = .ok (.aload_n 0, 1) := by decide +kernel
theorem dL_law_2842 : decode cL_law 2842 = .ok (.iload 5, 2) := by decide +kernel
theorem dL_law_2844 : decode cL_law 2844 = .ok (.iconst 3, 1) := by decide +kernel
theorem dL_law_2845 : decode cL_law 2845 = .ok (.iadd, 1) := by decide +kernel
theorem dL_law_2846 : decode cL_law 2846 = .ok (.iaload, 1) := by decide +kernel
theorem dL_law_2847 : decode cL_law 2847 = .ok (.aload_n 0, 1) := by decide +kernel
theorem dL_law_2848 : decode cL_law 2848 = .ok (.iload 5, 2) := by decide +kernel
theorem dL_law_2850 : decode cL_law 2850 = .ok (.iconst 4, 1) := by decide +kernel
theorem dL_law_2851 : decode cL_law 2851 = .ok (.iadd, 1) := by decide +kernel
theorem dL_law_2852 : decode cL_law 2852 = .ok (.iaload, 1) := by decide +kernel
theorem dL_law_2853 : decode cL_law 2853 = .ok (.aload_n 0, 1) := by decide +kernel
theorem dL_law_2854 : decode cL_law 2854 = .ok (.iload 5, 2) := by decide +kernel
theorem dL_law_2856 : decode cL_law 2856 = .ok (.iconst 5, 1) := by decide +kernel
theorem dL_law_2857 : decode cL_law 2857 = .ok (.iadd, 1) := by decide +kernel
theorem dL_law_2858 : decode cL_law 2858 = .ok (.iaload, 1) := by decide +kernel
theorem dL_law_2859 : decode cL_law 2859 = .ok (.aload_n 0, 1) := by decide +kernel
theorem dL_law_2860 : decode cL_law 2860 = .ok (.iload 5, 2) := by decide +kernel
theorem dL_law_2862 : decode cL_law 2862 = .ok (.bipush 6, 2) := by decide +kernel
theorem dL_law_2864 : decode cL_law 2864 = .ok (.iadd, 1) := by decide +kernel
theorem dL_law_2865 : decode cL_law 2865 = .ok (.iaload, 1) := by decide +kernel
theorem dL_law_2866 : decode cL_law 2866 = .ok (.aload_n 3, 1) := by decide +kernel
theorem dL_law_2867 : decode cL_law 2867 = .ok (.invokestatic 326, 3) := by decide +kernel
theorem dL_law_2870 : decode cL_law 2870 = .ok (.istore 6, 2) := by decide +kernel
theorem dL_law_2872 : decode cL_law 2872 = .ok (.aload_n 2, 1) := by decide +kernel
theorem dL_law_2873 : decode cL_law 2873 = .ok (.aload_n 0, 1) := by decide +kernel
theorem dL_law_2874 : decode cL_law 2874 = .ok (.iload 5, 2) := by decide +kernel
theorem dL_law_2876 : decode cL_law 2876 = .ok (.iconst 1, 1) := by decide +kernel
theorem dL_law_2877 : decode cL_law 2877 = .ok (.iadd, 1) := by decide +kernel
theorem dL_law_2878 : decode cL_law 2878 = .ok (.iaload, 1) := by decide +kernel
theorem dL_law_2879 : decode cL_law 2879 = .ok (.aload_n 0, 1) := by decide +kernel
theorem dL_law_2880 : decode cL_law 2880 = .ok (.iload 5, 2) := by decide +kernel
theorem dL_law_2882 : decode cL_law 2882 = .ok (.iconst 2, 1) := by decide +kernel
theorem dL_law_2883 : decode cL_law 2883 = .ok (.iadd, 1) := by decide +kernel
theorem dL_law_2884 : decode cL_law 2884 = .ok (.iaload, 1) := by decide +kernel
theorem dL_law_2885 : decode cL_law 2885 = .ok (.aload_n 0, 1) := by decide +kernel
theorem dL_law_2886 : decode cL_law 2886 = .ok (.iload 5, 2) := by decide +kernel
theorem dL_law_2888 : decode cL_law 2888 = .ok (.iconst 3, 1) := by decide +kernel
theorem dL_law_2889 : decode cL_law 2889 = .ok (.iadd, 1) := by decide +kernel
theorem dL_law_2890 : decode cL_law 2890 = .ok (.iaload, 1) := by decide +kernel
theorem dL_law_2891 : decode cL_law 2891 = .ok (.aload_n 0, 1) := by decide +kernel
theorem dL_law_2892 : decode cL_law 2892 = .ok (.iload 5, 2) := by decide +kernel
theorem dL_law_2894 : decode cL_law 2894 = .ok (.iconst 4, 1) := by decide +kernel
theorem dL_law_2895 : decode cL_law 2895 = .ok (.iadd, 1) := by decide +kernel
theorem dL_law_2896 : decode cL_law 2896 = .ok (.iaload, 1) := by decide +kernel
theorem dL_law_2897 : decode cL_law 2897 = .ok (.aload_n 0, 1) := by decide +kernel
theorem dL_law_2898 : decode cL_law 2898 = .ok (.iload 5, 2) := by decide +kernel
theorem dL_law_2900 : decode cL_law 2900 = .ok (.iconst 5, 1) := by decide +kernel
theorem dL_law_2901 : decode cL_law 2901 = .ok (.iadd, 1) := by decide +kernel
theorem dL_law_2902 : decode cL_law 2902 = .ok (.iaload, 1) := by decide +kernel
theorem dL_law_2903 : decode cL_law 2903 = .ok (.aload_n 0, 1) := by decide +kernel
theorem dL_law_2904 : decode cL_law 2904 = .ok (.iload 5, 2) := by decide +kernel
theorem dL_law_2906 : decode cL_law 2906 = .ok (.bipush 6, 2) := by decide +kernel
theorem dL_law_2908 : decode cL_law 2908 = .ok (.iadd, 1) := by decide +kernel
theorem dL_law_2909 : decode cL_law 2909 = .ok (.iaload, 1) := by decide +kernel
theorem dL_law_2910 : decode cL_law 2910 = .ok (.invokevirtual 329, 3) := by decide +kernel
theorem dL_law_2913 : decode cL_law 2913 = .ok (.istore 7, 2) := by decide +kernel
theorem dL_law_2915 : decode cL_law 2915 = .ok (.aload_n 2, 1) := by decide +kernel
theorem dL_law_2916 : decode cL_law 2916 = .ok (.invokevirtual 203, 3) := by decide +kernel
theorem dL_law_2919 : decode cL_law 2919 = .ok (.iload 6, 2) := by decide +kernel
theorem dL_law_2921 : decode cL_law 2921 = .ok (.if_icmp .eq 5, 3) := by decide +kernel
theorem dL_law_2924 : decode cL_law 2924 = .ok (.iconst 0, 1) := by decide +kernel
theorem dL_law_2925 : decode cL_law 2925 = .ok (.ireturn, 1) := by decide +kernel
theorem dL_law_2926 : decode cL_law 2926 = .ok (.iload 6, 2) := by decide +kernel
theorem dL_law_2928 : decode cL_law 2928 = .ok (.ifCond .ne 15, 3) := by decide +kernel
theorem dL_law_2931 : decode cL_law 2931 = .ok (.aload_n 3, 1) := by decide +kernel
theorem dL_law_2932 : decode cL_law 2932 = .ok (.iconst 0, 1) := by decide +kernel
theorem dL_law_2933 : decode cL_law 2933 = .ok (.laload, 1) := by decide +kernel
theorem dL_law_2934 : decode cL_law 2934 = .ok (.iload 7, 2) := by decide +kernel
theorem dL_law_2936 : decode cL_law 2936 = .ok (.i2l, 1) := by decide +kernel
theorem dL_law_2937 : decode cL_law 2937 = .ok (.lcmp, 1) := by decide +kernel
theorem dL_law_2938 : decode cL_law 2938 = .ok (.ifCond .eq 5, 3) := by decide +kernel
theorem dL_law_2941 : decode cL_law 2941 = .ok (.iconst 0, 1) := by decide +kernel
theorem dL_law_2942 : decode cL_law 2942 = .ok (.ireturn, 1) := by decide +kernel
theorem dL_law_2943 : decode cL_law 2943 = .ok (.goto 673, 3) := by decide +kernel
theorem dL_law_2946 : decode cL_law 2946 = .ok (.aload_n 1, 1) := by decide +kernel
theorem dL_law_2947 : decode cL_law 2947 = .ok (.aload_n 0, 1) := by decide +kernel
theorem dL_law_2948 : decode cL_law 2948 = .ok (.iload 5, 2) := by decide +kernel
theorem dL_law_2950 : decode cL_law 2950 = .ok (.iconst 1, 1) := by decide +kernel
theorem dL_law_2951 : decode cL_law 2951 = .ok (.iadd, 1) := by decide +kernel
theorem dL_law_2952 : decode cL_law 2952 = .ok (.iaload, 1) := by decide +kernel
theorem dL_law_2953 : decode cL_law 2953 = .ok (.aload_n 3, 1) := by decide +kernel
theorem dL_law_2954 : decode cL_law 2954 = .ok (.invokestatic 330, 3) := by decide +kernel
theorem dL_law_2957 : decode cL_law 2957 = .ok (.istore 6, 2) := by decide +kernel
theorem dL_law_2959 : decode cL_law 2959 = .ok (.aload_n 2, 1) := by decide +kernel
theorem dL_law_2960 : decode cL_law 2960 = .ok (.aload_n 0, 1) := by decide +kernel
theorem dL_law_2961 : decode cL_law 2961 = .ok (.iload 5, 2) := by decide +kernel
theorem dL_law_2963 : decode cL_law 2963 = .ok (.iconst 1, 1) := by decide +kernel
theorem dL_law_2964 : decode cL_law 2964 = .ok (.iadd, 1) := by decide +kernel
theorem dL_law_2965 : decode cL_law 2965 = .ok (.iaload, 1) := by decide +kernel
theorem dL_law_2966 : decode cL_law 2966 = .ok (.invokevirtual 332, 3) := by decide +kernel
theorem dL_law_2969 : decode cL_law 2969 = .ok (.istore 7, 2) := by decide +kernel
theorem dL_law_2971 : decode cL_law 2971 = .ok (.aload_n 2, 1) := by decide +kernel
theorem dL_law_2972 : decode cL_law 2972 = .ok (.invokevirtual 203, 3) := by decide +kernel
theorem dL_law_2975 : decode cL_law 2975 = .ok (.iload 6, 2) := by decide +kernel
theorem dL_law_2977 : decode cL_law 2977 = .ok (.if_icmp .eq 5, 3) := by decide +kernel
theorem dL_law_2980 : decode cL_law 2980 = .ok (.iconst 0, 1) := by decide +kernel
theorem dL_law_2981 : decode cL_law 2981 = .ok (.ireturn, 1) := by decide +kernel
theorem dL_law_2982 : decode cL_law 2982 = .ok (.iload 6, 2) := by decide +kernel
theorem dL_law_2984 : decode cL_law 2984 = .ok (.ifCond .ne 15, 3) := by decide +kernel
theorem dL_law_2987 : decode cL_law 2987 = .ok (.aload_n 3, 1) := by decide +kernel
theorem dL_law_2988 : decode cL_law 2988 = .ok (.iconst 0, 1) := by decide +kernel
theorem dL_law_2989 : decode cL_law 2989 = .ok (.laload, 1) := by decide +kernel
theorem dL_law_2990 : decode cL_law 2990 = .ok (.iload 7, 2) := by decide +kernel
theorem dL_law_2992 : decode cL_law 2992 = .ok (.i2l, 1) := by decide +kernel
theorem dL_law_2993 : decode cL_law 2993 = .ok (.lcmp, 1) := by decide +kernel
theorem dL_law_2994 : decode cL_law 2994 = .ok (.ifCond .eq 5, 3) := by decide +kernel
theorem dL_law_2997 : decode cL_law 2997 = .ok (.iconst 0, 1) := by decide +kernel
theorem dL_law_2998 : decode cL_law 2998 = .ok (.ireturn, 1) := by decide +kernel
theorem dL_law_2999 : decode cL_law 2999 = .ok (.goto 617, 3) := by decide +kernel
theorem dL_law_3002 : decode cL_law 3002 = .ok (.aload_n 1, 1) := by decide +kernel
theorem dL_law_3003 : decode cL_law 3003 = .ok (.aload_n 0, 1) := by decide +kernel
theorem dL_law_3004 : decode cL_law 3004 = .ok (.iload 5, 2) := by decide +kernel
theorem dL_law_3006 : decode cL_law 3006 = .ok (.iconst 1, 1) := by decide +kernel
theorem dL_law_3007 : decode cL_law 3007 = .ok (.iadd, 1) := by decide +kernel
theorem dL_law_3008 : decode cL_law 3008 = .ok (.iaload, 1) := by decide +kernel
theorem dL_law_3009 : decode cL_law 3009 = .ok (.aload_n 0, 1) := by decide +kernel
theorem dL_law_3010 : decode cL_law 3010 = .ok (.iload 5, 2) := by decide +kernel
theorem dL_law_3012 : decode cL_law 3012 = .ok (.iconst 2, 1) := by decide +kernel
theorem dL_law_3013 : decode cL_law 3013 = .ok (.iadd, 1) := by decide +kernel
theorem dL_law_3014 : decode cL_law 3014 = .ok (.iaload, 1) := by decide +kernel
theorem dL_law_3015 : decode cL_law 3015 = .ok (.aload_n 3, 1) := by decide +kernel
theorem dL_law_3016 : decode cL_law 3016 = .ok (.invokestatic 333, 3) := by decide +kernel
theorem dL_law_3019 : decode cL_law 3019 = .ok (.istore 6, 2) := by decide +kernel
theorem dL_law_3021 : decode cL_law 3021 = .ok (.aload_n 2, 1) := by decide +kernel
theorem dL_law_3022 : decode cL_law 3022 = .ok (.aload_n 0, 1) := by decide +kernel
theorem dL_law_3023 : decode cL_law 3023 = .ok (.iload 5, 2) := by decide +kernel
theorem dL_law_3025 : decode cL_law 3025 = .ok (.iconst 1, 1) := by decide +kernel
theorem dL_law_3026 : decode cL_law 3026 = .ok (.iadd, 1) := by decide +kernel
theorem dL_law_3027 : decode cL_law 3027 = .ok (.iaload, 1) := by decide +kernel
theorem dL_law_3028 : decode cL_law 3028 = .ok (.aload_n 0, 1) := by decide +kernel
theorem dL_law_3029 : decode cL_law 3029 = .ok (.iload 5, 2) := by decide +kernel
theorem dL_law_3031 : decode cL_law 3031 = .ok (.iconst 2, 1) := by decide +kernel
theorem dL_law_3032 : decode cL_law 3032 = .ok (.iadd, 1) := by decide +kernel
theorem dL_law_3033 : decode cL_law 3033 = .ok (.iaload, 1) := by decide +kernel
theorem dL_law_3034 : decode cL_law 3034 = .ok (.invokevirtual 335, 3) := by decide +kernel
theorem dL_law_3037 : decode cL_law 3037 = .ok (.istore 7, 2) := by decide +kernel
theorem dL_law_3039 : decode cL_law 3039 = .ok (.aload_n 2, 1) := by decide +kernel
theorem dL_law_3040 : decode cL_law 3040 = .ok (.invokevirtual 203, 3) := by decide +kernel
theorem dL_law_3043 : decode cL_law 3043 = .ok (.iload 6, 2) := by decide +kernel
theorem dL_law_3045 : decode cL_law 3045 = .ok (.if_icmp .eq 5, 3) := by decide +kernel
theorem dL_law_3048 : decode cL_law 3048 = .ok (.iconst 0, 1) := by decide +kernel
theorem dL_law_3049 : decode cL_law 3049 = .ok (.ireturn, 1) := by decide +kernel
theorem dL_law_3050 : decode cL_law 3050 = .ok (.iload 6, 2) := by decide +kernel
theorem dL_law_3052 : decode cL_law 3052 = .ok (.ifCond .ne 15, 3) := by decide +kernel
theorem dL_law_3055 : decode cL_law 3055 = .ok (.aload_n 3, 1) := by decide +kernel
theorem dL_law_3056 : decode cL_law 3056 = .ok (.iconst 0, 1) := by decide +kernel
theorem dL_law_3057 : decode cL_law 3057 = .ok (.laload, 1) := by decide +kernel
theorem dL_law_3058 : decode cL_law 3058 = .ok (.iload 7, 2) := by decide +kernel
theorem dL_law_3060 : decode cL_law 3060 = .ok (.i2l, 1) := by decide +kernel
theorem dL_law_3061 : decode cL_law 3061 = .ok (.lcmp, 1) := by decide +kernel
theorem dL_law_3062 : decode cL_law 3062 = .ok (.ifCond .eq 5, 3) := by decide +kernel
theorem dL_law_3065 : decode cL_law 3065 = .ok (.iconst 0, 1) := by decide +kernel
theorem dL_law_3066 : decode cL_law 3066 = .ok (.ireturn, 1) := by decide +kernel
theorem dL_law_3067 : decode cL_law 3067 = .ok (.goto 549, 3) := by decide +kernel
theorem dL_law_3070 : decode cL_law 3070 = .ok (.aload_n 1, 1) := by decide +kernel
theorem dL_law_3071 : decode cL_law 3071 = .ok (.aload_n 0, 1) := by decide +kernel
theorem dL_law_3072 : decode cL_law 3072 = .ok (.iload 5, 2) := by decide +kernel
theorem dL_law_3074 : decode cL_law 3074 = .ok (.iconst 1, 1) := by decide +kernel
theorem dL_law_3075 : decode cL_law 3075 = .ok (.iadd, 1) := by decide +kernel
theorem dL_law_3076 : decode cL_law 3076 = .ok (.iaload, 1) := by decide +kernel
theorem dL_law_3077 : decode cL_law 3077 = .ok (.aload_n 0, 1) := by decide +kernel
theorem dL_law_3078 : decode cL_law 3078 = .ok (.iload 5, 2) := by decide +kernel
theorem dL_law_3080 : decode cL_law 3080 = .ok (.iconst 2, 1) := by decide +kernel
theorem dL_law_3081 : decode cL_law 3081 = .ok (.iadd, 1) := by decide +kernel
theorem dL_law_3082 : decode cL_law 3082 = .ok (.iaload, 1) := by decide +kernel
theorem dL_law_3083 : decode cL_law 3083 = .ok (.ifCond .eq 7, 3) := by decide +kernel
theorem dL_law_3086 : decode cL_law 3086 = .ok (.iconst 1, 1) := by decide +kernel
theorem dL_law_3087 : decode cL_law 3087 = .ok (.goto 4, 3) := by decide +kernel
theorem dL_law_3090 : decode cL_law 3090 = .ok (.iconst 0, 1) := by decide +kernel
theorem dL_law_3091 : decode cL_law 3091 = .ok (.aload_n 3, 1) := by decide +kernel
theorem dL_law_3092 : decode cL_law 3092 = .ok (.invokestatic 336, 3) := by decide +kernel
theorem dL_law_3095 : decode cL_law 3095 = .ok (.istore 6, 2) := by decide +kernel
theorem dL_law_3097 : decode cL_law 3097 = .ok (.aload_n 2, 1) := by decide +kernel
theorem dL_law_3098 : decode cL_law 3098 = .ok (.aload_n 0, 1) := by decide +kernel
theorem dL_law_3099 : decode cL_law 3099 = .ok (.iload 5, 2) := by decide +kernel
theorem dL_law_3101 : decode cL_law 3101 = .ok (.iconst 1, 1) := by decide +kernel
theorem dL_law_3102 : decode cL_law 3102 = .ok (.iadd, 1) := by decide +kernel
theorem dL_law_3103 : decode cL_law 3103 = .ok (.iaload, 1) := by decide +kernel
theorem dL_law_3104 : decode cL_law 3104 = .ok (.aload_n 0, 1) := by decide +kernel
theorem dL_law_3105 : decode cL_law 3105 = .ok (.iload 5, 2) := by decide +kernel
theorem dL_law_3107 : decode cL_law 3107 = .ok (.iconst 2, 1) := by decide +kernel
theorem dL_law_3108 : decode cL_law 3108 = .ok (.iadd, 1) := by decide +kernel
theorem dL_law_3109 : decode cL_law 3109 = .ok (.iaload, 1) := by decide +kernel
theorem dL_law_3110 : decode cL_law 3110 = .ok (.ifCond .eq 7, 3) := by decide +kernel
theorem dL_law_3113 : decode cL_law 3113 = .ok (.iconst 1, 1) := by decide +kernel
theorem dL_law_3114 : decode cL_law 3114 = .ok (.goto 4, 3) := by decide +kernel
theorem dL_law_3117 : decode cL_law 3117 = .ok (.iconst 0, 1) := by decide +kernel
theorem dL_law_3118 : decode cL_law 3118 = .ok (.invokevirtual 339, 3) := by decide +kernel
theorem dL_law_3121 : decode cL_law 3121 = .ok (.istore 7, 2) := by decide +kernel
theorem dL_law_3123 : decode cL_law 3123 = .ok (.aload_n 2, 1) := by decide +kernel
theorem dL_law_3124 : decode cL_law 3124 = .ok (.invokevirtual 203, 3) := by decide +kernel
theorem dL_law_3127 : decode cL_law 3127 = .ok (.iload 6, 2) := by decide +kernel
theorem dL_law_3129 : decode cL_law 3129 = .ok (.if_icmp .eq 5, 3) := by decide +kernel
theorem dL_law_3132 : decode cL_law 3132 = .ok (.iconst 0, 1) := by decide +kernel
theorem dL_law_3133 : decode cL_law 3133 = .ok (.ireturn, 1) := by decide +kernel
theorem dL_law_3134 : decode cL_law 3134 = .ok (.iload 6, 2) := by decide +kernel
theorem dL_law_3136 : decode cL_law 3136 = .ok (.ifCond .ne 22, 3) := by decide +kernel
theorem dL_law_3139 : decode cL_law 3139 = .ok (.aload_n 3, 1) := by decide +kernel
theorem dL_law_3140 : decode cL_law 3140 = .ok (.iconst 0, 1) := by decide +kernel
theorem dL_law_3141 : decode cL_law 3141 = .ok (.laload, 1) := by decide +kernel
theorem dL_law_3142 : decode cL_law 3142 = .ok (.iload 7, 2) := by decide +kernel
theorem dL_law_3144 : decode cL_law 3144 = .ok (.ifCond .eq 7, 3) := by decide +kernel
theorem dL_law_3147 : decode cL_law 3147 = .ok (.lconst 1, 1) := by decide +kernel
theorem dL_law_3148 : decode cL_law 3148 = .ok (.goto 4, 3) := by decide +kernel
theorem dL_law_3151 : decode cL_law 3151 = .ok (.lconst 0, 1) := by decide +kernel
theorem dL_law_3152 : decode cL_law 3152 = .ok (.lcmp, 1) := by decide +kernel
theorem dL_law_3153 : decode cL_law 3153 = .ok (.ifCond .eq 5, 3) := by decide +kernel
theorem dL_law_3156 : decode cL_law 3156 = .ok (.iconst 0, 1) := by decide +kernel
theorem dL_law_3157 : decode cL_law 3157 = .ok (.ireturn, 1) := by decide +kernel
theorem dL_law_3158 : decode cL_law 3158 = .ok (.goto 458, 3) := by decide +kernel
theorem dL_law_3161 : decode cL_law 3161 = .ok (.aload_n 1, 1) := by decide +kernel
theorem dL_law_3162 : decode cL_law 3162 = .ok (.aload_n 0, 1) := by decide +kernel
theorem dL_law_3163 : decode cL_law 3163 = .ok (.iload 5, 2) := by decide +kernel
theorem dL_law_3165 : decode cL_law 3165 = .ok (.iconst 1, 1) := by decide +kernel
theorem dL_law_3166 : decode cL_law 3166 = .ok (.iadd, 1) := by decide +kernel
theorem dL_law_3167 : decode cL_law 3167 = .ok (.iaload, 1) := by decide +kernel
theorem dL_law_3168 : decode cL_law 3168 = .ok (.aload_n 0, 1) := by decide +kernel
theorem dL_law_3169 : decode cL_law 3169 = .ok (.iload 5, 2) := by decide +kernel
theorem dL_law_3171 : decode cL_law 3171 = .ok (.iconst 2, 1) := by decide +kernel
theorem dL_law_3172 : decode cL_law 3172 = .ok (.iadd, 1) := by decide +kernel
theorem dL_law_3173 : decode cL_law 3173 = .ok (.iaload, 1) := by decide +kernel
theorem dL_law_3174 : decode cL_law 3174 = .ok (.aload_n 0, 1) := by decide +kernel
theorem dL_law_3175 : decode cL_law 3175 = .ok (.iload 5, 2) := by decide +kernel
theorem dL_law_3177 : decode cL_law 3177 = .ok (.iconst 3, 1) := by decide +kernel
theorem dL_law_3178 : decode cL_law 3178 = .ok (.iadd, 1) := by decide +kernel
theorem dL_law_3179 : decode cL_law 3179 = .ok (.iaload, 1) := by decide +kernel
theorem dL_law_3180 : decode cL_law 3180 = .ok (.aload_n 3, 1) := by decide +kernel
theorem dL_law_3181 : decode cL_law 3181 = .ok (.invokestatic 340, 3) := by decide +kernel
theorem dL_law_3184 : decode cL_law 3184 = .ok (.istore 6, 2) := by decide +kernel
theorem dL_law_3186 : decode cL_law 3186 = .ok (.aload_n 2, 1) := by decide +kernel
theorem dL_law_3187 : decode cL_law 3187 = .ok (.aload_n 0, 1) := by decide +kernel
theorem dL_law_3188 : decode cL_law 3188 = .ok (.iload 5, 2) := by decide +kernel
theorem dL_law_3190 : decode cL_law 3190 = .ok (.iconst 1, 1) := by decide +kernel
theorem dL_law_3191 : decode cL_law 3191 = .ok (.iadd, 1) := by decide +kernel
theorem dL_law_3192 : decode cL_law 3192 = .ok (.iaload, 1) := by decide +kernel
theorem dL_law_3193 : decode cL_law 3193 = .ok (.aload_n 0, 1) := by decide +kernel
theorem dL_law_3194 : decode cL_law 3194 = .ok (.iload 5, 2) := by decide +kernel
theorem dL_law_3196 : decode cL_law 3196 = .ok (.iconst 2, 1) := by decide +kernel
theorem dL_law_3197 : decode cL_law 3197 = .ok (.iadd, 1) := by decide +kernel
theorem dL_law_3198 : decode cL_law 3198 = .ok (.iaload, 1) := by decide +kernel
theorem dL_law_3199 : decode cL_law 3199 = .ok (.aload_n 0, 1) := by decide +kernel
theorem dL_law_3200 : decode cL_law 3200 = .ok (.iload 5, 2) := by decide +kernel
theorem dL_law_3202 : decode cL_law 3202 = .ok (.iconst 3, 1) := by decide +kernel
theorem dL_law_3203 : decode cL_law 3203 = .ok (.iadd, 1) := by decide +kernel
theorem dL_law_3204 : decode cL_law 3204 = .ok (.iaload, 1) := by decide +kernel
theorem dL_law_3205 : decode cL_law 3205 = .ok (.invokevirtual 342, 3) := by decide +kernel
theorem dL_law_3208 : decode cL_law 3208 = .ok (.istore 7, 2) := by decide +kernel
theorem dL_law_3210 : decode cL_law 3210 = .ok (.aload_n 2, 1) := by decide +kernel
theorem dL_law_3211 : decode cL_law 3211 = .ok (.invokevirtual 203, 3) := by decide +kernel
theorem dL_law_3214 : decode cL_law 3214 = .ok (.iload 6, 2) := by decide +kernel
theorem dL_law_3216 : decode cL_law 3216 = .ok (.if_icmp .eq 5, 3) := by decide +kernel
theorem dL_law_3219 : decode cL_law 3219 = .ok (.iconst 0, 1) := by decide +kernel
theorem dL_law_3220 : decode cL_law 3220 = .ok (.ireturn, 1) := by decide +kernel
theorem dL_law_3221 : decode cL_law 3221 = .ok (.iload 6, 2) := by decide +kernel
theorem dL_law_3223 : decode cL_law 3223 = .ok (.ifCond .ne 15, 3) := by decide +kernel
theorem dL_law_3226 : decode cL_law 3226 = .ok (.aload_n 3, 1) := by decide +kernel
theorem dL_law_3227 : decode cL_law 3227 = .ok (.iconst 0, 1) := by decide +kernel
theorem dL_law_3228 : decode cL_law 3228 = .ok (.laload, 1) := by decide +kernel
theorem dL_law_3229 : decode cL_law 3229 = .ok (.iload 7, 2) := by decide +kernel
theorem dL_law_3231 : decode cL_law 3231 = .ok (.i2l, 1) := by decide +kernel
theorem dL_law_3232 : decode cL_law 3232 = .ok (.lcmp, 1) := by decide +kernel
theorem dL_law_3233 : decode cL_law 3233 = .ok (.ifCond .eq 5, 3) := by decide +kernel
theorem dL_law_3236 : decode cL_law 3236 = .ok (.iconst 0, 1) := by decide +kernel
theorem dL_law_3237 : decode cL_law 3237 = .ok (.ireturn, 1) := by decide +kernel
theorem dL_law_3238 : decode cL_law 3238 = .ok (.goto 378, 3) := by decide +kernel
theorem dL_law_3241 : decode cL_law 3241 = .ok (.aload_n 1, 1) := by decide +kernel
theorem dL_law_3242 : decode cL_law 3242 = .ok (.aload_n 0, 1) := by decide +kernel
theorem dL_law_3243 : decode cL_law 3243 = .ok (.iload 5, 2) := by decide +kernel
theorem dL_law_3245 : decode cL_law 3245 = .ok (.iconst 1, 1) := by decide +kernel
theorem dL_law_3246 : decode cL_law 3246 = .ok (.iadd, 1) := by decide +kernel
theorem dL_law_3247 : decode cL_law 3247 = .ok (.iaload, 1) := by decide +kernel
theorem dL_law_3248 : decode cL_law 3248 = .ok (.aload_n 0, 1) := by decide +kernel
theorem dL_law_3249 : decode cL_law 3249 = .ok (.iload 5, 2) := by decide +kernel
theorem dL_law_3251 : decode cL_law 3251 = .ok (.iconst 2, 1) := by decide +kernel
theorem dL_law_3252 : decode cL_law 3252 = .ok (.iadd, 1) := by decide +kernel
theorem dL_law_3253 : decode cL_law 3253 = .ok (.iaload, 1) := by decide +kernel
theorem dL_law_3254 : decode cL_law 3254 = .ok (.aload_n 3, 1) := by decide +kernel
theorem dL_law_3255 : decode cL_law 3255 = .ok (.invokestatic 343, 3) := by decide +kernel
theorem dL_law_3258 : decode cL_law 3258 = .ok (.istore 6, 2) := by decide +kernel
theorem dL_law_3260 : decode cL_law 3260 = .ok (.aload_n 2, 1) := by decide +kernel
theorem dL_law_3261 : decode cL_law 3261 = .ok (.aload_n 0, 1) := by decide +kernel
theorem dL_law_3262 : decode cL_law 3262 = .ok (.iload 5, 2) := by decide +kernel
theorem dL_law_3264 : decode cL_law 3264 = .ok (.iconst 1, 1) := by decide +kernel
theorem dL_law_3265 : decode cL_law 3265 = .ok (.iadd, 1) := by decide +kernel
theorem dL_law_3266 : decode cL_law 3266 = .ok (.iaload, 1) := by decide +kernel
theorem dL_law_3267 : decode cL_law 3267 = .ok (.aload_n 0, 1) := by decide +kernel
theorem dL_law_3268 : decode cL_law 3268 = .ok (.iload 5, 2) := by decide +kernel
theorem dL_law_3270 : decode cL_law 3270 = .ok (.iconst 2, 1) := by decide +kernel
theorem dL_law_3271 : decode cL_law 3271 = .ok (.iadd, 1) := by decide +kernel
theorem dL_law_3272 : decode cL_law 3272 = .ok (.iaload, 1) := by decide +kernel
theorem dL_law_3273 : decode cL_law 3273 = .ok (.invokevirtual 345, 3) := by decide +kernel
theorem dL_law_3276 : decode cL_law 3276 = .ok (.istore 7, 2) := by decide +kernel
theorem dL_law_3278 : decode cL_law 3278 = .ok (.aload_n 2, 1) := by decide +kernel
theorem dL_law_3279 : decode cL_law 3279 = .ok (.invokevirtual 203, 3) := by decide +kernel
theorem dL_law_3282 : decode cL_law 3282 = .ok (.iload 6, 2) := by decide +kernel
theorem dL_law_3284 : decode cL_law 3284 = .ok (.if_icmp .eq 5, 3) := by decide +kernel
theorem dL_law_3287 : decode cL_law 3287 = .ok (.iconst 0, 1) := by decide +kernel
theorem dL_law_3288 : decode cL_law 3288 = .ok (.ireturn, 1) := by decide +kernel
theorem dL_law_3289 : decode cL_law 3289 = .ok (.iload 6, 2) := by decide +kernel
theorem dL_law_3291 : decode cL_law 3291 = .ok (.ifCond .ne 15, 3) := by decide +kernel
theorem dL_law_3294 : decode cL_law 3294 = .ok (.aload_n 3, 1) := by decide +kernel
theorem dL_law_3295 : decode cL_law 3295 = .ok (.iconst 0, 1) := by decide +kernel
theorem dL_law_3296 : decode cL_law 3296 = .ok (.laload, 1) := by decide +kernel
theorem dL_law_3297 : decode cL_law 3297 = .ok (.iload 7, 2) := by decide +kernel
theorem dL_law_3299 : decode cL_law 3299 = .ok (.i2l, 1) := by decide +kernel
theorem dL_law_3300 : decode cL_law 3300 = .ok (.lcmp, 1) := by decide +kernel
theorem dL_law_3301 : decode cL_law 3301 = .ok (.ifCond .eq 5, 3) := by decide +kernel
theorem dL_law_3304 : decode cL_law 3304 = .ok (.iconst 0, 1) := by decide +kernel
theorem dL_law_3305 : decode cL_law 3305 = .ok (.ireturn, 1) := by decide +kernel
theorem dL_law_3306 : decode cL_law 3306 = .ok (.goto 310, 3) := by decide +kernel
theorem dL_law_3309 : decode cL_law 3309 = .ok (.aload_n 1, 1) := by decide +kernel
theorem dL_law_3310 : decode cL_law 3310 = .ok (.aload_n 0, 1) := by decide +kernel
theorem dL_law_3311 : decode cL_law 3311 = .ok (.iload 5, 2) := by decide +kernel
theorem dL_law_3313 : decode cL_law 3313 = .ok (.iconst 1, 1) := by decide +kernel
theorem dL_law_3314 : decode cL_law 3314 = .ok (.iadd, 1) := by decide +kernel
theorem dL_law_3315 : decode cL_law 3315 = .ok (.iaload, 1) := by decide +kernel
theorem dL_law_3316 : decode cL_law 3316 = .ok (.aload_n 3, 1) := by decide +kernel
theorem dL_law_3317 : decode cL_law 3317 = .ok (.invokestatic 346, 3) := by decide +kernel
theorem dL_law_3320 : decode cL_law 3320 = .ok (.istore 6, 2) := by decide +kernel
theorem dL_law_3322 : decode cL_law 3322 = .ok (.aload_n 2, 1) := by decide +kernel
theorem dL_law_3323 : decode cL_law 3323 = .ok (.aload_n 0, 1) := by decide +kernel
theorem dL_law_3324 : decode cL_law 3324 = .ok (.iload 5, 2) := by decide +kernel
theorem dL_law_3326 : decode cL_law 3326 = .ok (.iconst 1, 1) := by decide +kernel
theorem dL_law_3327 : decode cL_law 3327 = .ok (.iadd, 1) := by decide +kernel
theorem dL_law_3328 : decode cL_law 3328 = .ok (.iaload, 1) := by decide +kernel
theorem dL_law_3329 : decode cL_law 3329 = .ok (.invokevirtual 348, 3) := by decide +kernel
theorem dL_law_3332 : decode cL_law 3332 = .ok (.istore 7, 2) := by decide +kernel
theorem dL_law_3334 : decode cL_law 3334 = .ok (.aload_n 2, 1) := by decide +kernel
theorem dL_law_3335 : decode cL_law 3335 = .ok (.invokevirtual 203, 3) := by decide +kernel
theorem dL_law_3338 : decode cL_law 3338 = .ok (.iload 6, 2) := by decide +kernel
theorem dL_law_3340 : decode cL_law 3340 = .ok (.if_icmp .eq 5, 3) := by decide +kernel
theorem dL_law_3343 : decode cL_law 3343 = .ok (.iconst 0, 1) := by decide +kernel
theorem dL_law_3344 : decode cL_law 3344 = .ok (.ireturn, 1) := by decide +kernel
theorem dL_law_3345 : decode cL_law 3345 = .ok (.iload 6, 2) := by decide +kernel
theorem dL_law_3347 : decode cL_law 3347 = .ok (.ifCond .ne 15, 3) := by decide +kernel
theorem dL_law_3350 : decode cL_law 3350 = .ok (.aload_n 3, 1) := by decide +kernel
theorem dL_law_3351 : decode cL_law 3351 = .ok (.iconst 0, 1) := by decide +kernel
theorem dL_law_3352 : decode cL_law 3352 = .ok (.laload, 1) := by decide +kernel
theorem dL_law_3353 : decode cL_law 3353 = .ok (.iload 7, 2) := by decide +kernel
theorem dL_law_3355 : decode cL_law 3355 = .ok (.i2l, 1) := by decide +kernel
theorem dL_law_3356 : decode cL_law 3356 = .ok (.lcmp, 1) := by decide +kernel
theorem dL_law_3357 : decode cL_law 3357 = .ok (.ifCond .eq 5, 3) := by decide +kernel
theorem dL_law_3360 : decode cL_law 3360 = .ok (.iconst 0, 1) := by decide +kernel
theorem dL_law_3361 : decode cL_law 3361 = .ok (.ireturn, 1) := by decide +kernel
theorem dL_law_3362 : decode cL_law 3362 = .ok (.goto 254, 3) := by decide +kernel
theorem dL_law_3365 : decode cL_law 3365 = .ok (.aload_n 1, 1) := by decide +kernel
theorem dL_law_3366 : decode cL_law 3366 = .ok (.aload_n 3, 1) := by decide +kernel
theorem dL_law_3367 : decode cL_law 3367 = .ok (.invokestatic 349, 3) := by decide +kernel
theorem dL_law_3370 : decode cL_law 3370 = .ok (.istore 6, 2) := by decide +kernel
theorem dL_law_3372 : decode cL_law 3372 = .ok (.aload_n 2, 1) := by decide +kernel
theorem dL_law_3373 : decode cL_law 3373 = .ok (.invokevirtual 351, 3) := by decide +kernel
theorem dL_law_3376 : decode cL_law 3376 = .ok (.istore 7, 2) := by decide +kernel
theorem dL_law_3378 : decode cL_law 3378 = .ok (.aload_n 2, 1) := by decide +kernel
theorem dL_law_3379 : decode cL_law 3379 = .ok (.invokevirtual 203, 3) := by decide +kernel
theorem dL_law_3382 : decode cL_law 3382 = .ok (.iload 6, 2) := by decide +kernel
theorem dL_law_3384 : decode cL_law 3384 = .ok (.if_icmp .eq 5, 3) := by decide +kernel
theorem dL_law_3387 : decode cL_law 3387 = .ok (.iconst 0, 1) := by decide +kernel
theorem dL_law_3388 : decode cL_law 3388 = .ok (.ireturn, 1) := by decide +kernel
theorem dL_law_3389 : decode cL_law 3389 = .ok (.iload 6, 2) := by decide +kernel
theorem dL_law_3391 : decode cL_law 3391 = .ok (.ifCond .ne 15, 3) := by decide +kernel
theorem dL_law_3394 : decode cL_law 3394 = .ok (.aload_n 3, 1) := by decide +kernel
theorem dL_law_3395 : decode cL_law 3395 = .ok (.iconst 0, 1) := by decide +kernel
theorem dL_law_3396 : decode cL_law 3396 = .ok (.laload, 1) := by decide +kernel
theorem dL_law_3397 : decode cL_law 3397 = .ok (.iload 7, 2) := by decide +kernel
theorem dL_law_3399 : decode cL_law 3399 = .ok (.i2l, 1) := by decide +kernel
theorem dL_law_3400 : decode cL_law 3400 = .ok (.lcmp, 1) := by decide +kernel
theorem dL_law_3401 : decode cL_law 3401 = .ok (.ifCond .eq 5, 3) := by decide +kernel
theorem dL_law_3404 : decode cL_law 3404 = .ok (.iconst 0, 1) := by decide +kernel
theorem dL_law_3405 : decode cL_law 3405 = .ok (.ireturn, 1) := by decide +kernel
theorem dL_law_3406 : decode cL_law 3406 = .ok (.goto 210, 3) := by decide +kernel
theorem dL_law_3409 : decode cL_law 3409 = .ok (.aload_n 1, 1) := by decide +kernel
theorem dL_law_3410 : decode cL_law 3410 = .ok (.aload_n 0, 1) := by decide +kernel
theorem dL_law_3411 : decode cL_law 3411 = .ok (.iload 5, 2) := by decide +kernel
theorem dL_law_3413 : decode cL_law 3413 = .ok (.iconst 1, 1) := by decide +kernel
theorem dL_law_3414 : decode cL_law 3414 = .ok (.iadd, 1) := by decide +kernel
theorem dL_law_3415 : decode cL_law 3415 = .ok (.iaload, 1) := by decide +kernel
theorem dL_law_3416 : decode cL_law 3416 = .ok (.aload_n 3, 1) := by decide +kernel
theorem dL_law_3417 : decode cL_law 3417 = .ok (.invokestatic 352, 3) := by decide +kernel
theorem dL_law_3420 : decode cL_law 3420 = .ok (.istore 6, 2) := by decide +kernel
theorem dL_law_3422 : decode cL_law 3422 = .ok (.aload_n 2, 1) := by decide +kernel
theorem dL_law_3423 : decode cL_law 3423 = .ok (.aload_n 0, 1) := by decide +kernel
theorem dL_law_3424 : decode cL_law 3424 = .ok (.iload 5, 2) := by decide +kernel
theorem dL_law_3426 : decode cL_law 3426 = .ok (.iconst 1, 1) := by decide +kernel
theorem dL_law_3427 : decode cL_law 3427 = .ok (.iadd, 1) := by decide +kernel
theorem dL_law_3428 : decode cL_law 3428 = .ok (.iaload, 1) := by decide +kernel
theorem dL_law_3429 : decode cL_law 3429 = .ok (.invokevirtual 354, 3) := by decide +kernel
theorem dL_law_3432 : decode cL_law 3432 = .ok (.istore 7, 2) := by decide +kernel
theorem dL_law_3434 : decode cL_law 3434 = .ok (.aload_n 2, 1) := by decide +kernel
theorem dL_law_3435 : decode cL_law 3435 = .ok (.invokevirtual 203, 3) := by decide +kernel
theorem dL_law_3438 : decode cL_law 3438 = .ok (.iload 6, 2) := by decide +kernel
theorem dL_law_3440 : decode cL_law 3440 = .ok (.if_icmp .eq 5, 3) := by decide +kernel
theorem dL_law_3443 : decode cL_law 3443 = .ok (.iconst 0, 1) := by decide +kernel
theorem dL_law_3444 : decode cL_law 3444 = .ok (.ireturn, 1) := by decide +kernel
theorem dL_law_3445 : decode cL_law 3445 = .ok (.iload 6, 2) := by decide +kernel
theorem dL_law_3447 : decode cL_law 3447 = .ok (.ifCond .ne 15, 3) := by decide +kernel
theorem dL_law_3450 : decode cL_law 3450 = .ok (.aload_n 3, 1) := by decide +kernel
theorem dL_law_3451 : decode cL_law 3451 = .ok (.iconst 0, 1) := by decide +kernel
theorem dL_law_3452 : decode cL_law 3452 = .ok (.laload, 1) := by decide +kernel
theorem dL_law_3453 : decode cL_law 3453 = .ok (.iload 7, 2) := by decide +kernel
theorem dL_law_3455 : decode cL_law 3455 = .ok (.i2l, 1) := by decide +kernel
theorem dL_law_3456 : decode cL_law 3456 = .ok (.lcmp, 1) := by decide +kernel
theorem dL_law_3457 : decode cL_law 3457 = .ok (.ifCond .eq 5, 3) := by decide +kernel
theorem dL_law_3460 : decode cL_law 3460 = .ok (.iconst 0, 1) := by decide +kernel
theorem dL_law_3461 : decode cL_law 3461 = .ok (.ireturn, 1) := by decide +kernel
theorem dL_law_3462 : decode cL_law 3462 = .ok (.goto 154, 3) := by decide +kernel
theorem dL_law_3465 : decode cL_law 3465 = .ok (.aload_n 1, 1) := by decide +kernel
theorem dL_law_3466 : decode cL_law 3466 = .ok (.aload_n 0, 1) := by decide +kernel
theorem dL_law_3467 : decode cL_law 3467 = .ok (.iload 5, 2) := by decide +kernel
theorem dL_law_3469 : decode cL_law 3469 = .ok (.iconst 1, 1) := by decide +kernel
theorem dL_law_3470 : decode cL_law 3470 = .ok (.iadd, 1) := by decide +kernel
theorem dL_law_3471 : decode cL_law 3471 = .ok (.iaload, 1) := by decide +kernel
theorem dL_law_3472 : decode cL_law 3472 = .ok (.aload_n 3, 1) := by decide +kernel
theorem dL_law_3473 : decode cL_law 3473 = .ok (.invokestatic 355, 3) := by decide +kernel
theorem dL_law_3476 : decode cL_law 3476 = .ok (.istore 6, 2) := by decide +kernel
theorem dL_law_3478 : decode cL_law 3478 = .ok (.aload_n 2, 1) := by decide +kernel
theorem dL_law_3479 : decode cL_law 3479 = .ok (.aload_n 0, 1) := by decide +kernel
theorem dL_law_3480 : decode cL_law 3480 = .ok (.iload 5, 2) := by decide +kernel
theorem dL_law_3482 : decode cL_law 3482 = .ok (.iconst 1, 1) := by decide +kernel
theorem dL_law_3483 : decode cL_law 3483 = .ok (.iadd, 1) := by decide +kernel
theorem dL_law_3484 : decode cL_law 3484 = .ok (.iaload, 1) := by decide +kernel
theorem dL_law_3485 : decode cL_law 3485 = .ok (.invokevirtual 357, 3) := by decide +kernel
theorem dL_law_3488 : decode cL_law 3488 = .ok (.istore 7, 2) := by decide +kernel
theorem dL_law_3490 : decode cL_law 3490 = .ok (.aload_n 2, 1) := by decide +kernel
theorem dL_law_3491 : decode cL_law 3491 = .ok (.invokevirtual 203, 3) := by decide +kernel
theorem dL_law_3494 : decode cL_law 3494 = .ok (.iload 6, 2) := by decide +kernel
theorem dL_law_3496 : decode cL_law 3496 = .ok (.if_icmp .eq 5, 3) := by decide +kernel
theorem dL_law_3499 : decode cL_law 3499 = .ok (.iconst 0, 1) := by decide +kernel
theorem dL_law_3500 : decode cL_law 3500 = .ok (.ireturn, 1) := by decide +kernel
theorem dL_law_3501 : decode cL_law 3501 = .ok (.iload 6, 2) := by decide +kernel
theorem dL_law_3503 : decode cL_law 3503 = .ok (.ifCond .ne 15, 3) := by decide +kernel
theorem dL_law_3506 : decode cL_law 3506 = .ok (.aload_n 3, 1) := by decide +kernel
theorem dL_law_3507 : decode cL_law 3507 = .ok (.iconst 0, 1) := by decide +kernel
theorem dL_law_3508 : decode cL_law 3508 = .ok (.laload, 1) := by decide +kernel
theorem dL_law_3509 : decode cL_law 3509 = .ok (.iload 7, 2) := by decide +kernel
theorem dL_law_3511 : decode cL_law 3511 = .ok (.i2l, 1) := by decide +kernel
theorem dL_law_3512 : decode cL_law 3512 = .ok (.lcmp, 1) := by decide +kernel
theorem dL_law_3513 : decode cL_law 3513 = .ok (.ifCond .eq 5, 3) := by decide +kernel
theorem dL_law_3516 : decode cL_law 3516 = .ok (.iconst 0, 1) := by decide +kernel
theorem dL_law_3517 : decode cL_law 3517 = .ok (.ireturn, 1) := by decide +kernel
theorem dL_law_3518 : decode cL_law 3518 = .ok (.goto 98, 3) := by decide +kernel
theorem dL_law_3521 : decode cL_law 3521 = .ok (.aload_n 1, 1) := by decide +kernel
theorem dL_law_3522 : decode cL_law 3522 = .ok (.invokevirtual 358, 3) := by decide +kernel
theorem dL_law_3525 : decode cL_law 3525 = .ok (.aload_n 2, 1) := by decide +kernel
theorem dL_law_3526 : decode cL_law 3526 = .ok (.invokevirtual 361, 3) := by decide +kernel
theorem dL_law_3529 : decode cL_law 3529 = .ok (.if_icmp .eq 87, 3) := by decide +kernel
theorem dL_law_3532 : decode cL_law 3532 = .ok (.iconst 0, 1) := by decide +kernel
theorem dL_law_3533 : decode cL_law 3533 = .ok (.ireturn, 1) := by decide +kernel
theorem dL_law_3534 : decode cL_law 3534 = .ok (.aload_n 1, 1) := by decide +kernel
theorem dL_law_3535 : decode cL_law 3535 = .ok (.aload_n 0, 1) := by decide +kernel
theorem dL_law_3536 : decode cL_law 3536 = .ok (.iload 5, 2) := by decide +kernel
theorem dL_law_3538 : decode cL_law 3538 = .ok (.iconst 1, 1) := by decide +kernel
theorem dL_law_3539 : decode cL_law 3539 = .ok (.iadd, 1) := by decide +kernel
theorem dL_law_3540 : decode cL_law 3540 = .ok (.iaload, 1) := by decide +kernel
theorem dL_law_3541 : decode cL_law 3541 = .ok (.invokevirtual 362, 3) := by decide +kernel
theorem dL_law_3544 : decode cL_law 3544 = .ok (.aload_n 2, 1) := by decide +kernel
theorem dL_law_3545 : decode cL_law 3545 = .ok (.aload_n 0, 1) := by decide +kernel
theorem dL_law_3546 : decode cL_law 3546 = .ok (.iload 5, 2) := by decide +kernel
theorem dL_law_3548 : decode cL_law 3548 = .ok (.iconst 1, 1) := by decide +kernel
theorem dL_law_3549 : decode cL_law 3549 = .ok (.iadd, 1) := by decide +kernel
theorem dL_law_3550 : decode cL_law 3550 = .ok (.iaload, 1) := by decide +kernel
theorem dL_law_3551 : decode cL_law 3551 = .ok (.invokevirtual 365, 3) := by decide +kernel
theorem dL_law_3554 : decode cL_law 3554 = .ok (.if_icmp .eq 62, 3) := by decide +kernel
theorem dL_law_3557 : decode cL_law 3557 = .ok (.iconst 0, 1) := by decide +kernel
theorem dL_law_3558 : decode cL_law 3558 = .ok (.ireturn, 1) := by decide +kernel
theorem dL_law_3559 : decode cL_law 3559 = .ok (.aload_n 1, 1) := by decide +kernel
theorem dL_law_3560 : decode cL_law 3560 = .ok (.invokevirtual 366, 3) := by decide +kernel
theorem dL_law_3563 : decode cL_law 3563 = .ok (.aload_n 2, 1) := by decide +kernel
theorem dL_law_3564 : decode cL_law 3564 = .ok (.invokevirtual 369, 3) := by decide +kernel
theorem dL_law_3567 : decode cL_law 3567 = .ok (.if_icmp .eq 49, 3) := by decide +kernel
theorem dL_law_3570 : decode cL_law 3570 = .ok (.iconst 0, 1) := by decide +kernel
theorem dL_law_3571 : decode cL_law 3571 = .ok (.ireturn, 1) := by decide +kernel
theorem dL_law_3572 : decode cL_law 3572 = .ok (.aload_n 1, 1) := by decide +kernel
theorem dL_law_3573 : decode cL_law 3573 = .ok (.aload_n 3, 1) := by decide +kernel
theorem dL_law_3574 : decode cL_law 3574 = .ok (.invokestatic 370, 3) := by decide +kernel
theorem dL_law_3577 : decode cL_law 3577 = .ok (.istore 6, 2) := by decide +kernel
theorem dL_law_3579 : decode cL_law 3579 = .ok (.aload_n 2, 1) := by decide +kernel
theorem dL_law_3580 : decode cL_law 3580 = .ok (.invokevirtual 372, 3) := by decide +kernel
theorem dL_law_3583 : decode cL_law 3583 = .ok (.istore 7, 2) := by decide +kernel
theorem dL_law_3585 : decode cL_law 3585 = .ok (.aload_n 2, 1) := by decide +kernel
theorem dL_law_3586 : decode cL_law 3586 = .ok (.invokevirtual 203, 3) := by decide +kernel
theorem dL_law_3589 : decode cL_law 3589 = .ok (.iload 6, 2) := by decide +kernel
theorem dL_law_3591 : decode cL_law 3591 = .ok (.if_icmp .eq 5, 3) := by decide +kernel
theorem dL_law_3594 : decode cL_law 3594 = .ok (.iconst 0, 1) := by decide +kernel
theorem dL_law_3595 : decode cL_law 3595 = .ok (.ireturn, 1) := by decide +kernel
theorem dL_law_3596 : decode cL_law 3596 = .ok (.iload 6, 2) := by decide +kernel
theorem dL_law_3598 : decode cL_law 3598 = .ok (.ifCond .ne 15, 3) := by decide +kernel
theorem dL_law_3601 : decode cL_law 3601 = .ok (.aload_n 3, 1) := by decide +kernel
theorem dL_law_3602 : decode cL_law 3602 = .ok (.iconst 0, 1) := by decide +kernel
theorem dL_law_3603 : decode cL_law 3603 = .ok (.laload, 1) := by decide +kernel
theorem dL_law_3604 : decode cL_law 3604 = .ok (.iload 7, 2) := by decide +kernel
theorem dL_law_3606 : decode cL_law 3606 = .ok (.i2l, 1) := by decide +kernel
theorem dL_law_3607 : decode cL_law 3607 = .ok (.lcmp, 1) := by decide +kernel
theorem dL_law_3608 : decode cL_law 3608 = .ok (.ifCond .eq 5, 3) := by decide +kernel
theorem dL_law_3611 : decode cL_law 3611 = .ok (.iconst 0, 1) := by decide +kernel
theorem dL_law_3612 : decode cL_law 3612 = .ok (.ireturn, 1) := by decide +kernel
theorem dL_law_3613 : decode cL_law 3613 = .ok (.goto 3, 3) := by decide +kernel
theorem dL_law_3616 : decode cL_law 3616 = .ok (.iinc 5 7, 3) := by decide +kernel
theorem dL_law_3619 : decode cL_law 3619 = .ok (.goto (-3591), 3) := by decide +kernel
theorem dL_law_3622 : decode cL_law 3622 = .ok (.iconst 1, 1) := by decide +kernel
theorem dL_law_3623 : decode cL_law 3623 = .ok (.ireturn, 1) := by decide +kernel
