theorem dL_law_2765 : decode cL_law 2765 = .ok (.goto 867, 3) := by decide +kernel
theorem dL_law_2768 : decode cL_law 2768 = .ok (.aload_n 1, 1) := by decide +kernel
theorem dL_law_2769 : decode cL_law 2769 = .ok (.aload_n 0, 1) := by decide +kernel
theorem dL_law_2770 : decode cL_law 2770 = .ok (.iload 5, 2) := by decide +kernel
theorem dL_law_2772 : decode cL_law 2772 = .ok (.iconst 1, 1) := by decide +kernel
theorem dL_law_2773 : decode cL_law 2773 = .ok (.iadd, 1) := by decide +kernel
theorem dL_law_2774 : decode cL_law 2774 = .ok (.iaload, 1) := by decide +kernel
theorem dL_law_2775 : decode cL_law 2775 = .ok (.aload_n 0, 1) := by decide +kernel
theorem dL_law_2776 : decode cL_law 2776 = .ok (.iload 5, 2) := by decide +kernel
theorem dL_law_2778 : decode cL_law 2778 = .ok (.iconst 2, 1) := by decide +kernel
theorem dL_law_2779 : decode cL_law 2779 = .ok (.iadd, 1) := by decide +kernel
theorem dL_law_2780 : decode cL_law 2780 = .ok (.iaload, 1) := by decide +kernel
theorem dL_law_2781 : decode cL_law 2781 = .ok (.aload_n 3, 1) := by decide +kernel
theorem dL_law_2782 : decode cL_law 2782 = .ok (.invokestatic 320, 3) := by decide +kernel
theorem dL_law_2785 : decode cL_law 2785 = .ok (.istore 6, 2) := by decide +kernel
theorem dL_law_2787 : decode cL_law 2787 = .ok (.aload_n 2, 1) := by decide +kernel
theorem dL_law_2788 : decode cL_law 2788 = .ok (.aload_n 0, 1) := by decide +kernel
theorem dL_law_2789 : decode cL_law 2789 = .ok (.iload 5, 2) := by decide +kernel
theorem dL_law_2791 : decode cL_law 2791 = .ok (.iconst 1, 1) := by decide +kernel
theorem dL_law_2792 : decode cL_law 2792 = .ok (.iadd, 1) := by decide +kernel
theorem dL_law_2793 : decode cL_law 2793 = .ok (.iaload, 1) := by decide +kernel
theorem dL_law_2794 : decode cL_law 2794 = .ok (.aload_n 0, 1) := by decide +kernel
theorem dL_law_2795 : decode cL_law 2795 = .ok (.iload 5, 2) := by decide +kernel
theorem dL_law_2797 : decode cL_law 2797 = .ok (.iconst 2, 1) := by decide +kernel
theorem dL_law_2798 : decode cL_law 2798 = .ok (.iadd, 1) := by decide +kernel
theorem dL_law_2799 : decode cL_law 2799 = .ok (.iaload, 1) := by decide +kernel
theorem dL_law_2800 : decode cL_law 2800 = .ok (.invokevirtual 322, 3) := by decide +kernel
theorem dL_law_2803 : decode cL_law 2803 = .ok (.istore 7, 2) := by decide +kernel
theorem dL_law_2805 : decode cL_law 2805 = .ok (.aload_n 2, 1) := by decide +kernel
theorem dL_law_2806 : decode cL_law 2806 = .ok (.invokevirtual 193, 3) := by decide +kernel
theorem dL_law_2809 : decode cL_law 2809 = .ok (.iload 6, 2) := by decide +kernel
theorem dL_law_2811 : decode cL_law 2811 = .ok (.if_icmp .eq 5, 3) := by decide +kernel
theorem dL_law_2814 : decode cL_law 2814 = .ok (.iconst 0, 1) := by decide +kernel
theorem dL_law_2815 : decode cL_law 2815 = .ok (.ireturn, 1) := by decide +kernel
theorem dL_law_2816 : decode cL_law 2816 = .ok (.iload 6, 2) := by decide +kernel
theorem dL_law_2818 : decode cL_law 2818 = .ok (.ifCond .ne 15, 3) := by decide +kernel
theorem dL_law_2821 : decode cL_law 2821 = .ok (.aload_n 3, 1) := by decide +kernel
theorem dL_law_2822 : decode cL_law 2822 = .ok (.iconst 0, 1) := by decide +kernel
theorem dL_law_2823 : decode cL_law 2823 = .ok (.laload, 1) := by decide +kernel
theorem dL_law_2824 : decode cL_law 2824 = .ok (.iload 7, 2) := by decide +kernel
theorem dL_law_2826 : decode cL_law 2826 = .ok (.i2l, 1) := by decide +kernel
theorem dL_law_2827 : decode cL_law 2827 = .ok (.lcmp, 1) := by decide +kernel
theorem dL_law_2828 : decode cL_law 2828 = .ok (.ifCond .eq 5, 3) := by decide +kernel
theorem dL_law_2831 : decode cL_law 2831 = .ok (.iconst 0, 1) := by decide +kernel
theorem dL_law_2832 : decode cL_law 2832 = .ok (.ireturn, 1) := by decide +kernel
theorem dL_law_2833 : decode cL_law 2833 = .ok (.goto 799, 3) := by decide +kernel
theorem dL_law_2836 : decode cL_law 2836 = .ok (.aload_n 1, 1) := by decide +kernel
theorem dL_law_2837 : decode cL_law 2837 = .ok (.invokevirtual 323, 3) := by decide +kernel
theorem dL_law_2840 : decode cL_law 2840 = .ok (.aload_n 2, 1) := by decide +kernel
theorem dL_law_2841 : decode cL_law 2841 = .ok (.invokevirtual 326, 3) := by decide +kernel
theorem dL_law_2844 : decode cL_law 2844 = .ok (.if_icmp .eq 788, 3) := by decide +kernel
theorem dL_law_2847 : decode cL_law 2847 = .ok (.iconst 0, 1) := by decide +kernel
theorem dL_law_2848 : decode cL_law 2848 = .ok (.ireturn, 1) := by decide +kernel
theorem dL_law_2849 : decode cL_law 2849 = .ok (.aload_n 1, 1) := by decide +kernel
theorem dL_law_2850 : decode cL_law 2850 = .ok (.aload_n 0, 1) := by decide +kernel
theorem dL_law_2851 : decode cL_law 2851 = .ok (.iload 5, 2) := by decide +kernel
theorem dL_law_2853 : decode cL_law 2853 = .ok (.iconst 1, 1) := by decide +kernel
theorem dL_law_2854 : decode cL_law 2854 = .ok (.iadd, 1) := by decide +kernel
theorem dL_law_2855 : decode cL_law 2855 = .ok (.iaload, 1) := by decide +kernel
theorem dL_law_2856 : decode cL_law 2856 = .ok (.aload_n 0, 1) := by decide +kernel
theorem dL_law_2857 : decode cL_law 2857 = .ok (.iload 5, 2) := by decide +kernel
theorem dL_law_2859 : decode cL_law 2859 = .ok (.iconst 2, 1) := by decide +kernel
theorem dL_law_2860 : decode cL_law 2860 = .ok (.iadd, 1) := by decide +kernel
theorem dL_law_2861 : decode cL_law 2861 = .ok (.iaload, 1) := by decide +kernel
theorem dL_law_2862 : decode cL_law 2862 = .ok (.aload_n 3, 1) := by decide +kernel
theorem dL_law_2863 : decode cL_law 2863 = .ok (.invokestatic 327, 3) := by decide +kernel
theorem dL_law_2866 : decode cL_law 2866 = .ok (.istore 6, 2) := by decide +kernel
theorem dL_law_2868 : decode cL_law 2868 = .ok (.aload_n 2, 1) := by decide +kernel
theorem dL_law_2869 : decode cL_law 2869 = .ok (.aload_n 0, 1) := by decide +kernel
theorem dL_law_2870 : decode cL_law 2870 = .ok (.iload 5, 2) := by decide +kernel
theorem dL_law_2872 : decode cL_law 2872 = .ok (.iconst 1, 1) := by decide +kernel
theorem dL_law_2873 : decode cL_law 2873 = .ok (.iadd, 1) := by decide +kernel
theorem dL_law_2874 : decode cL_law 2874 = .ok (.iaload, 1) := by decide +kernel
theorem dL_law_2875 : decode cL_law 2875 = .ok (.aload_n 0, 1) := by decide +kernel
theorem dL_law_2876 : decode cL_law 2876 = .ok (.iload 5, 2) := by decide +kernel
theorem dL_law_2878 : decode cL_law 2878 = .ok (.iconst 2, 1) := by decide +kernel
theorem dL_law_2879 : decode cL_law 2879 = .ok (.iadd, 1) := by decide +kernel
theorem dL_law_2880 : decode cL_law 2880 = .ok (.iaload, 1) := by decide +kernel
theorem dL_law_2881 : decode cL_law 2881 = .ok (.invokevirtual 329, 3) := by decide +kernel
theorem dL_law_2884 : decode cL_law 2884 = .ok (.istore 7, 2) := by decide +kernel
theorem dL_law_2886 : decode cL_law 2886 = .ok (.aload_n 2, 1) := by decide +kernel
theorem dL_law_2887 : decode cL_law 2887 = .ok (.invokevirtual 193, 3) := by decide +kernel
theorem dL_law_2890 : decode cL_law 2890 = .ok (.iload 6, 2) := by decide +kernel
theorem dL_law_2892 : decode cL_law 2892 = .ok (.if_icmp .eq 5, 3) := by decide +kernel
theorem dL_law_2895 : decode cL_law 2895 = .ok (.iconst 0, 1) := by decide +kernel
theorem dL_law_2896 : decode cL_law 2896 = .ok (.ireturn, 1) := by decide +kernel
theorem dL_law_2897 : decode cL_law 2897 = .ok (.iload 6, 2) := by decide +kernel
theorem dL_law_2899 : decode cL_law 2899 = .ok (.ifCond .ne 15, 3) := by decide +kernel
theorem dL_law_2902 : decode cL_law 2902 = .ok (.aload_n 3, 1) := by decide +kernel
theorem dL_law_2903 : decode cL_law 2903 = .ok (.iconst 0, 1) := by decide +kernel
theorem dL_law_2904 : decode cL_law 2904 = .ok (.laload, 1) := by decide +kernel
theorem dL_law_2905 : decode cL_law 2905 = .ok (.iload 7, 2) := by decide +kernel
theorem dL_law_2907 : decode cL_law 2907 = .ok (.i2l, 1) := by decide +kernel
theorem dL_law_2908 : decode cL_law 2908 = .ok (.lcmp, 1) := by decide +kernel
theorem dL_law_2909 : decode cL_law 2909 = .ok (.ifCond .eq 5, 3) := by decide +kernel
theorem dL_law_2912 : decode cL_law 2912 = .ok (.iconst 0, 1) := by decide +kernel
theorem dL_law_2913 : decode cL_law 2913 = .ok (.ireturn, 1) := by decide +kernel
theorem dL_law_2914 : decode cL_law 2914 = .ok (.goto 718, 3) := by decide +kernel
theorem dL_law_2917 : decode cL_law 2917 = .ok (.aload_n 1, 1) := by decide +kernel
theorem dL_law_2918 : decode cL_law 2918 = .ok (.aload_n 3, 1) := by decide +kernel
theorem dL_law_2919 : decode cL_law 2919 = .ok (.invokestatic 330, 3) := by decide +kernel
theorem dL_law_2922 : decode cL_law 2922 = .ok (.istore 6, 2) := by decide +kernel
theorem dL_law_2924 : decode cL_law 2924 = .ok (.aload_n 2, 1) := by decide +kernel
theorem dL_law_2925 : decode cL_law 2925 = .ok (.invokevirtual 333, 3) := by decide +kernel
theorem dL_law_2928 : decode cL_law 2928 = .ok (.istore 7, 2) := by decide +kernel
theorem dL_law_2930 : decode cL_law 2930 = .ok (.aload_n 2, 1) := by decide +kernel
theorem dL_law_2931 : decode cL_law 2931 = .ok (.invokevirtual 193, 3) := by decide +kernel
theorem dL_law_2934 : decode cL_law 2934 = .ok (.iload 6, 2) := by decide +kernel
theorem dL_law_2936 : decode cL_law 2936 = .ok (.if_icmp .eq 5, 3) := by decide +kernel
theorem dL_law_2939 : decode cL_law 2939 = .ok (.iconst 0, 1) := by decide +kernel
theorem dL_law_2940 : decode cL_law 2940 = .ok (.ireturn, 1) := by decide +kernel
theorem dL_law_2941 : decode cL_law 2941 = .ok (.iload 6, 2) := by decide +kernel
theorem dL_law_2943 : decode cL_law 2943 = .ok (.ifCond .ne 15, 3) := by decide +kernel
theorem dL_law_2946 : decode cL_law 2946 = .ok (.aload_n 3, 1) := by decide +kernel
theorem dL_law_2947 : decode cL_law 2947 = .ok (.iconst 0, 1) := by decide +kernel
theorem dL_law_2948 : decode cL_law 2948 = .ok (.laload, 1) := by decide +kernel
theorem dL_law_2949 : decode cL_law 2949 = .ok (.iload 7, 2) := by decide +kernel
theorem dL_law_2951 : decode cL_law 2951 = .ok (.i2l, 1) := by decide +kernel
theorem dL_law_2952 : decode cL_law 2952 = .ok (.lcmp, 1) := by decide +kernel
theorem dL_law_2953 : decode cL_law 2953 = .ok (.ifCond .eq 5, 3) := by decide +kernel
theorem dL_law_2956 : decode cL_law 2956 = .ok (.iconst 0, 1) := by decide +kernel
theorem dL_law_2957 : decode cL_law 2957 = .ok (.ireturn, 1) := by decide +kernel
theorem dL_law_2958 : decode cL_law 2958 = .ok (.goto 674, 3) := by decide +kernel
theorem dL_law_2961 : decode cL_law 2961 = .ok (.aload_n 1, 1) := by decide +kernel
theorem dL_law_2962 : decode cL_law 2962 = .ok (.aload_n 0, 1) := by decide +kernel
theorem dL_law_2963 : decode cL_law 2963 = .ok (.iload 5, 2) := by decide +kernel
theorem dL_law_2965 : decode cL_law 2965 = .ok (.iconst 1, 1) := by decide +kernel
theorem dL_law_2966 : decode cL_law 2966 = .ok (.iadd, 1) := by decide +kernel
theorem dL_law_2967 : decode cL_law 2967 = .ok (.iaload, 1) := by decide +kernel
theorem dL_law_2968 : decode cL_law 2968 = .ok (.aload_n 0, 1) := by decide +kernel
theorem dL_law_2969 : decode cL_law 2969 = .ok (.iload 5, 2) := by decide +kernel
theorem dL_law_2971 : decode cL_law 2971 = .ok (.iconst 2, 1) := by decide +kernel
theorem dL_law_2972 : decode cL_law 2972 = .ok (.iadd, 1) := by decide +kernel
theorem dL_law_2973 : decode cL_law 2973 = .ok (.iaload, 1) := by decide +kernel
theorem dL_law_2974 : decode cL_law 2974 = .ok (.aload_n 3, 1) := by decide +kernel
theorem dL_law_2975 : decode cL_law 2975 = .ok (.invokestatic 334, 3) := by decide +kernel
theorem dL_law_2978 : decode cL_law 2978 = .ok (.istore 6, 2) := by decide +kernel
theorem dL_law_2980 : decode cL_law 2980 = .ok (.aload_n 2, 1) := by decide +kernel
theorem dL_law_2981 : decode cL_law 2981 = .ok (.aload_n 0, 1) := by decide +kernel
theorem dL_law_2982 : decode cL_law 2982 = .ok (.iload 5, 2) := by decide +kernel
theorem dL_law_2984 : decode cL_law 2984 = .ok (.iconst 1, 1) := by decide +kernel
theorem dL_law_2985 : decode cL_law 2985 = .ok (.iadd, 1) := by decide +kernel
theorem dL_law_2986 : decode cL_law 2986 = .ok (.iaload, 1) := by decide +kernel
theorem dL_law_2987 : decode cL_law 2987 = .ok (.aload_n 0, 1) := by decide +kernel
theorem dL_law_2988 : decode cL_law 2988 = .ok (.iload 5, 2) := by decide +kernel
theorem dL_law_2990 : decode cL_law 2990 = .ok (.iconst 2, 1) := by decide +kernel
theorem dL_law_2991 : decode cL_law 2991 = .ok (.iadd, 1) := by decide +kernel
theorem dL_law_2992 : decode cL_law 2992 = .ok (.iaload, 1) := by decide +kernel
theorem dL_law_2993 : decode cL_law 2993 = .ok (.invokevirtual 336, 3) := by decide +kernel
theorem dL_law_2996 : decode cL_law 2996 = .ok (.istore 7, 2) := by decide +kernel
theorem dL_law_2998 : decode cL_law 2998 = .ok (.aload_n 2, 1) := by decide +kernel
theorem dL_law_2999 : decode cL_law 2999 = .ok (.invokevirtual 193, 3) := by decide +kernel
theorem dL_law_3002 : decode cL_law 3002 = .ok (.iload 6, 2) := by decide +kernel
theorem dL_law_3004 : decode cL_law 3004 = .ok (.if_icmp .eq 5, 3) := by decide +kernel
theorem dL_law_3007 : decode cL_law 3007 = .ok (.iconst 0, 1) := by decide +kernel
theorem dL_law_3008 : decode cL_law 3008 = .ok (.ireturn, 1) := by decide +kernel
theorem dL_law_3009 : decode cL_law 3009 = .ok (.iload 6, 2) := by decide +kernel
theorem dL_law_3011 : decode cL_law 3011 = .ok (.ifCond .ne 15, 3) := by decide +kernel
theorem dL_law_3014 : decode cL_law 3014 = .ok (.aload_n 3, 1) := by decide +kernel
theorem dL_law_3015 : decode cL_law 3015 = .ok (.iconst 0, 1) := by decide +kernel
theorem dL_law_3016 : decode cL_law 3016 = .ok (.laload, 1) := by decide +kernel
theorem dL_law_3017 : decode cL_law 3017 = .ok (.iload 7, 2) := by decide +kernel
theorem dL_law_3019 : decode cL_law 3019 = .ok (.i2l, 1) := by decide +kernel
theorem dL_law_3020 : decode cL_law 3020 = .ok (.lcmp, 1) := by decide +kernel
theorem dL_law_3021 : decode cL_law 3021 = .ok (.ifCond .eq 5, 3) := by decide +kernel
theorem dL_law_3024 : decode cL_law 3024 = .ok (.iconst 0, 1) := by decide +kernel
theorem dL_law_3025 : decode cL_law 3025 = .ok (.ireturn, 1) := by decide +kernel
theorem dL_law_3026 : decode cL_law 3026 = .ok (.goto 606, 3) := by decide +kernel
theorem dL_law_3029 : decode cL_law 3029 = .ok (.aload_n 1, 1) := by decide +kernel
theorem dL_law_3030 : decode cL_law 3030 = .ok (.aload_n 0, 1) := by decide +kernel
theorem dL_law_3031 : decode cL_law 3031 = .ok (.iload 5, 2) := by decide +kernel
theorem dL_law_3033 : decode cL_law 3033 = .ok (.iconst 1, 1) := by decide +kernel
theorem dL_law_3034 : decode cL_law 3034 = .ok (.iadd, 1) := by decide +kernel
theorem dL_law_3035 : decode cL_law 3035 = .ok (.iaload, 1) := by decide +kernel
theorem dL_law_3036 : decode cL_law 3036 = .ok (.aload_n 0, 1) := by decide +kernel
theorem dL_law_3037 : decode cL_law 3037 = .ok (.iload 5, 2) := by decide +kernel
theorem dL_law_3039 : decode cL_law 3039 = .ok (.iconst 2, 1) := by decide +kernel
theorem dL_law_3040 : decode cL_law 3040 = .ok (.iadd, 1) := by decide +kernel
theorem dL_law_3041 : decode cL_law 3041 = .ok (.iaload, 1) := by decide +kernel
theorem dL_law_3042 : decode cL_law 3042 = .ok (.aload_n 3, 1) := by decide +kernel
theorem dL_law_3043 : decode cL_law 3043 = .ok (.invokestatic 337, 3) := by decide +kernel
theorem dL_law_3046 : decode cL_law 3046 = .ok (.istore 6, 2) := by decide +kernel
theorem dL_law_3048 : decode cL_law 3048 = .ok (.aload_n 2, 1) := by decide +kernel
theorem dL_law_3049 : decode cL_law 3049 = .ok (.aload_n 0, 1) := by decide +kernel
theorem dL_law_3050 : decode cL_law 3050 = .ok (.iload 5, 2) := by decide +kernel
theorem dL_law_3052 : decode cL_law 3052 = .ok (.iconst 1, 1) := by decide +kernel
theorem dL_law_3053 : decode cL_law 3053 = .ok (.iadd, 1) := by decide +kernel
theorem dL_law_3054 : decode cL_law 3054 = .ok (.iaload, 1) := by decide +kernel
theorem dL_law_3055 : decode cL_law 3055 = .ok (.aload_n 0, 1) := by decide +kernel
theorem dL_law_3056 : decode cL_law 3056 = .ok (.iload 5, 2) := by decide +kernel
theorem dL_law_3058 : decode cL_law 3058 = .ok (.iconst 2, 1) := by decide +kernel
theorem dL_law_3059 : decode cL_law 3059 = .ok (.iadd, 1) := by decide +kernel
theorem dL_law_3060 : decode cL_law 3060 = .ok (.iaload, 1) := by decide +kernel
theorem dL_law_3061 : decode cL_law 3061 = .ok (.invokevirtual 339, 3) := by decide +kernel
theorem dL_law_3064 : decode cL_law 3064 = .ok (.istore 7, 2) := by decide +kernel
theorem dL_law_3066 : decode cL_law 3066 = .ok (.aload_n 2, 1) := by decide +kernel
theorem dL_law_3067 : decode cL_law 3067 = .ok (.invokevirtual 193, 3) := by decide +kernel
theorem dL_law_3070 : decode cL_law 3070 = .ok (.iload 6, 2) := by decide +kernel
theorem dL_law_3072 : decode cL_law 3072 = .ok (.if_icmp .eq 5, 3) := by decide +kernel
theorem dL_law_3075 : decode cL_law 3075 = .ok (.iconst 0, 1) := by decide +kernel
theorem dL_law_3076 : decode cL_law 3076 = .ok (.ireturn, 1) := by decide +kernel
theorem dL_law_3077 : decode cL_law 3077 = .ok (.iload 6, 2) := by decide +kernel
theorem dL_law_3079 : decode cL_law 3079 = .ok (.ifCond .ne 15, 3) := by decide +kernel
theorem dL_law_3082 : decode cL_law 3082 = .ok (.aload_n 3, 1) := by decide +kernel
theorem dL_law_3083 : decode cL_law 3083 = .ok (.iconst 0, 1) := by decide +kernel
theorem dL_law_3084 : decode cL_law 3084 = .ok (.laload, 1) := by decide +kernel
theorem dL_law_3085 : decode cL_law 3085 = .ok (.iload 7, 2) := by decide +kernel
theorem dL_law_3087 : decode cL_law 3087 = .ok (.i2l, 1) := by decide +kernel
theorem dL_law_3088 : decode cL_law 3088 = .ok (.lcmp, 1) := by decide +kernel
theorem dL_law_3089 : decode cL_law 3089 = .ok (.ifCond .eq 5, 3) := by decide +kernel
theorem dL_law_3092 : decode cL_law 3092 = .ok (.iconst 0, 1) := by decide +kernel
theorem dL_law_3093 : decode cL_law 3093 = .ok (.ireturn, 1) := by decide +kernel
theorem dL_law_3094 : decode cL_law 3094 = .ok (.goto 538, 3) := by decide +kernel
theorem dL_law_3097 : decode cL_law 3097 = .ok (.aload_n 1, 1) := by decide +kernel
theorem dL_law_3098 : decode cL_law 3098 = .ok (.aload_n 0, 1) := by decide +kernel
theorem dL_law_3099 : decode cL_law 3099 = .ok (.iload 5, 2) := by decide +kernel
theorem dL_law_3101 : decode cL_law 3101 = .ok (.iconst 1, 1) := by decide +kernel
theorem dL_law_3102 : decode cL_law 3102 = .ok (.iadd, 1) := by decide +kernel
theorem dL_law_3103 : decode cL_law 3103 = .ok (.iaload, 1) := by decide +kernel
theorem dL_law_3104 : decode cL_law 3104 = .ok (.i2c, 1) := by decide +kernel
theorem dL_law_3105 : decode cL_law 3105 = .ok (.aload_n 3, 1) := by decide +kernel
theorem dL_law_3106 : decode cL_law 3106 = .ok (.invokestatic 340, 3) := by decide +kernel
theorem dL_law_3109 : decode cL_law 3109 = .ok (.istore 6, 2) := by decide +kernel
theorem dL_law_3111 : decode cL_law 3111 = .ok (.aload_n 2, 1) := by decide +kernel
theorem dL_law_3112 : decode cL_law 3112 = .ok (.aload_n 0, 1) := by decide +kernel
theorem dL_law_3113 : decode cL_law 3113 = .ok (.iload 5, 2) := by decide +kernel
theorem dL_law_3115 : decode cL_law 3115 = .ok (.iconst 1, 1) := by decide +kernel
theorem dL_law_3116 : decode cL_law 3116 = .ok (.iadd, 1) := by decide +kernel
theorem dL_law_3117 : decode cL_law 3117 = .ok (.iaload, 1) := by decide +kernel
theorem dL_law_3118 : decode cL_law 3118 = .ok (.i2c, 1) := by decide +kernel
theorem dL_law_3119 : decode cL_law 3119 = .ok (.invokevirtual 342, 3) := by decide +kernel
theorem dL_law_3122 : decode cL_law 3122 = .ok (.istore 7, 2) := by decide +kernel
theorem dL_law_3124 : decode cL_law 3124 = .ok (.aload_n 2, 1) := by decide +kernel
theorem dL_law_3125 : decode cL_law 3125 = .ok (.invokevirtual 193, 3) := by decide +kernel
theorem dL_law_3128 : decode cL_law 3128 = .ok (.iload 6, 2) := by decide +kernel
theorem dL_law_3130 : decode cL_law 3130 = .ok (.if_icmp .eq 5, 3) := by decide +kernel
theorem dL_law_3133 : decode cL_law 3133 = .ok (.iconst 0, 1) := by decide +kernel
theorem dL_law_3134 : decode cL_law 3134 = .ok (.ireturn, 1) := by decide +kernel
theorem dL_law_3135 : decode cL_law 3135 = .ok (.iload 6, 2) := by decide +kernel
theorem dL_law_3137 : decode cL_law 3137 = .ok (.ifCond .ne 15, 3) := by decide +kernel
theorem dL_law_3140 : decode cL_law 3140 = .ok (.aload_n 3, 1) := by decide +kernel
theorem dL_law_3141 : decode cL_law 3141 = .ok (.iconst 0, 1) := by decide +kernel
theorem dL_law_3142 : decode cL_law 3142 = .ok (.laload, 1) := by decide +kernel
theorem dL_law_3143 : decode cL_law 3143 = .ok (.iload 7, 2) := by decide +kernel
theorem dL_law_3145 : decode cL_law 3145 = .ok (.i2l, 1) := by decide +kernel
theorem dL_law_3146 : decode cL_law 3146 = .ok (.lcmp, 1) := by decide +kernel
theorem dL_law_3147 : decode cL_law 3147 = .ok (.ifCond .eq 5, 3) := by decide +kernel
theorem dL_law_3150 : decode cL_law 3150 = .ok (.iconst 0, 1) := by decide +kernel
theorem dL_law_3151 : decode cL_law 3151 = .ok (.ireturn, 1) := by decide +kernel
theorem dL_law_3152 : decode cL_law 3152 = .ok (.goto 480, 3) := by decide +kernel
theorem dL_law_3155 : decode cL_law 3155 = .ok (.aload_n 1, 1) := by decide +kernel
theorem dL_law_3156 : decode cL_law 3156 = .ok (.invokevirtual 343, 3) := by decide +kernel
theorem dL_law_3159 : decode cL_law 3159 = .ok (.aload_n 2, 1) := by decide +kernel
theorem dL_law_3160 : decode cL_law 3160 = .ok (.invokevirtual 346, 3) := by decide +kernel
theorem dL_law_3163 : decode cL_law 3163 = .ok (.if_icmp .eq 469, 3) := by decide +kernel
theorem dL_law_3166 : decode cL_law 3166 = .ok (.iconst 0, 1) := by decide +kernel
theorem dL_law_3167 : decode cL_law 3167 = .ok (.ireturn, 1) := by decide +kernel
theorem dL_law_3168 : decode cL_law 3168 = .ok (.aload_n 1, 1) := by decide +kernel
theorem dL_law_3169 : decode cL_law 3169 = .ok (.aload_n 3, 1) := by decide +kernel
theorem dL_law_3170 : decode cL_law 3170 = .ok (.invokestatic 347, 3) := by decide +kernel
theorem dL_law_3173 : decode cL_law 3173 = .ok (.istore 6, 2) := by decide +kernel
theorem dL_law_3175 : decode cL_law 3175 = .ok (.aload_n 2, 1) := by decide +kernel
theorem dL_law_3176 : decode cL_law 3176 = .ok (.invokevirtual 349, 3) := by decide +kernel
theorem dL_law_3179 : decode cL_law 3179 = .ok (.istore 7, 2) := by decide +kernel
theorem dL_law_3181 : decode cL_law 3181 = .ok (.aload_n 2, 1) := by decide +kernel
theorem dL_law_3182 : decode cL_law 3182 = .ok (.invokevirtual 193, 3) := by decide +kernel
theorem dL_law_3185 : decode cL_law 3185 = .ok (.iload 6, 2) := by decide +kernel
theorem dL_law_3187 : decode cL_law 3187 = .ok (.if_icmp .eq 5, 3) := by decide +kernel
theorem dL_law_3190 : decode cL_law 3190 = .ok (.iconst 0, 1) := by decide +kernel
theorem dL_law_3191 : decode cL_law 3191 = .ok (.ireturn, 1) := by decide +kernel
theorem dL_law_3192 : decode cL_law 3192 = .ok (.iload 6, 2) := by decide +kernel
theorem dL_law_3194 : decode cL_law 3194 = .ok (.ifCond .ne 15, 3) := by decide +kernel
theorem dL_law_3197 : decode cL_law 3197 = .ok (.aload_n 3, 1) := by decide +kernel
theorem dL_law_3198 : decode cL_law 3198 = .ok (.iconst 0, 1) := by decide +kernel
theorem dL_law_3199 : decode cL_law 3199 = .ok (.laload, 1) := by decide +kernel
theorem dL_law_3200 : decode cL_law 3200 = .ok (.iload 7, 2) := by decide +kernel
theorem dL_law_3202 : decode cL_law 3202 = .ok (.i2l, 1) := by decide +kernel
theorem dL_law_3203 : decode cL_law 3203 = .ok (.lcmp, 1) := by decide +kernel
theorem dL_law_3204 : decode cL_law 3204 = .ok (.ifCond .eq 5, 3) := by decide +kernel
theorem dL_law_3207 : decode cL_law 3207 = .ok (.iconst 0, 1) := by decide +kernel
theorem dL_law_3208 : decode cL_law 3208 = .ok (.ireturn, 1) := by decide +kernel
theorem dL_law_3209 : decode cL_law 3209 = .ok (.goto 423, 3) := by decide +kernel
theorem dL_law_3212 : decode cL_law 3212 = .ok (.aload_n 1, 1) := by decide +kernel
theorem dL_law_3213 : decode cL_law 3213 = .ok (.aload_n 0, 1) := by decide +kernel
theorem dL_law_3214 : decode cL_law 3214 = .ok (.iload 5, 2) := by decide +kernel
theorem dL_law_3216 : decode cL_law 3216 = .ok (.iconst 1, 1) := by decide +kernel
theorem dL_law_3217 : decode cL_law 3217 = .ok (.iadd, 1) := by decide +kernel
theorem dL_law_3218 : decode cL_law 3218 = .ok (.iaload, 1) := by decide +kernel
theorem dL_law_3219 : decode cL_law 3219 = .ok (.aload_n 3, 1) := by decide +kernel
theorem dL_law_3220 : decode cL_law 3220 = .ok (.invokestatic 350, 3) := by decide +kernel
theorem dL_law_3223 : decode cL_law 3223 = .ok (.istore 6, 2) := by decide +kernel
theorem dL_law_3225 : decode cL_law 3225 = .ok (.aload_n 2, 1) := by decide +kernel
theorem dL_law_3226 : decode cL_law 3226 = .ok (.aload_n 0, 1) := by decide +kernel
theorem dL_law_3227 : decode cL_law 3227 = .ok (.iload 5, 2) := by decide +kernel
theorem dL_law_3229 : decode cL_law 3229 = .ok (.iconst 1, 1) := by decide +kernel
theorem dL_law_3230 : decode cL_law 3230 = .ok (.iadd, 1) := by decide +kernel
theorem dL_law_3231 : decode cL_law 3231 = .ok (.iaload, 1) := by decide +kernel
theorem dL_law_3232 : decode cL_law 3232 = .ok (.invokevirtual 352, 3) := by decide +kernel
theorem dL_law_3235 : decode cL_law 3235 = .ok (.istore 7, 2) := by decide +kernel
theorem dL_law_3237 : decode cL_law 3237 = .ok (.aload_n 2, 1) := by decide +kernel
theorem dL_law_3238 : decode cL_law 3238 = .ok (.invokevirtual 193, 3) := by decide +kernel
theorem dL_law_3241 : decode cL_law 3241 = .ok (.iload 6, 2) := by decide +kernel
theorem dL_law_3243 : decode cL_law 3243 = .ok (.if_icmp .eq 5, 3) := by decide +kernel
theorem dL_law_3246 : decode cL_law 3246 = .ok (.iconst 0, 1) := by decide +kernel
theorem dL_law_3247 : decode cL_law 3247 = .ok (.ireturn, 1) := by decide +kernel
theorem dL_law_3248 : decode cL_law 3248 = .ok (.iload 6, 2) := by decide +kernel
theorem dL_law_3250 : decode cL_law 3250 = .ok (.ifCond .ne 15, 3) := by decide +kernel
theorem dL_law_3253 : decode cL_law 3253 = .ok (.aload_n 3, 1) := by decide +kernel
theorem dL_law_3254 : decode cL_law 3254 = .ok (.iconst 0, 1) := by decide +kernel
theorem dL_law_3255 : decode cL_law 3255 = .ok (.laload, 1) := by decide +kernel
theorem dL_law_3256 : decode cL_law 3256 = .ok (.iload 7, 2) := by decide +kernel
theorem dL_law_3258 : decode cL_law 3258 = .ok (.i2l, 1) := by decide +kernel
theorem dL_law_3259 : decode cL_law 3259 = .ok (.lcmp, 1) := by decide +kernel
theorem dL_law_3260 : decode cL_law 3260 = .ok (.ifCond .eq 5, 3) := by decide +kernel
theorem dL_law_3263 : decode cL_law 3263 = .ok (.iconst 0, 1) := by decide +kernel
theorem dL_law_3264 : decode cL_law 3264 = .ok (.ireturn, 1) := by decide +kernel
theorem dL_law_3265 : decode cL_law 3265 = .ok (.goto 367, 3) := by decide +kernel
theorem dL_law_3268 : decode cL_law 3268 = .ok (.aload_n 1, 1) := by decide +kernel
theorem dL_law_3269 : decode cL_law 3269 = .ok (.aload_n 0, 1) := by decide +kernel
theorem dL_law_3270 : decode cL_law 3270 = .ok (.iload 5, 2) := by decide +kernel
theorem dL_law_3272 : decode cL_law 3272 = .ok (.iconst 1, 1) := by decide +kernel
theorem dL_law_3273 : decode cL_law 3273 = .ok (.iadd, 1) := by decide +kernel
theorem dL_law_3274 : decode cL_law 3274 = .ok (.iaload, 1) := by decide +kernel
theorem dL_law_3275 : decode cL_law 3275 = .ok (.aload_n 3, 1) := by decide +kernel
theorem dL_law_3276 : decode cL_law 3276 = .ok (.invokestatic 353, 3) := by decide +kernel
theorem dL_law_3279 : decode cL_law 3279 = .ok (.istore 6, 2) := by decide +kernel
theorem dL_law_3281 : decode cL_law 3281 = .ok (.aload_n 2, 1) := by decide +kernel
theorem dL_law_3282 : decode cL_law 3282 = .ok (.aload_n 0, 1) := by decide +kernel
theorem dL_law_3283 : decode cL_law 3283 = .ok (.iload 5, 2) := by decide +kernel
theorem dL_law_3285 : decode cL_law 3285 = .ok (.iconst 1, 1) := by decide +kernel
theorem dL_law_3286 : decode cL_law 3286 = .ok (.iadd, 1) := by decide +kernel
theorem dL_law_3287 : decode cL_law 3287 = .ok (.iaload, 1) := by decide +kernel
theorem dL_law_3288 : decode cL_law 3288 = .ok (.invokevirtual 355, 3) := by decide +kernel
theorem dL_law_3291 : decode cL_law 3291 = .ok (.istore 7, 2) := by decide +kernel
theorem dL_law_3293 : decode cL_law 3293 = .ok (.aload_n 2, 1) := by decide +kernel
theorem dL_law_3294 : decode cL_law 3294 = .ok (.invokevirtual 193, 3) := by decide +kernel
theorem dL_law_3297 : decode cL_law 3297 = .ok (.iload 6, 2) := by decide +kernel
theorem dL_law_3299 : decode cL_law 3299 = .ok (.if_icmp .eq 5, 3) := by decide +kernel
theorem dL_law_3302 : decode cL_law 3302 = .ok (.iconst 0, 1) := by decide +kernel
theorem dL_law_3303 : decode cL_law 3303 = .ok (.ireturn, 1) := by decide +kernel
theorem dL_law_3304 : decode cL_law 3304 = .ok (.iload 6, 2) := by decide +kernel
theorem dL_law_3306 : decode cL_law 3306 = .ok (.ifCond .ne 15, 3) := by decide +kernel
theorem dL_law_3309 : decode cL_law 3309 = .ok (.aload_n 3, 1) := by decide +kernel
theorem dL_law_3310 : decode cL_law 3310 = .ok (.iconst 0, 1) := by decide +kernel
theorem dL_law_3311 : decode cL_law 3311 = .ok (.laload, 1) := by decide +kernel
theorem dL_law_3312 : decode cL_law 3312 = .ok (.iload 7, 2) := by decide +kernel
theorem dL_law_3314 : decode cL_law 3314 = .ok (.i2l, 1) := by decide +kernel
theorem dL_law_3315 : decode cL_law 3315 = .ok (.lcmp, 1) := by decide +kernel
theorem dL_law_3316 : decode cL_law 3316 = .ok (.ifCond .eq 5, 3) := by decide +kernel
theorem dL_law_3319 : decode cL_law 3319 = .ok (.iconst 0, 1) := by decide +kernel
theorem dL_law_3320 : decode cL_law 3320 = .ok (.ireturn, 1) := by decide +kernel
theorem dL_law_3321 : decode cL_law 3321 = .ok (.goto 311, 3) := by decide +kernel
theorem dL_law_3324 : decode cL_law 3324 = .ok (.aload_n 1, 1) := by decide +kernel
theorem dL_law_3325 : decode cL_law 3325 = .ok (.aload_n 0, 1) := by decide +kernel
theorem dL_law_3326 : decode cL_law 3326 = .ok (.iload 5, 2) := by decide +kernel
theorem dL_law_3328 : decode cL_law 3328 = .ok (.iconst 1, 1) := by decide +kernel
theorem dL_law_3329 : decode cL_law 3329 = .ok (.iadd, 1) := by decide +kernel
theorem dL_law_3330 : decode cL_law 3330 = .ok (.iaload, 1) := by decide +kernel
theorem dL_law_3331 : decode cL_law 3331 = .ok (.aload_n 0, 1) := by decide +kernel
theorem dL_law_3332 : decode cL_law 3332 = .ok (.iload 5, 2) := by decide +kernel
theorem dL_law_3334 : decode cL_law 3334 = .ok (.iconst 2, 1) := by decide +kernel
theorem dL_law_3335 : decode cL_law 3335 = .ok (.iadd, 1) := by decide +kernel
theorem dL_law_3336 : decode cL_law 3336 = .ok (.iaload, 1) := by decide +kernel
theorem dL_law_3337 : decode cL_law 3337 = .ok (.aload_n 3, 1) := by decide +kernel
theorem dL_law_3338 : decode cL_law 3338 = .ok (.invokestatic 356, 3) := by decide +kernel
theorem dL_law_3341 : decode cL_law 3341 = .ok (.istore 6, 2) := by decide +kernel
theorem dL_law_3343 : decode cL_law 3343 = .ok (.aload_n 2, 1) := by decide +kernel
theorem dL_law_3344 : decode cL_law 3344 = .ok (.aload_n 0, 1) := by decide +kernel
theorem dL_law_3345 : decode cL_law 3345 = .ok (.iload 5, 2) := by decide +kernel
theorem dL_law_3347 : decode cL_law 3347 = .ok (.iconst 1, 1) := by decide +kernel
theorem dL_law_3348 : decode cL_law 3348 = .ok (.iadd, 1) := by decide +kernel
theorem dL_law_3349 : decode cL_law 3349 = .ok (.iaload, 1) := by decide +kernel
theorem dL_law_3350 : decode cL_law 3350 = .ok (.aload_n 0, 1) := by decide +kernel
theorem dL_law_3351 : decode cL_law 3351 = .ok (.iload 5, 2) := by decide +kernel
theorem dL_law_3353 : decode cL_law 3353 = .ok (.iconst 2, 1) := by decide +kernel
theorem dL_law_3354 : decode cL_law 3354 = .ok (.iadd, 1) := by decide +kernel
theorem dL_law_3355 : decode cL_law 3355 = .ok (.iaload, 1) := by decide +kernel
theorem dL_law_3356 : decode cL_law 3356 = .ok (.invokevirtual 358, 3) := by decide +kernel
theorem dL_law_3359 : decode cL_law 3359 = .ok (.lstore 7, 2) := by decide +kernel
theorem dL_law_3361 : decode cL_law 3361 = .ok (.aload_n 2, 1) := by decide +kernel
theorem dL_law_3362 : decode cL_law 3362 = .ok (.invokevirtual 193, 3) := by decide +kernel
theorem dL_law_3365 : decode cL_law 3365 = .ok (.iload 6, 2) := by decide +kernel
theorem dL_law_3367 : decode cL_law 3367 = .ok (.if_icmp .eq 5, 3) := by decide +kernel
theorem dL_law_3370 : decode cL_law 3370 = .ok (.iconst 0, 1) := by decide +kernel
theorem dL_law_3371 : decode cL_law 3371 = .ok (.ireturn, 1) := by decide +kernel
theorem dL_law_3372 : decode cL_law 3372 = .ok (.iload 6, 2) := by decide +kernel
theorem dL_law_3374 : decode cL_law 3374 = .ok (.ifCond .ne 14, 3) := by decide +kernel
theorem dL_law_3377 : decode cL_law 3377 = .ok (.aload_n 3, 1) := by decide +kernel
theorem dL_law_3378 : decode cL_law 3378 = .ok (.iconst 0, 1) := by decide +kernel
theorem dL_law_3379 : decode cL_law 3379 = .ok (.laload, 1) := by decide +kernel
theorem dL_law_3380 : decode cL_law 3380 = .ok (.lload 7, 2) := by decide +kernel
theorem dL_law_3382 : decode cL_law 3382 = .ok (.lcmp, 1) := by decide +kernel
theorem dL_law_3383 : decode cL_law 3383 = .ok (.ifCond .eq 5, 3) := by decide +kernel
theorem dL_law_3386 : decode cL_law 3386 = .ok (.iconst 0, 1) := by decide +kernel
theorem dL_law_3387 : decode cL_law 3387 = .ok (.ireturn, 1) := by decide +kernel
theorem dL_law_3388 : decode cL_law 3388 = .ok (.goto 244, 3) := by decide +kernel
theorem dL_law_3391 : decode cL_law 3391 = .ok (.aload_n 1, 1) := by decide +kernel
theorem dL_law_3392 : decode cL_law 3392 = .ok (.aload_n 0, 1) := by decide +kernel
theorem dL_law_3393 : decode cL_law 3393 = .ok (.iload 5, 2) := by decide +kernel
theorem dL_law_3395 : decode cL_law 3395 = .ok (.iconst 1, 1) := by decide +kernel
theorem dL_law_3396 : decode cL_law 3396 = .ok (.iadd, 1) := by decide +kernel
theorem dL_law_3397 : decode cL_law 3397 = .ok (.iaload, 1) := by decide +kernel
theorem dL_law_3398 : decode cL_law 3398 = .ok (.aload_n 3, 1) := by decide +kernel
theorem dL_law_3399 : decode cL_law 3399 = .ok (.invokestatic 359, 3) := by decide +kernel
theorem dL_law_3402 : decode cL_law 3402 = .ok (.istore 6, 2) := by decide +kernel
theorem dL_law_3404 : decode cL_law 3404 = .ok (.aload_n 2, 1) := by decide +kernel
theorem dL_law_3405 : decode cL_law 3405 = .ok (.aload_n 0, 1) := by decide +kernel
theorem dL_law_3406 : decode cL_law 3406 = .ok (.iload 5, 2) := by decide +kernel
theorem dL_law_3408 : decode cL_law 3408 = .ok (.iconst 1, 1) := by decide +kernel
theorem dL_law_3409 : decode cL_law 3409 = .ok (.iadd, 1) := by decide +kernel
theorem dL_law_3410 : decode cL_law 3410 = .ok (.iaload, 1) := by decide +kernel
theorem dL_law_3411 : decode cL_law 3411 = .ok (.invokevirtual 361, 3) := by decide +kernel
theorem dL_law_3414 : decode cL_law 3414 = .ok (.istore 7, 2) := by decide +kernel
theorem dL_law_3416 : decode cL_law 3416 = .ok (.aload_n 2, 1) := by decide +kernel
theorem dL_law_3417 : decode cL_law 3417 = .ok (.invokevirtual 193, 3) := by decide +kernel
theorem dL_law_3420 : decode cL_law 3420 = .ok (.iload 6, 2) := by decide +kernel
theorem dL_law_3422 : decode cL_law 3422 = .ok (.if_icmp .eq 5, 3) := by decide +kernel
theorem dL_law_3425 : decode cL_law 3425 = .ok (.iconst 0, 1) := by decide +kernel
theorem dL_law_3426 : decode cL_law 3426 = .ok (.ireturn, 1) := by decide +kernel
theorem dL_law_3427 : decode cL_law 3427 = .ok (.iload 6, 2) := by decide +kernel
theorem dL_law_3429 : decode cL_law 3429 = .ok (.ifCond .ne 15, 3) := by decide +kernel
theorem dL_law_3432 : decode cL_law 3432 = .ok (.aload_n 3, 1) := by decide +kernel
theorem dL_law_3433 : decode cL_law 3433 = .ok (.iconst 0, 1) := by decide +kernel
theorem dL_law_3434 : decode cL_law 3434 = .ok (.laload, 1) := by decide +kernel
theorem dL_law_3435 : decode cL_law 3435 = .ok (.iload 7, 2) := by decide +kernel
theorem dL_law_3437 : decode cL_law 3437 = .ok (.i2l, 1) := by decide +kernel
theorem dL_law_3438 : decode cL_law 3438 = .ok (.lcmp, 1) := by decide +kernel
theorem dL_law_3439 : decode cL_law 3439 = .ok (.ifCond .eq 5, 3) := by decide +kernel
theorem dL_law_3442 : decode cL_law 3442 = .ok (.iconst 0, 1) := by decide +kernel
theorem dL_law_3443 : decode cL_law 3443 = .ok (.ireturn, 1) := by decide +kernel
theorem dL_law_3444 : decode cL_law 3444 = .ok (.goto 188, 3) := by decide +kernel
theorem dL_law_3447 : decode cL_law 3447 = .ok (.aload_n 1, 1) := by decide +kernel
theorem dL_law_3448 : decode cL_law 3448 = .ok (.invokevirtual 362, 3) := by decide +kernel
theorem dL_law_3451 : decode cL_law 3451 = .ok (.aload_n 2, 1) := by decide +kernel
theorem dL_law_3452 : decode cL_law 3452 = .ok (.invokevirtual 365, 3) := by decide +kernel
theorem dL_law_3455 : decode cL_law 3455 = .ok (.if_icmp .eq 177, 3) := by decide +kernel
theorem dL_law_3458 : decode cL_law 3458 = .ok (.iconst 0, 1) := by decide +kernel
theorem dL_law_3459 : decode cL_law 3459 = .ok (.ireturn, 1) := by decide +kernel
theorem dL_law_3460 : decode cL_law 3460 = .ok (.aload_n 1, 1) := by decide +kernel
theorem dL_law_3461 : decode cL_law 3461 = .ok (.invokevirtual 366, 3) := by decide +kernel
theorem dL_law_3464 : decode cL_law 3464 = .ok (.aload_n 2, 1) := by decide +kernel
theorem dL_law_3465 : decode cL_law 3465 = .ok (.invokevirtual 370, 3) := by decide +kernel
theorem dL_law_3468 : decode cL_law 3468 = .ok (.lcmp, 1) := by decide +kernel
theorem dL_law_3469 : decode cL_law 3469 = .ok (.ifCond .eq 163, 3) := by decide +kernel
theorem dL_law_3472 : decode cL_law 3472 = .ok (.iconst 0, 1) := by decide +kernel
theorem dL_law_3473 : decode cL_law 3473 = .ok (.ireturn, 1) := by decide +kernel
theorem dL_law_3474 : decode cL_law 3474 = .ok (.aload_n 1, 1) := by decide +kernel
theorem dL_law_3475 : decode cL_law 3475 = .ok (.invokevirtual 371, 3) := by decide +kernel
theorem dL_law_3478 : decode cL_law 3478 = .ok (.aload_n 2, 1) := by decide +kernel
theorem dL_law_3479 : decode cL_law 3479 = .ok (.invokevirtual 374, 3) := by decide +kernel
theorem dL_law_3482 : decode cL_law 3482 = .ok (.lcmp, 1) := by decide +kernel
theorem dL_law_3483 : decode cL_law 3483 = .ok (.ifCond .eq 149, 3) := by decide +kernel
theorem dL_law_3486 : decode cL_law 3486 = .ok (.iconst 0, 1) := by decide +kernel
theorem dL_law_3487 : decode cL_law 3487 = .ok (.ireturn, 1) := by decide +kernel
theorem dL_law_3488 : decode cL_law 3488 = .ok (.aload_n 1, 1) := by decide +kernel
theorem dL_law_3489 : decode cL_law 3489 = .ok (.aload 4, 2) := by decide +kernel
theorem dL_law_3491 : decode cL_law 3491 = .ok (.invokestatic 375, 3) := by decide +kernel
theorem dL_law_3494 : decode cL_law 3494 = .ok (.istore 6, 2) := by decide +kernel
theorem dL_law_3496 : decode cL_law 3496 = .ok (.aload_n 2, 1) := by decide +kernel
theorem dL_law_3497 : decode cL_law 3497 = .ok (.invokevirtual 378, 3) := by decide +kernel
theorem dL_law_3500 : decode cL_law 3500 = .ok (.fstore 7, 2) := by decide +kernel
theorem dL_law_3502 : decode cL_law 3502 = .ok (.aload_n 2, 1) := by decide +kernel
theorem dL_law_3503 : decode cL_law 3503 = .ok (.invokevirtual 193, 3) := by decide +kernel
theorem dL_law_3506 : decode cL_law 3506 = .ok (.iload 6, 2) := by decide +kernel
theorem dL_law_3508 : decode cL_law 3508 = .ok (.if_icmp .eq 5, 3) := by decide +kernel
theorem dL_law_3511 : decode cL_law 3511 = .ok (.iconst 0, 1) := by decide +kernel
theorem dL_law_3512 : decode cL_law 3512 = .ok (.ireturn, 1) := by decide +kernel
theorem dL_law_3513 : decode cL_law 3513 = .ok (.iload 6, 2) := by decide +kernel
theorem dL_law_3515 : decode cL_law 3515 = .ok (.ifCond .ne 36, 3) := by decide +kernel
theorem dL_law_3518 : decode cL_law 3518 = .ok (.aload 4, 2) := by decide +kernel
theorem dL_law_3520 : decode cL_law 3520 = .ok (.iconst 0, 1) := by decide +kernel
theorem dL_law_3521 : decode cL_law 3521 = .ok (.daload, 1) := by decide +kernel
theorem dL_law_3522 : decode cL_law 3522 = .ok (.fload 7, 2) := by decide +kernel
theorem dL_law_3524 : decode cL_law 3524 = .ok (.f2d, 1) := by decide +kernel
theorem dL_law_3525 : decode cL_law 3525 = .ok (.dcmp .l, 1) := by decide +kernel
theorem dL_law_3526 : decode cL_law 3526 = .ok (.ifCond .eq 25, 3) := by decide +kernel
theorem dL_law_3529 : decode cL_law 3529 = .ok (.aload 4, 2) := by decide +kernel
theorem dL_law_3531 : decode cL_law 3531 = .ok (.iconst 0, 1) := by decide +kernel
theorem dL_law_3532 : decode cL_law 3532 = .ok (.daload, 1) := by decide +kernel
theorem dL_law_3533 : decode cL_law 3533 = .ok (.aload 4, 2) := by decide +kernel
theorem dL_law_3535 : decode cL_law 3535 = .ok (.iconst 0, 1) := by decide +kernel
theorem dL_law_3536 : decode cL_law 3536 = .ok (.daload, 1) := by decide +kernel
theorem dL_law_3537 : decode cL_law 3537 = .ok (.dcmp .l, 1) := by decide +kernel
theorem dL_law_3538 : decode cL_law 3538 = .ok (.ifCond .eq 11, 3) := by decide +kernel
theorem dL_law_3541 : decode cL_law 3541 = .ok (.fload 7, 2) := by decide +kernel
theorem dL_law_3543 : decode cL_law 3543 = .ok (.fload 7, 2) := by decide +kernel
theorem dL_law_3545 : decode cL_law 3545 = .ok (.fcmp .l, 1) := by decide +kernel
theorem dL_law_3546 : decode cL_law 3546 = .ok (.ifCond .ne 5, 3) := by decide +kernel
theorem dL_law_3549 : decode cL_law 3549 = .ok (.iconst 0, 1) := by decide +kernel
theorem dL_law_3550 : decode cL_law 3550 = .ok (.ireturn, 1) := by decide +kernel
theorem dL_law_3551 : decode cL_law 3551 = .ok (.goto 81, 3) := by decide +kernel
theorem dL_law_3554 : decode cL_law 3554 = .ok (.aload_n 1, 1) := by decide +kernel
theorem dL_law_3555 : decode cL_law 3555 = .ok (.aload 4, 2) := by decide +kernel
theorem dL_law_3557 : decode cL_law 3557 = .ok (.invokestatic 379, 3) := by decide +kernel
theorem dL_law_3560 : decode cL_law 3560 = .ok (.istore 6, 2) := by decide +kernel
theorem dL_law_3562 : decode cL_law 3562 = .ok (.aload_n 2, 1) := by decide +kernel
theorem dL_law_3563 : decode cL_law 3563 = .ok (.invokevirtual 381, 3) := by decide +kernel
theorem dL_law_3566 : decode cL_law 3566 = .ok (.dstore 7, 2) := by decide +kernel
theorem dL_law_3568 : decode cL_law 3568 = .ok (.aload_n 2, 1) := by decide +kernel
theorem dL_law_3569 : decode cL_law 3569 = .ok (.invokevirtual 193, 3) := by decide +kernel
theorem dL_law_3572 : decode cL_law 3572 = .ok (.iload 6, 2) := by decide +kernel
theorem dL_law_3574 : decode cL_law 3574 = .ok (.if_icmp .eq 5, 3) := by decide +kernel
theorem dL_law_3577 : decode cL_law 3577 = .ok (.iconst 0, 1) := by decide +kernel
theorem dL_law_3578 : decode cL_law 3578 = .ok (.ireturn, 1) := by decide +kernel
theorem dL_law_3579 : decode cL_law 3579 = .ok (.iload 6, 2) := by decide +kernel
theorem dL_law_3581 : decode cL_law 3581 = .ok (.ifCond .ne 35, 3) := by decide +kernel
theorem dL_law_3584 : decode cL_law 3584 = .ok (.aload 4, 2) := by decide +kernel
theorem dL_law_3586 : decode cL_law 3586 = .ok (.iconst 0, 1) := by decide +kernel
theorem dL_law_3587 : decode cL_law 3587 = .ok (.daload, 1) := by decide +kernel
theorem dL_law_3588 : decode cL_law 3588 = .ok (.dload 7, 2) := by decide +kernel
theorem dL_law_3590 : decode cL_law 3590 = .ok (.dcmp .l, 1) := by decide +kernel
theorem dL_law_3591 : decode cL_law 3591 = .ok (.ifCond .eq 25, 3) := by decide +kernel
theorem dL_law_3594 : decode cL_law 3594 = .ok (.aload 4, 2) := by decide +kernel
theorem dL_law_3596 : decode cL_law 3596 = .ok (.iconst 0, 1) := by decide +kernel
theorem dL_law_3597 : decode cL_law 3597 = .ok (.daload, 1) := by decide +kernel
theorem dL_law_3598 : decode cL_law 3598 = .ok (.aload 4, 2) := by decide +kernel
theorem dL_law_3600 : decode cL_law 3600 = .ok (.iconst 0, 1) := by decide +kernel
theorem dL_law_3601 : decode cL_law 3601 = .ok (.daload, 1) := by decide +kernel
theorem dL_law_3602 : decode cL_law 3602 = .ok (.dcmp .l, 1) := by decide +kernel
theorem dL_law_3603 : decode cL_law 3603 = .ok (.ifCond .eq 11, 3) := by decide +kernel
theorem dL_law_3606 : decode cL_law 3606 = .ok (.dload 7, 2) := by decide +kernel
theorem dL_law_3608 : decode cL_law 3608 = .ok (.dload 7, 2) := by decide +kernel
theorem dL_law_3610 : decode cL_law 3610 = .ok (.dcmp .l, 1) := by decide +kernel
theorem dL_law_3611 : decode cL_law 3611 = .ok (.ifCond .ne 5, 3) := by decide +kernel
theorem dL_law_3614 : decode cL_law 3614 = .ok (.iconst 0, 1) := by decide +kernel
theorem dL_law_3615 : decode cL_law 3615 = .ok (.ireturn, 1) := by decide +kernel
theorem dL_law_3616 : decode cL_law 3616 = .ok (.goto 16, 3) := by decide +kernel
theorem dL_law_3619 : decode cL_law 3619 = .ok (.aload_n 1, 1) := by decide +kernel
theorem dL_law_3620 : decode cL_law 3620 = .ok (.invokevirtual 382, 3) := by decide +kernel
theorem dL_law_3623 : decode cL_law 3623 = .ok (.aload_n 2, 1) := by decide +kernel
theorem dL_law_3624 : decode cL_law 3624 = .ok (.invokevirtual 386, 3) := by decide +kernel
theorem dL_law_3627 : decode cL_law 3627 = .ok (.if_icmp .eq 5, 3) := by decide +kernel
theorem dL_law_3630 : decode cL_law 3630 = .ok (.iconst 0, 1) := by decide +kernel
theorem dL_law_3631 : decode cL_law 3631 = .ok (.ireturn, 1) := by decide +kernel
theorem dL_law_3632 : decode cL_law 3632 = .ok (.iinc 5 8, 3) := by decide +kernel
theorem dL_law_3635 : decode cL_law 3635 = .ok (.goto (-3607), 3) := by decide +kernel
theorem dL_law_3638 : decode cL_law 3638 = .ok (.iconst 1, 1) := by decide +kernel
theorem dL_law_3639 : decode cL_law 3639 = .ok (.ireturn, 1) := by decide +kernel
