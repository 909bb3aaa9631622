theorem dL_law_2777 : decode cL_law 2777 = .ok (.aload_n 0, 1) := by decide +kernel
theorem dL_law_2778 : decode cL_law 2778 = .ok (.iload 4, 2) := by decide +kernel
theorem dL_law_2780 : decode cL_law 2780 = .ok (.iconst 1, 1) := by decide +kernel
theorem dL_law_2781 : decode cL_law 2781 = .ok (.iadd, 1) := by decide +kernel
theorem dL_law_2782 : decode cL_law 2782 = .ok (.iaload, 1) := by decide +kernel
theorem dL_law_2783 : decode cL_law 2783 = .ok (.aload_n 0, 1) := by decide +kernel
theorem dL_law_2784 : decode cL_law 2784 = .ok (.iload 4, 2) := by decide +kernel
theorem dL_law_2786 : decode cL_law 2786 = .ok (.iconst 2, 1) := by decide +kernel
theorem dL_law_2787 : decode cL_law 2787 = .ok (.iadd, 1) := by decide +kernel
theorem dL_law_2788 : decode cL_law 2788 = .ok (.iaload, 1) := by decide +kernel
theorem dL_law_2789 : decode cL_law 2789 = .ok (.aload_n 0, 1) := by decide +kernel
theorem dL_law_2790 : decode cL_law 2790 = .ok (.iload 4, 2) := by decide +kernel
theorem dL_law_2792 : decode cL_law 2792 = .ok (.iconst 3, 1) := by decide +kernel
theorem dL_law_2793 : decode cL_law 2793 = .ok (.iadd, 1) := by decide +kernel
theorem dL_law_2794 : decode cL_law 2794 = .ok (.iaload, 1) := by decide +kernel
theorem dL_law_2795 : decode cL_law 2795 = .ok (.aload_n 0, 1) := by decide +kernel
theorem dL_law_2796 : decode cL_law 2796 = .ok (.iload 4, 2) := by decide +kernel
theorem dL_law_2798 : decode cL_law 2798 = .ok (.iconst 4, 1) := by decide +kernel
theorem dL_law_2799 : decode cL_law 2799 = .ok (.iadd, 1) := by decide +kernel
theorem dL_law_2800 : decode cL_law 2800 = .ok (.iaload, 1) := by decide +kernel
theorem dL_law_2801 : decode cL_law 2801 = .ok (.invokevirtual 268, 3) := by decide +kernel
theorem dL_law_2804 : decode cL_law 2804 = .ok (.istore 6, 2) := by decide +kernel
theorem dL_law_2806 : decode cL_law 2806 = .ok (.aload_n 2, 1) := by decide +kernel
theorem dL_law_2807 : decode cL_law 2807 = .ok (.invokevirtual 151, 3) := by decide +kernel
theorem dL_law_2810 : decode cL_law 2810 = .ok (.iload 5, 2) := by decide +kernel
theorem dL_law_2812 : decode cL_law 2812 = .ok (.if_icmp .eq 5, 3) := by decide +kernel
theorem dL_law_2815 : decode cL_law 2815 = .ok (.iconst 0, 1) := by decide +kernel
theorem dL_law_2816 : decode cL_law 2816 = .ok (.ireturn, 1) := by decide +kernel
theorem dL_law_2817 : decode cL_law 2817 = .ok (.iload 5, 2) := by decide +kernel
theorem dL_law_2819 : decode cL_law 2819 = .ok (.ifCond .ne 15, 3) := by decide +kernel
theorem dL_law_2822 : decode cL_law 2822 = .ok (.aload_n 3, 1) := by decide +kernel
theorem dL_law_2823 : decode cL_law 2823 = .ok (.iconst 0, 1) := by decide +kernel
theorem dL_law_2824 : decode cL_law 2824 = .ok (.laload, 1) := by decide +kernel
theorem dL_law_2825 : decode cL_law 2825 = .ok (.iload 6, 2) := by decide +kernel
theorem dL_law_2827 : decode cL_law 2827 = .ok (.i2l, 1) := by decide +kernel
theorem dL_law_2828 : decode cL_law 2828 = .ok (.lcmp, 1) := by decide +kernel
theorem dL_law_2829 : decode cL_law 2829 = .ok (.ifCond .eq 5, 3) := by decide +kernel
theorem dL_law_2832 : decode cL_law 2832 = .ok (.iconst 0, 1) := by decide +kernel
theorem dL_law_2833 : decode cL_law 2833 = .ok (.ireturn, 1) := by decide +kernel
theorem dL_law_2834 : decode cL_law 2834 = .ok (.goto 307, 3) := by decide +kernel
theorem dL_law_2837 : decode cL_law 2837 = .ok (.aload_n 1, 1) := by decide +kernel
theorem dL_law_2838 : decode cL_law 2838 = .ok (.aload_n 0, 1) := by decide +kernel
theorem dL_law_2839 : decode cL_law 2839 = .ok (.iload 4, 2) := by decide +kernel
theorem dL_law_2841 : decode cL_law 2841 = .ok (.iconst 1, 1) := by decide +kernel
theorem dL_law_2842 : decode cL_law 2842 = .ok (.iadd, 1) := by decide +kernel
theorem dL_law_2843 : decode cL_law 2843 = .ok (.iaload, 1) := by decide +kernel
theorem dL_law_2844 : decode cL_law 2844 = .ok (.aload_n 0, 1) := by decide +kernel
theorem dL_law_2845 : decode cL_law 2845 = .ok (.iload 4, 2) := by decide +kernel
theorem dL_law_2847 : decode cL_law 2847 = .ok (.iconst 2, 1) := by decide +kernel
theorem dL_law_2848 : decode cL_law 2848 = .ok (.iadd, 1) := by decide +kernel
theorem dL_law_2849 : decode cL_law 2849 = .ok (.iaload, 1) := by decide +kernel
theorem dL_law_2850 : decode cL_law 2850 = .ok (.aload_n 3, 1) := by decide +kernel
theorem dL_law_2851 : decode cL_law 2851 = .ok (.invokestatic 269, 3) := by decide +kernel
theorem dL_law_2854 : decode cL_law 2854 = .ok (.istore 5, 2) := by decide +kernel
theorem dL_law_2856 : decode cL_law 2856 = .ok (.aload_n 2, 1) := by decide +kernel
theorem dL_law_2857 : decode cL_law 2857 = .ok (.aload_n 0, 1) := by decide +kernel
theorem dL_law_2858 : decode cL_law 2858 = .ok (.iload 4, 2) := by decide +kernel
theorem dL_law_2860 : decode cL_law 2860 = .ok (.iconst 1, 1) := by decide +kernel
theorem dL_law_2861 : decode cL_law 2861 = .ok (.iadd, 1) := by decide +kernel
theorem dL_law_2862 : decode cL_law 2862 = .ok (.iaload, 1) := by decide +kernel
theorem dL_law_2863 : decode cL_law 2863 = .ok (.aload_n 0, 1) := by decide +kernel
theorem dL_law_2864 : decode cL_law 2864 = .ok (.iload 4, 2) := by decide +kernel
theorem dL_law_2866 : decode cL_law 2866 = .ok (.iconst 2, 1) := by decide +kernel
theorem dL_law_2867 : decode cL_law 2867 = .ok (.iadd, 1) := by decide +kernel
theorem dL_law_2868 : decode cL_law 2868 = .ok (.iaload, 1) := by decide +kernel
theorem dL_law_2869 : decode cL_law 2869 = .ok (.invokevirtual 271, 3) := by decide +kernel
theorem dL_law_2872 : decode cL_law 2872 = .ok (.istore 6, 2) := by decide +kernel
theorem dL_law_2874 : decode cL_law 2874 = .ok (.aload_n 2, 1) := by decide +kernel
theorem dL_law_2875 : decode cL_law 2875 = .ok (.invokevirtual 151, 3) := by decide +kernel
theorem dL_law_2878 : decode cL_law 2878 = .ok (.iload 5, 2) := by decide +kernel
theorem dL_law_2880 : decode cL_law 2880 = .ok (.if_icmp .eq 5, 3) := by decide +kernel
theorem dL_law_2883 : decode cL_law 2883 = .ok (.iconst 0, 1) := by decide +kernel
theorem dL_law_2884 : decode cL_law 2884 = .ok (.ireturn, 1) := by decide +kernel
theorem dL_law_2885 : decode cL_law 2885 = .ok (.iload 5, 2) := by decide +kernel
theorem dL_law_2887 : decode cL_law 2887 = .ok (.ifCond .ne 15, 3) := by decide +kernel
theorem dL_law_2890 : decode cL_law 2890 = .ok (.aload_n 3, 1) := by decide +kernel
theorem dL_law_2891 : decode cL_law 2891 = .ok (.iconst 0, 1) := by decide +kernel
theorem dL_law_2892 : decode cL_law 2892 = .ok (.laload, 1) := by decide +kernel
theorem dL_law_2893 : decode cL_law 2893 = .ok (.iload 6, 2) := by decide +kernel
theorem dL_law_2895 : decode cL_law 2895 = .ok (.i2l, 1) := by decide +kernel
theorem dL_law_2896 : decode cL_law 2896 = .ok (.lcmp, 1) := by decide +kernel
theorem dL_law_2897 : decode cL_law 2897 = .ok (.ifCond .eq 5, 3) := by decide +kernel
theorem dL_law_2900 : decode cL_law 2900 = .ok (.iconst 0, 1) := by decide +kernel
theorem dL_law_2901 : decode cL_law 2901 = .ok (.ireturn, 1) := by decide +kernel
theorem dL_law_2902 : decode cL_law 2902 = .ok (.goto 239, 3) := by decide +kernel
theorem dL_law_2905 : decode cL_law 2905 = .ok (.aload_n 1, 1) := by decide +kernel
theorem dL_law_2906 : decode cL_law 2906 = .ok (.aload_n 0, 1) := by decide +kernel
theorem dL_law_2907 : decode cL_law 2907 = .ok (.iload 4, 2) := by decide +kernel
theorem dL_law_2909 : decode cL_law 2909 = .ok (.iconst 1, 1) := by decide +kernel
theorem dL_law_2910 : decode cL_law 2910 = .ok (.iadd, 1) := by decide +kernel
theorem dL_law_2911 : decode cL_law 2911 = .ok (.iaload, 1) := by decide +kernel
theorem dL_law_2912 : decode cL_law 2912 = .ok (.aload_n 0, 1) := by decide +kernel
theorem dL_law_2913 : decode cL_law 2913 = .ok (.iload 4, 2) := by decide +kernel
theorem dL_law_2915 : decode cL_law 2915 = .ok (.iconst 2, 1) := by decide +kernel
theorem dL_law_2916 : decode cL_law 2916 = .ok (.iadd, 1) := by decide +kernel
theorem dL_law_2917 : decode cL_law 2917 = .ok (.iaload, 1) := by decide +kernel
theorem dL_law_2918 : decode cL_law 2918 = .ok (.aload_n 0, 1) := by decide +kernel
theorem dL_law_2919 : decode cL_law 2919 = .ok (.iload 4, 2) := by decide +kernel
theorem dL_law_2921 : decode cL_law 2921 = .ok (.iconst 3, 1) := by decide +kernel
theorem dL_law_2922 : decode cL_law 2922 = .ok (.iadd, 1) := by decide +kernel
theorem dL_law_2923 : decode cL_law 2923 = .ok (.iaload, 1) := by decide +kernel
theorem dL_law_2924 : decode cL_law 2924 = .ok (.aload_n 3, 1) := by decide +kernel
theorem dL_law_2925 : decode cL_law 2925 = .ok (.invokestatic 272, 3) := by decide +kernel
theorem dL_law_2928 : decode cL_law 2928 = .ok (.istore 5, 2) := by decide +kernel
theorem dL_law_2930 : decode cL_law 2930 = .ok (.aload_n 2, 1) := by decide +kernel
theorem dL_law_2931 : decode cL_law 2931 = .ok (.aload_n 0, 1) := by decide +kernel
theorem dL_law_2932 : decode cL_law 2932 = .ok (.iload 4, 2) := by decide +kernel
theorem dL_law_2934 : decode cL_law 2934 = .ok (.iconst 1, 1) := by decide +kernel
theorem dL_law_2935 : decode cL_law 2935 = .ok (.iadd, 1) := by decide +kernel
theorem dL_law_2936 : decode cL_law 2936 = .ok (.iaload, 1) := by decide +kernel
theorem dL_law_2937 : decode cL_law 2937 = .ok (.aload_n 0, 1) := by decide +kernel
theorem dL_law_2938 : decode cL_law 2938 = .ok (.iload 4, 2) := by decide +kernel
theorem dL_law_2940 : decode cL_law 2940 = .ok (.iconst 2, 1) := by decide +kernel
theorem dL_law_2941 : decode cL_law 2941 = .ok (.iadd, 1) := by decide +kernel
theorem dL_law_2942 : decode cL_law 2942 = .ok (.iaload, 1) := by decide +kernel
theorem dL_law_2943 : decode cL_law 2943 = .ok (.aload_n 0, 1) := by decide +kernel
theorem dL_law_2944 : decode cL_law 2944 = .ok (.iload 4, 2) := by decide +kernel
theorem dL_law_2946 : decode cL_law 2946 = .ok (.iconst 3, 1) := by decide +kernel
theorem dL_law_2947 : decode cL_law 2947 = .ok (.iadd, 1) := by decide +kernel
theorem dL_law_2948 : decode cL_law 2948 = .ok (.iaload, 1) := by decide +kernel
theorem dL_law_2949 : decode cL_law 2949 = .ok (.invokevirtual 274, 3) := by decide +kernel
theorem dL_law_2952 : decode cL_law 2952 = .ok (.istore 6, 2) := by decide +kernel
theorem dL_law_2954 : decode cL_law 2954 = .ok (.aload_n 2, 1) := by decide +kernel
theorem dL_law_2955 : decode cL_law 2955 = .ok (.invokevirtual 151, 3) := by decide +kernel
theorem dL_law_2958 : decode cL_law 2958 = .ok (.iload 5, 2) := by decide +kernel
theorem dL_law_2960 : decode cL_law 2960 = .ok (.if_icmp .eq 5, 3) := by decide +kernel
theorem dL_law_2963 : decode cL_law 2963 = .ok (.iconst 0, 1) := by decide +kernel
theorem dL_law_2964 : decode cL_law 2964 = .ok (.ireturn, 1) := by decide +kernel
theorem dL_law_2965 : decode cL_law 2965 = .ok (.iload 5, 2) := by decide +kernel
theorem dL_law_2967 : decode cL_law 2967 = .ok (.ifCond .ne 15, 3) := by decide +kernel
theorem dL_law_2970 : decode cL_law 2970 = .ok (.aload_n 3, 1) := by decide +kernel
theorem dL_law_2971 : decode cL_law 2971 = .ok (.iconst 0, 1) := by decide +kernel
theorem dL_law_2972 : decode cL_law 2972 = .ok (.laload, 1) := by decide +kernel
theorem dL_law_2973 : decode cL_law 2973 = .ok (.iload 6, 2) := by decide +kernel
theorem dL_law_2975 : decode cL_law 2975 = .ok (.i2l, 1) := by decide +kernel
theorem dL_law_2976 : decode cL_law 2976 = .ok (.lcmp, 1) := by decide +kernel
theorem dL_law_2977 : decode cL_law 2977 = .ok (.ifCond .eq 5, 3) := by decide +kernel
theorem dL_law_2980 : decode cL_law 2980 = .ok (.iconst 0, 1) := by decide +kernel
theorem dL_law_2981 : decode cL_law 2981 = .ok (.ireturn, 1) := by decide +kernel
theorem dL_law_2982 : decode cL_law 2982 = .ok (.goto 159, 3) := by decide +kernel
theorem dL_law_2985 : decode cL_law 2985 = .ok (.aload_n 1, 1) := by decide +kernel
theorem dL_law_2986 : decode cL_law 2986 = .ok (.aload_n 3, 1) := by decide +kernel
theorem dL_law_2987 : decode cL_law 2987 = .ok (.invokestatic 275, 3) := by decide +kernel
theorem dL_law_2990 : decode cL_law 2990 = .ok (.istore 5, 2) := by decide +kernel
theorem dL_law_2992 : decode cL_law 2992 = .ok (.aload_n 2, 1) := by decide +kernel
theorem dL_law_2993 : decode cL_law 2993 = .ok (.invokevirtual 277, 3) := by decide +kernel
theorem dL_law_2996 : decode cL_law 2996 = .ok (.istore 6, 2) := by decide +kernel
theorem dL_law_2998 : decode cL_law 2998 = .ok (.aload_n 2, 1) := by decide +kernel
theorem dL_law_2999 : decode cL_law 2999 = .ok (.invokevirtual 151, 3) := by decide +kernel
theorem dL_law_3002 : decode cL_law 3002 = .ok (.iload 5, 2) := by decide +kernel
theorem dL_law_3004 : decode cL_law 3004 = .ok (.if_icmp .eq 5, 3) := by decide +kernel
theorem dL_law_3007 : decode cL_law 3007 = .ok (.iconst 0, 1) := by decide +kernel
theorem dL_law_3008 : decode cL_law 3008 = .ok (.ireturn, 1) := by decide +kernel
theorem dL_law_3009 : decode cL_law 3009 = .ok (.iload 5, 2) := by decide +kernel
theorem dL_law_3011 : decode cL_law 3011 = .ok (.ifCond .ne 15, 3) := by decide +kernel
theorem dL_law_3014 : decode cL_law 3014 = .ok (.aload_n 3, 1) := by decide +kernel
theorem dL_law_3015 : decode cL_law 3015 = .ok (.iconst 0, 1) := by decide +kernel
theorem dL_law_3016 : decode cL_law 3016 = .ok (.laload, 1) := by decide +kernel
theorem dL_law_3017 : decode cL_law 3017 = .ok (.iload 6, 2) := by decide +kernel
theorem dL_law_3019 : decode cL_law 3019 = .ok (.i2l, 1) := by decide +kernel
theorem dL_law_3020 : decode cL_law 3020 = .ok (.lcmp, 1) := by decide +kernel
theorem dL_law_3021 : decode cL_law 3021 = .ok (.ifCond .eq 5, 3) := by decide +kernel
theorem dL_law_3024 : decode cL_law 3024 = .ok (.iconst 0, 1) := by decide +kernel
theorem dL_law_3025 : decode cL_law 3025 = .ok (.ireturn, 1) := by decide +kernel
theorem dL_law_3026 : decode cL_law 3026 = .ok (.goto 115, 3) := by decide +kernel
theorem dL_law_3029 : decode cL_law 3029 = .ok (.aload_n 1, 1) := by decide +kernel
theorem dL_law_3030 : decode cL_law 3030 = .ok (.aload_n 0, 1) := by decide +kernel
theorem dL_law_3031 : decode cL_law 3031 = .ok (.iload 4, 2) := by decide +kernel
theorem dL_law_3033 : decode cL_law 3033 = .ok (.iconst 1, 1) := by decide +kernel
theorem dL_law_3034 : decode cL_law 3034 = .ok (.iadd, 1) := by decide +kernel
theorem dL_law_3035 : decode cL_law 3035 = .ok (.iaload, 1) := by decide +kernel
theorem dL_law_3036 : decode cL_law 3036 = .ok (.aload_n 3, 1) := by decide +kernel
theorem dL_law_3037 : decode cL_law 3037 = .ok (.invokestatic 278, 3) := by decide +kernel
theorem dL_law_3040 : decode cL_law 3040 = .ok (.istore 5, 2) := by decide +kernel
theorem dL_law_3042 : decode cL_law 3042 = .ok (.aload_n 2, 1) := by decide +kernel
theorem dL_law_3043 : decode cL_law 3043 = .ok (.aload_n 0, 1) := by decide +kernel
theorem dL_law_3044 : decode cL_law 3044 = .ok (.iload 4, 2) := by decide +kernel
theorem dL_law_3046 : decode cL_law 3046 = .ok (.iconst 1, 1) := by decide +kernel
theorem dL_law_3047 : decode cL_law 3047 = .ok (.iadd, 1) := by decide +kernel
theorem dL_law_3048 : decode cL_law 3048 = .ok (.iaload, 1) := by decide +kernel
theorem dL_law_3049 : decode cL_law 3049 = .ok (.invokevirtual 280, 3) := by decide +kernel
theorem dL_law_3052 : decode cL_law 3052 = .ok (.istore 6, 2) := by decide +kernel
theorem dL_law_3054 : decode cL_law 3054 = .ok (.aload_n 2, 1) := by decide +kernel
theorem dL_law_3055 : decode cL_law 3055 = .ok (.invokevirtual 151, 3) := by decide +kernel
theorem dL_law_3058 : decode cL_law 3058 = .ok (.iload 5, 2) := by decide +kernel
theorem dL_law_3060 : decode cL_law 3060 = .ok (.if_icmp .eq 5, 3) := by decide +kernel
theorem dL_law_3063 : decode cL_law 3063 = .ok (.iconst 0, 1) := by decide +kernel
theorem dL_law_3064 : decode cL_law 3064 = .ok (.ireturn, 1) := by decide +kernel
theorem dL_law_3065 : decode cL_law 3065 = .ok (.iload 5, 2) := by decide +kernel
theorem dL_law_3067 : decode cL_law 3067 = .ok (.ifCond .ne 15, 3) := by decide +kernel
theorem dL_law_3070 : decode cL_law 3070 = .ok (.aload_n 3, 1) := by decide +kernel
theorem dL_law_3071 : decode cL_law 3071 = .ok (.iconst 0, 1) := by decide +kernel
theorem dL_law_3072 : decode cL_law 3072 = .ok (.laload, 1) := by decide +kernel
theorem dL_law_3073 : decode cL_law 3073 = .ok (.iload 6, 2) := by decide +kernel
theorem dL_law_3075 : decode cL_law 3075 = .ok (.i2l, 1) := by decide +kernel
theorem dL_law_3076 : decode cL_law 3076 = .ok (.lcmp, 1) := by decide +kernel
theorem dL_law_3077 : decode cL_law 3077 = .ok (.ifCond .eq 5, 3) := by decide +kernel
theorem dL_law_3080 : decode cL_law 3080 = .ok (.iconst 0, 1) := by decide +kernel
theorem dL_law_3081 : decode cL_law 3081 = .ok (.ireturn, 1) := by decide +kernel
theorem dL_law_3082 : decode cL_law 3082 = .ok (.goto 59, 3) := by decide +kernel
theorem dL_law_3085 : decode cL_law 3085 = .ok (.aload_n 1, 1) := by decide +kernel
theorem dL_law_3086 : decode cL_law 3086 = .ok (.aload_n 0, 1) := by decide +kernel
theorem dL_law_3087 : decode cL_law 3087 = .ok (.iload 4, 2) := by decide +kernel
theorem dL_law_3089 : decode cL_law 3089 = .ok (.iconst 1, 1) := by decide +kernel
theorem dL_law_3090 : decode cL_law 3090 = .ok (.iadd, 1) := by decide +kernel
theorem dL_law_3091 : decode cL_law 3091 = .ok (.iaload, 1) := by decide +kernel
theorem dL_law_3092 : decode cL_law 3092 = .ok (.aload_n 3, 1) := by decide +kernel
theorem dL_law_3093 : decode cL_law 3093 = .ok (.invokestatic 281, 3) := by decide +kernel
theorem dL_law_3096 : decode cL_law 3096 = .ok (.istore 5, 2) := by decide +kernel
theorem dL_law_3098 : decode cL_law 3098 = .ok (.aload_n 2, 1) := by decide +kernel
theorem dL_law_3099 : decode cL_law 3099 = .ok (.aload_n 0, 1) := by decide +kernel
theorem dL_law_3100 : decode cL_law 3100 = .ok (.iload 4, 2) := by decide +kernel
theorem dL_law_3102 : decode cL_law 3102 = .ok (.iconst 1, 1) := by decide +kernel
theorem dL_law_3103 : decode cL_law 3103 = .ok (.iadd, 1) := by decide +kernel
theorem dL_law_3104 : decode cL_law 3104 = .ok (.iaload, 1) := by decide +kernel
theorem dL_law_3105 : decode cL_law 3105 = .ok (.invokevirtual 283, 3) := by decide +kernel
theorem dL_law_3108 : decode cL_law 3108 = .ok (.istore 6, 2) := by decide +kernel
theorem dL_law_3110 : decode cL_law 3110 = .ok (.aload_n 2, 1) := by decide +kernel
theorem dL_law_3111 : decode cL_law 3111 = .ok (.invokevirtual 151, 3) := by decide +kernel
theorem dL_law_3114 : decode cL_law 3114 = .ok (.iload 5, 2) := by decide +kernel
theorem dL_law_3116 : decode cL_law 3116 = .ok (.if_icmp .eq 5, 3) := by decide +kernel
theorem dL_law_3119 : decode cL_law 3119 = .ok (.iconst 0, 1) := by decide +kernel
theorem dL_law_3120 : decode cL_law 3120 = .ok (.ireturn, 1) := by decide +kernel
theorem dL_law_3121 : decode cL_law 3121 = .ok (.iload 5, 2) := by decide +kernel
theorem dL_law_3123 : decode cL_law 3123 = .ok (.ifCond .ne 15, 3) := by decide +kernel
theorem dL_law_3126 : decode cL_law 3126 = .ok (.aload_n 3, 1) := by decide +kernel
theorem dL_law_3127 : decode cL_law 3127 = .ok (.iconst 0, 1) := by decide +kernel
theorem dL_law_3128 : decode cL_law 3128 = .ok (.laload, 1) := by decide +kernel
theorem dL_law_3129 : decode cL_law 3129 = .ok (.iload 6, 2) := by decide +kernel
theorem dL_law_3131 : decode cL_law 3131 = .ok (.i2l, 1) := by decide +kernel
theorem dL_law_3132 : decode cL_law 3132 = .ok (.lcmp, 1) := by decide +kernel
theorem dL_law_3133 : decode cL_law 3133 = .ok (.ifCond .eq 5, 3) := by decide +kernel
theorem dL_law_3136 : decode cL_law 3136 = .ok (.iconst 0, 1) := by decide +kernel
theorem dL_law_3137 : decode cL_law 3137 = .ok (.ireturn, 1) := by decide +kernel
theorem dL_law_3138 : decode cL_law 3138 = .ok (.goto 3, 3) := by decide +kernel
theorem dL_law_3141 : decode cL_law 3141 = .ok (.iinc 4 7, 3) := by decide +kernel
theorem dL_law_3144 : decode cL_law 3144 = .ok (.goto (-3121), 3) := by decide +kernel
theorem dL_law_3147 : decode cL_law 3147 = .ok (.iconst 1, 1) := by decide +kernel
theorem dL_law_3148 : decode cL_law 3148 = .ok (.ireturn, 1) := by decide +kernel
