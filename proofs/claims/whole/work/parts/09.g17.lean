/-! ===== decode rows: the law ===== -/
theorem dL_law_2930 : decode cL_law 2930 = .ok (.invokevirtual 331, 3) := by decide +kernel
theorem dL_law_2933 : decode cL_law 2933 = .ok (.istore 7, 2) := by decide +kernel
theorem dL_law_2935 : decode cL_law 2935 = .ok (.aload_n 2, 1) := by decide +kernel
theorem dL_law_2936 : decode cL_law 2936 = .ok (.invokevirtual 166, 3) := by decide +kernel
theorem dL_law_2939 : decode cL_law 2939 = .ok (.iload 6, 2) := by decide +kernel
theorem dL_law_2941 : decode cL_law 2941 = .ok (.if_icmp .eq 5, 3) := by decide +kernel
theorem dL_law_2944 : decode cL_law 2944 = .ok (.iconst 0, 1) := by decide +kernel
theorem dL_law_2945 : decode cL_law 2945 = .ok (.ireturn, 1) := by decide +kernel
theorem dL_law_2946 : decode cL_law 2946 = .ok (.iload 6, 2) := by decide +kernel
theorem dL_law_2948 : decode cL_law 2948 = .ok (.ifCond .ne 15, 3) := by decide +kernel
theorem dL_law_2951 : decode cL_law 2951 = .ok (.aload_n 3, 1) := by decide +kernel
theorem dL_law_2952 : decode cL_law 2952 = .ok (.iconst 0, 1) := by decide +kernel
theorem dL_law_2953 : decode cL_law 2953 = .ok (.laload, 1) := by decide +kernel
theorem dL_law_2954 : decode cL_law 2954 = .ok (.iload 7, 2) := by decide +kernel
theorem dL_law_2956 : decode cL_law 2956 = .ok (.i2l, 1) := by decide +kernel
theorem dL_law_2957 : decode cL_law 2957 = .ok (.lcmp, 1) := by decide +kernel
theorem dL_law_2958 : decode cL_law 2958 = .ok (.ifCond .eq 5, 3) := by decide +kernel
theorem dL_law_2961 : decode cL_law 2961 = .ok (.iconst 0, 1) := by decide +kernel
theorem dL_law_2962 : decode cL_law 2962 = .ok (.ireturn, 1) := by decide +kernel
theorem dL_law_2963 : decode cL_law 2963 = .ok (.goto 171, 3) := by decide +kernel
theorem dL_law_2966 : decode cL_law 2966 = .ok (.aload_n 1, 1) := by decide +kernel
theorem dL_law_2967 : decode cL_law 2967 = .ok (.aload_n 0, 1) := by decide +kernel
theorem dL_law_2968 : decode cL_law 2968 = .ok (.iload 5, 2) := by decide +kernel
theorem dL_law_2970 : decode cL_law 2970 = .ok (.iconst 1, 1) := by decide +kernel
theorem dL_law_2971 : decode cL_law 2971 = .ok (.iadd, 1) := by decide +kernel
theorem dL_law_2972 : decode cL_law 2972 = .ok (.iaload, 1) := by decide +kernel
theorem dL_law_2973 : decode cL_law 2973 = .ok (.aload_n 3, 1) := by decide +kernel
theorem dL_law_2974 : decode cL_law 2974 = .ok (.invokestatic 332, 3) := by decide +kernel
theorem dL_law_2977 : decode cL_law 2977 = .ok (.istore 6, 2) := by decide +kernel
theorem dL_law_2979 : decode cL_law 2979 = .ok (.aload_n 2, 1) := by decide +kernel
theorem dL_law_2980 : decode cL_law 2980 = .ok (.aload_n 0, 1) := by decide +kernel
theorem dL_law_2981 : decode cL_law 2981 = .ok (.iload 5, 2) := by decide +kernel
theorem dL_law_2983 : decode cL_law 2983 = .ok (.iconst 1, 1) := by decide +kernel
theorem dL_law_2984 : decode cL_law 2984 = .ok (.iadd, 1) := by decide +kernel
theorem dL_law_2985 : decode cL_law 2985 = .ok (.iaload, 1) := by decide +kernel
theorem dL_law_2986 : decode cL_law 2986 = .ok (.invokevirtual 334, 3) := by decide +kernel
theorem dL_law_2989 : decode cL_law 2989 = .ok (.istore 7, 2) := by decide +kernel
theorem dL_law_2991 : decode cL_law 2991 = .ok (.aload_n 2, 1) := by decide +kernel
theorem dL_law_2992 : decode cL_law 2992 = .ok (.invokevirtual 166, 3) := by decide +kernel
theorem dL_law_2995 : decode cL_law 2995 = .ok (.iload 6, 2) := by decide +kernel
theorem dL_law_2997 : decode cL_law 2997 = .ok (.if_icmp .eq 5, 3) := by decide +kernel
theorem dL_law_3000 : decode cL_law 3000 = .ok (.iconst 0, 1) := by decide +kernel
theorem dL_law_3001 : decode cL_law 3001 = .ok (.ireturn, 1) := by decide +kernel
theorem dL_law_3002 : decode cL_law 3002 = .ok (.iload 6, 2) := by decide +kernel
theorem dL_law_3004 : decode cL_law 3004 = .ok (.ifCond .ne 15, 3) := by decide +kernel
theorem dL_law_3007 : decode cL_law 3007 = .ok (.aload_n 3, 1) := by decide +kernel
theorem dL_law_3008 : decode cL_law 3008 = .ok (.iconst 0, 1) := by decide +kernel
theorem dL_law_3009 : decode cL_law 3009 = .ok (.laload, 1) := by decide +kernel
theorem dL_law_3010 : decode cL_law 3010 = .ok (.iload 7, 2) := by decide +kernel
theorem dL_law_3012 : decode cL_law 3012 = .ok (.i2l, 1) := by decide +kernel
theorem dL_law_3013 : decode cL_law 3013 = .ok (.lcmp, 1) := by decide +kernel
theorem dL_law_3014 : decode cL_law 3014 = .ok (.ifCond .eq 5, 3) := by decide +kernel
theorem dL_law_3017 : decode cL_law 3017 = .ok (.iconst 0, 1) := by decide +kernel
theorem dL_law_3018 : decode cL_law 3018 = .ok (.ireturn, 1) := by decide +kernel
theorem dL_law_3019 : decode cL_law 3019 = .ok (.goto 115, 3) := by decide +kernel
theorem dL_law_3022 : decode cL_law 3022 = .ok (.aload_n 1, 1) := by decide +kernel
theorem dL_law_3023 : decode cL_law 3023 = .ok (.invokevirtual 335, 3) := by decide +kernel
theorem dL_law_3026 : decode cL_law 3026 = .ok (.aload_n 2, 1) := by decide +kernel
theorem dL_law_3027 : decode cL_law 3027 = .ok (.invokevirtual 338, 3) := by decide +kernel
theorem dL_law_3030 : decode cL_law 3030 = .ok (.if_icmp .eq 104, 3) := by decide +kernel
theorem dL_law_3033 : decode cL_law 3033 = .ok (.iconst 0, 1) := by decide +kernel
theorem dL_law_3034 : decode cL_law 3034 = .ok (.ireturn, 1) := by decide +kernel
theorem dL_law_3035 : decode cL_law 3035 = .ok (.aload_n 1, 1) := by decide +kernel
theorem dL_law_3036 : decode cL_law 3036 = .ok (.aload_n 3, 1) := by decide +kernel
theorem dL_law_3037 : decode cL_law 3037 = .ok (.invokestatic 339, 3) := by decide +kernel
theorem dL_law_3040 : decode cL_law 3040 = .ok (.istore 6, 2) := by decide +kernel
theorem dL_law_3042 : decode cL_law 3042 = .ok (.aload_n 2, 1) := by decide +kernel
theorem dL_law_3043 : decode cL_law 3043 = .ok (.invokevirtual 342, 3) := by decide +kernel
theorem dL_law_3046 : decode cL_law 3046 = .ok (.istore 7, 2) := by decide +kernel
theorem dL_law_3048 : decode cL_law 3048 = .ok (.aload_n 2, 1) := by decide +kernel
theorem dL_law_3049 : decode cL_law 3049 = .ok (.invokevirtual 166, 3) := by decide +kernel
theorem dL_law_3052 : decode cL_law 3052 = .ok (.iload 6, 2) := by decide +kernel
theorem dL_law_3054 : decode cL_law 3054 = .ok (.if_icmp .eq 5, 3) := by decide +kernel
theorem dL_law_3057 : decode cL_law 3057 = .ok (.iconst 0, 1) := by decide +kernel
theorem dL_law_3058 : decode cL_law 3058 = .ok (.ireturn, 1) := by decide +kernel
theorem dL_law_3059 : decode cL_law 3059 = .ok (.iload 6, 2) := by decide +kernel
theorem dL_law_3061 : decode cL_law 3061 = .ok (.ifCond .ne 15, 3) := by decide +kernel
theorem dL_law_3064 : decode cL_law 3064 = .ok (.aload_n 3, 1) := by decide +kernel
theorem dL_law_3065 : decode cL_law 3065 = .ok (.iconst 0, 1) := by decide +kernel
theorem dL_law_3066 : decode cL_law 3066 = .ok (.laload, 1) := by decide +kernel
theorem dL_law_3067 : decode cL_law 3067 = .ok (.iload 7, 2) := by decide +kernel
theorem dL_law_3069 : decode cL_law 3069 = .ok (.i2l, 1) := by decide +kernel
theorem dL_law_3070 : decode cL_law 3070 = .ok (.lcmp, 1) := by decide +kernel
theorem dL_law_3071 : decode cL_law 3071 = .ok (.ifCond .eq 5, 3) := by decide +kernel
theorem dL_law_3074 : decode cL_law 3074 = .ok (.iconst 0, 1) := by decide +kernel
theorem dL_law_3075 : decode cL_law 3075 = .ok (.ireturn, 1) := by decide +kernel
theorem dL_law_3076 : decode cL_law 3076 = .ok (.goto 58, 3) := by decide +kernel
theorem dL_law_3079 : decode cL_law 3079 = .ok (.aload_n 1, 1) := by decide +kernel
theorem dL_law_3080 : decode cL_law 3080 = .ok (.invokevirtual 343, 3) := by decide +kernel
theorem dL_law_3083 : decode cL_law 3083 = .ok (.aload_n 2, 1) := by decide +kernel
theorem dL_law_3084 : decode cL_law 3084 = .ok (.invokevirtual 346, 3) := by decide +kernel
theorem dL_law_3087 : decode cL_law 3087 = .ok (.goto 47, 3) := by decide +kernel
theorem dL_law_3090 : decode cL_law 3090 = .ok (.aload_n 1, 1) := by decide +kernel
theorem dL_law_3091 : decode cL_law 3091 = .ok (.aload_n 3, 1) := by decide +kernel
theorem dL_law_3092 : decode cL_law 3092 = .ok (.invokestatic 347, 3) := by decide +kernel
theorem dL_law_3095 : decode cL_law 3095 = .ok (.istore 6, 2) := by decide +kernel
theorem dL_law_3097 : decode cL_law 3097 = .ok (.aload_n 2, 1) := by decide +kernel
theorem dL_law_3098 : decode cL_law 3098 = .ok (.invokevirtual 349, 3) := by decide +kernel
theorem dL_law_3101 : decode cL_law 3101 = .ok (.istore 7, 2) := by decide +kernel
theorem dL_law_3103 : decode cL_law 3103 = .ok (.aload_n 2, 1) := by decide +kernel
