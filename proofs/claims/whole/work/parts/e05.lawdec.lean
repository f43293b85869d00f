/-! the law's instructions, on -/
theorem d_Law_law_2908 : decode code 2908 = .ok (.invokevirtual 160, 3) := by decide +kernel
theorem d_Law_law_2911 : decode code 2911 = .ok (.iload 5, 2) := by decide +kernel
theorem d_Law_law_2913 : decode code 2913 = .ok (.if_icmp .eq 5, 3) := by decide +kernel
theorem d_Law_law_2916 : decode code 2916 = .ok (.iconst 0, 1) := by decide +kernel
theorem d_Law_law_2917 : decode code 2917 = .ok (.ireturn, 1) := by decide +kernel
theorem d_Law_law_2918 : decode code 2918 = .ok (.iload 5, 2) := by decide +kernel
theorem d_Law_law_2920 : decode code 2920 = .ok (.ifCond .ne 15, 3) := by decide +kernel
theorem d_Law_law_2923 : decode code 2923 = .ok (.aload_n 3, 1) := by decide +kernel
theorem d_Law_law_2924 : decode code 2924 = .ok (.iconst 0, 1) := by decide +kernel
theorem d_Law_law_2925 : decode code 2925 = .ok (.laload, 1) := by decide +kernel
theorem d_Law_law_2926 : decode code 2926 = .ok (.iload 6, 2) := by decide +kernel
theorem d_Law_law_2928 : decode code 2928 = .ok (.i2l, 1) := by decide +kernel
theorem d_Law_law_2929 : decode code 2929 = .ok (.lcmp, 1) := by decide +kernel
theorem d_Law_law_2930 : decode code 2930 = .ok (.ifCond .eq 5, 3) := by decide +kernel
theorem d_Law_law_2933 : decode code 2933 = .ok (.iconst 0, 1) := by decide +kernel
theorem d_Law_law_2934 : decode code 2934 = .ok (.ireturn, 1) := by decide +kernel
theorem d_Law_law_2935 : decode code 2935 = .ok (.goto 294, 3) := by decide +kernel
theorem d_Law_law_2938 : decode code 2938 = .ok (.aload_n 1, 1) := by decide +kernel
theorem d_Law_law_2939 : decode code 2939 = .ok (.invokevirtual 290, 3) := by decide +kernel
theorem d_Law_law_2942 : decode code 2942 = .ok (.aload_n 2, 1) := by decide +kernel
theorem d_Law_law_2943 : decode code 2943 = .ok (.invokevirtual 293, 3) := by decide +kernel
theorem d_Law_law_2946 : decode code 2946 = .ok (.if_icmp .eq 283, 3) := by decide +kernel
theorem d_Law_law_2949 : decode code 2949 = .ok (.iconst 0, 1) := by decide +kernel
theorem d_Law_law_2950 : decode code 2950 = .ok (.ireturn, 1) := by decide +kernel
theorem d_Law_law_2951 : decode code 2951 = .ok (.aload_n 1, 1) := by decide +kernel
theorem d_Law_law_2952 : decode code 2952 = .ok (.aload_n 0, 1) := by decide +kernel
theorem d_Law_law_2953 : decode code 2953 = .ok (.iload 4, 2) := by decide +kernel
theorem d_Law_law_2955 : decode code 2955 = .ok (.iconst 1, 1) := by decide +kernel
theorem d_Law_law_2956 : decode code 2956 = .ok (.iadd, 1) := by decide +kernel
theorem d_Law_law_2957 : decode code 2957 = .ok (.iaload, 1) := by decide +kernel
theorem d_Law_law_2958 : decode code 2958 = .ok (.aload_n 3, 1) := by decide +kernel
theorem d_Law_law_2959 : decode code 2959 = .ok (.invokestatic 294, 3) := by decide +kernel
theorem d_Law_law_2962 : decode code 2962 = .ok (.istore 5, 2) := by decide +kernel
theorem d_Law_law_2964 : decode code 2964 = .ok (.aload_n 2, 1) := by decide +kernel
theorem d_Law_law_2965 : decode code 2965 = .ok (.aload_n 0, 1) := by decide +kernel
theorem d_Law_law_2966 : decode code 2966 = .ok (.iload 4, 2) := by decide +kernel
theorem d_Law_law_2968 : decode code 2968 = .ok (.iconst 1, 1) := by decide +kernel
theorem d_Law_law_2969 : decode code 2969 = .ok (.iadd, 1) := by decide +kernel
theorem d_Law_law_2970 : decode code 2970 = .ok (.iaload, 1) := by decide +kernel
theorem d_Law_law_2971 : decode code 2971 = .ok (.invokevirtual 296, 3) := by decide +kernel
theorem d_Law_law_2974 : decode code 2974 = .ok (.istore 6, 2) := by decide +kernel
theorem d_Law_law_2976 : decode code 2976 = .ok (.aload_n 2, 1) := by decide +kernel
theorem d_Law_law_2977 : decode code 2977 = .ok (.invokevirtual 160, 3) := by decide +kernel
theorem d_Law_law_2980 : decode code 2980 = .ok (.iload 5, 2) := by decide +kernel
theorem d_Law_law_2982 : decode code 2982 = .ok (.if_icmp .eq 5, 3) := by decide +kernel
theorem d_Law_law_2985 : decode code 2985 = .ok (.iconst 0, 1) := by decide +kernel
theorem d_Law_law_2986 : decode code 2986 = .ok (.ireturn, 1) := by decide +kernel
theorem d_Law_law_2987 : decode code 2987 = .ok (.iload 5, 2) := by decide +kernel
theorem d_Law_law_2989 : decode code 2989 = .ok (.ifCond .ne 15, 3) := by decide +kernel
theorem d_Law_law_2992 : decode code 2992 = .ok (.aload_n 3, 1) := by decide +kernel
theorem d_Law_law_2993 : decode code 2993 = .ok (.iconst 0, 1) := by decide +kernel
theorem d_Law_law_2994 : decode code 2994 = .ok (.laload, 1) := by decide +kernel
theorem d_Law_law_2995 : decode code 2995 = .ok (.iload 6, 2) := by decide +kernel
theorem d_Law_law_2997 : decode code 2997 = .ok (.i2l, 1) := by decide +kernel
theorem d_Law_law_2998 : decode code 2998 = .ok (.lcmp, 1) := by decide +kernel
theorem d_Law_law_2999 : decode code 2999 = .ok (.ifCond .eq 5, 3) := by decide +kernel
theorem d_Law_law_3002 : decode code 3002 = .ok (.iconst 0, 1) := by decide +kernel
theorem d_Law_law_3003 : decode code 3003 = .ok (.ireturn, 1) := by decide +kernel
theorem d_Law_law_3004 : decode code 3004 = .ok (.goto 225, 3) := by decide +kernel
theorem d_Law_law_3007 : decode code 3007 = .ok (.aload_n 1, 1) := by decide +kernel
theorem d_Law_law_3008 : decode code 3008 = .ok (.invokevirtual 297, 3) := by decide +kernel
theorem d_Law_law_3011 : decode code 3011 = .ok (.aload_n 2, 1) := by decide +kernel
theorem d_Law_law_3012 : decode code 3012 = .ok (.invokevirtual 300, 3) := by decide +kernel
theorem d_Law_law_3015 : decode code 3015 = .ok (.if_icmp .eq 214, 3) := by decide +kernel
theorem d_Law_law_3018 : decode code 3018 = .ok (.iconst 0, 1) := by decide +kernel
theorem d_Law_law_3019 : decode code 3019 = .ok (.ireturn, 1) := by decide +kernel
theorem d_Law_law_3020 : decode code 3020 = .ok (.aload_n 1, 1) := by decide +kernel
theorem d_Law_law_3021 : decode code 3021 = .ok (.invokevirtual 301, 3) := by decide +kernel
theorem d_Law_law_3024 : decode code 3024 = .ok (.aload_n 2, 1) := by decide +kernel
theorem d_Law_law_3025 : decode code 3025 = .ok (.invokevirtual 304, 3) := by decide +kernel
theorem d_Law_law_3028 : decode code 3028 = .ok (.if_icmp .eq 201, 3) := by decide +kernel
theorem d_Law_law_3031 : decode code 3031 = .ok (.iconst 0, 1) := by decide +kernel
theorem d_Law_law_3032 : decode code 3032 = .ok (.ireturn, 1) := by decide +kernel
theorem d_Law_law_3033 : decode code 3033 = .ok (.aload_n 1, 1) := by decide +kernel
theorem d_Law_law_3034 : decode code 3034 = .ok (.aload_n 0, 1) := by decide +kernel
theorem d_Law_law_3035 : decode code 3035 = .ok (.iload 4, 2) := by decide +kernel
theorem d_Law_law_3037 : decode code 3037 = .ok (.iconst 1, 1) := by decide +kernel
theorem d_Law_law_3038 : decode code 3038 = .ok (.iadd, 1) := by decide +kernel
theorem d_Law_law_3039 : decode code 3039 = .ok (.iaload, 1) := by decide +kernel
theorem d_Law_law_3040 : decode code 3040 = .ok (.aload_n 3, 1) := by decide +kernel
theorem d_Law_law_3041 : decode code 3041 = .ok (.invokestatic 305, 3) := by decide +kernel
theorem d_Law_law_3044 : decode code 3044 = .ok (.istore 5, 2) := by decide +kernel
theorem d_Law_law_3046 : decode code 3046 = .ok (.aload_n 2, 1) := by decide +kernel
theorem d_Law_law_3047 : decode code 3047 = .ok (.aload_n 0, 1) := by decide +kernel
theorem d_Law_law_3048 : decode code 3048 = .ok (.iload 4, 2) := by decide +kernel
theorem d_Law_law_3050 : decode code 3050 = .ok (.iconst 1, 1) := by decide +kernel
theorem d_Law_law_3051 : decode code 3051 = .ok (.iadd, 1) := by decide +kernel
theorem d_Law_law_3052 : decode code 3052 = .ok (.iaload, 1) := by decide +kernel
theorem d_Law_law_3053 : decode code 3053 = .ok (.invokevirtual 307, 3) := by decide +kernel
theorem d_Law_law_3056 : decode code 3056 = .ok (.istore 6, 2) := by decide +kernel
theorem d_Law_law_3058 : decode code 3058 = .ok (.aload_n 2, 1) := by decide +kernel
theorem d_Law_law_3059 : decode code 3059 = .ok (.invokevirtual 160, 3) := by decide +kernel
theorem d_Law_law_3062 : decode code 3062 = .ok (.iload 5, 2) := by decide +kernel
theorem d_Law_law_3064 : decode code 3064 = .ok (.if_icmp .eq 5, 3) := by decide +kernel
theorem d_Law_law_3067 : decode code 3067 = .ok (.iconst 0, 1) := by decide +kernel
theorem d_Law_law_3068 : decode code 3068 = .ok (.ireturn, 1) := by decide +kernel
theorem d_Law_law_3069 : decode code 3069 = .ok (.iload 5, 2) := by decide +kernel
theorem d_Law_law_3071 : decode code 3071 = .ok (.ifCond .ne 15, 3) := by decide +kernel
theorem d_Law_law_3074 : decode code 3074 = .ok (.aload_n 3, 1) := by decide +kernel
theorem d_Law_law_3075 : decode code 3075 = .ok (.iconst 0, 1) := by decide +kernel
theorem d_Law_law_3076 : decode code 3076 = .ok (.laload, 1) := by decide +kernel
theorem d_Law_law_3077 : decode code 3077 = .ok (.iload 6, 2) := by decide +kernel
theorem d_Law_law_3079 : decode code 3079 = .ok (.i2l, 1) := by decide +kernel
theorem d_Law_law_3080 : decode code 3080 = .ok (.lcmp, 1) := by decide +kernel
theorem d_Law_law_3081 : decode code 3081 = .ok (.ifCond .eq 5, 3) := by decide +kernel
theorem d_Law_law_3084 : decode code 3084 = .ok (.iconst 0, 1) := by decide +kernel
theorem d_Law_law_3085 : decode code 3085 = .ok (.ireturn, 1) := by decide +kernel
theorem d_Law_law_3086 : decode code 3086 = .ok (.goto 143, 3) := by decide +kernel
theorem d_Law_law_3089 : decode code 3089 = .ok (.aload_n 1, 1) := by decide +kernel
theorem d_Law_law_3090 : decode code 3090 = .ok (.aload_n 0, 1) := by decide +kernel
theorem d_Law_law_3091 : decode code 3091 = .ok (.iload 4, 2) := by decide +kernel
theorem d_Law_law_3093 : decode code 3093 = .ok (.iconst 1, 1) := by decide +kernel
theorem d_Law_law_3094 : decode code 3094 = .ok (.iadd, 1) := by decide +kernel
theorem d_Law_law_3095 : decode code 3095 = .ok (.iaload, 1) := by decide +kernel
theorem d_Law_law_3096 : decode code 3096 = .ok (.aload_n 3, 1) := by decide +kernel
theorem d_Law_law_3097 : decode code 3097 = .ok (.invokestatic 308, 3) := by decide +kernel
theorem d_Law_law_3100 : decode code 3100 = .ok (.istore 5, 2) := by decide +kernel
theorem d_Law_law_3102 : decode code 3102 = .ok (.aload_n 2, 1) := by decide +kernel
theorem d_Law_law_3103 : decode code 3103 = .ok (.aload_n 0, 1) := by decide +kernel
theorem d_Law_law_3104 : decode code 3104 = .ok (.iload 4, 2) := by decide +kernel
theorem d_Law_law_3106 : decode code 3106 = .ok (.iconst 1, 1) := by decide +kernel
theorem d_Law_law_3107 : decode code 3107 = .ok (.iadd, 1) := by decide +kernel
theorem d_Law_law_3108 : decode code 3108 = .ok (.iaload, 1) := by decide +kernel
theorem d_Law_law_3109 : decode code 3109 = .ok (.invokevirtual 310, 3) := by decide +kernel
theorem d_Law_law_3112 : decode code 3112 = .ok (.istore 6, 2) := by decide +kernel
theorem d_Law_law_3114 : decode code 3114 = .ok (.aload_n 2, 1) := by decide +kernel
theorem d_Law_law_3115 : decode code 3115 = .ok (.invokevirtual 160, 3) := by decide +kernel
theorem d_Law_law_3118 : decode code 3118 = .ok (.iload 5, 2) := by decide +kernel
theorem d_Law_law_3120 : decode code 3120 = .ok (.if_icmp .eq 5, 3) := by decide +kernel
theorem d_Law_law_3123 : decode code 3123 = .ok (.iconst 0, 1) := by decide +kernel
theorem d_Law_law_3124 : decode code 3124 = .ok (.ireturn, 1) := by decide +kernel
theorem d_Law_law_3125 : decode code 3125 = .ok (.iload 5, 2) := by decide +kernel
theorem d_Law_law_3127 : decode code 3127 = .ok (.ifCond .ne 15, 3) := by decide +kernel
theorem d_Law_law_3130 : decode code 3130 = .ok (.aload_n 3, 1) := by decide +kernel
theorem d_Law_law_3131 : decode code 3131 = .ok (.iconst 0, 1) := by decide +kernel
theorem d_Law_law_3132 : decode code 3132 = .ok (.laload, 1) := by decide +kernel
theorem d_Law_law_3133 : decode code 3133 = .ok (.iload 6, 2) := by decide +kernel
theorem d_Law_law_3135 : decode code 3135 = .ok (.i2l, 1) := by decide +kernel
theorem d_Law_law_3136 : decode code 3136 = .ok (.lcmp, 1) := by decide +kernel
theorem d_Law_law_3137 : decode code 3137 = .ok (.ifCond .eq 5, 3) := by decide +kernel
theorem d_Law_law_3140 : decode code 3140 = .ok (.iconst 0, 1) := by decide +kernel
theorem d_Law_law_3141 : decode code 3141 = .ok (.ireturn, 1) := by decide +kernel
theorem d_Law_law_3142 : decode code 3142 = .ok (.goto 87, 3) := by decide +kernel
theorem d_Law_law_3145 : decode code 3145 = .ok (.aload_n 1, 1) := by decide +kernel
theorem d_Law_law_3146 : decode code 3146 = .ok (.aload_n 0, 1) := by decide +kernel
theorem d_Law_law_3147 : decode code 3147 = .ok (.iload 4, 2) := by decide +kernel
theorem d_Law_law_3149 : decode code 3149 = .ok (.iconst 1, 1) := by decide +kernel
theorem d_Law_law_3150 : decode code 3150 = .ok (.iadd, 1) := by decide +kernel
theorem d_Law_law_3151 : decode code 3151 = .ok (.iaload, 1) := by decide +kernel
theorem d_Law_law_3152 : decode code 3152 = .ok (.aload_n 0, 1) := by decide +kernel
theorem d_Law_law_3153 : decode code 3153 = .ok (.iload 4, 2) := by decide +kernel
theorem d_Law_law_3155 : decode code 3155 = .ok (.iconst 2, 1) := by decide +kernel
theorem d_Law_law_3156 : decode code 3156 = .ok (.iadd, 1) := by decide +kernel
theorem d_Law_law_3157 : decode code 3157 = .ok (.iaload, 1) := by decide +kernel
theorem d_Law_law_3158 : decode code 3158 = .ok (.ifCond .eq 7, 3) := by decide +kernel
theorem d_Law_law_3161 : decode code 3161 = .ok (.iconst 1, 1) := by decide +kernel
theorem d_Law_law_3162 : decode code 3162 = .ok (.goto 4, 3) := by decide +kernel
theorem d_Law_law_3165 : decode code 3165 = .ok (.iconst 0, 1) := by decide +kernel
theorem d_Law_law_3166 : decode code 3166 = .ok (.aload_n 3, 1) := by decide +kernel
theorem d_Law_law_3167 : decode code 3167 = .ok (.invokestatic 311, 3) := by decide +kernel
theorem d_Law_law_3170 : decode code 3170 = .ok (.istore 5, 2) := by decide +kernel
theorem d_Law_law_3172 : decode code 3172 = .ok (.aload_n 2, 1) := by decide +kernel
theorem d_Law_law_3173 : decode code 3173 = .ok (.aload_n 0, 1) := by decide +kernel
theorem d_Law_law_3174 : decode code 3174 = .ok (.iload 4, 2) := by decide +kernel
theorem d_Law_law_3176 : decode code 3176 = .ok (.iconst 1, 1) := by decide +kernel
theorem d_Law_law_3177 : decode code 3177 = .ok (.iadd, 1) := by decide +kernel
theorem d_Law_law_3178 : decode code 3178 = .ok (.iaload, 1) := by decide +kernel
theorem d_Law_law_3179 : decode code 3179 = .ok (.aload_n 0, 1) := by decide +kernel
theorem d_Law_law_3180 : decode code 3180 = .ok (.iload 4, 2) := by decide +kernel
theorem d_Law_law_3182 : decode code 3182 = .ok (.iconst 2, 1) := by decide +kernel
theorem d_Law_law_3183 : decode code 3183 = .ok (.iadd, 1) := by decide +kernel
theorem d_Law_law_3184 : decode code 3184 = .ok (.iaload, 1) := by decide +kernel
theorem d_Law_law_3185 : decode code 3185 = .ok (.ifCond .eq 7, 3) := by decide +kernel
theorem d_Law_law_3188 : decode code 3188 = .ok (.iconst 1, 1) := by decide +kernel
theorem d_Law_law_3189 : decode code 3189 = .ok (.goto 4, 3) := by decide +kernel
theorem d_Law_law_3192 : decode code 3192 = .ok (.iconst 0, 1) := by decide +kernel
theorem d_Law_law_3193 : decode code 3193 = .ok (.invokevirtual 314, 3) := by decide +kernel
theorem d_Law_law_3196 : decode code 3196 = .ok (.istore 6, 2) := by decide +kernel
theorem d_Law_law_3198 : decode code 3198 = .ok (.aload_n 2, 1) := by decide +kernel
theorem d_Law_law_3199 : decode code 3199 = .ok (.invokevirtual 160, 3) := by decide +kernel
theorem d_Law_law_3202 : decode code 3202 = .ok (.iload 5, 2) := by decide +kernel
theorem d_Law_law_3204 : decode code 3204 = .ok (.if_icmp .eq 5, 3) := by decide +kernel
theorem d_Law_law_3207 : decode code 3207 = .ok (.iconst 0, 1) := by decide +kernel
theorem d_Law_law_3208 : decode code 3208 = .ok (.ireturn, 1) := by decide +kernel
theorem d_Law_law_3209 : decode code 3209 = .ok (.iload 5, 2) := by decide +kernel
theorem d_Law_law_3211 : decode code 3211 = .ok (.ifCond .ne 15, 3) := by decide +kernel
theorem d_Law_law_3214 : decode code 3214 = .ok (.aload_n 3, 1) := by decide +kernel
theorem d_Law_law_3215 : decode code 3215 = .ok (.iconst 0, 1) := by decide +kernel
theorem d_Law_law_3216 : decode code 3216 = .ok (.laload, 1) := by decide +kernel
theorem d_Law_law_3217 : decode code 3217 = .ok (.iload 6, 2) := by decide +kernel
theorem d_Law_law_3219 : decode code 3219 = .ok (.i2l, 1) := by decide +kernel
theorem d_Law_law_3220 : decode code 3220 = .ok (.lcmp, 1) := by decide +kernel
theorem d_Law_law_3221 : decode code 3221 = .ok (.ifCond .eq 5, 3) := by decide +kernel
theorem d_Law_law_3224 : decode code 3224 = .ok (.iconst 0, 1) := by decide +kernel
theorem d_Law_law_3225 : decode code 3225 = .ok (.ireturn, 1) := by decide +kernel
theorem d_Law_law_3226 : decode code 3226 = .ok (.goto 3, 3) := by decide +kernel
theorem d_Law_law_3229 : decode code 3229 = .ok (.iinc 4 6, 3) := by decide +kernel
theorem d_Law_law_3232 : decode code 3232 = .ok (.goto (-3209), 3) := by decide +kernel
theorem d_Law_law_3235 : decode code 3235 = .ok (.iconst 1, 1) := by decide +kernel
theorem d_Law_law_3236 : decode code 3236 = .ok (.ireturn, 1) := by decide +kernel
