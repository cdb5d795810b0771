theorem dL_law_2971 : decode cL_law 2971 = .ok (.iadd, 1) := by decide +kernel
theorem dL_law_2972 : decode cL_law 2972 = .ok (.iaload, 1) := by decide +kernel
theorem dL_law_2973 : decode cL_law 2973 = .ok (.aload_n 0, 1) := by decide +kernel
theorem dL_law_2974 : decode cL_law 2974 = .ok (.iload 5, 2) := by decide +kernel
theorem dL_law_2976 : decode cL_law 2976 = .ok (.iconst 2, 1) := by decide +kernel
theorem dL_law_2977 : decode cL_law 2977 = .ok (.iadd, 1) := by decide +kernel
theorem dL_law_2978 : decode cL_law 2978 = .ok (.iaload, 1) := by decide +kernel
theorem dL_law_2979 : decode cL_law 2979 = .ok (.invokevirtual 339, 3) := by decide +kernel
theorem dL_law_2982 : decode cL_law 2982 = .ok (.istore 7, 2) := by decide +kernel
theorem dL_law_2984 : decode cL_law 2984 = .ok (.aload_n 2, 1) := by decide +kernel
theorem dL_law_2985 : decode cL_law 2985 = .ok (.invokevirtual 196, 3) := by decide +kernel
theorem dL_law_2988 : decode cL_law 2988 = .ok (.iload 6, 2) := by decide +kernel
theorem dL_law_2990 : decode cL_law 2990 = .ok (.if_icmp .eq 5, 3) := by decide +kernel
theorem dL_law_2993 : decode cL_law 2993 = .ok (.iconst 0, 1) := by decide +kernel
theorem dL_law_2994 : decode cL_law 2994 = .ok (.ireturn, 1) := by decide +kernel
theorem dL_law_2995 : decode cL_law 2995 = .ok (.iload 6, 2) := by decide +kernel
theorem dL_law_2997 : decode cL_law 2997 = .ok (.ifCond .ne 22, 3) := by decide +kernel
theorem dL_law_3000 : decode cL_law 3000 = .ok (.aload_n 3, 1) := by decide +kernel
theorem dL_law_3001 : decode cL_law 3001 = .ok (.iconst 0, 1) := by decide +kernel
theorem dL_law_3002 : decode cL_law 3002 = .ok (.laload, 1) := by decide +kernel
theorem dL_law_3003 : decode cL_law 3003 = .ok (.iload 7, 2) := by decide +kernel
theorem dL_law_3005 : decode cL_law 3005 = .ok (.ifCond .eq 7, 3) := by decide +kernel
theorem dL_law_3008 : decode cL_law 3008 = .ok (.lconst 1, 1) := by decide +kernel
theorem dL_law_3009 : decode cL_law 3009 = .ok (.goto 4, 3) := by decide +kernel
theorem dL_law_3012 : decode cL_law 3012 = .ok (.lconst 0, 1) := by decide +kernel
theorem dL_law_3013 : decode cL_law 3013 = .ok (.lcmp, 1) := by decide +kernel
theorem dL_law_3014 : decode cL_law 3014 = .ok (.ifCond .eq 5, 3) := by decide +kernel
theorem dL_law_3017 : decode cL_law 3017 = .ok (.iconst 0, 1) := by decide +kernel
theorem dL_law_3018 : decode cL_law 3018 = .ok (.ireturn, 1) := by decide +kernel
theorem dL_law_3019 : decode cL_law 3019 = .ok (.goto 918, 3) := by decide +kernel
theorem dL_law_3022 : decode cL_law 3022 = .ok (.aload_n 1, 1) := by decide +kernel
theorem dL_law_3023 : decode cL_law 3023 = .ok (.aload_n 0, 1) := by decide +kernel
theorem dL_law_3024 : decode cL_law 3024 = .ok (.iload 5, 2) := by decide +kernel
theorem dL_law_3026 : decode cL_law 3026 = .ok (.iconst 1, 1) := by decide +kernel
theorem dL_law_3027 : decode cL_law 3027 = .ok (.iadd, 1) := by decide +kernel
theorem dL_law_3028 : decode cL_law 3028 = .ok (.iaload, 1) := by decide +kernel
theorem dL_law_3029 : decode cL_law 3029 = .ok (.aload_n 0, 1) := by decide +kernel
theorem dL_law_3030 : decode cL_law 3030 = .ok (.iload 5, 2) := by decide +kernel
theorem dL_law_3032 : decode cL_law 3032 = .ok (.iconst 2, 1) := by decide +kernel
theorem dL_law_3033 : decode cL_law 3033 = .ok (.iadd, 1) := by decide +kernel
theorem dL_law_3034 : decode cL_law 3034 = .ok (.iaload, 1) := by decide +kernel
theorem dL_law_3035 : decode cL_law 3035 = .ok (.aload_n 0, 1) := by decide +kernel
theorem dL_law_3036 : decode cL_law 3036 = .ok (.iload 5, 2) := by decide +kernel
theorem dL_law_3038 : decode cL_law 3038 = .ok (.iconst 3, 1) := by decide +kernel
theorem dL_law_3039 : decode cL_law 3039 = .ok (.iadd, 1) := by decide +kernel
theorem dL_law_3040 : decode cL_law 3040 = .ok (.iaload, 1) := by decide +kernel
theorem dL_law_3041 : decode cL_law 3041 = .ok (.aload_n 3, 1) := by decide +kernel
theorem dL_law_3042 : decode cL_law 3042 = .ok (.invokestatic 340, 3) := by decide +kernel
theorem dL_law_3045 : decode cL_law 3045 = .ok (.istore 6, 2) := by decide +kernel
theorem dL_law_3047 : decode cL_law 3047 = .ok (.aload_n 2, 1) := by decide +kernel
theorem dL_law_3048 : decode cL_law 3048 = .ok (.aload_n 0, 1) := by decide +kernel
theorem dL_law_3049 : decode cL_law 3049 = .ok (.iload 5, 2) := by decide +kernel
theorem dL_law_3051 : decode cL_law 3051 = .ok (.iconst 1, 1) := by decide +kernel
theorem dL_law_3052 : decode cL_law 3052 = .ok (.iadd, 1) := by decide +kernel
theorem dL_law_3053 : decode cL_law 3053 = .ok (.iaload, 1) := by decide +kernel
theorem dL_law_3054 : decode cL_law 3054 = .ok (.aload_n 0, 1) := by decide +kernel
theorem dL_law_3055 : decode cL_law 3055 = .ok (.iload 5, 2) := by decide +kernel
theorem dL_law_3057 : decode cL_law 3057 = .ok (.iconst 2, 1) := by decide +kernel
theorem dL_law_3058 : decode cL_law 3058 = .ok (.iadd, 1) := by decide +kernel
theorem dL_law_3059 : decode cL_law 3059 = .ok (.iaload, 1) := by decide +kernel
theorem dL_law_3060 : decode cL_law 3060 = .ok (.aload_n 0, 1) := by decide +kernel
theorem dL_law_3061 : decode cL_law 3061 = .ok (.iload 5, 2) := by decide +kernel
theorem dL_law_3063 : decode cL_law 3063 = .ok (.iconst 3, 1) := by decide +kernel
theorem dL_law_3064 : decode cL_law 3064 = .ok (.iadd, 1) := by decide +kernel
theorem dL_law_3065 : decode cL_law 3065 = .ok (.iaload, 1) := by decide +kernel
theorem dL_law_3066 : decode cL_law 3066 = .ok (.invokevirtual 342, 3) := by decide +kernel
theorem dL_law_3069 : decode cL_law 3069 = .ok (.istore 7, 2) := by decide +kernel
theorem dL_law_3071 : decode cL_law 3071 = .ok (.aload_n 2, 1) := by decide +kernel
theorem dL_law_3072 : decode cL_law 3072 = .ok (.invokevirtual 196, 3) := by decide +kernel
theorem dL_law_3075 : decode cL_law 3075 = .ok (.iload 6, 2) := by decide +kernel
theorem dL_law_3077 : decode cL_law 3077 = .ok (.if_icmp .eq 5, 3) := by decide +kernel
theorem dL_law_3080 : decode cL_law 3080 = .ok (.iconst 0, 1) := by decide +kernel
theorem dL_law_3081 : decode cL_law 3081 = .ok (.ireturn, 1) := by decide +kernel
theorem dL_law_3082 : decode cL_law 3082 = .ok (.iload 6, 2) := by decide +kernel
theorem dL_law_3084 : decode cL_law 3084 = .ok (.ifCond .ne 22, 3) := by decide +kernel
theorem dL_law_3087 : decode cL_law 3087 = .ok (.aload_n 3, 1) := by decide +kernel
theorem dL_law_3088 : decode cL_law 3088 = .ok (.iconst 0, 1) := by decide +kernel
theorem dL_law_3089 : decode cL_law 3089 = .ok (.laload, 1) := by decide +kernel
theorem dL_law_3090 : decode cL_law 3090 = .ok (.iload 7, 2) := by decide +kernel
theorem dL_law_3092 : decode cL_law 3092 = .ok (.ifCond .eq 7, 3) := by decide +kernel
theorem dL_law_3095 : decode cL_law 3095 = .ok (.lconst 1, 1) := by decide +kernel
theorem dL_law_3096 : decode cL_law 3096 = .ok (.goto 4, 3) := by decide +kernel
theorem dL_law_3099 : decode cL_law 3099 = .ok (.lconst 0, 1) := by decide +kernel
theorem dL_law_3100 : decode cL_law 3100 = .ok (.lcmp, 1) := by decide +kernel
theorem dL_law_3101 : decode cL_law 3101 = .ok (.ifCond .eq 5, 3) := by decide +kernel
theorem dL_law_3104 : decode cL_law 3104 = .ok (.iconst 0, 1) := by decide +kernel
theorem dL_law_3105 : decode cL_law 3105 = .ok (.ireturn, 1) := by decide +kernel
theorem dL_law_3106 : decode cL_law 3106 = .ok (.goto 831, 3) := by decide +kernel
theorem dL_law_3109 : decode cL_law 3109 = .ok (.aload_n 1, 1) := by decide +kernel
theorem dL_law_3110 : decode cL_law 3110 = .ok (.aload_n 0, 1) := by decide +kernel
theorem dL_law_3111 : decode cL_law 3111 = .ok (.iload 5, 2) := by decide +kernel
theorem dL_law_3113 : decode cL_law 3113 = .ok (.iconst 1, 1) := by decide +kernel
theorem dL_law_3114 : decode cL_law 3114 = .ok (.iadd, 1) := by decide +kernel
theorem dL_law_3115 : decode cL_law 3115 = .ok (.iaload, 1) := by decide +kernel
theorem dL_law_3116 : decode cL_law 3116 = .ok (.aload_n 0, 1) := by decide +kernel
theorem dL_law_3117 : decode cL_law 3117 = .ok (.iload 5, 2) := by decide +kernel
theorem dL_law_3119 : decode cL_law 3119 = .ok (.iconst 2, 1) := by decide +kernel
theorem dL_law_3120 : decode cL_law 3120 = .ok (.iadd, 1) := by decide +kernel
theorem dL_law_3121 : decode cL_law 3121 = .ok (.iaload, 1) := by decide +kernel
theorem dL_law_3122 : decode cL_law 3122 = .ok (.aload_n 3, 1) := by decide +kernel
theorem dL_law_3123 : decode cL_law 3123 = .ok (.invokestatic 343, 3) := by decide +kernel
theorem dL_law_3126 : decode cL_law 3126 = .ok (.istore 6, 2) := by decide +kernel
theorem dL_law_3128 : decode cL_law 3128 = .ok (.aload_n 2, 1) := by decide +kernel
theorem dL_law_3129 : decode cL_law 3129 = .ok (.aload_n 0, 1) := by decide +kernel
theorem dL_law_3130 : decode cL_law 3130 = .ok (.iload 5, 2) := by decide +kernel
theorem dL_law_3132 : decode cL_law 3132 = .ok (.iconst 1, 1) := by decide +kernel
theorem dL_law_3133 : decode cL_law 3133 = .ok (.iadd, 1) := by decide +kernel
theorem dL_law_3134 : decode cL_law 3134 = .ok (.iaload, 1) := by decide +kernel
theorem dL_law_3135 : decode cL_law 3135 = .ok (.aload_n 0, 1) := by decide +kernel
theorem dL_law_3136 : decode cL_law 3136 = .ok (.iload 5, 2) := by decide +kernel
theorem dL_law_3138 : decode cL_law 3138 = .ok (.iconst 2, 1) := by decide +kernel
theorem dL_law_3139 : decode cL_law 3139 = .ok (.iadd, 1) := by decide +kernel
theorem dL_law_3140 : decode cL_law 3140 = .ok (.iaload, 1) := by decide +kernel
theorem dL_law_3141 : decode cL_law 3141 = .ok (.invokevirtual 345, 3) := by decide +kernel
theorem dL_law_3144 : decode cL_law 3144 = .ok (.istore 7, 2) := by decide +kernel
theorem dL_law_3146 : decode cL_law 3146 = .ok (.aload_n 2, 1) := by decide +kernel
theorem dL_law_3147 : decode cL_law 3147 = .ok (.invokevirtual 196, 3) := by decide +kernel
theorem dL_law_3150 : decode cL_law 3150 = .ok (.iload 6, 2) := by decide +kernel
theorem dL_law_3152 : decode cL_law 3152 = .ok (.if_icmp .eq 5, 3) := by decide +kernel
theorem dL_law_3155 : decode cL_law 3155 = .ok (.iconst 0, 1) := by decide +kernel
theorem dL_law_3156 : decode cL_law 3156 = .ok (.ireturn, 1) := by decide +kernel
theorem dL_law_3157 : decode cL_law 3157 = .ok (.iload 6, 2) := by decide +kernel
theorem dL_law_3159 : decode cL_law 3159 = .ok (.ifCond .ne 15, 3) := by decide +kernel
theorem dL_law_3162 : decode cL_law 3162 = .ok (.aload_n 3, 1) := by decide +kernel
theorem dL_law_3163 : decode cL_law 3163 = .ok (.iconst 0, 1) := by decide +kernel
theorem dL_law_3164 : decode cL_law 3164 = .ok (.laload, 1) := by decide +kernel
theorem dL_law_3165 : decode cL_law 3165 = .ok (.iload 7, 2) := by decide +kernel
theorem dL_law_3167 : decode cL_law 3167 = .ok (.i2l, 1) := by decide +kernel
theorem dL_law_3168 : decode cL_law 3168 = .ok (.lcmp, 1) := by decide +kernel
theorem dL_law_3169 : decode cL_law 3169 = .ok (.ifCond .eq 5, 3) := by decide +kernel
theorem dL_law_3172 : decode cL_law 3172 = .ok (.iconst 0, 1) := by decide +kernel
theorem dL_law_3173 : decode cL_law 3173 = .ok (.ireturn, 1) := by decide +kernel
theorem dL_law_3174 : decode cL_law 3174 = .ok (.goto 763, 3) := by decide +kernel
theorem dL_law_3177 : decode cL_law 3177 = .ok (.aload_n 1, 1) := by decide +kernel
theorem dL_law_3178 : decode cL_law 3178 = .ok (.aload_n 0, 1) := by decide +kernel
theorem dL_law_3179 : decode cL_law 3179 = .ok (.iload 5, 2) := by decide +kernel
theorem dL_law_3181 : decode cL_law 3181 = .ok (.iconst 1, 1) := by decide +kernel
theorem dL_law_3182 : decode cL_law 3182 = .ok (.iadd, 1) := by decide +kernel
theorem dL_law_3183 : decode cL_law 3183 = .ok (.iaload, 1) := by decide +kernel
theorem dL_law_3184 : decode cL_law 3184 = .ok (.aload_n 0, 1) := by decide +kernel
theorem dL_law_3185 : decode cL_law 3185 = .ok (.iload 5, 2) := by decide +kernel
theorem dL_law_3187 : decode cL_law 3187 = .ok (.iconst 2, 1) := by decide +kernel
theorem dL_law_3188 : decode cL_law 3188 = .ok (.iadd, 1) := by decide +kernel
theorem dL_law_3189 : decode cL_law 3189 = .ok (.iaload, 1) := by decide +kernel
theorem dL_law_3190 : decode cL_law 3190 = .ok (.aload_n 3, 1) := by decide +kernel
theorem dL_law_3191 : decode cL_law 3191 = .ok (.invokestatic 346, 3) := by decide +kernel
theorem dL_law_3194 : decode cL_law 3194 = .ok (.istore 6, 2) := by decide +kernel
theorem dL_law_3196 : decode cL_law 3196 = .ok (.aload_n 2, 1) := by decide +kernel
theorem dL_law_3197 : decode cL_law 3197 = .ok (.aload_n 0, 1) := by decide +kernel
theorem dL_law_3198 : decode cL_law 3198 = .ok (.iload 5, 2) := by decide +kernel
theorem dL_law_3200 : decode cL_law 3200 = .ok (.iconst 1, 1) := by decide +kernel
theorem dL_law_3201 : decode cL_law 3201 = .ok (.iadd, 1) := by decide +kernel
theorem dL_law_3202 : decode cL_law 3202 = .ok (.iaload, 1) := by decide +kernel
theorem dL_law_3203 : decode cL_law 3203 = .ok (.aload_n 0, 1) := by decide +kernel
theorem dL_law_3204 : decode cL_law 3204 = .ok (.iload 5, 2) := by decide +kernel
theorem dL_law_3206 : decode cL_law 3206 = .ok (.iconst 2, 1) := by decide +kernel
theorem dL_law_3207 : decode cL_law 3207 = .ok (.iadd, 1) := by decide +kernel
theorem dL_law_3208 : decode cL_law 3208 = .ok (.iaload, 1) := by decide +kernel
theorem dL_law_3209 : decode cL_law 3209 = .ok (.invokevirtual 348, 3) := by decide +kernel
theorem dL_law_3212 : decode cL_law 3212 = .ok (.istore 7, 2) := by decide +kernel
theorem dL_law_3214 : decode cL_law 3214 = .ok (.aload_n 2, 1) := by decide +kernel
theorem dL_law_3215 : decode cL_law 3215 = .ok (.invokevirtual 196, 3) := by decide +kernel
theorem dL_law_3218 : decode cL_law 3218 = .ok (.iload 6, 2) := by decide +kernel
theorem dL_law_3220 : decode cL_law 3220 = .ok (.if_icmp .eq 5, 3) := by decide +kernel
theorem dL_law_3223 : decode cL_law 3223 = .ok (.iconst 0, 1) := by decide +kernel
theorem dL_law_3224 : decode cL_law 3224 = .ok (.ireturn, 1) := by decide +kernel
theorem dL_law_3225 : decode cL_law 3225 = .ok (.iload 6, 2) := by decide +kernel
theorem dL_law_3227 : decode cL_law 3227 = .ok (.ifCond .ne 15, 3) := by decide +kernel
theorem dL_law_3230 : decode cL_law 3230 = .ok (.aload_n 3, 1) := by decide +kernel
theorem dL_law_3231 : decode cL_law 3231 = .ok (.iconst 0, 1) := by decide +kernel
theorem dL_law_3232 : decode cL_law 3232 = .ok (.laload, 1) := by decide +kernel
theorem dL_law_3233 : decode cL_law 3233 = .ok (.iload 7, 2) := by decide +kernel
theorem dL_law_3235 : decode cL_law 3235 = .ok (.i2l, 1) := by decide +kernel
theorem dL_law_3236 : decode cL_law 3236 = .ok (.lcmp, 1) := by decide +kernel
theorem dL_law_3237 : decode cL_law 3237 = .ok (.ifCond .eq 5, 3) := by decide +kernel
theorem dL_law_3240 : decode cL_law 3240 = .ok (.iconst 0, 1) := by decide +kernel
theorem dL_law_3241 : decode cL_law 3241 = .ok (.ireturn, 1) := by decide +kernel
theorem dL_law_3242 : decode cL_law 3242 = .ok (.goto 695, 3) := by decide +kernel
theorem dL_law_3245 : decode cL_law 3245 = .ok (.aload_n 1, 1) := by decide +kernel
theorem dL_law_3246 : decode cL_law 3246 = .ok (.aload_n 0, 1) := by decide +kernel
theorem dL_law_3247 : decode cL_law 3247 = .ok (.iload 5, 2) := by decide +kernel
theorem dL_law_3249 : decode cL_law 3249 = .ok (.iconst 1, 1) := by decide +kernel
theorem dL_law_3250 : decode cL_law 3250 = .ok (.iadd, 1) := by decide +kernel
theorem dL_law_3251 : decode cL_law 3251 = .ok (.iaload, 1) := by decide +kernel
theorem dL_law_3252 : decode cL_law 3252 = .ok (.aload_n 3, 1) := by decide +kernel
theorem dL_law_3253 : decode cL_law 3253 = .ok (.invokestatic 349, 3) := by decide +kernel
theorem dL_law_3256 : decode cL_law 3256 = .ok (.istore 6, 2) := by decide +kernel
theorem dL_law_3258 : decode cL_law 3258 = .ok (.aload_n 2, 1) := by decide +kernel
theorem dL_law_3259 : decode cL_law 3259 = .ok (.aload_n 0, 1) := by decide +kernel
theorem dL_law_3260 : decode cL_law 3260 = .ok (.iload 5, 2) := by decide +kernel
theorem dL_law_3262 : decode cL_law 3262 = .ok (.iconst 1, 1) := by decide +kernel
theorem dL_law_3263 : decode cL_law 3263 = .ok (.iadd, 1) := by decide +kernel
theorem dL_law_3264 : decode cL_law 3264 = .ok (.iaload, 1) := by decide +kernel
theorem dL_law_3265 : decode cL_law 3265 = .ok (.invokevirtual 351, 3) := by decide +kernel
theorem dL_law_3268 : decode cL_law 3268 = .ok (.istore 7, 2) := by decide +kernel
theorem dL_law_3270 : decode cL_law 3270 = .ok (.aload_n 2, 1) := by decide +kernel
theorem dL_law_3271 : decode cL_law 3271 = .ok (.invokevirtual 196, 3) := by decide +kernel
theorem dL_law_3274 : decode cL_law 3274 = .ok (.iload 6, 2) := by decide +kernel
theorem dL_law_3276 : decode cL_law 3276 = .ok (.if_icmp .eq 5, 3) := by decide +kernel
theorem dL_law_3279 : decode cL_law 3279 = .ok (.iconst 0, 1) := by decide +kernel
theorem dL_law_3280 : decode cL_law 3280 = .ok (.ireturn, 1) := by decide +kernel
theorem dL_law_3281 : decode cL_law 3281 = .ok (.iload 6, 2) := by decide +kernel
theorem dL_law_3283 : decode cL_law 3283 = .ok (.ifCond .ne 15, 3) := by decide +kernel
theorem dL_law_3286 : decode cL_law 3286 = .ok (.aload_n 3, 1) := by decide +kernel
theorem dL_law_3287 : decode cL_law 3287 = .ok (.iconst 0, 1) := by decide +kernel
theorem dL_law_3288 : decode cL_law 3288 = .ok (.laload, 1) := by decide +kernel
theorem dL_law_3289 : decode cL_law 3289 = .ok (.iload 7, 2) := by decide +kernel
theorem dL_law_3291 : decode cL_law 3291 = .ok (.i2l, 1) := by decide +kernel
theorem dL_law_3292 : decode cL_law 3292 = .ok (.lcmp, 1) := by decide +kernel
theorem dL_law_3293 : decode cL_law 3293 = .ok (.ifCond .eq 5, 3) := by decide +kernel
theorem dL_law_3296 : decode cL_law 3296 = .ok (.iconst 0, 1) := by decide +kernel
theorem dL_law_3297 : decode cL_law 3297 = .ok (.ireturn, 1) := by decide +kernel
theorem dL_law_3298 : decode cL_law 3298 = .ok (.goto 639, 3) := by decide +kernel
theorem dL_law_3301 : decode cL_law 3301 = .ok (.aload_n 1, 1) := by decide +kernel
theorem dL_law_3302 : decode cL_law 3302 = .ok (.aload_n 0, 1) := by decide +kernel
theorem dL_law_3303 : decode cL_law 3303 = .ok (.iload 5, 2) := by decide +kernel
theorem dL_law_3305 : decode cL_law 3305 = .ok (.iconst 1, 1) := by decide +kernel
theorem dL_law_3306 : decode cL_law 3306 = .ok (.iadd, 1) := by decide +kernel
theorem dL_law_3307 : decode cL_law 3307 = .ok (.iaload, 1) := by decide +kernel
theorem dL_law_3308 : decode cL_law 3308 = .ok (.aload_n 3, 1) := by decide +kernel
theorem dL_law_3309 : decode cL_law 3309 = .ok (.invokestatic 352, 3) := by decide +kernel
theorem dL_law_3312 : decode cL_law 3312 = .ok (.istore 6, 2) := by decide +kernel
theorem dL_law_3314 : decode cL_law 3314 = .ok (.aload_n 2, 1) := by decide +kernel
theorem dL_law_3315 : decode cL_law 3315 = .ok (.aload_n 0, 1) := by decide +kernel
theorem dL_law_3316 : decode cL_law 3316 = .ok (.iload 5, 2) := by decide +kernel
theorem dL_law_3318 : decode cL_law 3318 = .ok (.iconst 1, 1) := by decide +kernel
theorem dL_law_3319 : decode cL_law 3319 = .ok (.iadd, 1) := by decide +kernel
theorem dL_law_3320 : decode cL_law 3320 = .ok (.iaload, 1) := by decide +kernel
theorem dL_law_3321 : decode cL_law 3321 = .ok (.invokevirtual 354, 3) := by decide +kernel
theorem dL_law_3324 : decode cL_law 3324 = .ok (.istore 7, 2) := by decide +kernel
theorem dL_law_3326 : decode cL_law 3326 = .ok (.aload_n 2, 1) := by decide +kernel
theorem dL_law_3327 : decode cL_law 3327 = .ok (.invokevirtual 196, 3) := by decide +kernel
theorem dL_law_3330 : decode cL_law 3330 = .ok (.iload 6, 2) := by decide +kernel
theorem dL_law_3332 : decode cL_law 3332 = .ok (.if_icmp .eq 5, 3) := by decide +kernel
theorem dL_law_3335 : decode cL_law 3335 = .ok (.iconst 0, 1) := by decide +kernel
theorem dL_law_3336 : decode cL_law 3336 = .ok (.ireturn, 1) := by decide +kernel
theorem dL_law_3337 : decode cL_law 3337 = .ok (.iload 6, 2) := by decide +kernel
theorem dL_law_3339 : decode cL_law 3339 = .ok (.ifCond .ne 15, 3) := by decide +kernel
theorem dL_law_3342 : decode cL_law 3342 = .ok (.aload_n 3, 1) := by decide +kernel
theorem dL_law_3343 : decode cL_law 3343 = .ok (.iconst 0, 1) := by decide +kernel
theorem dL_law_3344 : decode cL_law 3344 = .ok (.laload, 1) := by decide +kernel
theorem dL_law_3345 : decode cL_law 3345 = .ok (.iload 7, 2) := by decide +kernel
theorem dL_law_3347 : decode cL_law 3347 = .ok (.i2l, 1) := by decide +kernel
theorem dL_law_3348 : decode cL_law 3348 = .ok (.lcmp, 1) := by decide +kernel
theorem dL_law_3349 : decode cL_law 3349 = .ok (.ifCond .eq 5, 3) := by decide +kernel
theorem dL_law_3352 : decode cL_law 3352 = .ok (.iconst 0, 1) := by decide +kernel
theorem dL_law_3353 : decode cL_law 3353 = .ok (.ireturn, 1) := by decide +kernel
theorem dL_law_3354 : decode cL_law 3354 = .ok (.goto 583, 3) := by decide +kernel
theorem dL_law_3357 : decode cL_law 3357 = .ok (.aload_n 1, 1) := by decide +kernel
theorem dL_law_3358 : decode cL_law 3358 = .ok (.aload_n 0, 1) := by decide +kernel
