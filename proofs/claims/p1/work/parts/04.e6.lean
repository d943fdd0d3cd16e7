theorem dL_law_2886 : decode cL_law 2886 = .ok (.invokevirtual 310, 3) := by decide +kernel
theorem dL_law_2889 : decode cL_law 2889 = .ok (.istore 6, 2) := by decide +kernel
theorem dL_law_2891 : decode cL_law 2891 = .ok (.aload_n 2, 1) := by decide +kernel
theorem dL_law_2892 : decode cL_law 2892 = .ok (.invokevirtual 187, 3) := by decide +kernel
theorem dL_law_2895 : decode cL_law 2895 = .ok (.iload 5, 2) := by decide +kernel
theorem dL_law_2897 : decode cL_law 2897 = .ok (.if_icmp .eq 5, 3) := by decide +kernel
theorem dL_law_2900 : decode cL_law 2900 = .ok (.iconst 0, 1) := by decide +kernel
theorem dL_law_2901 : decode cL_law 2901 = .ok (.ireturn, 1) := by decide +kernel
theorem dL_law_2902 : decode cL_law 2902 = .ok (.iload 5, 2) := by decide +kernel
theorem dL_law_2904 : decode cL_law 2904 = .ok (.ifCond .ne 15, 3) := by decide +kernel
theorem dL_law_2907 : decode cL_law 2907 = .ok (.aload_n 3, 1) := by decide +kernel
theorem dL_law_2908 : decode cL_law 2908 = .ok (.iconst 0, 1) := by decide +kernel
theorem dL_law_2909 : decode cL_law 2909 = .ok (.laload, 1) := by decide +kernel
theorem dL_law_2910 : decode cL_law 2910 = .ok (.iload 6, 2) := by decide +kernel
theorem dL_law_2912 : decode cL_law 2912 = .ok (.i2l, 1) := by decide +kernel
theorem dL_law_2913 : decode cL_law 2913 = .ok (.lcmp, 1) := by decide +kernel
theorem dL_law_2914 : decode cL_law 2914 = .ok (.ifCond .eq 5, 3) := by decide +kernel
theorem dL_law_2917 : decode cL_law 2917 = .ok (.iconst 0, 1) := by decide +kernel
theorem dL_law_2918 : decode cL_law 2918 = .ok (.ireturn, 1) := by decide +kernel
theorem dL_law_2919 : decode cL_law 2919 = .ok (.goto 843, 3) := by decide +kernel
theorem dL_law_2922 : decode cL_law 2922 = .ok (.aload_n 1, 1) := by decide +kernel
theorem dL_law_2923 : decode cL_law 2923 = .ok (.aload_n 0, 1) := by decide +kernel
theorem dL_law_2924 : decode cL_law 2924 = .ok (.iload 4, 2) := by decide +kernel
theorem dL_law_2926 : decode cL_law 2926 = .ok (.iconst 1, 1) := by decide +kernel
theorem dL_law_2927 : decode cL_law 2927 = .ok (.iadd, 1) := by decide +kernel
theorem dL_law_2928 : decode cL_law 2928 = .ok (.iaload, 1) := by decide +kernel
theorem dL_law_2929 : decode cL_law 2929 = .ok (.aload_n 0, 1) := by decide +kernel
theorem dL_law_2930 : decode cL_law 2930 = .ok (.iload 4, 2) := by decide +kernel
theorem dL_law_2932 : decode cL_law 2932 = .ok (.iconst 2, 1) := by decide +kernel
theorem dL_law_2933 : decode cL_law 2933 = .ok (.iadd, 1) := by decide +kernel
theorem dL_law_2934 : decode cL_law 2934 = .ok (.iaload, 1) := by decide +kernel
theorem dL_law_2935 : decode cL_law 2935 = .ok (.aload_n 3, 1) := by decide +kernel
theorem dL_law_2936 : decode cL_law 2936 = .ok (.invokestatic 311, 3) := by decide +kernel
theorem dL_law_2939 : decode cL_law 2939 = .ok (.istore 5, 2) := by decide +kernel
theorem dL_law_2941 : decode cL_law 2941 = .ok (.aload_n 2, 1) := by decide +kernel
theorem dL_law_2942 : decode cL_law 2942 = .ok (.aload_n 0, 1) := by decide +kernel
theorem dL_law_2943 : decode cL_law 2943 = .ok (.iload 4, 2) := by decide +kernel
theorem dL_law_2945 : decode cL_law 2945 = .ok (.iconst 1, 1) := by decide +kernel
theorem dL_law_2946 : decode cL_law 2946 = .ok (.iadd, 1) := by decide +kernel
theorem dL_law_2947 : decode cL_law 2947 = .ok (.iaload, 1) := by decide +kernel
theorem dL_law_2948 : decode cL_law 2948 = .ok (.aload_n 0, 1) := by decide +kernel
theorem dL_law_2949 : decode cL_law 2949 = .ok (.iload 4, 2) := by decide +kernel
theorem dL_law_2951 : decode cL_law 2951 = .ok (.iconst 2, 1) := by decide +kernel
theorem dL_law_2952 : decode cL_law 2952 = .ok (.iadd, 1) := by decide +kernel
theorem dL_law_2953 : decode cL_law 2953 = .ok (.iaload, 1) := by decide +kernel
theorem dL_law_2954 : decode cL_law 2954 = .ok (.invokevirtual 313, 3) := by decide +kernel
theorem dL_law_2957 : decode cL_law 2957 = .ok (.istore 6, 2) := by decide +kernel
theorem dL_law_2959 : decode cL_law 2959 = .ok (.aload_n 2, 1) := by decide +kernel
theorem dL_law_2960 : decode cL_law 2960 = .ok (.invokevirtual 187, 3) := by decide +kernel
theorem dL_law_2963 : decode cL_law 2963 = .ok (.iload 5, 2) := by decide +kernel
theorem dL_law_2965 : decode cL_law 2965 = .ok (.if_icmp .eq 5, 3) := by decide +kernel
theorem dL_law_2968 : decode cL_law 2968 = .ok (.iconst 0, 1) := by decide +kernel
theorem dL_law_2969 : decode cL_law 2969 = .ok (.ireturn, 1) := by decide +kernel
theorem dL_law_2970 : decode cL_law 2970 = .ok (.iload 5, 2) := by decide +kernel
theorem dL_law_2972 : decode cL_law 2972 = .ok (.ifCond .ne 22, 3) := by decide +kernel
theorem dL_law_2975 : decode cL_law 2975 = .ok (.aload_n 3, 1) := by decide +kernel
theorem dL_law_2976 : decode cL_law 2976 = .ok (.iconst 0, 1) := by decide +kernel
theorem dL_law_2977 : decode cL_law 2977 = .ok (.laload, 1) := by decide +kernel
theorem dL_law_2978 : decode cL_law 2978 = .ok (.iload 6, 2) := by decide +kernel
theorem dL_law_2980 : decode cL_law 2980 = .ok (.ifCond .eq 7, 3) := by decide +kernel
theorem dL_law_2983 : decode cL_law 2983 = .ok (.lconst 1, 1) := by decide +kernel
theorem dL_law_2984 : decode cL_law 2984 = .ok (.goto 4, 3) := by decide +kernel
theorem dL_law_2987 : decode cL_law 2987 = .ok (.lconst 0, 1) := by decide +kernel
theorem dL_law_2988 : decode cL_law 2988 = .ok (.lcmp, 1) := by decide +kernel
theorem dL_law_2989 : decode cL_law 2989 = .ok (.ifCond .eq 5, 3) := by decide +kernel
theorem dL_law_2992 : decode cL_law 2992 = .ok (.iconst 0, 1) := by decide +kernel
theorem dL_law_2993 : decode cL_law 2993 = .ok (.ireturn, 1) := by decide +kernel
theorem dL_law_2994 : decode cL_law 2994 = .ok (.goto 768, 3) := by decide +kernel
theorem dL_law_2997 : decode cL_law 2997 = .ok (.aload_n 1, 1) := by decide +kernel
theorem dL_law_2998 : decode cL_law 2998 = .ok (.aload_n 0, 1) := by decide +kernel
theorem dL_law_2999 : decode cL_law 2999 = .ok (.iload 4, 2) := by decide +kernel
theorem dL_law_3001 : decode cL_law 3001 = .ok (.iconst 1, 1) := by decide +kernel
theorem dL_law_3002 : decode cL_law 3002 = .ok (.iadd, 1) := by decide +kernel
theorem dL_law_3003 : decode cL_law 3003 = .ok (.iaload, 1) := by decide +kernel
theorem dL_law_3004 : decode cL_law 3004 = .ok (.aload_n 0, 1) := by decide +kernel
theorem dL_law_3005 : decode cL_law 3005 = .ok (.iload 4, 2) := by decide +kernel
theorem dL_law_3007 : decode cL_law 3007 = .ok (.iconst 2, 1) := by decide +kernel
theorem dL_law_3008 : decode cL_law 3008 = .ok (.iadd, 1) := by decide +kernel
theorem dL_law_3009 : decode cL_law 3009 = .ok (.iaload, 1) := by decide +kernel
theorem dL_law_3010 : decode cL_law 3010 = .ok (.ifCond .eq 7, 3) := by decide +kernel
theorem dL_law_3013 : decode cL_law 3013 = .ok (.iconst 1, 1) := by decide +kernel
theorem dL_law_3014 : decode cL_law 3014 = .ok (.goto 4, 3) := by decide +kernel
theorem dL_law_3017 : decode cL_law 3017 = .ok (.iconst 0, 1) := by decide +kernel
theorem dL_law_3018 : decode cL_law 3018 = .ok (.aload_n 3, 1) := by decide +kernel
theorem dL_law_3019 : decode cL_law 3019 = .ok (.invokestatic 314, 3) := by decide +kernel
theorem dL_law_3022 : decode cL_law 3022 = .ok (.istore 5, 2) := by decide +kernel
theorem dL_law_3024 : decode cL_law 3024 = .ok (.aload_n 2, 1) := by decide +kernel
theorem dL_law_3025 : decode cL_law 3025 = .ok (.aload_n 0, 1) := by decide +kernel
theorem dL_law_3026 : decode cL_law 3026 = .ok (.iload 4, 2) := by decide +kernel
theorem dL_law_3028 : decode cL_law 3028 = .ok (.iconst 1, 1) := by decide +kernel
theorem dL_law_3029 : decode cL_law 3029 = .ok (.iadd, 1) := by decide +kernel
theorem dL_law_3030 : decode cL_law 3030 = .ok (.iaload, 1) := by decide +kernel
theorem dL_law_3031 : decode cL_law 3031 = .ok (.aload_n 0, 1) := by decide +kernel
theorem dL_law_3032 : decode cL_law 3032 = .ok (.iload 4, 2) := by decide +kernel
theorem dL_law_3034 : decode cL_law 3034 = .ok (.iconst 2, 1) := by decide +kernel
theorem dL_law_3035 : decode cL_law 3035 = .ok (.iadd, 1) := by decide +kernel
theorem dL_law_3036 : decode cL_law 3036 = .ok (.iaload, 1) := by decide +kernel
theorem dL_law_3037 : decode cL_law 3037 = .ok (.ifCond .eq 7, 3) := by decide +kernel
theorem dL_law_3040 : decode cL_law 3040 = .ok (.iconst 1, 1) := by decide +kernel
theorem dL_law_3041 : decode cL_law 3041 = .ok (.goto 4, 3) := by decide +kernel
theorem dL_law_3044 : decode cL_law 3044 = .ok (.iconst 0, 1) := by decide +kernel
theorem dL_law_3045 : decode cL_law 3045 = .ok (.invokevirtual 316, 3) := by decide +kernel
theorem dL_law_3048 : decode cL_law 3048 = .ok (.istore 6, 2) := by decide +kernel
theorem dL_law_3050 : decode cL_law 3050 = .ok (.aload_n 2, 1) := by decide +kernel
theorem dL_law_3051 : decode cL_law 3051 = .ok (.invokevirtual 187, 3) := by decide +kernel
theorem dL_law_3054 : decode cL_law 3054 = .ok (.iload 5, 2) := by decide +kernel
theorem dL_law_3056 : decode cL_law 3056 = .ok (.if_icmp .eq 5, 3) := by decide +kernel
theorem dL_law_3059 : decode cL_law 3059 = .ok (.iconst 0, 1) := by decide +kernel
theorem dL_law_3060 : decode cL_law 3060 = .ok (.ireturn, 1) := by decide +kernel
theorem dL_law_3061 : decode cL_law 3061 = .ok (.iload 5, 2) := by decide +kernel
theorem dL_law_3063 : decode cL_law 3063 = .ok (.ifCond .ne 15, 3) := by decide +kernel
theorem dL_law_3066 : decode cL_law 3066 = .ok (.aload_n 3, 1) := by decide +kernel
theorem dL_law_3067 : decode cL_law 3067 = .ok (.iconst 0, 1) := by decide +kernel
theorem dL_law_3068 : decode cL_law 3068 = .ok (.laload, 1) := by decide +kernel
theorem dL_law_3069 : decode cL_law 3069 = .ok (.iload 6, 2) := by decide +kernel
theorem dL_law_3071 : decode cL_law 3071 = .ok (.i2l, 1) := by decide +kernel
theorem dL_law_3072 : decode cL_law 3072 = .ok (.lcmp, 1) := by decide +kernel
theorem dL_law_3073 : decode cL_law 3073 = .ok (.ifCond .eq 5, 3) := by decide +kernel
theorem dL_law_3076 : decode cL_law 3076 = .ok (.iconst 0, 1) := by decide +kernel
theorem dL_law_3077 : decode cL_law 3077 = .ok (.ireturn, 1) := by decide +kernel
theorem dL_law_3078 : decode cL_law 3078 = .ok (.goto 684, 3) := by decide +kernel
theorem dL_law_3081 : decode cL_law 3081 = .ok (.aload_n 1, 1) := by decide +kernel
theorem dL_law_3082 : decode cL_law 3082 = .ok (.aload_n 0, 1) := by decide +kernel
theorem dL_law_3083 : decode cL_law 3083 = .ok (.iload 4, 2) := by decide +kernel
theorem dL_law_3085 : decode cL_law 3085 = .ok (.iconst 1, 1) := by decide +kernel
theorem dL_law_3086 : decode cL_law 3086 = .ok (.iadd, 1) := by decide +kernel
theorem dL_law_3087 : decode cL_law 3087 = .ok (.iaload, 1) := by decide +kernel
theorem dL_law_3088 : decode cL_law 3088 = .ok (.aload_n 3, 1) := by decide +kernel
theorem dL_law_3089 : decode cL_law 3089 = .ok (.invokestatic 317, 3) := by decide +kernel
theorem dL_law_3092 : decode cL_law 3092 = .ok (.istore 5, 2) := by decide +kernel
theorem dL_law_3094 : decode cL_law 3094 = .ok (.aload_n 2, 1) := by decide +kernel
theorem dL_law_3095 : decode cL_law 3095 = .ok (.aload_n 0, 1) := by decide +kernel
theorem dL_law_3096 : decode cL_law 3096 = .ok (.iload 4, 2) := by decide +kernel
theorem dL_law_3098 : decode cL_law 3098 = .ok (.iconst 1, 1) := by decide +kernel
theorem dL_law_3099 : decode cL_law 3099 = .ok (.iadd, 1) := by decide +kernel
theorem dL_law_3100 : decode cL_law 3100 = .ok (.iaload, 1) := by decide +kernel
theorem dL_law_3101 : decode cL_law 3101 = .ok (.invokevirtual 319, 3) := by decide +kernel
theorem dL_law_3104 : decode cL_law 3104 = .ok (.istore 6, 2) := by decide +kernel
theorem dL_law_3106 : decode cL_law 3106 = .ok (.aload_n 2, 1) := by decide +kernel
theorem dL_law_3107 : decode cL_law 3107 = .ok (.invokevirtual 187, 3) := by decide +kernel
theorem dL_law_3110 : decode cL_law 3110 = .ok (.iload 5, 2) := by decide +kernel
theorem dL_law_3112 : decode cL_law 3112 = .ok (.if_icmp .eq 5, 3) := by decide +kernel
theorem dL_law_3115 : decode cL_law 3115 = .ok (.iconst 0, 1) := by decide +kernel
theorem dL_law_3116 : decode cL_law 3116 = .ok (.ireturn, 1) := by decide +kernel
theorem dL_law_3117 : decode cL_law 3117 = .ok (.iload 5, 2) := by decide +kernel
theorem dL_law_3119 : decode cL_law 3119 = .ok (.ifCond .ne 15, 3) := by decide +kernel
theorem dL_law_3122 : decode cL_law 3122 = .ok (.aload_n 3, 1) := by decide +kernel
theorem dL_law_3123 : decode cL_law 3123 = .ok (.iconst 0, 1) := by decide +kernel
theorem dL_law_3124 : decode cL_law 3124 = .ok (.laload, 1) := by decide +kernel
theorem dL_law_3125 : decode cL_law 3125 = .ok (.iload 6, 2) := by decide +kernel
theorem dL_law_3127 : decode cL_law 3127 = .ok (.i2l, 1) := by decide +kernel
theorem dL_law_3128 : decode cL_law 3128 = .ok (.lcmp, 1) := by decide +kernel
theorem dL_law_3129 : decode cL_law 3129 = .ok (.ifCond .eq 5, 3) := by decide +kernel
theorem dL_law_3132 : decode cL_law 3132 = .ok (.iconst 0, 1) := by decide +kernel
theorem dL_law_3133 : decode cL_law 3133 = .ok (.ireturn, 1) := by decide +kernel
theorem dL_law_3134 : decode cL_law 3134 = .ok (.goto 628, 3) := by decide +kernel
theorem dL_law_3137 : decode cL_law 3137 = .ok (.aload_n 1, 1) := by decide +kernel
theorem dL_law_3138 : decode cL_law 3138 = .ok (.aload_n 0, 1) := by decide +kernel
theorem dL_law_3139 : decode cL_law 3139 = .ok (.iload 4, 2) := by decide +kernel
theorem dL_law_3141 : decode cL_law 3141 = .ok (.iconst 1, 1) := by decide +kernel
theorem dL_law_3142 : decode cL_law 3142 = .ok (.iadd, 1) := by decide +kernel
theorem dL_law_3143 : decode cL_law 3143 = .ok (.iaload, 1) := by decide +kernel
theorem dL_law_3144 : decode cL_law 3144 = .ok (.aload_n 0, 1) := by decide +kernel
theorem dL_law_3145 : decode cL_law 3145 = .ok (.iload 4, 2) := by decide +kernel
theorem dL_law_3147 : decode cL_law 3147 = .ok (.iconst 2, 1) := by decide +kernel
theorem dL_law_3148 : decode cL_law 3148 = .ok (.iadd, 1) := by decide +kernel
theorem dL_law_3149 : decode cL_law 3149 = .ok (.iaload, 1) := by decide +kernel
theorem dL_law_3150 : decode cL_law 3150 = .ok (.aload_n 0, 1) := by decide +kernel
theorem dL_law_3151 : decode cL_law 3151 = .ok (.iload 4, 2) := by decide +kernel
theorem dL_law_3153 : decode cL_law 3153 = .ok (.iconst 3, 1) := by decide +kernel
theorem dL_law_3154 : decode cL_law 3154 = .ok (.iadd, 1) := by decide +kernel
theorem dL_law_3155 : decode cL_law 3155 = .ok (.iaload, 1) := by decide +kernel
theorem dL_law_3156 : decode cL_law 3156 = .ok (.aload_n 0, 1) := by decide +kernel
theorem dL_law_3157 : decode cL_law 3157 = .ok (.iload 4, 2) := by decide +kernel
theorem dL_law_3159 : decode cL_law 3159 = .ok (.iconst 4, 1) := by decide +kernel
theorem dL_law_3160 : decode cL_law 3160 = .ok (.iadd, 1) := by decide +kernel
theorem dL_law_3161 : decode cL_law 3161 = .ok (.iaload, 1) := by decide +kernel
theorem dL_law_3162 : decode cL_law 3162 = .ok (.aload_n 3, 1) := by decide +kernel
theorem dL_law_3163 : decode cL_law 3163 = .ok (.invokestatic 320, 3) := by decide +kernel
theorem dL_law_3166 : decode cL_law 3166 = .ok (.istore 5, 2) := by decide +kernel
theorem dL_law_3168 : decode cL_law 3168 = .ok (.aload_n 2, 1) := by decide +kernel
theorem dL_law_3169 : decode cL_law 3169 = .ok (.aload_n 0, 1) := by decide +kernel
theorem dL_law_3170 : decode cL_law 3170 = .ok (.iload 4, 2) := by decide +kernel
theorem dL_law_3172 : decode cL_law 3172 = .ok (.iconst 1, 1) := by decide +kernel
theorem dL_law_3173 : decode cL_law 3173 = .ok (.iadd, 1) := by decide +kernel
theorem dL_law_3174 : decode cL_law 3174 = .ok (.iaload, 1) := by decide +kernel
theorem dL_law_3175 : decode cL_law 3175 = .ok (.aload_n 0, 1) := by decide +kernel
theorem dL_law_3176 : decode cL_law 3176 = .ok (.iload 4, 2) := by decide +kernel
theorem dL_law_3178 : decode cL_law 3178 = .ok (.iconst 2, 1) := by decide +kernel
theorem dL_law_3179 : decode cL_law 3179 = .ok (.iadd, 1) := by decide +kernel
theorem dL_law_3180 : decode cL_law 3180 = .ok (.iaload, 1) := by decide +kernel
theorem dL_law_3181 : decode cL_law 3181 = .ok (.aload_n 0, 1) := by decide +kernel
theorem dL_law_3182 : decode cL_law 3182 = .ok (.iload 4, 2) := by decide +kernel
theorem dL_law_3184 : decode cL_law 3184 = .ok (.iconst 3, 1) := by decide +kernel
theorem dL_law_3185 : decode cL_law 3185 = .ok (.iadd, 1) := by decide +kernel
theorem dL_law_3186 : decode cL_law 3186 = .ok (.iaload, 1) := by decide +kernel
theorem dL_law_3187 : decode cL_law 3187 = .ok (.aload_n 0, 1) := by decide +kernel
theorem dL_law_3188 : decode cL_law 3188 = .ok (.iload 4, 2) := by decide +kernel
theorem dL_law_3190 : decode cL_law 3190 = .ok (.iconst 4, 1) := by decide +kernel
theorem dL_law_3191 : decode cL_law 3191 = .ok (.iadd, 1) := by decide +kernel
theorem dL_law_3192 : decode cL_law 3192 = .ok (.iaload, 1) := by decide +kernel
theorem dL_law_3193 : decode cL_law 3193 = .ok (.invokevirtual 322, 3) := by decide +kernel
theorem dL_law_3196 : decode cL_law 3196 = .ok (.istore 6, 2) := by decide +kernel
theorem dL_law_3198 : decode cL_law 3198 = .ok (.aload_n 2, 1) := by decide +kernel
theorem dL_law_3199 : decode cL_law 3199 = .ok (.invokevirtual 187, 3) := by decide +kernel
theorem dL_law_3202 : decode cL_law 3202 = .ok (.iload 5, 2) := by decide +kernel
theorem dL_law_3204 : decode cL_law 3204 = .ok (.if_icmp .eq 5, 3) := by decide +kernel
theorem dL_law_3207 : decode cL_law 3207 = .ok (.iconst 0, 1) := by decide +kernel
theorem dL_law_3208 : decode cL_law 3208 = .ok (.ireturn, 1) := by decide +kernel
theorem dL_law_3209 : decode cL_law 3209 = .ok (.iload 5, 2) := by decide +kernel
theorem dL_law_3211 : decode cL_law 3211 = .ok (.ifCond .ne 15, 3) := by decide +kernel
theorem dL_law_3214 : decode cL_law 3214 = .ok (.aload_n 3, 1) := by decide +kernel
theorem dL_law_3215 : decode cL_law 3215 = .ok (.iconst 0, 1) := by decide +kernel
theorem dL_law_3216 : decode cL_law 3216 = .ok (.laload, 1) := by decide +kernel
theorem dL_law_3217 : decode cL_law 3217 = .ok (.iload 6, 2) := by decide +kernel
theorem dL_law_3219 : decode cL_law 3219 = .ok (.i2l, 1) := by decide +kernel
theorem dL_law_3220 : decode cL_law 3220 = .ok (.lcmp, 1) := by decide +kernel
theorem dL_law_3221 : decode cL_law 3221 = .ok (.ifCond .eq 5, 3) := by decide +kernel
theorem dL_law_3224 : decode cL_law 3224 = .ok (.iconst 0, 1) := by decide +kernel
theorem dL_law_3225 : decode cL_law 3225 = .ok (.ireturn, 1) := by decide +kernel
theorem dL_law_3226 : decode cL_law 3226 = .ok (.goto 536, 3) := by decide +kernel
theorem dL_law_3229 : decode cL_law 3229 = .ok (.aload_n 1, 1) := by decide +kernel
theorem dL_law_3230 : decode cL_law 3230 = .ok (.aload_n 0, 1) := by decide +kernel
theorem dL_law_3231 : decode cL_law 3231 = .ok (.iload 4, 2) := by decide +kernel
theorem dL_law_3233 : decode cL_law 3233 = .ok (.iconst 1, 1) := by decide +kernel
theorem dL_law_3234 : decode cL_law 3234 = .ok (.iadd, 1) := by decide +kernel
theorem dL_law_3235 : decode cL_law 3235 = .ok (.iaload, 1) := by decide +kernel
theorem dL_law_3236 : decode cL_law 3236 = .ok (.aload_n 0, 1) := by decide +kernel
theorem dL_law_3237 : decode cL_law 3237 = .ok (.iload 4, 2) := by decide +kernel
theorem dL_law_3239 : decode cL_law 3239 = .ok (.iconst 2, 1) := by decide +kernel
theorem dL_law_3240 : decode cL_law 3240 = .ok (.iadd, 1) := by decide +kernel
theorem dL_law_3241 : decode cL_law 3241 = .ok (.iaload, 1) := by decide +kernel
theorem dL_law_3242 : decode cL_law 3242 = .ok (.aload_n 0, 1) := by decide +kernel
theorem dL_law_3243 : decode cL_law 3243 = .ok (.iload 4, 2) := by decide +kernel
theorem dL_law_3245 : decode cL_law 3245 = .ok (.iconst 3, 1) := by decide +kernel
theorem dL_law_3246 : decode cL_law 3246 = .ok (.iadd, 1) := by decide +kernel
theorem dL_law_3247 : decode cL_law 3247 = .ok (.iaload, 1) := by decide +kernel
theorem dL_law_3248 : decode cL_law 3248 = .ok (.aload_n 3, 1) := by decide +kernel
theorem dL_law_3249 : decode cL_law 3249 = .ok (.invokestatic 323, 3) := by decide +kernel
theorem dL_law_3252 : decode cL_law 3252 = .ok (.istore 5, 2) := by decide +kernel
theorem dL_law_3254 : decode cL_law 3254 = .ok (.aload_n 2, 1) := by decide +kernel
theorem dL_law_3255 : decode cL_law 3255 = .ok (.aload_n 0, 1) := by decide +kernel
theorem dL_law_3256 : decode cL_law 3256 = .ok (.iload 4, 2) := by decide +kernel
theorem dL_law_3258 : decode cL_law 3258 = .ok (.iconst 1, 1) := by decide +kernel
theorem dL_law_3259 : decode cL_law 3259 = .ok (.iadd, 1) := by decide +kernel
theorem dL_law_3260 : decode cL_law 3260 = .ok (.iaload, 1) := by decide +kernel
theorem dL_law_3261 : decode cL_law 3261 = .ok (.aload_n 0, 1) := by decide +kernel
theorem dL_law_3262 : decode cL_law 3262 = .ok (.iload 4, 2) := by decide +kernel
theorem dL_law_3264 : decode cL_law 3264 = .ok (.iconst 2, 1) := by decide +kernel
theorem dL_law_3265 : decode cL_law 3265 = .ok (.iadd, 1) := by decide +kernel
theorem dL_law_3266 : decode cL_law 3266 = .ok (.iaload, 1) := by decide +kernel
theorem dL_law_3267 : decode cL_law 3267 = .ok (.aload_n 0, 1) := by decide +kernel
theorem dL_law_3268 : decode cL_law 3268 = .ok (.iload 4, 2) := by decide +kernel
theorem dL_law_3270 : decode cL_law 3270 = .ok (.iconst 3, 1) := by decide +kernel
theorem dL_law_3271 : decode cL_law 3271 = .ok (.iadd, 1) := by decide +kernel
theorem dL_law_3272 : decode cL_law 3272 = .ok (.iaload, 1) := by decide +kernel
theorem dL_law_3273 : decode cL_law 3273 = .ok (.invokevirtual 325, 3) := by decide +kernel
theorem dL_law_3276 : decode cL_law 3276 = .ok (.istore 6, 2) := by decide +kernel
theorem dL_law_3278 : decode cL_law 3278 = .ok (.aload_n 2, 1) := by decide +kernel
theorem dL_law_3279 : decode cL_law 3279 = .ok (.invokevirtual 187, 3) := by decide +kernel
theorem dL_law_3282 : decode cL_law 3282 = .ok (.iload 5, 2) := by decide +kernel
theorem dL_law_3284 : decode cL_law 3284 = .ok (.if_icmp .eq 5, 3) := by decide +kernel
theorem dL_law_3287 : decode cL_law 3287 = .ok (.iconst 0, 1) := by decide +kernel
theorem dL_law_3288 : decode cL_law 3288 = .ok (.ireturn, 1) := by decide +kernel
theorem dL_law_3289 : decode cL_law 3289 = .ok (.iload 5, 2) := by decide +kernel
theorem dL_law_3291 : decode cL_law 3291 = .ok (.ifCond .ne 15, 3) := by decide +kernel
theorem dL_law_3294 : decode cL_law 3294 = .ok (.aload_n 3, 1) := by decide +kernel
theorem dL_law_3295 : decode cL_law 3295 = .ok (.iconst 0, 1) := by decide +kernel
theorem dL_law_3296 : decode cL_law 3296 = .ok (.laload, 1) := by decide +kernel
theorem dL_law_3297 : decode cL_law 3297 = .ok (.iload 6, 2) := by decide +kernel
theorem dL_law_3299 : decode cL_law 3299 = .ok (.i2l, 1) := by decide +kernel
theorem dL_law_3300 : decode cL_law 3300 = .ok (.lcmp, 1) := by decide +kernel
theorem dL_law_3301 : decode cL_law 3301 = .ok (.ifCond .eq 5, 3) := by decide +kernel
theorem dL_law_3304 : decode cL_law 3304 = .ok (.iconst 0, 1) := by decide +kernel
theorem dL_law_3305 : decode cL_law 3305 = .ok (.ireturn, 1) := by decide +kernel
theorem dL_law_3306 : decode cL_law 3306 = .ok (.goto 456, 3) := by decide +kernel
theorem dL_law_3309 : decode cL_law 3309 = .ok (.aload_n 1, 1) := by decide +kernel
theorem dL_law_3310 : decode cL_law 3310 = .ok (.aload_n 0, 1) := by decide +kernel
theorem dL_law_3311 : decode cL_law 3311 = .ok (.iload 4, 2) := by decide +kernel
theorem dL_law_3313 : decode cL_law 3313 = .ok (.iconst 1, 1) := by decide +kernel
theorem dL_law_3314 : decode cL_law 3314 = .ok (.iadd, 1) := by decide +kernel
theorem dL_law_3315 : decode cL_law 3315 = .ok (.iaload, 1) := by decide +kernel
theorem dL_law_3316 : decode cL_law 3316 = .ok (.aload_n 0, 1) := by decide +kernel
theorem dL_law_3317 : decode cL_law 3317 = .ok (.iload 4, 2) := by decide +kernel
theorem dL_law_3319 : decode cL_law 3319 = .ok (.iconst 2, 1) := by decide +kernel
theorem dL_law_3320 : decode cL_law 3320 = .ok (.iadd, 1) := by decide +kernel
theorem dL_law_3321 : decode cL_law 3321 = .ok (.iaload, 1) := by decide +kernel
theorem dL_law_3322 : decode cL_law 3322 = .ok (.aload_n 3, 1) := by decide +kernel
theorem dL_law_3323 : decode cL_law 3323 = .ok (.invokestatic 326, 3) := by decide +kernel
theorem dL_law_3326 : decode cL_law 3326 = .ok (.istore 5, 2) := by decide +kernel
theorem dL_law_3328 : decode cL_law 3328 = .ok (.aload_n 2, 1) := by decide +kernel
