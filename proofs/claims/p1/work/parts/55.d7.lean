theorem dX12_sumLand_0 : decode cX12_sumLand 0 = .ok (.iconst 0, 1) := by decide +kernel
theorem dX12_sumLand_1 : decode cX12_sumLand 1 = .ok (.istore_n 2, 1) := by decide +kernel
theorem dX12_sumLand_2 : decode cX12_sumLand 2 = .ok (.iconst 0, 1) := by decide +kernel
theorem dX12_sumLand_3 : decode cX12_sumLand 3 = .ok (.istore_n 3, 1) := by decide +kernel
theorem dX12_sumLand_4 : decode cX12_sumLand 4 = .ok (.iload_n 3, 1) := by decide +kernel
theorem dX12_sumLand_5 : decode cX12_sumLand 5 = .ok (.bipush 96, 2) := by decide +kernel
theorem dX12_sumLand_7 : decode cX12_sumLand 7 = .ok (.if_icmp .ge 20, 3) := by decide +kernel
theorem dX12_sumLand_10 : decode cX12_sumLand 10 = .ok (.iload_n 2, 1) := by decide +kernel
theorem dX12_sumLand_11 : decode cX12_sumLand 11 = .ok (.aload_n 0, 1) := by decide +kernel
theorem dX12_sumLand_12 : decode cX12_sumLand 12 = .ok (.getfield 9, 3) := by decide +kernel
theorem dX12_sumLand_15 : decode cX12_sumLand 15 = .ok (.iload_n 1, 1) := by decide +kernel
theorem dX12_sumLand_16 : decode cX12_sumLand 16 = .ok (.iload_n 3, 1) := by decide +kernel
theorem dX12_sumLand_17 : decode cX12_sumLand 17 = .ok (.iadd, 1) := by decide +kernel
theorem dX12_sumLand_18 : decode cX12_sumLand 18 = .ok (.iaload, 1) := by decide +kernel
theorem dX12_sumLand_19 : decode cX12_sumLand 19 = .ok (.iadd, 1) := by decide +kernel
theorem dX12_sumLand_20 : decode cX12_sumLand 20 = .ok (.istore_n 2, 1) := by decide +kernel
theorem dX12_sumLand_21 : decode cX12_sumLand 21 = .ok (.iinc 3 1, 3) := by decide +kernel
theorem dX12_sumLand_24 : decode cX12_sumLand 24 = .ok (.goto (-20), 3) := by decide +kernel
theorem dX12_sumLand_27 : decode cX12_sumLand 27 = .ok (.iload_n 2, 1) := by decide +kernel
theorem dX12_sumLand_28 : decode cX12_sumLand 28 = .ok (.ireturn, 1) := by decide +kernel
theorem dX12_harvest_0 : decode cX12_harvest 0 = .ok (.aload_n 0, 1) := by decide +kernel
theorem dX12_harvest_1 : decode cX12_harvest 1 = .ok (.iconst 0, 1) := by decide +kernel
theorem dX12_harvest_2 : decode cX12_harvest 2 = .ok (.putfield 194, 3) := by decide +kernel
theorem dX12_harvest_5 : decode cX12_harvest 5 = .ok (.aload_n 0, 1) := by decide +kernel
theorem dX12_harvest_6 : decode cX12_harvest 6 = .ok (.invokevirtual 228, 3) := by decide +kernel
theorem dX12_harvest_9 : decode cX12_harvest 9 = .ok (.bipush 24, 2) := by decide +kernel
theorem dX12_harvest_11 : decode cX12_harvest 11 = .ok (.idiv, 1) := by decide +kernel
theorem dX12_harvest_12 : decode cX12_harvest 12 = .ok (.sipush 360, 3) := by decide +kernel
theorem dX12_harvest_15 : decode cX12_harvest 15 = .ok (.idiv, 1) := by decide +kernel
theorem dX12_harvest_16 : decode cX12_harvest 16 = .ok (.istore_n 1, 1) := by decide +kernel
theorem dX12_harvest_17 : decode cX12_harvest 17 = .ok (.aload_n 0, 1) := by decide +kernel
theorem dX12_harvest_18 : decode cX12_harvest 18 = .ok (.getfield 125, 3) := by decide +kernel
theorem dX12_harvest_21 : decode cX12_harvest 21 = .ok (.iload_n 1, 1) := by decide +kernel
theorem dX12_harvest_22 : decode cX12_harvest 22 = .ok (.if_icmp .ne 5, 3) := by decide +kernel
theorem dX12_harvest_25 : decode cX12_harvest 25 = .ok (.iconst (-1), 1) := by decide +kernel
theorem dX12_harvest_26 : decode cX12_harvest 26 = .ok (.ireturn, 1) := by decide +kernel
theorem dX12_harvest_27 : decode cX12_harvest 27 = .ok (.aload_n 0, 1) := by decide +kernel
theorem dX12_harvest_28 : decode cX12_harvest 28 = .ok (.iload_n 1, 1) := by decide +kernel
theorem dX12_harvest_29 : decode cX12_harvest 29 = .ok (.putfield 125, 3) := by decide +kernel
theorem dX12_harvest_32 : decode cX12_harvest 32 = .ok (.iconst 0, 1) := by decide +kernel
theorem dX12_harvest_33 : decode cX12_harvest 33 = .ok (.istore_n 2, 1) := by decide +kernel
theorem dX12_harvest_34 : decode cX12_harvest 34 = .ok (.iconst 0, 1) := by decide +kernel
theorem dX12_harvest_35 : decode cX12_harvest 35 = .ok (.istore_n 3, 1) := by decide +kernel
theorem dX12_harvest_36 : decode cX12_harvest 36 = .ok (.iload_n 3, 1) := by decide +kernel
theorem dX12_harvest_37 : decode cX12_harvest 37 = .ok (.aload_n 0, 1) := by decide +kernel
theorem dX12_harvest_38 : decode cX12_harvest 38 = .ok (.getfield 495, 3) := by decide +kernel
theorem dX12_harvest_41 : decode cX12_harvest 41 = .ok (.if_icmp .ge 61, 3) := by decide +kernel
theorem dX12_harvest_44 : decode cX12_harvest 44 = .ok (.aload_n 0, 1) := by decide +kernel
theorem dX12_harvest_45 : decode cX12_harvest 45 = .ok (.getfield 101, 3) := by decide +kernel
theorem dX12_harvest_48 : decode cX12_harvest 48 = .ok (.iload_n 3, 1) := by decide +kernel
theorem dX12_harvest_49 : decode cX12_harvest 49 = .ok (.iaload, 1) := by decide +kernel
theorem dX12_harvest_50 : decode cX12_harvest 50 = .ok (.ifCond .ge 6, 3) := by decide +kernel
theorem dX12_harvest_53 : decode cX12_harvest 53 = .ok (.goto 43, 3) := by decide +kernel
theorem dX12_harvest_56 : decode cX12_harvest 56 = .ok (.aload_n 0, 1) := by decide +kernel
theorem dX12_harvest_57 : decode cX12_harvest 57 = .ok (.getfield 104, 3) := by decide +kernel
theorem dX12_harvest_60 : decode cX12_harvest 60 = .ok (.iload_n 3, 1) := by decide +kernel
theorem dX12_harvest_61 : decode cX12_harvest 61 = .ok (.aload_n 0, 1) := by decide +kernel
theorem dX12_harvest_62 : decode cX12_harvest 62 = .ok (.aload_n 0, 1) := by decide +kernel
theorem dX12_harvest_63 : decode cX12_harvest 63 = .ok (.getfield 101, 3) := by decide +kernel
theorem dX12_harvest_66 : decode cX12_harvest 66 = .ok (.iload_n 3, 1) := by decide +kernel
theorem dX12_harvest_67 : decode cX12_harvest 67 = .ok (.iaload, 1) := by decide +kernel
theorem dX12_harvest_68 : decode cX12_harvest 68 = .ok (.invokevirtual 514, 3) := by decide +kernel
theorem dX12_harvest_71 : decode cX12_harvest 71 = .ok (.iastore, 1) := by decide +kernel
theorem dX12_harvest_72 : decode cX12_harvest 72 = .ok (.aload_n 0, 1) := by decide +kernel
theorem dX12_harvest_73 : decode cX12_harvest 73 = .ok (.getfield 85, 3) := by decide +kernel
theorem dX12_harvest_76 : decode cX12_harvest 76 = .ok (.iload_n 3, 1) := by decide +kernel
theorem dX12_harvest_77 : decode cX12_harvest 77 = .ok (.dup2, 1) := by decide +kernel
theorem dX12_harvest_78 : decode cX12_harvest 78 = .ok (.iaload, 1) := by decide +kernel
theorem dX12_harvest_79 : decode cX12_harvest 79 = .ok (.aload_n 0, 1) := by decide +kernel
theorem dX12_harvest_80 : decode cX12_harvest 80 = .ok (.getfield 104, 3) := by decide +kernel
theorem dX12_harvest_83 : decode cX12_harvest 83 = .ok (.iload_n 3, 1) := by decide +kernel
theorem dX12_harvest_84 : decode cX12_harvest 84 = .ok (.iaload, 1) := by decide +kernel
theorem dX12_harvest_85 : decode cX12_harvest 85 = .ok (.iadd, 1) := by decide +kernel
theorem dX12_harvest_86 : decode cX12_harvest 86 = .ok (.iastore, 1) := by decide +kernel
theorem dX12_harvest_87 : decode cX12_harvest 87 = .ok (.iload_n 2, 1) := by decide +kernel
theorem dX12_harvest_88 : decode cX12_harvest 88 = .ok (.aload_n 0, 1) := by decide +kernel
theorem dX12_harvest_89 : decode cX12_harvest 89 = .ok (.getfield 104, 3) := by decide +kernel
theorem dX12_harvest_92 : decode cX12_harvest 92 = .ok (.iload_n 3, 1) := by decide +kernel
theorem dX12_harvest_93 : decode cX12_harvest 93 = .ok (.iaload, 1) := by decide +kernel
theorem dX12_harvest_94 : decode cX12_harvest 94 = .ok (.iadd, 1) := by decide +kernel
theorem dX12_harvest_95 : decode cX12_harvest 95 = .ok (.istore_n 2, 1) := by decide +kernel
theorem dX12_harvest_96 : decode cX12_harvest 96 = .ok (.iinc 3 1, 3) := by decide +kernel
theorem dX12_harvest_99 : decode cX12_harvest 99 = .ok (.goto (-63), 3) := by decide +kernel
theorem dX12_harvest_102 : decode cX12_harvest 102 = .ok (.iconst 0, 1) := by decide +kernel
theorem dX12_harvest_103 : decode cX12_harvest 103 = .ok (.istore_n 3, 1) := by decide +kernel
theorem dX12_harvest_104 : decode cX12_harvest 104 = .ok (.iload_n 3, 1) := by decide +kernel
theorem dX12_harvest_105 : decode cX12_harvest 105 = .ok (.bipush 96, 2) := by decide +kernel
theorem dX12_harvest_107 : decode cX12_harvest 107 = .ok (.if_icmp .ge 20, 3) := by decide +kernel
theorem dX12_harvest_110 : decode cX12_harvest 110 = .ok (.aload_n 0, 1) := by decide +kernel
theorem dX12_harvest_111 : decode cX12_harvest 111 = .ok (.getfield 9, 3) := by decide +kernel
theorem dX12_harvest_114 : decode cX12_harvest 114 = .ok (.sipush 672, 3) := by decide +kernel
theorem dX12_harvest_117 : decode cX12_harvest 117 = .ok (.iload_n 3, 1) := by decide +kernel
theorem dX12_harvest_118 : decode cX12_harvest 118 = .ok (.iadd, 1) := by decide +kernel
theorem dX12_harvest_119 : decode cX12_harvest 119 = .ok (.iconst 0, 1) := by decide +kernel
theorem dX12_harvest_120 : decode cX12_harvest 120 = .ok (.iastore, 1) := by decide +kernel
theorem dX12_harvest_121 : decode cX12_harvest 121 = .ok (.iinc 3 1, 3) := by decide +kernel
theorem dX12_harvest_124 : decode cX12_harvest 124 = .ok (.goto (-20), 3) := by decide +kernel
theorem dX12_harvest_127 : decode cX12_harvest 127 = .ok (.iconst 0, 1) := by decide +kernel
theorem dX12_harvest_128 : decode cX12_harvest 128 = .ok (.istore_n 3, 1) := by decide +kernel
theorem dX12_harvest_129 : decode cX12_harvest 129 = .ok (.iload_n 3, 1) := by decide +kernel
theorem dX12_harvest_130 : decode cX12_harvest 130 = .ok (.aload_n 0, 1) := by decide +kernel
theorem dX12_harvest_131 : decode cX12_harvest 131 = .ok (.getfield 495, 3) := by decide +kernel
theorem dX12_harvest_134 : decode cX12_harvest 134 = .ok (.if_icmp .ge 132, 3) := by decide +kernel
theorem dX12_harvest_137 : decode cX12_harvest 137 = .ok (.aload_n 0, 1) := by decide +kernel
theorem dX12_harvest_138 : decode cX12_harvest 138 = .ok (.getfield 101, 3) := by decide +kernel
theorem dX12_harvest_141 : decode cX12_harvest 141 = .ok (.iload_n 3, 1) := by decide +kernel
theorem dX12_harvest_142 : decode cX12_harvest 142 = .ok (.iaload, 1) := by decide +kernel
theorem dX12_harvest_143 : decode cX12_harvest 143 = .ok (.ifCond .ge 6, 3) := by decide +kernel
theorem dX12_harvest_146 : decode cX12_harvest 146 = .ok (.goto 114, 3) := by decide +kernel
theorem dX12_harvest_149 : decode cX12_harvest 149 = .ok (.aload_n 0, 1) := by decide +kernel
theorem dX12_harvest_150 : decode cX12_harvest 150 = .ok (.iload_n 3, 1) := by decide +kernel
theorem dX12_harvest_151 : decode cX12_harvest 151 = .ok (.invokevirtual 489, 3) := by decide +kernel
theorem dX12_harvest_154 : decode cX12_harvest 154 = .ok (.aload_n 0, 1) := by decide +kernel
theorem dX12_harvest_155 : decode cX12_harvest 155 = .ok (.iload_n 3, 1) := by decide +kernel
theorem dX12_harvest_156 : decode cX12_harvest 156 = .ok (.iconst 5, 1) := by decide +kernel
theorem dX12_harvest_157 : decode cX12_harvest 157 = .ok (.invokevirtual 480, 3) := by decide +kernel
theorem dX12_harvest_160 : decode cX12_harvest 160 = .ok (.lconst 0, 1) := by decide +kernel
theorem dX12_harvest_161 : decode cX12_harvest 161 = .ok (.lcmp, 1) := by decide +kernel
theorem dX12_harvest_162 : decode cX12_harvest 162 = .ok (.ifCond .le 22, 3) := by decide +kernel
theorem dX12_harvest_165 : decode cX12_harvest 165 = .ok (.aload_n 0, 1) := by decide +kernel
theorem dX12_harvest_166 : decode cX12_harvest 166 = .ok (.getfield 110, 3) := by decide +kernel
theorem dX12_harvest_169 : decode cX12_harvest 169 = .ok (.iload_n 3, 1) := by decide +kernel
theorem dX12_harvest_170 : decode cX12_harvest 170 = .ok (.baload, 1) := by decide +kernel
theorem dX12_harvest_171 : decode cX12_harvest 171 = .ok (.ifCond .ne 13, 3) := by decide +kernel
theorem dX12_harvest_174 : decode cX12_harvest 174 = .ok (.aload_n 0, 1) := by decide +kernel
theorem dX12_harvest_175 : decode cX12_harvest 175 = .ok (.iload_n 3, 1) := by decide +kernel
theorem dX12_harvest_176 : decode cX12_harvest 176 = .ok (.iconst 3, 1) := by decide +kernel
theorem dX12_harvest_177 : decode cX12_harvest 177 = .ok (.invokevirtual 480, 3) := by decide +kernel
theorem dX12_harvest_180 : decode cX12_harvest 180 = .ok (.l2i, 1) := by decide +kernel
theorem dX12_harvest_181 : decode cX12_harvest 181 = .ok (.goto 4, 3) := by decide +kernel
theorem dX12_harvest_184 : decode cX12_harvest 184 = .ok (.iconst 0, 1) := by decide +kernel
theorem dX12_harvest_185 : decode cX12_harvest 185 = .ok (.iadd, 1) := by decide +kernel
theorem dX12_harvest_186 : decode cX12_harvest 186 = .ok (.istore 4, 2) := by decide +kernel
theorem dX12_harvest_188 : decode cX12_harvest 188 = .ok (.aload_n 0, 1) := by decide +kernel
theorem dX12_harvest_189 : decode cX12_harvest 189 = .ok (.getfield 85, 3) := by decide +kernel
theorem dX12_harvest_192 : decode cX12_harvest 192 = .ok (.iload_n 3, 1) := by decide +kernel
theorem dX12_harvest_193 : decode cX12_harvest 193 = .ok (.iaload, 1) := by decide +kernel
theorem dX12_harvest_194 : decode cX12_harvest 194 = .ok (.aload_n 0, 1) := by decide +kernel
theorem dX12_harvest_195 : decode cX12_harvest 195 = .ok (.getfield 107, 3) := by decide +kernel
theorem dX12_harvest_198 : decode cX12_harvest 198 = .ok (.iload_n 3, 1) := by decide +kernel
theorem dX12_harvest_199 : decode cX12_harvest 199 = .ok (.iaload, 1) := by decide +kernel
theorem dX12_harvest_200 : decode cX12_harvest 200 = .ok (.iload 4, 2) := by decide +kernel
theorem dX12_harvest_202 : decode cX12_harvest 202 = .ok (.iadd, 1) := by decide +kernel
theorem dX12_harvest_203 : decode cX12_harvest 203 = .ok (.invokestatic 207, 3) := by decide +kernel
theorem dX12_harvest_206 : decode cX12_harvest 206 = .ok (.istore 5, 2) := by decide +kernel
theorem dX12_harvest_208 : decode cX12_harvest 208 = .ok (.aload_n 0, 1) := by decide +kernel
theorem dX12_harvest_209 : decode cX12_harvest 209 = .ok (.getfield 85, 3) := by decide +kernel
theorem dX12_harvest_212 : decode cX12_harvest 212 = .ok (.iload_n 3, 1) := by decide +kernel
theorem dX12_harvest_213 : decode cX12_harvest 213 = .ok (.dup2, 1) := by decide +kernel
theorem dX12_harvest_214 : decode cX12_harvest 214 = .ok (.iaload, 1) := by decide +kernel
theorem dX12_harvest_215 : decode cX12_harvest 215 = .ok (.iload 5, 2) := by decide +kernel
theorem dX12_harvest_217 : decode cX12_harvest 217 = .ok (.isub, 1) := by decide +kernel
theorem dX12_harvest_218 : decode cX12_harvest 218 = .ok (.iastore, 1) := by decide +kernel
theorem dX12_harvest_219 : decode cX12_harvest 219 = .ok (.aload_n 0, 1) := by decide +kernel
theorem dX12_harvest_220 : decode cX12_harvest 220 = .ok (.getfield 107, 3) := by decide +kernel
theorem dX12_harvest_223 : decode cX12_harvest 223 = .ok (.iload_n 3, 1) := by decide +kernel
theorem dX12_harvest_224 : decode cX12_harvest 224 = .ok (.dup2, 1) := by decide +kernel
theorem dX12_harvest_225 : decode cX12_harvest 225 = .ok (.iaload, 1) := by decide +kernel
theorem dX12_harvest_226 : decode cX12_harvest 226 = .ok (.iload 4, 2) := by decide +kernel
theorem dX12_harvest_228 : decode cX12_harvest 228 = .ok (.iload 5, 2) := by decide +kernel
theorem dX12_harvest_230 : decode cX12_harvest 230 = .ok (.isub, 1) := by decide +kernel
theorem dX12_harvest_231 : decode cX12_harvest 231 = .ok (.iadd, 1) := by decide +kernel
theorem dX12_harvest_232 : decode cX12_harvest 232 = .ok (.iastore, 1) := by decide +kernel
theorem dX12_harvest_233 : decode cX12_harvest 233 = .ok (.aload_n 0, 1) := by decide +kernel
theorem dX12_harvest_234 : decode cX12_harvest 234 = .ok (.ldc2_w 517, 3) := by decide +kernel
theorem dX12_harvest_237 : decode cX12_harvest 237 = .ok (.aload_n 0, 1) := by decide +kernel
theorem dX12_harvest_238 : decode cX12_harvest 238 = .ok (.getfield 519, 3) := by decide +kernel
theorem dX12_harvest_241 : decode cX12_harvest 241 = .ok (.i2l, 1) := by decide +kernel
theorem dX12_harvest_242 : decode cX12_harvest 242 = .ok (.iload 5, 2) := by decide +kernel
theorem dX12_harvest_244 : decode cX12_harvest 244 = .ok (.i2l, 1) := by decide +kernel
theorem dX12_harvest_245 : decode cX12_harvest 245 = .ok (.ladd, 1) := by decide +kernel
theorem dX12_harvest_246 : decode cX12_harvest 246 = .ok (.invokestatic 521, 3) := by decide +kernel
theorem dX12_harvest_249 : decode cX12_harvest 249 = .ok (.l2i, 1) := by decide +kernel
theorem dX12_harvest_250 : decode cX12_harvest 250 = .ok (.putfield 519, 3) := by decide +kernel
theorem dX12_harvest_253 : decode cX12_harvest 253 = .ok (.aload_n 0, 1) := by decide +kernel
theorem dX12_harvest_254 : decode cX12_harvest 254 = .ok (.getfield 110, 3) := by decide +kernel
theorem dX12_harvest_257 : decode cX12_harvest 257 = .ok (.iload_n 3, 1) := by decide +kernel
theorem dX12_harvest_258 : decode cX12_harvest 258 = .ok (.iconst 0, 1) := by decide +kernel
theorem dX12_harvest_259 : decode cX12_harvest 259 = .ok (.bastore, 1) := by decide +kernel
theorem dX12_harvest_260 : decode cX12_harvest 260 = .ok (.iinc 3 1, 3) := by decide +kernel
theorem dX12_harvest_263 : decode cX12_harvest 263 = .ok (.goto (-134), 3) := by decide +kernel
theorem dX12_harvest_266 : decode cX12_harvest 266 = .ok (.iload_n 2, 1) := by decide +kernel
theorem dX12_harvest_267 : decode cX12_harvest 267 = .ok (.ireturn, 1) := by decide +kernel
