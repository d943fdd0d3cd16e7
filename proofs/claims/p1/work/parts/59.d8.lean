theorem dX12_feed_0 : decode cX12_feed 0 = .ok (.aload_n 0, 1) := by decide +kernel
theorem dX12_feed_1 : decode cX12_feed 1 = .ok (.iconst 0, 1) := by decide +kernel
theorem dX12_feed_2 : decode cX12_feed 2 = .ok (.putfield 194, 3) := by decide +kernel
theorem dX12_feed_5 : decode cX12_feed 5 = .ok (.aload_n 0, 1) := by decide +kernel
theorem dX12_feed_6 : decode cX12_feed 6 = .ok (.getfield 332, 3) := by decide +kernel
theorem dX12_feed_9 : decode cX12_feed 9 = .ok (.bipush 20, 2) := by decide +kernel
theorem dX12_feed_11 : decode cX12_feed 11 = .ok (.iadd, 1) := by decide +kernel
theorem dX12_feed_12 : decode cX12_feed 12 = .ok (.sipush 400, 3) := by decide +kernel
theorem dX12_feed_15 : decode cX12_feed 15 = .ok (.if_icmp .le 5, 3) := by decide +kernel
theorem dX12_feed_18 : decode cX12_feed 18 = .ok (.iconst (-1), 1) := by decide +kernel
theorem dX12_feed_19 : decode cX12_feed 19 = .ok (.ireturn, 1) := by decide +kernel
theorem dX12_feed_20 : decode cX12_feed 20 = .ok (.aload_n 0, 1) := by decide +kernel
theorem dX12_feed_21 : decode cX12_feed 21 = .ok (.getfield 39, 3) := by decide +kernel
theorem dX12_feed_24 : decode cX12_feed 24 = .ok (.iconst 0, 1) := by decide +kernel
theorem dX12_feed_25 : decode cX12_feed 25 = .ok (.iload_n 1, 1) := by decide +kernel
theorem dX12_feed_26 : decode cX12_feed 26 = .ok (.iastore, 1) := by decide +kernel
theorem dX12_feed_27 : decode cX12_feed 27 = .ok (.aload_n 0, 1) := by decide +kernel
theorem dX12_feed_28 : decode cX12_feed 28 = .ok (.getfield 39, 3) := by decide +kernel
theorem dX12_feed_31 : decode cX12_feed 31 = .ok (.iconst 1, 1) := by decide +kernel
theorem dX12_feed_32 : decode cX12_feed 32 = .ok (.iload_n 2, 1) := by decide +kernel
theorem dX12_feed_33 : decode cX12_feed 33 = .ok (.iastore, 1) := by decide +kernel
theorem dX12_feed_34 : decode cX12_feed 34 = .ok (.aload_n 0, 1) := by decide +kernel
theorem dX12_feed_35 : decode cX12_feed 35 = .ok (.getfield 39, 3) := by decide +kernel
theorem dX12_feed_38 : decode cX12_feed 38 = .ok (.iconst 2, 1) := by decide +kernel
theorem dX12_feed_39 : decode cX12_feed 39 = .ok (.iload_n 3, 1) := by decide +kernel
theorem dX12_feed_40 : decode cX12_feed 40 = .ok (.iastore, 1) := by decide +kernel
theorem dX12_feed_41 : decode cX12_feed 41 = .ok (.aload_n 0, 1) := by decide +kernel
theorem dX12_feed_42 : decode cX12_feed 42 = .ok (.getfield 39, 3) := by decide +kernel
theorem dX12_feed_45 : decode cX12_feed 45 = .ok (.iconst 3, 1) := by decide +kernel
theorem dX12_feed_46 : decode cX12_feed 46 = .ok (.iload 4, 2) := by decide +kernel
theorem dX12_feed_48 : decode cX12_feed 48 = .ok (.iastore, 1) := by decide +kernel
theorem dX12_feed_49 : decode cX12_feed 49 = .ok (.aload_n 0, 1) := by decide +kernel
theorem dX12_feed_50 : decode cX12_feed 50 = .ok (.getfield 39, 3) := by decide +kernel
theorem dX12_feed_53 : decode cX12_feed 53 = .ok (.iconst 4, 1) := by decide +kernel
theorem dX12_feed_54 : decode cX12_feed 54 = .ok (.iload 5, 2) := by decide +kernel
theorem dX12_feed_56 : decode cX12_feed 56 = .ok (.iastore, 1) := by decide +kernel
theorem dX12_feed_57 : decode cX12_feed 57 = .ok (.iconst 0, 1) := by decide +kernel
theorem dX12_feed_58 : decode cX12_feed 58 = .ok (.istore 6, 2) := by decide +kernel
theorem dX12_feed_60 : decode cX12_feed 60 = .ok (.iload 6, 2) := by decide +kernel
theorem dX12_feed_62 : decode cX12_feed 62 = .ok (.bipush 20, 2) := by decide +kernel
theorem dX12_feed_64 : decode cX12_feed 64 = .ok (.if_icmp .ge 42, 3) := by decide +kernel
theorem dX12_feed_67 : decode cX12_feed 67 = .ok (.aload_n 0, 1) := by decide +kernel
theorem dX12_feed_68 : decode cX12_feed 68 = .ok (.getfield 31, 3) := by decide +kernel
theorem dX12_feed_71 : decode cX12_feed 71 = .ok (.aload_n 0, 1) := by decide +kernel
theorem dX12_feed_72 : decode cX12_feed 72 = .ok (.getfield 332, 3) := by decide +kernel
theorem dX12_feed_75 : decode cX12_feed 75 = .ok (.iload 6, 2) := by decide +kernel
theorem dX12_feed_77 : decode cX12_feed 77 = .ok (.iadd, 1) := by decide +kernel
theorem dX12_feed_78 : decode cX12_feed 78 = .ok (.aload_n 0, 1) := by decide +kernel
theorem dX12_feed_79 : decode cX12_feed 79 = .ok (.getfield 39, 3) := by decide +kernel
theorem dX12_feed_82 : decode cX12_feed 82 = .ok (.iload 6, 2) := by decide +kernel
theorem dX12_feed_84 : decode cX12_feed 84 = .ok (.iconst 4, 1) := by decide +kernel
theorem dX12_feed_85 : decode cX12_feed 85 = .ok (.idiv, 1) := by decide +kernel
theorem dX12_feed_86 : decode cX12_feed 86 = .ok (.iaload, 1) := by decide +kernel
theorem dX12_feed_87 : decode cX12_feed 87 = .ok (.bipush 24, 2) := by decide +kernel
theorem dX12_feed_89 : decode cX12_feed 89 = .ok (.bipush 8, 2) := by decide +kernel
theorem dX12_feed_91 : decode cX12_feed 91 = .ok (.iload 6, 2) := by decide +kernel
theorem dX12_feed_93 : decode cX12_feed 93 = .ok (.iconst 4, 1) := by decide +kernel
theorem dX12_feed_94 : decode cX12_feed 94 = .ok (.irem, 1) := by decide +kernel
theorem dX12_feed_95 : decode cX12_feed 95 = .ok (.imul, 1) := by decide +kernel
theorem dX12_feed_96 : decode cX12_feed 96 = .ok (.isub, 1) := by decide +kernel
theorem dX12_feed_97 : decode cX12_feed 97 = .ok (.ishr, 1) := by decide +kernel
theorem dX12_feed_98 : decode cX12_feed 98 = .ok (.i2b, 1) := by decide +kernel
theorem dX12_feed_99 : decode cX12_feed 99 = .ok (.bastore, 1) := by decide +kernel
theorem dX12_feed_100 : decode cX12_feed 100 = .ok (.iinc 6 1, 3) := by decide +kernel
theorem dX12_feed_103 : decode cX12_feed 103 = .ok (.goto (-43), 3) := by decide +kernel
theorem dX12_feed_106 : decode cX12_feed 106 = .ok (.aload_n 0, 1) := by decide +kernel
theorem dX12_feed_107 : decode cX12_feed 107 = .ok (.dup, 1) := by decide +kernel
theorem dX12_feed_108 : decode cX12_feed 108 = .ok (.getfield 332, 3) := by decide +kernel
theorem dX12_feed_111 : decode cX12_feed 111 = .ok (.bipush 20, 2) := by decide +kernel
theorem dX12_feed_113 : decode cX12_feed 113 = .ok (.iadd, 1) := by decide +kernel
theorem dX12_feed_114 : decode cX12_feed 114 = .ok (.putfield 332, 3) := by decide +kernel
theorem dX12_feed_117 : decode cX12_feed 117 = .ok (.aload_n 0, 1) := by decide +kernel
theorem dX12_feed_118 : decode cX12_feed 118 = .ok (.getfield 332, 3) := by decide +kernel
theorem dX12_feed_121 : decode cX12_feed 121 = .ok (.ireturn, 1) := by decide +kernel
theorem dX12_land_0 : decode cX12_land 0 = .ok (.aload_n 0, 1) := by decide +kernel
theorem dX12_land_1 : decode cX12_land 1 = .ok (.iconst 0, 1) := by decide +kernel
theorem dX12_land_2 : decode cX12_land 2 = .ok (.putfield 194, 3) := by decide +kernel
theorem dX12_land_5 : decode cX12_land 5 = .ok (.aload_n 0, 1) := by decide +kernel
theorem dX12_land_6 : decode cX12_land 6 = .ok (.iload_n 1, 1) := by decide +kernel
theorem dX12_land_7 : decode cX12_land 7 = .ok (.invokestatic 220, 3) := by decide +kernel
theorem dX12_land_10 : decode cX12_land 10 = .ok (.ifCond .ne 10, 3) := by decide +kernel
theorem dX12_land_13 : decode cX12_land 13 = .ok (.iload_n 2, 1) := by decide +kernel
theorem dX12_land_14 : decode cX12_land 14 = .ok (.invokestatic 220, 3) := by decide +kernel
theorem dX12_land_17 : decode cX12_land 17 = .ok (.ifCond .eq 7, 3) := by decide +kernel
theorem dX12_land_20 : decode cX12_land 20 = .ok (.iconst 1, 1) := by decide +kernel
theorem dX12_land_21 : decode cX12_land 21 = .ok (.goto 4, 3) := by decide +kernel
theorem dX12_land_24 : decode cX12_land 24 = .ok (.iconst 0, 1) := by decide +kernel
theorem dX12_land_25 : decode cX12_land 25 = .ok (.iconst 1, 1) := by decide +kernel
theorem dX12_land_26 : decode cX12_land 26 = .ok (.invokevirtual 224, 3) := by decide +kernel
theorem dX12_land_29 : decode cX12_land 29 = .ok (.ifCond .ne 70, 3) := by decide +kernel
theorem dX12_land_32 : decode cX12_land 32 = .ok (.aload_n 0, 1) := by decide +kernel
theorem dX12_land_33 : decode cX12_land 33 = .ok (.iload_n 3, 1) := by decide +kernel
theorem dX12_land_34 : decode cX12_land 34 = .ok (.sipush (-900), 3) := by decide +kernel
theorem dX12_land_37 : decode cX12_land 37 = .ok (.sipush 300, 3) := by decide +kernel
theorem dX12_land_40 : decode cX12_land 40 = .ok (.invokestatic 197, 3) := by decide +kernel
theorem dX12_land_43 : decode cX12_land 43 = .ok (.ifCond .eq 24, 3) := by decide +kernel
theorem dX12_land_46 : decode cX12_land 46 = .ok (.iload 4, 2) := by decide +kernel
theorem dX12_land_48 : decode cX12_land 48 = .ok (.iconst 0, 1) := by decide +kernel
theorem dX12_land_49 : decode cX12_land 49 = .ok (.iconst 2, 1) := by decide +kernel
theorem dX12_land_50 : decode cX12_land 50 = .ok (.invokestatic 197, 3) := by decide +kernel
theorem dX12_land_53 : decode cX12_land 53 = .ok (.ifCond .eq 14, 3) := by decide +kernel
theorem dX12_land_56 : decode cX12_land 56 = .ok (.iload 5, 2) := by decide +kernel
theorem dX12_land_58 : decode cX12_land 58 = .ok (.iconst 0, 1) := by decide +kernel
theorem dX12_land_59 : decode cX12_land 59 = .ok (.bipush 20, 2) := by decide +kernel
theorem dX12_land_61 : decode cX12_land 61 = .ok (.invokestatic 197, 3) := by decide +kernel
theorem dX12_land_64 : decode cX12_land 64 = .ok (.ifCond .ne 7, 3) := by decide +kernel
theorem dX12_land_67 : decode cX12_land 67 = .ok (.iconst 1, 1) := by decide +kernel
theorem dX12_land_68 : decode cX12_land 68 = .ok (.goto 4, 3) := by decide +kernel
theorem dX12_land_71 : decode cX12_land 71 = .ok (.iconst 0, 1) := by decide +kernel
theorem dX12_land_72 : decode cX12_land 72 = .ok (.iconst 2, 1) := by decide +kernel
theorem dX12_land_73 : decode cX12_land 73 = .ok (.invokevirtual 224, 3) := by decide +kernel
theorem dX12_land_76 : decode cX12_land 76 = .ok (.ifCond .ne 23, 3) := by decide +kernel
theorem dX12_land_79 : decode cX12_land 79 = .ok (.aload_n 0, 1) := by decide +kernel
theorem dX12_land_80 : decode cX12_land 80 = .ok (.aload_n 0, 1) := by decide +kernel
theorem dX12_land_81 : decode cX12_land 81 = .ok (.invokevirtual 228, 3) := by decide +kernel
theorem dX12_land_84 : decode cX12_land 84 = .ok (.ifCond .le 7, 3) := by decide +kernel
theorem dX12_land_87 : decode cX12_land 87 = .ok (.iconst 1, 1) := by decide +kernel
theorem dX12_land_88 : decode cX12_land 88 = .ok (.goto 4, 3) := by decide +kernel
theorem dX12_land_91 : decode cX12_land 91 = .ok (.iconst 0, 1) := by decide +kernel
theorem dX12_land_92 : decode cX12_land 92 = .ok (.iconst 3, 1) := by decide +kernel
theorem dX12_land_93 : decode cX12_land 93 = .ok (.invokevirtual 224, 3) := by decide +kernel
theorem dX12_land_96 : decode cX12_land 96 = .ok (.ifCond .eq 5, 3) := by decide +kernel
theorem dX12_land_99 : decode cX12_land 99 = .ok (.iconst 0, 1) := by decide +kernel
theorem dX12_land_100 : decode cX12_land 100 = .ok (.ireturn, 1) := by decide +kernel
theorem dX12_land_101 : decode cX12_land 101 = .ok (.iconst 0, 1) := by decide +kernel
theorem dX12_land_102 : decode cX12_land 102 = .ok (.istore 6, 2) := by decide +kernel
theorem dX12_land_104 : decode cX12_land 104 = .ok (.iconst 0, 1) := by decide +kernel
theorem dX12_land_105 : decode cX12_land 105 = .ok (.istore 7, 2) := by decide +kernel
theorem dX12_land_107 : decode cX12_land 107 = .ok (.iload 7, 2) := by decide +kernel
theorem dX12_land_109 : decode cX12_land 109 = .ok (.bipush 96, 2) := by decide +kernel
theorem dX12_land_111 : decode cX12_land 111 = .ok (.if_icmp .ge 134, 3) := by decide +kernel
theorem dX12_land_114 : decode cX12_land 114 = .ok (.iload 7, 2) := by decide +kernel
theorem dX12_land_116 : decode cX12_land 116 = .ok (.iload_n 1, 1) := by decide +kernel
theorem dX12_land_117 : decode cX12_land 117 = .ok (.iload_n 2, 1) := by decide +kernel
theorem dX12_land_118 : decode cX12_land 118 = .ok (.invokestatic 232, 3) := by decide +kernel
theorem dX12_land_121 : decode cX12_land 121 = .ok (.ifCond .ne 6, 3) := by decide +kernel
theorem dX12_land_124 : decode cX12_land 124 = .ok (.goto 115, 3) := by decide +kernel
theorem dX12_land_127 : decode cX12_land 127 = .ok (.iload 6, 2) := by decide +kernel
theorem dX12_land_129 : decode cX12_land 129 = .ok (.aload_n 0, 1) := by decide +kernel
theorem dX12_land_130 : decode cX12_land 130 = .ok (.iload 7, 2) := by decide +kernel
theorem dX12_land_132 : decode cX12_land 132 = .ok (.invokevirtual 235, 3) := by decide +kernel
theorem dX12_land_135 : decode cX12_land 135 = .ok (.ifCond .eq 7, 3) := by decide +kernel
theorem dX12_land_138 : decode cX12_land 138 = .ok (.iconst 0, 1) := by decide +kernel
theorem dX12_land_139 : decode cX12_land 139 = .ok (.goto 4, 3) := by decide +kernel
theorem dX12_land_142 : decode cX12_land 142 = .ok (.iconst 1, 1) := by decide +kernel
theorem dX12_land_143 : decode cX12_land 143 = .ok (.iadd, 1) := by decide +kernel
theorem dX12_land_144 : decode cX12_land 144 = .ok (.istore 6, 2) := by decide +kernel
theorem dX12_land_146 : decode cX12_land 146 = .ok (.aload_n 0, 1) := by decide +kernel
theorem dX12_land_147 : decode cX12_land 147 = .ok (.getfield 9, 3) := by decide +kernel
theorem dX12_land_150 : decode cX12_land 150 = .ok (.sipush 1748, 3) := by decide +kernel
theorem dX12_land_153 : decode cX12_land 153 = .ok (.dup2, 1) := by decide +kernel
theorem dX12_land_154 : decode cX12_land 154 = .ok (.iaload, 1) := by decide +kernel
theorem dX12_land_155 : decode cX12_land 155 = .ok (.aload_n 0, 1) := by decide +kernel
theorem dX12_land_156 : decode cX12_land 156 = .ok (.getfield 9, 3) := by decide +kernel
theorem dX12_land_159 : decode cX12_land 159 = .ok (.sipush 384, 3) := by decide +kernel
theorem dX12_land_162 : decode cX12_land 162 = .ok (.iload 7, 2) := by decide +kernel
theorem dX12_land_164 : decode cX12_land 164 = .ok (.iadd, 1) := by decide +kernel
theorem dX12_land_165 : decode cX12_land 165 = .ok (.iaload, 1) := by decide +kernel
theorem dX12_land_166 : decode cX12_land 166 = .ok (.isub, 1) := by decide +kernel
theorem dX12_land_167 : decode cX12_land 167 = .ok (.iastore, 1) := by decide +kernel
theorem dX12_land_168 : decode cX12_land 168 = .ok (.aload_n 0, 1) := by decide +kernel
theorem dX12_land_169 : decode cX12_land 169 = .ok (.getfield 9, 3) := by decide +kernel
theorem dX12_land_172 : decode cX12_land 172 = .ok (.iconst 0, 1) := by decide +kernel
theorem dX12_land_173 : decode cX12_land 173 = .ok (.iload 7, 2) := by decide +kernel
theorem dX12_land_175 : decode cX12_land 175 = .ok (.iadd, 1) := by decide +kernel
theorem dX12_land_176 : decode cX12_land 176 = .ok (.iconst 1, 1) := by decide +kernel
theorem dX12_land_177 : decode cX12_land 177 = .ok (.iastore, 1) := by decide +kernel
theorem dX12_land_178 : decode cX12_land 178 = .ok (.aload_n 0, 1) := by decide +kernel
theorem dX12_land_179 : decode cX12_land 179 = .ok (.getfield 9, 3) := by decide +kernel
theorem dX12_land_182 : decode cX12_land 182 = .ok (.bipush 96, 2) := by decide +kernel
theorem dX12_land_184 : decode cX12_land 184 = .ok (.iload 7, 2) := by decide +kernel
theorem dX12_land_186 : decode cX12_land 186 = .ok (.iadd, 1) := by decide +kernel
theorem dX12_land_187 : decode cX12_land 187 = .ok (.iload_n 3, 1) := by decide +kernel
theorem dX12_land_188 : decode cX12_land 188 = .ok (.iastore, 1) := by decide +kernel
theorem dX12_land_189 : decode cX12_land 189 = .ok (.aload_n 0, 1) := by decide +kernel
theorem dX12_land_190 : decode cX12_land 190 = .ok (.getfield 9, 3) := by decide +kernel
theorem dX12_land_193 : decode cX12_land 193 = .ok (.sipush 192, 3) := by decide +kernel
theorem dX12_land_196 : decode cX12_land 196 = .ok (.iload 7, 2) := by decide +kernel
theorem dX12_land_198 : decode cX12_land 198 = .ok (.iadd, 1) := by decide +kernel
theorem dX12_land_199 : decode cX12_land 199 = .ok (.iload 4, 2) := by decide +kernel
theorem dX12_land_201 : decode cX12_land 201 = .ok (.iastore, 1) := by decide +kernel
theorem dX12_land_202 : decode cX12_land 202 = .ok (.aload_n 0, 1) := by decide +kernel
theorem dX12_land_203 : decode cX12_land 203 = .ok (.getfield 9, 3) := by decide +kernel
theorem dX12_land_206 : decode cX12_land 206 = .ok (.sipush 288, 3) := by decide +kernel
theorem dX12_land_209 : decode cX12_land 209 = .ok (.iload 7, 2) := by decide +kernel
theorem dX12_land_211 : decode cX12_land 211 = .ok (.iadd, 1) := by decide +kernel
theorem dX12_land_212 : decode cX12_land 212 = .ok (.iload 5, 2) := by decide +kernel
theorem dX12_land_214 : decode cX12_land 214 = .ok (.iastore, 1) := by decide +kernel
theorem dX12_land_215 : decode cX12_land 215 = .ok (.aload_n 0, 1) := by decide +kernel
theorem dX12_land_216 : decode cX12_land 216 = .ok (.getfield 9, 3) := by decide +kernel
theorem dX12_land_219 : decode cX12_land 219 = .ok (.sipush 384, 3) := by decide +kernel
theorem dX12_land_222 : decode cX12_land 222 = .ok (.iload 7, 2) := by decide +kernel
theorem dX12_land_224 : decode cX12_land 224 = .ok (.iadd, 1) := by decide +kernel
theorem dX12_land_225 : decode cX12_land 225 = .ok (.iconst 0, 1) := by decide +kernel
theorem dX12_land_226 : decode cX12_land 226 = .ok (.iastore, 1) := by decide +kernel
theorem dX12_land_227 : decode cX12_land 227 = .ok (.aload_n 0, 1) := by decide +kernel
theorem dX12_land_228 : decode cX12_land 228 = .ok (.getfield 9, 3) := by decide +kernel
theorem dX12_land_231 : decode cX12_land 231 = .ok (.sipush 480, 3) := by decide +kernel
theorem dX12_land_234 : decode cX12_land 234 = .ok (.iload 7, 2) := by decide +kernel
theorem dX12_land_236 : decode cX12_land 236 = .ok (.iadd, 1) := by decide +kernel
theorem dX12_land_237 : decode cX12_land 237 = .ok (.iconst 0, 1) := by decide +kernel
theorem dX12_land_238 : decode cX12_land 238 = .ok (.iastore, 1) := by decide +kernel
theorem dX12_land_239 : decode cX12_land 239 = .ok (.iinc 7 1, 3) := by decide +kernel
theorem dX12_land_242 : decode cX12_land 242 = .ok (.goto (-135), 3) := by decide +kernel
theorem dX12_land_245 : decode cX12_land 245 = .ok (.aload_n 0, 1) := by decide +kernel
theorem dX12_land_246 : decode cX12_land 246 = .ok (.iconst 0, 1) := by decide +kernel
theorem dX12_land_247 : decode cX12_land 247 = .ok (.putfield 238, 3) := by decide +kernel
theorem dX12_land_250 : decode cX12_land 250 = .ok (.iload 6, 2) := by decide +kernel
theorem dX12_land_252 : decode cX12_land 252 = .ok (.ireturn, 1) := by decide +kernel
theorem dX12_isIn_0 : decode cX12_isIn 0 = .ok (.iload_n 0, 1) := by decide +kernel
theorem dX12_isIn_1 : decode cX12_isIn 1 = .ok (.bipush 12, 2) := by decide +kernel
theorem dX12_isIn_3 : decode cX12_isIn 3 = .ok (.irem, 1) := by decide +kernel
theorem dX12_isIn_4 : decode cX12_isIn 4 = .ok (.istore_n 3, 1) := by decide +kernel
theorem dX12_isIn_5 : decode cX12_isIn 5 = .ok (.iload_n 0, 1) := by decide +kernel
theorem dX12_isIn_6 : decode cX12_isIn 6 = .ok (.bipush 12, 2) := by decide +kernel
theorem dX12_isIn_8 : decode cX12_isIn 8 = .ok (.idiv, 1) := by decide +kernel
theorem dX12_isIn_9 : decode cX12_isIn 9 = .ok (.istore 4, 2) := by decide +kernel
theorem dX12_isIn_11 : decode cX12_isIn 11 = .ok (.iload_n 3, 1) := by decide +kernel
theorem dX12_isIn_12 : decode cX12_isIn 12 = .ok (.iload_n 1, 1) := by decide +kernel
theorem dX12_isIn_13 : decode cX12_isIn 13 = .ok (.bipush 12, 2) := by decide +kernel
theorem dX12_isIn_15 : decode cX12_isIn 15 = .ok (.irem, 1) := by decide +kernel
theorem dX12_isIn_16 : decode cX12_isIn 16 = .ok (.iload_n 2, 1) := by decide +kernel
theorem dX12_isIn_17 : decode cX12_isIn 17 = .ok (.bipush 12, 2) := by decide +kernel
theorem dX12_isIn_19 : decode cX12_isIn 19 = .ok (.irem, 1) := by decide +kernel
theorem dX12_isIn_20 : decode cX12_isIn 20 = .ok (.invokestatic 207, 3) := by decide +kernel
theorem dX12_isIn_23 : decode cX12_isIn 23 = .ok (.iload_n 1, 1) := by decide +kernel
theorem dX12_isIn_24 : decode cX12_isIn 24 = .ok (.bipush 12, 2) := by decide +kernel
theorem dX12_isIn_26 : decode cX12_isIn 26 = .ok (.irem, 1) := by decide +kernel
theorem dX12_isIn_27 : decode cX12_isIn 27 = .ok (.iload_n 2, 1) := by decide +kernel
theorem dX12_isIn_28 : decode cX12_isIn 28 = .ok (.bipush 12, 2) := by decide +kernel
theorem dX12_isIn_30 : decode cX12_isIn 30 = .ok (.irem, 1) := by decide +kernel
theorem dX12_isIn_31 : decode cX12_isIn 31 = .ok (.invokestatic 211, 3) := by decide +kernel
theorem dX12_isIn_34 : decode cX12_isIn 34 = .ok (.invokestatic 197, 3) := by decide +kernel
theorem dX12_isIn_37 : decode cX12_isIn 37 = .ok (.ifCond .eq 37, 3) := by decide +kernel
theorem dX12_isIn_40 : decode cX12_isIn 40 = .ok (.iload 4, 2) := by decide +kernel
theorem dX12_isIn_42 : decode cX12_isIn 42 = .ok (.iload_n 1, 1) := by decide +kernel
theorem dX12_isIn_43 : decode cX12_isIn 43 = .ok (.bipush 12, 2) := by decide +kernel
theorem dX12_isIn_45 : decode cX12_isIn 45 = .ok (.idiv, 1) := by decide +kernel
theorem dX12_isIn_46 : decode cX12_isIn 46 = .ok (.iload_n 2, 1) := by decide +kernel
theorem dX12_isIn_47 : decode cX12_isIn 47 = .ok (.bipush 12, 2) := by decide +kernel
theorem dX12_isIn_49 : decode cX12_isIn 49 = .ok (.idiv, 1) := by decide +kernel
theorem dX12_isIn_50 : decode cX12_isIn 50 = .ok (.invokestatic 207, 3) := by decide +kernel
theorem dX12_isIn_53 : decode cX12_isIn 53 = .ok (.iload_n 1, 1) := by decide +kernel
theorem dX12_isIn_54 : decode cX12_isIn 54 = .ok (.bipush 12, 2) := by decide +kernel
theorem dX12_isIn_56 : decode cX12_isIn 56 = .ok (.idiv, 1) := by decide +kernel
theorem dX12_isIn_57 : decode cX12_isIn 57 = .ok (.iload_n 2, 1) := by decide +kernel
theorem dX12_isIn_58 : decode cX12_isIn 58 = .ok (.bipush 12, 2) := by decide +kernel
theorem dX12_isIn_60 : decode cX12_isIn 60 = .ok (.idiv, 1) := by decide +kernel
theorem dX12_isIn_61 : decode cX12_isIn 61 = .ok (.invokestatic 211, 3) := by decide +kernel
theorem dX12_isIn_64 : decode cX12_isIn 64 = .ok (.invokestatic 197, 3) := by decide +kernel
theorem dX12_isIn_67 : decode cX12_isIn 67 = .ok (.ifCond .eq 7, 3) := by decide +kernel
theorem dX12_isIn_70 : decode cX12_isIn 70 = .ok (.iconst 1, 1) := by decide +kernel
theorem dX12_isIn_71 : decode cX12_isIn 71 = .ok (.goto 4, 3) := by decide +kernel
theorem dX12_isIn_74 : decode cX12_isIn 74 = .ok (.iconst 0, 1) := by decide +kernel
theorem dX12_isIn_75 : decode cX12_isIn 75 = .ok (.ireturn, 1) := by decide +kernel
theorem dX12_farm_0 : decode cX12_farm 0 = .ok (.aload_n 0, 1) := by decide +kernel
theorem dX12_farm_1 : decode cX12_farm 1 = .ok (.iconst 0, 1) := by decide +kernel
theorem dX12_farm_2 : decode cX12_farm 2 = .ok (.putfield 194, 3) := by decide +kernel
theorem dX12_farm_5 : decode cX12_farm 5 = .ok (.aload_n 0, 1) := by decide +kernel
theorem dX12_farm_6 : decode cX12_farm 6 = .ok (.iload_n 1, 1) := by decide +kernel
theorem dX12_farm_7 : decode cX12_farm 7 = .ok (.invokestatic 220, 3) := by decide +kernel
theorem dX12_farm_10 : decode cX12_farm 10 = .ok (.ifCond .ne 10, 3) := by decide +kernel
theorem dX12_farm_13 : decode cX12_farm 13 = .ok (.iload_n 2, 1) := by decide +kernel
theorem dX12_farm_14 : decode cX12_farm 14 = .ok (.invokestatic 220, 3) := by decide +kernel
theorem dX12_farm_17 : decode cX12_farm 17 = .ok (.ifCond .eq 7, 3) := by decide +kernel
theorem dX12_farm_20 : decode cX12_farm 20 = .ok (.iconst 1, 1) := by decide +kernel
theorem dX12_farm_21 : decode cX12_farm 21 = .ok (.goto 4, 3) := by decide +kernel
theorem dX12_farm_24 : decode cX12_farm 24 = .ok (.iconst 0, 1) := by decide +kernel
theorem dX12_farm_25 : decode cX12_farm 25 = .ok (.iconst 1, 1) := by decide +kernel
theorem dX12_farm_26 : decode cX12_farm 26 = .ok (.invokevirtual 224, 3) := by decide +kernel
theorem dX12_farm_29 : decode cX12_farm 29 = .ok (.ifCond .ne 12, 3) := by decide +kernel
theorem dX12_farm_32 : decode cX12_farm 32 = .ok (.aload_n 0, 1) := by decide +kernel
theorem dX12_farm_33 : decode cX12_farm 33 = .ok (.getfield 498, 3) := by decide +kernel
theorem dX12_farm_36 : decode cX12_farm 36 = .ok (.bipush 30, 2) := by decide +kernel
theorem dX12_farm_38 : decode cX12_farm 38 = .ok (.if_icmp .ne 16, 3) := by decide +kernel
theorem dX12_farm_41 : decode cX12_farm 41 = .ok (.aload_n 0, 1) := by decide +kernel
theorem dX12_farm_42 : decode cX12_farm 42 = .ok (.getfield 194, 3) := by decide +kernel
theorem dX12_farm_45 : decode cX12_farm 45 = .ok (.ifCond .eq 7, 3) := by decide +kernel
theorem dX12_farm_48 : decode cX12_farm 48 = .ok (.iconst 0, 1) := by decide +kernel
theorem dX12_farm_49 : decode cX12_farm 49 = .ok (.goto 4, 3) := by decide +kernel
theorem dX12_farm_52 : decode cX12_farm 52 = .ok (.iconst (-1), 1) := by decide +kernel
theorem dX12_farm_53 : decode cX12_farm 53 = .ok (.ireturn, 1) := by decide +kernel
theorem dX12_farm_54 : decode cX12_farm 54 = .ok (.iconst 0, 1) := by decide +kernel
theorem dX12_farm_55 : decode cX12_farm 55 = .ok (.istore_n 3, 1) := by decide +kernel
theorem dX12_farm_56 : decode cX12_farm 56 = .ok (.iload_n 3, 1) := by decide +kernel
theorem dX12_farm_57 : decode cX12_farm 57 = .ok (.bipush 96, 2) := by decide +kernel
theorem dX12_farm_59 : decode cX12_farm 59 = .ok (.if_icmp .ge 36, 3) := by decide +kernel
theorem dX12_farm_62 : decode cX12_farm 62 = .ok (.iload_n 3, 1) := by decide +kernel
theorem dX12_farm_63 : decode cX12_farm 63 = .ok (.iload_n 1, 1) := by decide +kernel
theorem dX12_farm_64 : decode cX12_farm 64 = .ok (.iload_n 2, 1) := by decide +kernel
theorem dX12_farm_65 : decode cX12_farm 65 = .ok (.invokestatic 232, 3) := by decide +kernel
theorem dX12_farm_68 : decode cX12_farm 68 = .ok (.ifCond .eq 21, 3) := by decide +kernel
theorem dX12_farm_71 : decode cX12_farm 71 = .ok (.aload_n 0, 1) := by decide +kernel
theorem dX12_farm_72 : decode cX12_farm 72 = .ok (.iload_n 3, 1) := by decide +kernel
theorem dX12_farm_73 : decode cX12_farm 73 = .ok (.invokevirtual 235, 3) := by decide +kernel
theorem dX12_farm_76 : decode cX12_farm 76 = .ok (.ifCond .eq 11, 3) := by decide +kernel
theorem dX12_farm_79 : decode cX12_farm 79 = .ok (.aload_n 0, 1) := by decide +kernel
theorem dX12_farm_80 : decode cX12_farm 80 = .ok (.iload_n 3, 1) := by decide +kernel
theorem dX12_farm_81 : decode cX12_farm 81 = .ok (.invokevirtual 329, 3) := by decide +kernel
theorem dX12_farm_84 : decode cX12_farm 84 = .ok (.ifCond .lt 5, 3) := by decide +kernel
theorem dX12_farm_87 : decode cX12_farm 87 = .ok (.iconst (-1), 1) := by decide +kernel
theorem dX12_farm_88 : decode cX12_farm 88 = .ok (.ireturn, 1) := by decide +kernel
theorem dX12_farm_89 : decode cX12_farm 89 = .ok (.iinc 3 1, 3) := by decide +kernel
theorem dX12_farm_92 : decode cX12_farm 92 = .ok (.goto (-36), 3) := by decide +kernel
theorem dX12_farm_95 : decode cX12_farm 95 = .ok (.aload_n 0, 1) := by decide +kernel
theorem dX12_farm_96 : decode cX12_farm 96 = .ok (.getfield 113, 3) := by decide +kernel
theorem dX12_farm_99 : decode cX12_farm 99 = .ok (.aload_n 0, 1) := by decide +kernel
theorem dX12_farm_100 : decode cX12_farm 100 = .ok (.getfield 498, 3) := by decide +kernel
theorem dX12_farm_103 : decode cX12_farm 103 = .ok (.iload_n 1, 1) := by decide +kernel
theorem dX12_farm_104 : decode cX12_farm 104 = .ok (.iastore, 1) := by decide +kernel
theorem dX12_farm_105 : decode cX12_farm 105 = .ok (.aload_n 0, 1) := by decide +kernel
theorem dX12_farm_106 : decode cX12_farm 106 = .ok (.getfield 116, 3) := by decide +kernel
theorem dX12_farm_109 : decode cX12_farm 109 = .ok (.aload_n 0, 1) := by decide +kernel
theorem dX12_farm_110 : decode cX12_farm 110 = .ok (.getfield 498, 3) := by decide +kernel
theorem dX12_farm_113 : decode cX12_farm 113 = .ok (.iload_n 2, 1) := by decide +kernel
theorem dX12_farm_114 : decode cX12_farm 114 = .ok (.iastore, 1) := by decide +kernel
theorem dX12_farm_115 : decode cX12_farm 115 = .ok (.aload_n 0, 1) := by decide +kernel
theorem dX12_farm_116 : decode cX12_farm 116 = .ok (.getfield 122, 3) := by decide +kernel
theorem dX12_farm_119 : decode cX12_farm 119 = .ok (.aload_n 0, 1) := by decide +kernel
theorem dX12_farm_120 : decode cX12_farm 120 = .ok (.getfield 498, 3) := by decide +kernel
theorem dX12_farm_123 : decode cX12_farm 123 = .ok (.iconst (-1), 1) := by decide +kernel
theorem dX12_farm_124 : decode cX12_farm 124 = .ok (.iastore, 1) := by decide +kernel
theorem dX12_farm_125 : decode cX12_farm 125 = .ok (.aload_n 0, 1) := by decide +kernel
theorem dX12_farm_126 : decode cX12_farm 126 = .ok (.dup, 1) := by decide +kernel
theorem dX12_farm_127 : decode cX12_farm 127 = .ok (.getfield 498, 3) := by decide +kernel
theorem dX12_farm_130 : decode cX12_farm 130 = .ok (.iconst 1, 1) := by decide +kernel
theorem dX12_farm_131 : decode cX12_farm 131 = .ok (.iadd, 1) := by decide +kernel
theorem dX12_farm_132 : decode cX12_farm 132 = .ok (.putfield 498, 3) := by decide +kernel
theorem dX12_farm_135 : decode cX12_farm 135 = .ok (.aload_n 0, 1) := by decide +kernel
theorem dX12_farm_136 : decode cX12_farm 136 = .ok (.getfield 498, 3) := by decide +kernel
theorem dX12_farm_139 : decode cX12_farm 139 = .ok (.iconst 1, 1) := by decide +kernel
theorem dX12_farm_140 : decode cX12_farm 140 = .ok (.isub, 1) := by decide +kernel
theorem dX12_farm_141 : decode cX12_farm 141 = .ok (.ireturn, 1) := by decide +kernel
theorem dX12_hours_0 : decode cX12_hours 0 = .ok (.aload_n 0, 1) := by decide +kernel
theorem dX12_hours_1 : decode cX12_hours 1 = .ok (.iconst 0, 1) := by decide +kernel
theorem dX12_hours_2 : decode cX12_hours 2 = .ok (.putfield 194, 3) := by decide +kernel
theorem dX12_hours_5 : decode cX12_hours 5 = .ok (.aload_n 0, 1) := by decide +kernel
theorem dX12_hours_6 : decode cX12_hours 6 = .ok (.iload_n 1, 1) := by decide +kernel
theorem dX12_hours_7 : decode cX12_hours 7 = .ok (.iconst 0, 1) := by decide +kernel
theorem dX12_hours_8 : decode cX12_hours 8 = .ok (.sipush 240, 3) := by decide +kernel
theorem dX12_hours_11 : decode cX12_hours 11 = .ok (.invokestatic 197, 3) := by decide +kernel
theorem dX12_hours_14 : decode cX12_hours 14 = .ok (.ifCond .ne 7, 3) := by decide +kernel
theorem dX12_hours_17 : decode cX12_hours 17 = .ok (.iconst 1, 1) := by decide +kernel
theorem dX12_hours_18 : decode cX12_hours 18 = .ok (.goto 4, 3) := by decide +kernel
theorem dX12_hours_21 : decode cX12_hours 21 = .ok (.iconst 0, 1) := by decide +kernel
theorem dX12_hours_22 : decode cX12_hours 22 = .ok (.iconst 1, 1) := by decide +kernel
theorem dX12_hours_23 : decode cX12_hours 23 = .ok (.invokevirtual 224, 3) := by decide +kernel
theorem dX12_hours_26 : decode cX12_hours 26 = .ok (.ifCond .eq 5, 3) := by decide +kernel
theorem dX12_hours_29 : decode cX12_hours 29 = .ok (.iconst 0, 1) := by decide +kernel
theorem dX12_hours_30 : decode cX12_hours 30 = .ok (.ireturn, 1) := by decide +kernel
theorem dX12_hours_31 : decode cX12_hours 31 = .ok (.iconst 0, 1) := by decide +kernel
theorem dX12_hours_32 : decode cX12_hours 32 = .ok (.istore_n 2, 1) := by decide +kernel
theorem dX12_hours_33 : decode cX12_hours 33 = .ok (.iload_n 2, 1) := by decide +kernel
theorem dX12_hours_34 : decode cX12_hours 34 = .ok (.iload_n 1, 1) := by decide +kernel
theorem dX12_hours_35 : decode cX12_hours 35 = .ok (.if_icmp .ge 22, 3) := by decide +kernel
theorem dX12_hours_38 : decode cX12_hours 38 = .ok (.aload_n 0, 1) := by decide +kernel
theorem dX12_hours_39 : decode cX12_hours 39 = .ok (.invokevirtual 228, 3) := by decide +kernel
theorem dX12_hours_42 : decode cX12_hours 42 = .ok (.ldc 242, 2) := by decide +kernel
theorem dX12_hours_44 : decode cX12_hours 44 = .ok (.if_icmp .ge 13, 3) := by decide +kernel
theorem dX12_hours_47 : decode cX12_hours 47 = .ok (.aload_n 0, 1) := by decide +kernel
theorem dX12_hours_48 : decode cX12_hours 48 = .ok (.invokevirtual 322, 3) := by decide +kernel
theorem dX12_hours_51 : decode cX12_hours 51 = .ok (.iinc 2 1, 3) := by decide +kernel
theorem dX12_hours_54 : decode cX12_hours 54 = .ok (.goto (-21), 3) := by decide +kernel
theorem dX12_hours_57 : decode cX12_hours 57 = .ok (.aload_n 0, 1) := by decide +kernel
theorem dX12_hours_58 : decode cX12_hours 58 = .ok (.invokevirtual 228, 3) := by decide +kernel
theorem dX12_hours_61 : decode cX12_hours 61 = .ok (.ireturn, 1) := by decide +kernel
theorem dX12_anHour_0 : decode cX12_anHour 0 = .ok (.aload_n 0, 1) := by decide +kernel
theorem dX12_anHour_1 : decode cX12_anHour 1 = .ok (.getfield 9, 3) := by decide +kernel
theorem dX12_anHour_4 : decode cX12_anHour 4 = .ok (.sipush 1429, 3) := by decide +kernel
theorem dX12_anHour_7 : decode cX12_anHour 7 = .ok (.dup2, 1) := by decide +kernel
theorem dX12_anHour_8 : decode cX12_anHour 8 = .ok (.iaload, 1) := by decide +kernel
theorem dX12_anHour_9 : decode cX12_anHour 9 = .ok (.iconst 1, 1) := by decide +kernel
theorem dX12_anHour_10 : decode cX12_anHour 10 = .ok (.iadd, 1) := by decide +kernel
theorem dX12_anHour_11 : decode cX12_anHour 11 = .ok (.iastore, 1) := by decide +kernel
theorem dX12_anHour_12 : decode cX12_anHour 12 = .ok (.aload_n 0, 1) := by decide +kernel
theorem dX12_anHour_13 : decode cX12_anHour 13 = .ok (.aload_n 0, 1) := by decide +kernel
theorem dX12_anHour_14 : decode cX12_anHour 14 = .ok (.invokevirtual 228, 3) := by decide +kernel
theorem dX12_anHour_17 : decode cX12_anHour 17 = .ok (.invokevirtual 247, 3) := by decide +kernel
theorem dX12_anHour_20 : decode cX12_anHour 20 = .ok (.istore_n 1, 1) := by decide +kernel
theorem dX12_anHour_21 : decode cX12_anHour 21 = .ok (.aload_n 0, 1) := by decide +kernel
theorem dX12_anHour_22 : decode cX12_anHour 22 = .ok (.aload_n 0, 1) := by decide +kernel
theorem dX12_anHour_23 : decode cX12_anHour 23 = .ok (.invokevirtual 228, 3) := by decide +kernel
theorem dX12_anHour_26 : decode cX12_anHour 26 = .ok (.invokevirtual 253, 3) := by decide +kernel
theorem dX12_anHour_29 : decode cX12_anHour 29 = .ok (.istore_n 2, 1) := by decide +kernel
theorem dX12_anHour_30 : decode cX12_anHour 30 = .ok (.aload_n 0, 1) := by decide +kernel
theorem dX12_anHour_31 : decode cX12_anHour 31 = .ok (.aload_n 0, 1) := by decide +kernel
theorem dX12_anHour_32 : decode cX12_anHour 32 = .ok (.invokevirtual 228, 3) := by decide +kernel
theorem dX12_anHour_35 : decode cX12_anHour 35 = .ok (.invokevirtual 250, 3) := by decide +kernel
theorem dX12_anHour_38 : decode cX12_anHour 38 = .ok (.istore_n 3, 1) := by decide +kernel
theorem dX12_anHour_39 : decode cX12_anHour 39 = .ok (.iconst 0, 1) := by decide +kernel
theorem dX12_anHour_40 : decode cX12_anHour 40 = .ok (.istore 4, 2) := by decide +kernel
theorem dX12_anHour_42 : decode cX12_anHour 42 = .ok (.iload 4, 2) := by decide +kernel
theorem dX12_anHour_44 : decode cX12_anHour 44 = .ok (.bipush 96, 2) := by decide +kernel
theorem dX12_anHour_46 : decode cX12_anHour 46 = .ok (.if_icmp .ge 48, 3) := by decide +kernel
theorem dX12_anHour_49 : decode cX12_anHour 49 = .ok (.aload_n 0, 1) := by decide +kernel
theorem dX12_anHour_50 : decode cX12_anHour 50 = .ok (.iload 4, 2) := by decide +kernel
theorem dX12_anHour_52 : decode cX12_anHour 52 = .ok (.invokevirtual 235, 3) := by decide +kernel
theorem dX12_anHour_55 : decode cX12_anHour 55 = .ok (.ifCond .ne 6, 3) := by decide +kernel
theorem dX12_anHour_58 : decode cX12_anHour 58 = .ok (.goto 30, 3) := by decide +kernel
theorem dX12_anHour_61 : decode cX12_anHour 61 = .ok (.aload_n 0, 1) := by decide +kernel
theorem dX12_anHour_62 : decode cX12_anHour 62 = .ok (.getfield 9, 3) := by decide +kernel
theorem dX12_anHour_65 : decode cX12_anHour 65 = .ok (.sipush 384, 3) := by decide +kernel
theorem dX12_anHour_68 : decode cX12_anHour 68 = .ok (.iload 4, 2) := by decide +kernel
theorem dX12_anHour_70 : decode cX12_anHour 70 = .ok (.iadd, 1) := by decide +kernel
theorem dX12_anHour_71 : decode cX12_anHour 71 = .ok (.dup2, 1) := by decide +kernel
theorem dX12_anHour_72 : decode cX12_anHour 72 = .ok (.iaload, 1) := by decide +kernel
theorem dX12_anHour_73 : decode cX12_anHour 73 = .ok (.iload_n 2, 1) := by decide +kernel
theorem dX12_anHour_74 : decode cX12_anHour 74 = .ok (.iadd, 1) := by decide +kernel
theorem dX12_anHour_75 : decode cX12_anHour 75 = .ok (.iastore, 1) := by decide +kernel
theorem dX12_anHour_76 : decode cX12_anHour 76 = .ok (.aload_n 0, 1) := by decide +kernel
theorem dX12_anHour_77 : decode cX12_anHour 77 = .ok (.getfield 9, 3) := by decide +kernel
theorem dX12_anHour_80 : decode cX12_anHour 80 = .ok (.sipush 1745, 3) := by decide +kernel
theorem dX12_anHour_83 : decode cX12_anHour 83 = .ok (.dup2, 1) := by decide +kernel
theorem dX12_anHour_84 : decode cX12_anHour 84 = .ok (.iaload, 1) := by decide +kernel
theorem dX12_anHour_85 : decode cX12_anHour 85 = .ok (.iload_n 2, 1) := by decide +kernel
theorem dX12_anHour_86 : decode cX12_anHour 86 = .ok (.iadd, 1) := by decide +kernel
theorem dX12_anHour_87 : decode cX12_anHour 87 = .ok (.iastore, 1) := by decide +kernel
theorem dX12_anHour_88 : decode cX12_anHour 88 = .ok (.iinc 4 1, 3) := by decide +kernel
theorem dX12_anHour_91 : decode cX12_anHour 91 = .ok (.goto (-49), 3) := by decide +kernel
theorem dX12_anHour_94 : decode cX12_anHour 94 = .ok (.aload_n 0, 1) := by decide +kernel
theorem dX12_anHour_95 : decode cX12_anHour 95 = .ok (.getfield 9, 3) := by decide +kernel
theorem dX12_anHour_98 : decode cX12_anHour 98 = .ok (.sipush 1428, 3) := by decide +kernel
theorem dX12_anHour_101 : decode cX12_anHour 101 = .ok (.iaload, 1) := by decide +kernel
theorem dX12_anHour_102 : decode cX12_anHour 102 = .ok (.istore 4, 2) := by decide +kernel
theorem dX12_anHour_104 : decode cX12_anHour 104 = .ok (.iconst 0, 1) := by decide +kernel
theorem dX12_anHour_105 : decode cX12_anHour 105 = .ok (.istore 5, 2) := by decide +kernel
theorem dX12_anHour_107 : decode cX12_anHour 107 = .ok (.iload 5, 2) := by decide +kernel
theorem dX12_anHour_109 : decode cX12_anHour 109 = .ok (.iload 4, 2) := by decide +kernel
theorem dX12_anHour_111 : decode cX12_anHour 111 = .ok (.if_icmp .ge 25, 3) := by decide +kernel
theorem dX12_anHour_114 : decode cX12_anHour 114 = .ok (.aload_n 0, 1) := by decide +kernel
theorem dX12_anHour_115 : decode cX12_anHour 115 = .ok (.iload 5, 2) := by decide +kernel
theorem dX12_anHour_117 : decode cX12_anHour 117 = .ok (.invokevirtual 272, 3) := by decide +kernel
theorem dX12_anHour_120 : decode cX12_anHour 120 = .ok (.ifCond .eq 10, 3) := by decide +kernel
theorem dX12_anHour_123 : decode cX12_anHour 123 = .ok (.aload_n 0, 1) := by decide +kernel
theorem dX12_anHour_124 : decode cX12_anHour 124 = .ok (.iload 5, 2) := by decide +kernel
theorem dX12_anHour_126 : decode cX12_anHour 126 = .ok (.iload_n 1, 1) := by decide +kernel
theorem dX12_anHour_127 : decode cX12_anHour 127 = .ok (.invokevirtual 304, 3) := by decide +kernel
theorem dX12_anHour_130 : decode cX12_anHour 130 = .ok (.iinc 5 1, 3) := by decide +kernel
theorem dX12_anHour_133 : decode cX12_anHour 133 = .ok (.goto (-26), 3) := by decide +kernel
theorem dX12_anHour_136 : decode cX12_anHour 136 = .ok (.iconst 0, 1) := by decide +kernel
theorem dX12_anHour_137 : decode cX12_anHour 137 = .ok (.istore 5, 2) := by decide +kernel
theorem dX12_anHour_139 : decode cX12_anHour 139 = .ok (.iload 5, 2) := by decide +kernel
theorem dX12_anHour_141 : decode cX12_anHour 141 = .ok (.iload 4, 2) := by decide +kernel
theorem dX12_anHour_143 : decode cX12_anHour 143 = .ok (.if_icmp .ge 27, 3) := by decide +kernel
theorem dX12_anHour_146 : decode cX12_anHour 146 = .ok (.aload_n 0, 1) := by decide +kernel
theorem dX12_anHour_147 : decode cX12_anHour 147 = .ok (.iload 5, 2) := by decide +kernel
theorem dX12_anHour_149 : decode cX12_anHour 149 = .ok (.iconst 0, 1) := by decide +kernel
theorem dX12_anHour_150 : decode cX12_anHour 150 = .ok (.invokevirtual 217, 3) := by decide +kernel
theorem dX12_anHour_153 : decode cX12_anHour 153 = .ok (.iconst 4, 1) := by decide +kernel
theorem dX12_anHour_154 : decode cX12_anHour 154 = .ok (.if_icmp .ne 10, 3) := by decide +kernel
theorem dX12_anHour_157 : decode cX12_anHour 157 = .ok (.aload_n 0, 1) := by decide +kernel
theorem dX12_anHour_158 : decode cX12_anHour 158 = .ok (.iload 5, 2) := by decide +kernel
theorem dX12_anHour_160 : decode cX12_anHour 160 = .ok (.iload_n 1, 1) := by decide +kernel
theorem dX12_anHour_161 : decode cX12_anHour 161 = .ok (.invokevirtual 307, 3) := by decide +kernel
theorem dX12_anHour_164 : decode cX12_anHour 164 = .ok (.iinc 5 1, 3) := by decide +kernel
theorem dX12_anHour_167 : decode cX12_anHour 167 = .ok (.goto (-28), 3) := by decide +kernel
theorem dX12_anHour_170 : decode cX12_anHour 170 = .ok (.aload_n 0, 1) := by decide +kernel
theorem dX12_anHour_171 : decode cX12_anHour 171 = .ok (.invokevirtual 310, 3) := by decide +kernel
theorem dX12_anHour_174 : decode cX12_anHour 174 = .ok (.iconst 0, 1) := by decide +kernel
theorem dX12_anHour_175 : decode cX12_anHour 175 = .ok (.istore 5, 2) := by decide +kernel
theorem dX12_anHour_177 : decode cX12_anHour 177 = .ok (.iload 5, 2) := by decide +kernel
theorem dX12_anHour_179 : decode cX12_anHour 179 = .ok (.iload 4, 2) := by decide +kernel
theorem dX12_anHour_181 : decode cX12_anHour 181 = .ok (.if_icmp .ge 38, 3) := by decide +kernel
theorem dX12_anHour_184 : decode cX12_anHour 184 = .ok (.aload_n 0, 1) := by decide +kernel
theorem dX12_anHour_185 : decode cX12_anHour 185 = .ok (.iload 5, 2) := by decide +kernel
theorem dX12_anHour_187 : decode cX12_anHour 187 = .ok (.iconst 0, 1) := by decide +kernel
theorem dX12_anHour_188 : decode cX12_anHour 188 = .ok (.invokevirtual 217, 3) := by decide +kernel
theorem dX12_anHour_191 : decode cX12_anHour 191 = .ok (.iconst 2, 1) := by decide +kernel
theorem dX12_anHour_192 : decode cX12_anHour 192 = .ok (.if_icmp .eq 14, 3) := by decide +kernel
theorem dX12_anHour_195 : decode cX12_anHour 195 = .ok (.aload_n 0, 1) := by decide +kernel
theorem dX12_anHour_196 : decode cX12_anHour 196 = .ok (.iload 5, 2) := by decide +kernel
theorem dX12_anHour_198 : decode cX12_anHour 198 = .ok (.iconst 0, 1) := by decide +kernel
theorem dX12_anHour_199 : decode cX12_anHour 199 = .ok (.invokevirtual 217, 3) := by decide +kernel
theorem dX12_anHour_202 : decode cX12_anHour 202 = .ok (.iconst 3, 1) := by decide +kernel
theorem dX12_anHour_203 : decode cX12_anHour 203 = .ok (.if_icmp .ne 10, 3) := by decide +kernel
theorem dX12_anHour_206 : decode cX12_anHour 206 = .ok (.aload_n 0, 1) := by decide +kernel
theorem dX12_anHour_207 : decode cX12_anHour 207 = .ok (.iload 5, 2) := by decide +kernel
theorem dX12_anHour_209 : decode cX12_anHour 209 = .ok (.iload_n 3, 1) := by decide +kernel
theorem dX12_anHour_210 : decode cX12_anHour 210 = .ok (.invokevirtual 313, 3) := by decide +kernel
theorem dX12_anHour_213 : decode cX12_anHour 213 = .ok (.iinc 5 1, 3) := by decide +kernel
theorem dX12_anHour_216 : decode cX12_anHour 216 = .ok (.goto (-39), 3) := by decide +kernel
theorem dX12_anHour_219 : decode cX12_anHour 219 = .ok (.aload_n 0, 1) := by decide +kernel
theorem dX12_anHour_220 : decode cX12_anHour 220 = .ok (.invokevirtual 228, 3) := by decide +kernel
theorem dX12_anHour_223 : decode cX12_anHour 223 = .ok (.bipush 24, 2) := by decide +kernel
theorem dX12_anHour_225 : decode cX12_anHour 225 = .ok (.irem, 1) := by decide +kernel
theorem dX12_anHour_226 : decode cX12_anHour 226 = .ok (.ifCond .ne 7, 3) := by decide +kernel
theorem dX12_anHour_229 : decode cX12_anHour 229 = .ok (.aload_n 0, 1) := by decide +kernel
theorem dX12_anHour_230 : decode cX12_anHour 230 = .ok (.invokevirtual 316, 3) := by decide +kernel
theorem dX12_anHour_233 : decode cX12_anHour 233 = .ok (.aload_n 0, 1) := by decide +kernel
theorem dX12_anHour_234 : decode cX12_anHour 234 = .ok (.invokevirtual 319, 3) := by decide +kernel
theorem dX12_anHour_237 : decode cX12_anHour 237 = .ok (.return_, 1) := by decide +kernel
theorem dX12_ditches_0 : decode cX12_ditches 0 = .ok (.iconst 0, 1) := by decide +kernel
theorem dX12_ditches_1 : decode cX12_ditches 1 = .ok (.istore_n 1, 1) := by decide +kernel
theorem dX12_ditches_2 : decode cX12_ditches 2 = .ok (.iload_n 1, 1) := by decide +kernel
theorem dX12_ditches_3 : decode cX12_ditches 3 = .ok (.bipush 96, 2) := by decide +kernel
theorem dX12_ditches_5 : decode cX12_ditches 5 = .ok (.if_icmp .ge 210, 3) := by decide +kernel
theorem dX12_ditches_8 : decode cX12_ditches 8 = .ok (.aload_n 0, 1) := by decide +kernel
theorem dX12_ditches_9 : decode cX12_ditches 9 = .ok (.getfield 16, 3) := by decide +kernel
theorem dX12_ditches_12 : decode cX12_ditches 12 = .ok (.iload_n 1, 1) := by decide +kernel
theorem dX12_ditches_13 : decode cX12_ditches 13 = .ok (.iconst 0, 1) := by decide +kernel
theorem dX12_ditches_14 : decode cX12_ditches 14 = .ok (.iastore, 1) := by decide +kernel
theorem dX12_ditches_15 : decode cX12_ditches 15 = .ok (.aload_n 0, 1) := by decide +kernel
theorem dX12_ditches_16 : decode cX12_ditches 16 = .ok (.iload_n 1, 1) := by decide +kernel
theorem dX12_ditches_17 : decode cX12_ditches 17 = .ok (.invokevirtual 298, 3) := by decide +kernel
theorem dX12_ditches_20 : decode cX12_ditches 20 = .ok (.ifCond .ne 6, 3) := by decide +kernel
theorem dX12_ditches_23 : decode cX12_ditches 23 = .ok (.goto 186, 3) := by decide +kernel
theorem dX12_ditches_26 : decode cX12_ditches 26 = .ok (.iconst (-1), 1) := by decide +kernel
theorem dX12_ditches_27 : decode cX12_ditches 27 = .ok (.istore_n 2, 1) := by decide +kernel
theorem dX12_ditches_28 : decode cX12_ditches 28 = .ok (.iconst 0, 1) := by decide +kernel
theorem dX12_ditches_29 : decode cX12_ditches 29 = .ok (.istore_n 3, 1) := by decide +kernel
theorem dX12_ditches_30 : decode cX12_ditches 30 = .ok (.iload_n 3, 1) := by decide +kernel
theorem dX12_ditches_31 : decode cX12_ditches 31 = .ok (.iconst 4, 1) := by decide +kernel
theorem dX12_ditches_32 : decode cX12_ditches 32 = .ok (.if_icmp .ge 51, 3) := by decide +kernel
theorem dX12_ditches_35 : decode cX12_ditches 35 = .ok (.iload_n 1, 1) := by decide +kernel
theorem dX12_ditches_36 : decode cX12_ditches 36 = .ok (.iload_n 3, 1) := by decide +kernel
theorem dX12_ditches_37 : decode cX12_ditches 37 = .ok (.invokestatic 301, 3) := by decide +kernel
theorem dX12_ditches_40 : decode cX12_ditches 40 = .ok (.istore 4, 2) := by decide +kernel
theorem dX12_ditches_42 : decode cX12_ditches 42 = .ok (.iload 4, 2) := by decide +kernel
theorem dX12_ditches_44 : decode cX12_ditches 44 = .ok (.ifCond .lt 33, 3) := by decide +kernel
theorem dX12_ditches_47 : decode cX12_ditches 47 = .ok (.aload_n 0, 1) := by decide +kernel
theorem dX12_ditches_48 : decode cX12_ditches 48 = .ok (.iload 4, 2) := by decide +kernel
theorem dX12_ditches_50 : decode cX12_ditches 50 = .ok (.invokevirtual 298, 3) := by decide +kernel
theorem dX12_ditches_53 : decode cX12_ditches 53 = .ok (.ifCond .eq 24, 3) := by decide +kernel
theorem dX12_ditches_56 : decode cX12_ditches 56 = .ok (.iload_n 2, 1) := by decide +kernel
theorem dX12_ditches_57 : decode cX12_ditches 57 = .ok (.ifCond .lt 17, 3) := by decide +kernel
theorem dX12_ditches_60 : decode cX12_ditches 60 = .ok (.aload_n 0, 1) := by decide +kernel
theorem dX12_ditches_61 : decode cX12_ditches 61 = .ok (.iload 4, 2) := by decide +kernel
theorem dX12_ditches_63 : decode cX12_ditches 63 = .ok (.invokevirtual 285, 3) := by decide +kernel
theorem dX12_ditches_66 : decode cX12_ditches 66 = .ok (.aload_n 0, 1) := by decide +kernel
theorem dX12_ditches_67 : decode cX12_ditches 67 = .ok (.iload_n 2, 1) := by decide +kernel
theorem dX12_ditches_68 : decode cX12_ditches 68 = .ok (.invokevirtual 285, 3) := by decide +kernel
theorem dX12_ditches_71 : decode cX12_ditches 71 = .ok (.if_icmp .ge 6, 3) := by decide +kernel
theorem dX12_ditches_74 : decode cX12_ditches 74 = .ok (.iload 4, 2) := by decide +kernel
theorem dX12_ditches_76 : decode cX12_ditches 76 = .ok (.istore_n 2, 1) := by decide +kernel
theorem dX12_ditches_77 : decode cX12_ditches 77 = .ok (.iinc 3 1, 3) := by decide +kernel
theorem dX12_ditches_80 : decode cX12_ditches 80 = .ok (.goto (-50), 3) := by decide +kernel
theorem dX12_ditches_83 : decode cX12_ditches 83 = .ok (.iload_n 2, 1) := by decide +kernel
theorem dX12_ditches_84 : decode cX12_ditches 84 = .ok (.ifCond .lt 125, 3) := by decide +kernel
theorem dX12_ditches_87 : decode cX12_ditches 87 = .ok (.aload_n 0, 1) := by decide +kernel
theorem dX12_ditches_88 : decode cX12_ditches 88 = .ok (.iload_n 2, 1) := by decide +kernel
theorem dX12_ditches_89 : decode cX12_ditches 89 = .ok (.invokevirtual 285, 3) := by decide +kernel
theorem dX12_ditches_92 : decode cX12_ditches 92 = .ok (.aload_n 0, 1) := by decide +kernel
theorem dX12_ditches_93 : decode cX12_ditches 93 = .ok (.iload_n 1, 1) := by decide +kernel
theorem dX12_ditches_94 : decode cX12_ditches 94 = .ok (.invokevirtual 285, 3) := by decide +kernel
theorem dX12_ditches_97 : decode cX12_ditches 97 = .ok (.if_icmp .lt 6, 3) := by decide +kernel
theorem dX12_ditches_100 : decode cX12_ditches 100 = .ok (.goto 109, 3) := by decide +kernel
theorem dX12_ditches_103 : decode cX12_ditches 103 = .ok (.aload_n 0, 1) := by decide +kernel
theorem dX12_ditches_104 : decode cX12_ditches 104 = .ok (.getfield 19, 3) := by decide +kernel
theorem dX12_ditches_107 : decode cX12_ditches 107 = .ok (.iload_n 1, 1) := by decide +kernel
theorem dX12_ditches_108 : decode cX12_ditches 108 = .ok (.iload_n 2, 1) := by decide +kernel
theorem dX12_ditches_109 : decode cX12_ditches 109 = .ok (.iastore, 1) := by decide +kernel
theorem dX12_ditches_110 : decode cX12_ditches 110 = .ok (.aload_n 0, 1) := by decide +kernel
theorem dX12_ditches_111 : decode cX12_ditches 111 = .ok (.getfield 16, 3) := by decide +kernel
theorem dX12_ditches_114 : decode cX12_ditches 114 = .ok (.iload_n 1, 1) := by decide +kernel
theorem dX12_ditches_115 : decode cX12_ditches 115 = .ok (.aload_n 0, 1) := by decide +kernel
theorem dX12_ditches_116 : decode cX12_ditches 116 = .ok (.getfield 9, 3) := by decide +kernel
theorem dX12_ditches_119 : decode cX12_ditches 119 = .ok (.sipush 384, 3) := by decide +kernel
theorem dX12_ditches_122 : decode cX12_ditches 122 = .ok (.iload_n 1, 1) := by decide +kernel
theorem dX12_ditches_123 : decode cX12_ditches 123 = .ok (.iadd, 1) := by decide +kernel
theorem dX12_ditches_124 : decode cX12_ditches 124 = .ok (.iaload, 1) := by decide +kernel
theorem dX12_ditches_125 : decode cX12_ditches 125 = .ok (.aload_n 0, 1) := by decide +kernel
theorem dX12_ditches_126 : decode cX12_ditches 126 = .ok (.iload_n 1, 1) := by decide +kernel
theorem dX12_ditches_127 : decode cX12_ditches 127 = .ok (.invokevirtual 285, 3) := by decide +kernel
theorem dX12_ditches_130 : decode cX12_ditches 130 = .ok (.aload_n 0, 1) := by decide +kernel
theorem dX12_ditches_131 : decode cX12_ditches 131 = .ok (.iload_n 2, 1) := by decide +kernel
theorem dX12_ditches_132 : decode cX12_ditches 132 = .ok (.invokevirtual 285, 3) := by decide +kernel
theorem dX12_ditches_135 : decode cX12_ditches 135 = .ok (.isub, 1) := by decide +kernel
theorem dX12_ditches_136 : decode cX12_ditches 136 = .ok (.iconst 2, 1) := by decide +kernel
theorem dX12_ditches_137 : decode cX12_ditches 137 = .ok (.idiv, 1) := by decide +kernel
theorem dX12_ditches_138 : decode cX12_ditches 138 = .ok (.aload_n 0, 1) := by decide +kernel
theorem dX12_ditches_139 : decode cX12_ditches 139 = .ok (.getfield 9, 3) := by decide +kernel
theorem dX12_ditches_142 : decode cX12_ditches 142 = .ok (.sipush 288, 3) := by decide +kernel
theorem dX12_ditches_145 : decode cX12_ditches 145 = .ok (.iload_n 1, 1) := by decide +kernel
theorem dX12_ditches_146 : decode cX12_ditches 146 = .ok (.iadd, 1) := by decide +kernel
theorem dX12_ditches_147 : decode cX12_ditches 147 = .ok (.iaload, 1) := by decide +kernel
theorem dX12_ditches_148 : decode cX12_ditches 148 = .ok (.aload_n 0, 1) := by decide +kernel
theorem dX12_ditches_149 : decode cX12_ditches 149 = .ok (.getfield 9, 3) := by decide +kernel
theorem dX12_ditches_152 : decode cX12_ditches 152 = .ok (.sipush 288, 3) := by decide +kernel
theorem dX12_ditches_155 : decode cX12_ditches 155 = .ok (.iload_n 2, 1) := by decide +kernel
theorem dX12_ditches_156 : decode cX12_ditches 156 = .ok (.iadd, 1) := by decide +kernel
theorem dX12_ditches_157 : decode cX12_ditches 157 = .ok (.iaload, 1) := by decide +kernel
theorem dX12_ditches_158 : decode cX12_ditches 158 = .ok (.invokestatic 207, 3) := by decide +kernel
theorem dX12_ditches_161 : decode cX12_ditches 161 = .ok (.invokestatic 207, 3) := by decide +kernel
theorem dX12_ditches_164 : decode cX12_ditches 164 = .ok (.invokestatic 207, 3) := by decide +kernel
theorem dX12_ditches_167 : decode cX12_ditches 167 = .ok (.iastore, 1) := by decide +kernel
theorem dX12_ditches_168 : decode cX12_ditches 168 = .ok (.aload_n 0, 1) := by decide +kernel
theorem dX12_ditches_169 : decode cX12_ditches 169 = .ok (.getfield 22, 3) := by decide +kernel
theorem dX12_ditches_172 : decode cX12_ditches 172 = .ok (.iload_n 1, 1) := by decide +kernel
theorem dX12_ditches_173 : decode cX12_ditches 173 = .ok (.aload_n 0, 1) := by decide +kernel
theorem dX12_ditches_174 : decode cX12_ditches 174 = .ok (.getfield 9, 3) := by decide +kernel
theorem dX12_ditches_177 : decode cX12_ditches 177 = .ok (.sipush 480, 3) := by decide +kernel
theorem dX12_ditches_180 : decode cX12_ditches 180 = .ok (.iload_n 1, 1) := by decide +kernel
theorem dX12_ditches_181 : decode cX12_ditches 181 = .ok (.iadd, 1) := by decide +kernel
theorem dX12_ditches_182 : decode cX12_ditches 182 = .ok (.iaload, 1) := by decide +kernel
theorem dX12_ditches_183 : decode cX12_ditches 183 = .ok (.i2l, 1) := by decide +kernel
theorem dX12_ditches_184 : decode cX12_ditches 184 = .ok (.aload_n 0, 1) := by decide +kernel
theorem dX12_ditches_185 : decode cX12_ditches 185 = .ok (.getfield 16, 3) := by decide +kernel
theorem dX12_ditches_188 : decode cX12_ditches 188 = .ok (.iload_n 1, 1) := by decide +kernel
theorem dX12_ditches_189 : decode cX12_ditches 189 = .ok (.iaload, 1) := by decide +kernel
theorem dX12_ditches_190 : decode cX12_ditches 190 = .ok (.i2l, 1) := by decide +kernel
theorem dX12_ditches_191 : decode cX12_ditches 191 = .ok (.lmul, 1) := by decide +kernel
theorem dX12_ditches_192 : decode cX12_ditches 192 = .ok (.aload_n 0, 1) := by decide +kernel
theorem dX12_ditches_193 : decode cX12_ditches 193 = .ok (.getfield 9, 3) := by decide +kernel
theorem dX12_ditches_196 : decode cX12_ditches 196 = .ok (.sipush 384, 3) := by decide +kernel
theorem dX12_ditches_199 : decode cX12_ditches 199 = .ok (.iload_n 1, 1) := by decide +kernel
theorem dX12_ditches_200 : decode cX12_ditches 200 = .ok (.iadd, 1) := by decide +kernel
theorem dX12_ditches_201 : decode cX12_ditches 201 = .ok (.iaload, 1) := by decide +kernel
theorem dX12_ditches_202 : decode cX12_ditches 202 = .ok (.bipush 10, 2) := by decide +kernel
theorem dX12_ditches_204 : decode cX12_ditches 204 = .ok (.iadd, 1) := by decide +kernel
theorem dX12_ditches_205 : decode cX12_ditches 205 = .ok (.i2l, 1) := by decide +kernel
theorem dX12_ditches_206 : decode cX12_ditches 206 = .ok (.ldiv, 1) := by decide +kernel
theorem dX12_ditches_207 : decode cX12_ditches 207 = .ok (.l2i, 1) := by decide +kernel
theorem dX12_ditches_208 : decode cX12_ditches 208 = .ok (.iastore, 1) := by decide +kernel
theorem dX12_ditches_209 : decode cX12_ditches 209 = .ok (.iinc 1 1, 3) := by decide +kernel
theorem dX12_ditches_212 : decode cX12_ditches 212 = .ok (.goto (-210), 3) := by decide +kernel
theorem dX12_ditches_215 : decode cX12_ditches 215 = .ok (.iconst 0, 1) := by decide +kernel
theorem dX12_ditches_216 : decode cX12_ditches 216 = .ok (.istore_n 1, 1) := by decide +kernel
theorem dX12_ditches_217 : decode cX12_ditches 217 = .ok (.iload_n 1, 1) := by decide +kernel
theorem dX12_ditches_218 : decode cX12_ditches 218 = .ok (.bipush 96, 2) := by decide +kernel
theorem dX12_ditches_220 : decode cX12_ditches 220 = .ok (.if_icmp .ge 107, 3) := by decide +kernel
theorem dX12_ditches_223 : decode cX12_ditches 223 = .ok (.aload_n 0, 1) := by decide +kernel
theorem dX12_ditches_224 : decode cX12_ditches 224 = .ok (.getfield 16, 3) := by decide +kernel
theorem dX12_ditches_227 : decode cX12_ditches 227 = .ok (.iload_n 1, 1) := by decide +kernel
theorem dX12_ditches_228 : decode cX12_ditches 228 = .ok (.iaload, 1) := by decide +kernel
theorem dX12_ditches_229 : decode cX12_ditches 229 = .ok (.ifCond .ne 6, 3) := by decide +kernel
theorem dX12_ditches_232 : decode cX12_ditches 232 = .ok (.goto 89, 3) := by decide +kernel
theorem dX12_ditches_235 : decode cX12_ditches 235 = .ok (.aload_n 0, 1) := by decide +kernel
theorem dX12_ditches_236 : decode cX12_ditches 236 = .ok (.getfield 9, 3) := by decide +kernel
theorem dX12_ditches_239 : decode cX12_ditches 239 = .ok (.sipush 384, 3) := by decide +kernel
theorem dX12_ditches_242 : decode cX12_ditches 242 = .ok (.iload_n 1, 1) := by decide +kernel
theorem dX12_ditches_243 : decode cX12_ditches 243 = .ok (.iadd, 1) := by decide +kernel
theorem dX12_ditches_244 : decode cX12_ditches 244 = .ok (.dup2, 1) := by decide +kernel
theorem dX12_ditches_245 : decode cX12_ditches 245 = .ok (.iaload, 1) := by decide +kernel
theorem dX12_ditches_246 : decode cX12_ditches 246 = .ok (.aload_n 0, 1) := by decide +kernel
theorem dX12_ditches_247 : decode cX12_ditches 247 = .ok (.getfield 16, 3) := by decide +kernel
theorem dX12_ditches_250 : decode cX12_ditches 250 = .ok (.iload_n 1, 1) := by decide +kernel
theorem dX12_ditches_251 : decode cX12_ditches 251 = .ok (.iaload, 1) := by decide +kernel
theorem dX12_ditches_252 : decode cX12_ditches 252 = .ok (.isub, 1) := by decide +kernel
theorem dX12_ditches_253 : decode cX12_ditches 253 = .ok (.iastore, 1) := by decide +kernel
theorem dX12_ditches_254 : decode cX12_ditches 254 = .ok (.aload_n 0, 1) := by decide +kernel
theorem dX12_ditches_255 : decode cX12_ditches 255 = .ok (.getfield 9, 3) := by decide +kernel
theorem dX12_ditches_258 : decode cX12_ditches 258 = .ok (.sipush 480, 3) := by decide +kernel
theorem dX12_ditches_261 : decode cX12_ditches 261 = .ok (.iload_n 1, 1) := by decide +kernel
theorem dX12_ditches_262 : decode cX12_ditches 262 = .ok (.iadd, 1) := by decide +kernel
theorem dX12_ditches_263 : decode cX12_ditches 263 = .ok (.dup2, 1) := by decide +kernel
theorem dX12_ditches_264 : decode cX12_ditches 264 = .ok (.iaload, 1) := by decide +kernel
theorem dX12_ditches_265 : decode cX12_ditches 265 = .ok (.aload_n 0, 1) := by decide +kernel
theorem dX12_ditches_266 : decode cX12_ditches 266 = .ok (.getfield 22, 3) := by decide +kernel
theorem dX12_ditches_269 : decode cX12_ditches 269 = .ok (.iload_n 1, 1) := by decide +kernel
theorem dX12_ditches_270 : decode cX12_ditches 270 = .ok (.iaload, 1) := by decide +kernel
theorem dX12_ditches_271 : decode cX12_ditches 271 = .ok (.isub, 1) := by decide +kernel
theorem dX12_ditches_272 : decode cX12_ditches 272 = .ok (.iastore, 1) := by decide +kernel
theorem dX12_ditches_273 : decode cX12_ditches 273 = .ok (.aload_n 0, 1) := by decide +kernel
theorem dX12_ditches_274 : decode cX12_ditches 274 = .ok (.getfield 9, 3) := by decide +kernel
theorem dX12_ditches_277 : decode cX12_ditches 277 = .ok (.sipush 384, 3) := by decide +kernel
theorem dX12_ditches_280 : decode cX12_ditches 280 = .ok (.aload_n 0, 1) := by decide +kernel
theorem dX12_ditches_281 : decode cX12_ditches 281 = .ok (.getfield 19, 3) := by decide +kernel
theorem dX12_ditches_284 : decode cX12_ditches 284 = .ok (.iload_n 1, 1) := by decide +kernel
theorem dX12_ditches_285 : decode cX12_ditches 285 = .ok (.iaload, 1) := by decide +kernel
theorem dX12_ditches_286 : decode cX12_ditches 286 = .ok (.iadd, 1) := by decide +kernel
theorem dX12_ditches_287 : decode cX12_ditches 287 = .ok (.dup2, 1) := by decide +kernel
theorem dX12_ditches_288 : decode cX12_ditches 288 = .ok (.iaload, 1) := by decide +kernel
theorem dX12_ditches_289 : decode cX12_ditches 289 = .ok (.aload_n 0, 1) := by decide +kernel
theorem dX12_ditches_290 : decode cX12_ditches 290 = .ok (.getfield 16, 3) := by decide +kernel
theorem dX12_ditches_293 : decode cX12_ditches 293 = .ok (.iload_n 1, 1) := by decide +kernel
theorem dX12_ditches_294 : decode cX12_ditches 294 = .ok (.iaload, 1) := by decide +kernel
theorem dX12_ditches_295 : decode cX12_ditches 295 = .ok (.iadd, 1) := by decide +kernel
theorem dX12_ditches_296 : decode cX12_ditches 296 = .ok (.iastore, 1) := by decide +kernel
theorem dX12_ditches_297 : decode cX12_ditches 297 = .ok (.aload_n 0, 1) := by decide +kernel
theorem dX12_ditches_298 : decode cX12_ditches 298 = .ok (.getfield 9, 3) := by decide +kernel
theorem dX12_ditches_301 : decode cX12_ditches 301 = .ok (.sipush 480, 3) := by decide +kernel
theorem dX12_ditches_304 : decode cX12_ditches 304 = .ok (.aload_n 0, 1) := by decide +kernel
theorem dX12_ditches_305 : decode cX12_ditches 305 = .ok (.getfield 19, 3) := by decide +kernel
theorem dX12_ditches_308 : decode cX12_ditches 308 = .ok (.iload_n 1, 1) := by decide +kernel
theorem dX12_ditches_309 : decode cX12_ditches 309 = .ok (.iaload, 1) := by decide +kernel
theorem dX12_ditches_310 : decode cX12_ditches 310 = .ok (.iadd, 1) := by decide +kernel
theorem dX12_ditches_311 : decode cX12_ditches 311 = .ok (.dup2, 1) := by decide +kernel
theorem dX12_ditches_312 : decode cX12_ditches 312 = .ok (.iaload, 1) := by decide +kernel
theorem dX12_ditches_313 : decode cX12_ditches 313 = .ok (.aload_n 0, 1) := by decide +kernel
theorem dX12_ditches_314 : decode cX12_ditches 314 = .ok (.getfield 22, 3) := by decide +kernel
theorem dX12_ditches_317 : decode cX12_ditches 317 = .ok (.iload_n 1, 1) := by decide +kernel
theorem dX12_ditches_318 : decode cX12_ditches 318 = .ok (.iaload, 1) := by decide +kernel
theorem dX12_ditches_319 : decode cX12_ditches 319 = .ok (.iadd, 1) := by decide +kernel
theorem dX12_ditches_320 : decode cX12_ditches 320 = .ok (.iastore, 1) := by decide +kernel
theorem dX12_ditches_321 : decode cX12_ditches 321 = .ok (.iinc 1 1, 3) := by decide +kernel
theorem dX12_ditches_324 : decode cX12_ditches 324 = .ok (.goto (-107), 3) := by decide +kernel
theorem dX12_ditches_327 : decode cX12_ditches 327 = .ok (.return_, 1) := by decide +kernel
theorem dX12_hasDitch_0 : decode cX12_hasDitch 0 = .ok (.aload_n 0, 1) := by decide +kernel
theorem dX12_hasDitch_1 : decode cX12_hasDitch 1 = .ok (.iload_n 1, 1) := by decide +kernel
theorem dX12_hasDitch_2 : decode cX12_hasDitch 2 = .ok (.invokevirtual 235, 3) := by decide +kernel
theorem dX12_hasDitch_5 : decode cX12_hasDitch 5 = .ok (.ifCond .eq 20, 3) := by decide +kernel
theorem dX12_hasDitch_8 : decode cX12_hasDitch 8 = .ok (.aload_n 0, 1) := by decide +kernel
theorem dX12_hasDitch_9 : decode cX12_hasDitch 9 = .ok (.getfield 9, 3) := by decide +kernel
theorem dX12_hasDitch_12 : decode cX12_hasDitch 12 = .ok (.sipush 288, 3) := by decide +kernel
theorem dX12_hasDitch_15 : decode cX12_hasDitch 15 = .ok (.iload_n 1, 1) := by decide +kernel
theorem dX12_hasDitch_16 : decode cX12_hasDitch 16 = .ok (.iadd, 1) := by decide +kernel
theorem dX12_hasDitch_17 : decode cX12_hasDitch 17 = .ok (.iaload, 1) := by decide +kernel
theorem dX12_hasDitch_18 : decode cX12_hasDitch 18 = .ok (.ifCond .le 7, 3) := by decide +kernel
theorem dX12_hasDitch_21 : decode cX12_hasDitch 21 = .ok (.iconst 1, 1) := by decide +kernel
theorem dX12_hasDitch_22 : decode cX12_hasDitch 22 = .ok (.goto 4, 3) := by decide +kernel
theorem dX12_hasDitch_25 : decode cX12_hasDitch 25 = .ok (.iconst 0, 1) := by decide +kernel
theorem dX12_hasDitch_26 : decode cX12_hasDitch 26 = .ok (.ireturn, 1) := by decide +kernel
theorem dX12_dayEnds_0 : decode cX12_dayEnds 0 = .ok (.iconst 0, 1) := by decide +kernel
theorem dX12_dayEnds_1 : decode cX12_dayEnds 1 = .ok (.istore_n 1, 1) := by decide +kernel
theorem dX12_dayEnds_2 : decode cX12_dayEnds 2 = .ok (.iload_n 1, 1) := by decide +kernel
theorem dX12_dayEnds_3 : decode cX12_dayEnds 3 = .ok (.bipush 96, 2) := by decide +kernel
theorem dX12_dayEnds_5 : decode cX12_dayEnds 5 = .ok (.if_icmp .ge 163, 3) := by decide +kernel
theorem dX12_dayEnds_8 : decode cX12_dayEnds 8 = .ok (.aload_n 0, 1) := by decide +kernel
theorem dX12_dayEnds_9 : decode cX12_dayEnds 9 = .ok (.iload_n 1, 1) := by decide +kernel
theorem dX12_dayEnds_10 : decode cX12_dayEnds 10 = .ok (.invokevirtual 235, 3) := by decide +kernel
theorem dX12_dayEnds_13 : decode cX12_dayEnds 13 = .ok (.ifCond .ne 6, 3) := by decide +kernel
theorem dX12_dayEnds_16 : decode cX12_dayEnds 16 = .ok (.goto 146, 3) := by decide +kernel
theorem dX12_dayEnds_19 : decode cX12_dayEnds 19 = .ok (.aload_n 0, 1) := by decide +kernel
theorem dX12_dayEnds_20 : decode cX12_dayEnds 20 = .ok (.getfield 9, 3) := by decide +kernel
theorem dX12_dayEnds_23 : decode cX12_dayEnds 23 = .ok (.sipush 384, 3) := by decide +kernel
theorem dX12_dayEnds_26 : decode cX12_dayEnds 26 = .ok (.iload_n 1, 1) := by decide +kernel
theorem dX12_dayEnds_27 : decode cX12_dayEnds 27 = .ok (.iadd, 1) := by decide +kernel
theorem dX12_dayEnds_28 : decode cX12_dayEnds 28 = .ok (.iaload, 1) := by decide +kernel
theorem dX12_dayEnds_29 : decode cX12_dayEnds 29 = .ok (.ifCond .le 31, 3) := by decide +kernel
theorem dX12_dayEnds_32 : decode cX12_dayEnds 32 = .ok (.aload_n 0, 1) := by decide +kernel
theorem dX12_dayEnds_33 : decode cX12_dayEnds 33 = .ok (.getfield 9, 3) := by decide +kernel
theorem dX12_dayEnds_36 : decode cX12_dayEnds 36 = .ok (.sipush 576, 3) := by decide +kernel
theorem dX12_dayEnds_39 : decode cX12_dayEnds 39 = .ok (.iload_n 1, 1) := by decide +kernel
theorem dX12_dayEnds_40 : decode cX12_dayEnds 40 = .ok (.iadd, 1) := by decide +kernel
theorem dX12_dayEnds_41 : decode cX12_dayEnds 41 = .ok (.iconst 0, 1) := by decide +kernel
theorem dX12_dayEnds_42 : decode cX12_dayEnds 42 = .ok (.iastore, 1) := by decide +kernel
theorem dX12_dayEnds_43 : decode cX12_dayEnds 43 = .ok (.aload_n 0, 1) := by decide +kernel
theorem dX12_dayEnds_44 : decode cX12_dayEnds 44 = .ok (.getfield 9, 3) := by decide +kernel
theorem dX12_dayEnds_47 : decode cX12_dayEnds 47 = .ok (.sipush 672, 3) := by decide +kernel
theorem dX12_dayEnds_50 : decode cX12_dayEnds 50 = .ok (.iload_n 1, 1) := by decide +kernel
theorem dX12_dayEnds_51 : decode cX12_dayEnds 51 = .ok (.iadd, 1) := by decide +kernel
theorem dX12_dayEnds_52 : decode cX12_dayEnds 52 = .ok (.dup2, 1) := by decide +kernel
theorem dX12_dayEnds_53 : decode cX12_dayEnds 53 = .ok (.iaload, 1) := by decide +kernel
theorem dX12_dayEnds_54 : decode cX12_dayEnds 54 = .ok (.iconst 1, 1) := by decide +kernel
theorem dX12_dayEnds_55 : decode cX12_dayEnds 55 = .ok (.iadd, 1) := by decide +kernel
theorem dX12_dayEnds_56 : decode cX12_dayEnds 56 = .ok (.iastore, 1) := by decide +kernel
theorem dX12_dayEnds_57 : decode cX12_dayEnds 57 = .ok (.goto 105, 3) := by decide +kernel
theorem dX12_dayEnds_60 : decode cX12_dayEnds 60 = .ok (.aload_n 0, 1) := by decide +kernel
theorem dX12_dayEnds_61 : decode cX12_dayEnds 61 = .ok (.getfield 9, 3) := by decide +kernel
theorem dX12_dayEnds_64 : decode cX12_dayEnds 64 = .ok (.sipush 576, 3) := by decide +kernel
theorem dX12_dayEnds_67 : decode cX12_dayEnds 67 = .ok (.iload_n 1, 1) := by decide +kernel
theorem dX12_dayEnds_68 : decode cX12_dayEnds 68 = .ok (.iadd, 1) := by decide +kernel
theorem dX12_dayEnds_69 : decode cX12_dayEnds 69 = .ok (.dup2, 1) := by decide +kernel
theorem dX12_dayEnds_70 : decode cX12_dayEnds 70 = .ok (.iaload, 1) := by decide +kernel
theorem dX12_dayEnds_71 : decode cX12_dayEnds 71 = .ok (.iconst 1, 1) := by decide +kernel
theorem dX12_dayEnds_72 : decode cX12_dayEnds 72 = .ok (.iadd, 1) := by decide +kernel
theorem dX12_dayEnds_73 : decode cX12_dayEnds 73 = .ok (.iastore, 1) := by decide +kernel
theorem dX12_dayEnds_74 : decode cX12_dayEnds 74 = .ok (.aload_n 0, 1) := by decide +kernel
theorem dX12_dayEnds_75 : decode cX12_dayEnds 75 = .ok (.getfield 9, 3) := by decide +kernel
theorem dX12_dayEnds_78 : decode cX12_dayEnds 78 = .ok (.sipush 192, 3) := by decide +kernel
theorem dX12_dayEnds_81 : decode cX12_dayEnds 81 = .ok (.iload_n 1, 1) := by decide +kernel
theorem dX12_dayEnds_82 : decode cX12_dayEnds 82 = .ok (.iadd, 1) := by decide +kernel
theorem dX12_dayEnds_83 : decode cX12_dayEnds 83 = .ok (.iaload, 1) := by decide +kernel
theorem dX12_dayEnds_84 : decode cX12_dayEnds 84 = .ok (.iconst 2, 1) := by decide +kernel
theorem dX12_dayEnds_85 : decode cX12_dayEnds 85 = .ok (.if_icmp .ne 7, 3) := by decide +kernel
theorem dX12_dayEnds_88 : decode cX12_dayEnds 88 = .ok (.iconst 3, 1) := by decide +kernel
theorem dX12_dayEnds_89 : decode cX12_dayEnds 89 = .ok (.goto 5, 3) := by decide +kernel
theorem dX12_dayEnds_92 : decode cX12_dayEnds 92 = .ok (.bipush 10, 2) := by decide +kernel
theorem dX12_dayEnds_94 : decode cX12_dayEnds 94 = .ok (.istore_n 2, 1) := by decide +kernel
theorem dX12_dayEnds_95 : decode cX12_dayEnds 95 = .ok (.aload_n 0, 1) := by decide +kernel
theorem dX12_dayEnds_96 : decode cX12_dayEnds 96 = .ok (.getfield 9, 3) := by decide +kernel
theorem dX12_dayEnds_99 : decode cX12_dayEnds 99 = .ok (.sipush 192, 3) := by decide +kernel
theorem dX12_dayEnds_102 : decode cX12_dayEnds 102 = .ok (.iload_n 1, 1) := by decide +kernel
theorem dX12_dayEnds_103 : decode cX12_dayEnds 103 = .ok (.iadd, 1) := by decide +kernel
theorem dX12_dayEnds_104 : decode cX12_dayEnds 104 = .ok (.iaload, 1) := by decide +kernel
theorem dX12_dayEnds_105 : decode cX12_dayEnds 105 = .ok (.ifCond .le 31, 3) := by decide +kernel
theorem dX12_dayEnds_108 : decode cX12_dayEnds 108 = .ok (.aload_n 0, 1) := by decide +kernel
theorem dX12_dayEnds_109 : decode cX12_dayEnds 109 = .ok (.getfield 9, 3) := by decide +kernel
theorem dX12_dayEnds_112 : decode cX12_dayEnds 112 = .ok (.sipush 576, 3) := by decide +kernel
theorem dX12_dayEnds_115 : decode cX12_dayEnds 115 = .ok (.iload_n 1, 1) := by decide +kernel
theorem dX12_dayEnds_116 : decode cX12_dayEnds 116 = .ok (.iadd, 1) := by decide +kernel
theorem dX12_dayEnds_117 : decode cX12_dayEnds 117 = .ok (.iaload, 1) := by decide +kernel
theorem dX12_dayEnds_118 : decode cX12_dayEnds 118 = .ok (.iload_n 2, 1) := by decide +kernel
theorem dX12_dayEnds_119 : decode cX12_dayEnds 119 = .ok (.irem, 1) := by decide +kernel
theorem dX12_dayEnds_120 : decode cX12_dayEnds 120 = .ok (.ifCond .ne 16, 3) := by decide +kernel
theorem dX12_dayEnds_123 : decode cX12_dayEnds 123 = .ok (.aload_n 0, 1) := by decide +kernel
theorem dX12_dayEnds_124 : decode cX12_dayEnds 124 = .ok (.getfield 9, 3) := by decide +kernel
theorem dX12_dayEnds_127 : decode cX12_dayEnds 127 = .ok (.bipush 96, 2) := by decide +kernel
theorem dX12_dayEnds_129 : decode cX12_dayEnds 129 = .ok (.iload_n 1, 1) := by decide +kernel
theorem dX12_dayEnds_130 : decode cX12_dayEnds 130 = .ok (.iadd, 1) := by decide +kernel
theorem dX12_dayEnds_131 : decode cX12_dayEnds 131 = .ok (.dup2, 1) := by decide +kernel
theorem dX12_dayEnds_132 : decode cX12_dayEnds 132 = .ok (.iaload, 1) := by decide +kernel
theorem dX12_dayEnds_133 : decode cX12_dayEnds 133 = .ok (.iconst 1, 1) := by decide +kernel
theorem dX12_dayEnds_134 : decode cX12_dayEnds 134 = .ok (.isub, 1) := by decide +kernel
theorem dX12_dayEnds_135 : decode cX12_dayEnds 135 = .ok (.iastore, 1) := by decide +kernel
theorem dX12_dayEnds_136 : decode cX12_dayEnds 136 = .ok (.aload_n 0, 1) := by decide +kernel
theorem dX12_dayEnds_137 : decode cX12_dayEnds 137 = .ok (.getfield 9, 3) := by decide +kernel
theorem dX12_dayEnds_140 : decode cX12_dayEnds 140 = .ok (.sipush 480, 3) := by decide +kernel
theorem dX12_dayEnds_143 : decode cX12_dayEnds 143 = .ok (.iload_n 1, 1) := by decide +kernel
theorem dX12_dayEnds_144 : decode cX12_dayEnds 144 = .ok (.iadd, 1) := by decide +kernel
theorem dX12_dayEnds_145 : decode cX12_dayEnds 145 = .ok (.dup2, 1) := by decide +kernel
theorem dX12_dayEnds_146 : decode cX12_dayEnds 146 = .ok (.iaload, 1) := by decide +kernel
theorem dX12_dayEnds_147 : decode cX12_dayEnds 147 = .ok (.aload_n 0, 1) := by decide +kernel
theorem dX12_dayEnds_148 : decode cX12_dayEnds 148 = .ok (.getfield 9, 3) := by decide +kernel
theorem dX12_dayEnds_151 : decode cX12_dayEnds 151 = .ok (.sipush 480, 3) := by decide +kernel
theorem dX12_dayEnds_154 : decode cX12_dayEnds 154 = .ok (.iload_n 1, 1) := by decide +kernel
theorem dX12_dayEnds_155 : decode cX12_dayEnds 155 = .ok (.iadd, 1) := by decide +kernel
theorem dX12_dayEnds_156 : decode cX12_dayEnds 156 = .ok (.iaload, 1) := by decide +kernel
theorem dX12_dayEnds_157 : decode cX12_dayEnds 157 = .ok (.bipush 100, 2) := by decide +kernel
theorem dX12_dayEnds_159 : decode cX12_dayEnds 159 = .ok (.idiv, 1) := by decide +kernel
theorem dX12_dayEnds_160 : decode cX12_dayEnds 160 = .ok (.isub, 1) := by decide +kernel
theorem dX12_dayEnds_161 : decode cX12_dayEnds 161 = .ok (.iastore, 1) := by decide +kernel
theorem dX12_dayEnds_162 : decode cX12_dayEnds 162 = .ok (.iinc 1 1, 3) := by decide +kernel
theorem dX12_dayEnds_165 : decode cX12_dayEnds 165 = .ok (.goto (-163), 3) := by decide +kernel
theorem dX12_dayEnds_168 : decode cX12_dayEnds 168 = .ok (.return_, 1) := by decide +kernel
theorem dX12_writesRow_0 : decode cX12_writesRow 0 = .ok (.aload_n 0, 1) := by decide +kernel
theorem dX12_writesRow_1 : decode cX12_writesRow 1 = .ok (.getfield 238, 3) := by decide +kernel
theorem dX12_writesRow_4 : decode cX12_writesRow 4 = .ok (.bipush 24, 2) := by decide +kernel
theorem dX12_writesRow_6 : decode cX12_writesRow 6 = .ok (.if_icmp .ne 59, 3) := by decide +kernel
theorem dX12_writesRow_9 : decode cX12_writesRow 9 = .ok (.bipush 96, 2) := by decide +kernel
theorem dX12_writesRow_11 : decode cX12_writesRow 11 = .ok (.istore_n 1, 1) := by decide +kernel
theorem dX12_writesRow_12 : decode cX12_writesRow 12 = .ok (.iload_n 1, 1) := by decide +kernel
theorem dX12_writesRow_13 : decode cX12_writesRow 13 = .ok (.sipush 2304, 3) := by decide +kernel
theorem dX12_writesRow_16 : decode cX12_writesRow 16 = .ok (.if_icmp .ge 39, 3) := by decide +kernel
theorem dX12_writesRow_19 : decode cX12_writesRow 19 = .ok (.aload_n 0, 1) := by decide +kernel
theorem dX12_writesRow_20 : decode cX12_writesRow 20 = .ok (.getfield 25, 3) := by decide +kernel
theorem dX12_writesRow_23 : decode cX12_writesRow 23 = .ok (.iload_n 1, 1) := by decide +kernel
theorem dX12_writesRow_24 : decode cX12_writesRow 24 = .ok (.bipush 96, 2) := by decide +kernel
theorem dX12_writesRow_26 : decode cX12_writesRow 26 = .ok (.isub, 1) := by decide +kernel
theorem dX12_writesRow_27 : decode cX12_writesRow 27 = .ok (.aload_n 0, 1) := by decide +kernel
theorem dX12_writesRow_28 : decode cX12_writesRow 28 = .ok (.getfield 25, 3) := by decide +kernel
theorem dX12_writesRow_31 : decode cX12_writesRow 31 = .ok (.iload_n 1, 1) := by decide +kernel
theorem dX12_writesRow_32 : decode cX12_writesRow 32 = .ok (.iaload, 1) := by decide +kernel
theorem dX12_writesRow_33 : decode cX12_writesRow 33 = .ok (.iastore, 1) := by decide +kernel
theorem dX12_writesRow_34 : decode cX12_writesRow 34 = .ok (.aload_n 0, 1) := by decide +kernel
theorem dX12_writesRow_35 : decode cX12_writesRow 35 = .ok (.getfield 28, 3) := by decide +kernel
theorem dX12_writesRow_38 : decode cX12_writesRow 38 = .ok (.iload_n 1, 1) := by decide +kernel
theorem dX12_writesRow_39 : decode cX12_writesRow 39 = .ok (.bipush 96, 2) := by decide +kernel
theorem dX12_writesRow_41 : decode cX12_writesRow 41 = .ok (.isub, 1) := by decide +kernel
theorem dX12_writesRow_42 : decode cX12_writesRow 42 = .ok (.aload_n 0, 1) := by decide +kernel
theorem dX12_writesRow_43 : decode cX12_writesRow 43 = .ok (.getfield 28, 3) := by decide +kernel
theorem dX12_writesRow_46 : decode cX12_writesRow 46 = .ok (.iload_n 1, 1) := by decide +kernel
theorem dX12_writesRow_47 : decode cX12_writesRow 47 = .ok (.iaload, 1) := by decide +kernel
theorem dX12_writesRow_48 : decode cX12_writesRow 48 = .ok (.iastore, 1) := by decide +kernel
theorem dX12_writesRow_49 : decode cX12_writesRow 49 = .ok (.iinc 1 1, 3) := by decide +kernel
theorem dX12_writesRow_52 : decode cX12_writesRow 52 = .ok (.goto (-40), 3) := by decide +kernel
theorem dX12_writesRow_55 : decode cX12_writesRow 55 = .ok (.aload_n 0, 1) := by decide +kernel
theorem dX12_writesRow_56 : decode cX12_writesRow 56 = .ok (.dup, 1) := by decide +kernel
theorem dX12_writesRow_57 : decode cX12_writesRow 57 = .ok (.getfield 238, 3) := by decide +kernel
theorem dX12_writesRow_60 : decode cX12_writesRow 60 = .ok (.iconst 1, 1) := by decide +kernel
theorem dX12_writesRow_61 : decode cX12_writesRow 61 = .ok (.isub, 1) := by decide +kernel
theorem dX12_writesRow_62 : decode cX12_writesRow 62 = .ok (.putfield 238, 3) := by decide +kernel
theorem dX12_writesRow_65 : decode cX12_writesRow 65 = .ok (.iconst 0, 1) := by decide +kernel
theorem dX12_writesRow_66 : decode cX12_writesRow 66 = .ok (.istore_n 1, 1) := by decide +kernel
theorem dX12_writesRow_67 : decode cX12_writesRow 67 = .ok (.iload_n 1, 1) := by decide +kernel
theorem dX12_writesRow_68 : decode cX12_writesRow 68 = .ok (.bipush 96, 2) := by decide +kernel
theorem dX12_writesRow_70 : decode cX12_writesRow 70 = .ok (.if_icmp .ge 47, 3) := by decide +kernel
theorem dX12_writesRow_73 : decode cX12_writesRow 73 = .ok (.aload_n 0, 1) := by decide +kernel
theorem dX12_writesRow_74 : decode cX12_writesRow 74 = .ok (.getfield 25, 3) := by decide +kernel
theorem dX12_writesRow_77 : decode cX12_writesRow 77 = .ok (.bipush 96, 2) := by decide +kernel
theorem dX12_writesRow_79 : decode cX12_writesRow 79 = .ok (.aload_n 0, 1) := by decide +kernel
theorem dX12_writesRow_80 : decode cX12_writesRow 80 = .ok (.getfield 238, 3) := by decide +kernel
theorem dX12_writesRow_83 : decode cX12_writesRow 83 = .ok (.imul, 1) := by decide +kernel
theorem dX12_writesRow_84 : decode cX12_writesRow 84 = .ok (.iload_n 1, 1) := by decide +kernel
theorem dX12_writesRow_85 : decode cX12_writesRow 85 = .ok (.iadd, 1) := by decide +kernel
theorem dX12_writesRow_86 : decode cX12_writesRow 86 = .ok (.aload_n 0, 1) := by decide +kernel
theorem dX12_writesRow_87 : decode cX12_writesRow 87 = .ok (.iload_n 1, 1) := by decide +kernel
theorem dX12_writesRow_88 : decode cX12_writesRow 88 = .ok (.invokevirtual 285, 3) := by decide +kernel
theorem dX12_writesRow_91 : decode cX12_writesRow 91 = .ok (.iastore, 1) := by decide +kernel
theorem dX12_writesRow_92 : decode cX12_writesRow 92 = .ok (.aload_n 0, 1) := by decide +kernel
theorem dX12_writesRow_93 : decode cX12_writesRow 93 = .ok (.getfield 28, 3) := by decide +kernel
theorem dX12_writesRow_96 : decode cX12_writesRow 96 = .ok (.bipush 96, 2) := by decide +kernel
theorem dX12_writesRow_98 : decode cX12_writesRow 98 = .ok (.aload_n 0, 1) := by decide +kernel
theorem dX12_writesRow_99 : decode cX12_writesRow 99 = .ok (.getfield 238, 3) := by decide +kernel
theorem dX12_writesRow_102 : decode cX12_writesRow 102 = .ok (.imul, 1) := by decide +kernel
theorem dX12_writesRow_103 : decode cX12_writesRow 103 = .ok (.iload_n 1, 1) := by decide +kernel
theorem dX12_writesRow_104 : decode cX12_writesRow 104 = .ok (.iadd, 1) := by decide +kernel
theorem dX12_writesRow_105 : decode cX12_writesRow 105 = .ok (.aload_n 0, 1) := by decide +kernel
theorem dX12_writesRow_106 : decode cX12_writesRow 106 = .ok (.iload_n 1, 1) := by decide +kernel
theorem dX12_writesRow_107 : decode cX12_writesRow 107 = .ok (.invokevirtual 285, 3) := by decide +kernel
theorem dX12_writesRow_110 : decode cX12_writesRow 110 = .ok (.iastore, 1) := by decide +kernel
theorem dX12_writesRow_111 : decode cX12_writesRow 111 = .ok (.iinc 1 1, 3) := by decide +kernel
theorem dX12_writesRow_114 : decode cX12_writesRow 114 = .ok (.goto (-47), 3) := by decide +kernel
theorem dX12_writesRow_117 : decode cX12_writesRow 117 = .ok (.aload_n 0, 1) := by decide +kernel
theorem dX12_writesRow_118 : decode cX12_writesRow 118 = .ok (.dup, 1) := by decide +kernel
theorem dX12_writesRow_119 : decode cX12_writesRow 119 = .ok (.getfield 238, 3) := by decide +kernel
theorem dX12_writesRow_122 : decode cX12_writesRow 122 = .ok (.iconst 1, 1) := by decide +kernel
theorem dX12_writesRow_123 : decode cX12_writesRow 123 = .ok (.iadd, 1) := by decide +kernel
theorem dX12_writesRow_124 : decode cX12_writesRow 124 = .ok (.putfield 238, 3) := by decide +kernel
theorem dX12_writesRow_127 : decode cX12_writesRow 127 = .ok (.return_, 1) := by decide +kernel
theorem dX12_found_0 : decode cX12_found 0 = .ok (.aload_n 0, 1) := by decide +kernel
theorem dX12_found_1 : decode cX12_found 1 = .ok (.iconst 0, 1) := by decide +kernel
theorem dX12_found_2 : decode cX12_found 2 = .ok (.putfield 194, 3) := by decide +kernel
theorem dX12_found_5 : decode cX12_found 5 = .ok (.aload_n 0, 1) := by decide +kernel
theorem dX12_found_6 : decode cX12_found 6 = .ok (.iconst 0, 1) := by decide +kernel
theorem dX12_found_7 : decode cX12_found 7 = .ok (.aload_n 0, 1) := by decide +kernel
theorem dX12_found_8 : decode cX12_found 8 = .ok (.invokevirtual 460, 3) := by decide +kernel
theorem dX12_found_11 : decode cX12_found 11 = .ok (.ifCond .le 7, 3) := by decide +kernel
theorem dX12_found_14 : decode cX12_found 14 = .ok (.iconst 1, 1) := by decide +kernel
theorem dX12_found_15 : decode cX12_found 15 = .ok (.goto 4, 3) := by decide +kernel
theorem dX12_found_18 : decode cX12_found 18 = .ok (.iconst 0, 1) := by decide +kernel
theorem dX12_found_19 : decode cX12_found 19 = .ok (.invokevirtual 463, 3) := by decide +kernel
theorem dX12_found_22 : decode cX12_found 22 = .ok (.ireturn, 1) := by decide +kernel
theorem dX12_propose_0 : decode cX12_propose 0 = .ok (.aload_n 0, 1) := by decide +kernel
theorem dX12_propose_1 : decode cX12_propose 1 = .ok (.iconst 0, 1) := by decide +kernel
theorem dX12_propose_2 : decode cX12_propose 2 = .ok (.putfield 194, 3) := by decide +kernel
theorem dX12_propose_5 : decode cX12_propose 5 = .ok (.aload_n 0, 1) := by decide +kernel
theorem dX12_propose_6 : decode cX12_propose 6 = .ok (.iconst 1, 1) := by decide +kernel
theorem dX12_propose_7 : decode cX12_propose 7 = .ok (.aload_n 0, 1) := by decide +kernel
theorem dX12_propose_8 : decode cX12_propose 8 = .ok (.getfield 523, 3) := by decide +kernel
theorem dX12_propose_11 : decode cX12_propose 11 = .ok (.invokevirtual 463, 3) := by decide +kernel
theorem dX12_propose_14 : decode cX12_propose 14 = .ok (.istore_n 1, 1) := by decide +kernel
theorem dX12_propose_15 : decode cX12_propose 15 = .ok (.aload_n 0, 1) := by decide +kernel
theorem dX12_propose_16 : decode cX12_propose 16 = .ok (.getfield 194, 3) := by decide +kernel
theorem dX12_propose_19 : decode cX12_propose 19 = .ok (.ifCond .eq 5, 3) := by decide +kernel
theorem dX12_propose_22 : decode cX12_propose 22 = .ok (.iconst 0, 1) := by decide +kernel
theorem dX12_propose_23 : decode cX12_propose 23 = .ok (.ireturn, 1) := by decide +kernel
theorem dX12_propose_24 : decode cX12_propose 24 = .ok (.aload_n 0, 1) := by decide +kernel
theorem dX12_propose_25 : decode cX12_propose 25 = .ok (.iconst 1, 1) := by decide +kernel
theorem dX12_propose_26 : decode cX12_propose 26 = .ok (.putfield 523, 3) := by decide +kernel
theorem dX12_propose_29 : decode cX12_propose 29 = .ok (.aload_n 0, 1) := by decide +kernel
theorem dX12_propose_30 : decode cX12_propose 30 = .ok (.lconst 0, 1) := by decide +kernel
theorem dX12_propose_31 : decode cX12_propose 31 = .ok (.putfield 526, 3) := by decide +kernel
theorem dX12_propose_34 : decode cX12_propose 34 = .ok (.aload_n 0, 1) := by decide +kernel
theorem dX12_propose_35 : decode cX12_propose 35 = .ok (.lconst 0, 1) := by decide +kernel
theorem dX12_propose_36 : decode cX12_propose 36 = .ok (.putfield 530, 3) := by decide +kernel
theorem dX12_propose_39 : decode cX12_propose 39 = .ok (.iconst 0, 1) := by decide +kernel
theorem dX12_propose_40 : decode cX12_propose 40 = .ok (.istore_n 2, 1) := by decide +kernel
theorem dX12_propose_41 : decode cX12_propose 41 = .ok (.iload_n 2, 1) := by decide +kernel
theorem dX12_propose_42 : decode cX12_propose 42 = .ok (.bipush 60, 2) := by decide +kernel
theorem dX12_propose_44 : decode cX12_propose 44 = .ok (.if_icmp .ge 16, 3) := by decide +kernel
theorem dX12_propose_47 : decode cX12_propose 47 = .ok (.aload_n 0, 1) := by decide +kernel
theorem dX12_propose_48 : decode cX12_propose 48 = .ok (.getfield 134, 3) := by decide +kernel
theorem dX12_propose_51 : decode cX12_propose 51 = .ok (.iload_n 2, 1) := by decide +kernel
theorem dX12_propose_52 : decode cX12_propose 52 = .ok (.iconst 0, 1) := by decide +kernel
theorem dX12_propose_53 : decode cX12_propose 53 = .ok (.bastore, 1) := by decide +kernel
theorem dX12_propose_54 : decode cX12_propose 54 = .ok (.iinc 2 1, 3) := by decide +kernel
theorem dX12_propose_57 : decode cX12_propose 57 = .ok (.goto (-16), 3) := by decide +kernel
theorem dX12_propose_60 : decode cX12_propose 60 = .ok (.iload_n 1, 1) := by decide +kernel
theorem dX12_propose_61 : decode cX12_propose 61 = .ok (.ireturn, 1) := by decide +kernel
theorem dX12_reads_0 : decode cX12_reads 0 = .ok (.aload_n 0, 1) := by decide +kernel
theorem dX12_reads_1 : decode cX12_reads 1 = .ok (.invokevirtual 454, 3) := by decide +kernel
theorem dX12_reads_4 : decode cX12_reads 4 = .ok (.istore_n 3, 1) := by decide +kernel
theorem dX12_reads_5 : decode cX12_reads 5 = .ok (.aload_n 0, 1) := by decide +kernel
theorem dX12_reads_6 : decode cX12_reads 6 = .ok (.iload_n 3, 1) := by decide +kernel
theorem dX12_reads_7 : decode cX12_reads 7 = .ok (.ifCond .ge 10, 3) := by decide +kernel
theorem dX12_reads_10 : decode cX12_reads 10 = .ok (.aload_n 0, 1) := by decide +kernel
theorem dX12_reads_11 : decode cX12_reads 11 = .ok (.getfield 345, 3) := by decide +kernel
theorem dX12_reads_14 : decode cX12_reads 14 = .ok (.goto 4, 3) := by decide +kernel
theorem dX12_reads_17 : decode cX12_reads 17 = .ok (.iconst (-1), 1) := by decide +kernel
theorem dX12_reads_18 : decode cX12_reads 18 = .ok (.putfield 35, 3) := by decide +kernel
theorem dX12_reads_21 : decode cX12_reads 21 = .ok (.aload_n 0, 1) := by decide +kernel
theorem dX12_reads_22 : decode cX12_reads 22 = .ok (.iload_n 3, 1) := by decide +kernel
theorem dX12_reads_23 : decode cX12_reads 23 = .ok (.ifCond .ge 7, 3) := by decide +kernel
theorem dX12_reads_26 : decode cX12_reads 26 = .ok (.iconst 1, 1) := by decide +kernel
theorem dX12_reads_27 : decode cX12_reads 27 = .ok (.goto 4, 3) := by decide +kernel
theorem dX12_reads_30 : decode cX12_reads 30 = .ok (.iconst 0, 1) := by decide +kernel
theorem dX12_reads_31 : decode cX12_reads 31 = .ok (.iconst 1, 1) := by decide +kernel
theorem dX12_reads_32 : decode cX12_reads 32 = .ok (.invokevirtual 224, 3) := by decide +kernel
theorem dX12_reads_35 : decode cX12_reads 35 = .ok (.ifCond .ne 12, 3) := by decide +kernel
theorem dX12_reads_38 : decode cX12_reads 38 = .ok (.aload_n 0, 1) := by decide +kernel
theorem dX12_reads_39 : decode cX12_reads 39 = .ok (.iload_n 2, 1) := by decide +kernel
theorem dX12_reads_40 : decode cX12_reads 40 = .ok (.iconst 2, 1) := by decide +kernel
theorem dX12_reads_41 : decode cX12_reads 41 = .ok (.invokevirtual 224, 3) := by decide +kernel
theorem dX12_reads_44 : decode cX12_reads 44 = .ok (.ifCond .eq 5, 3) := by decide +kernel
theorem dX12_reads_47 : decode cX12_reads 47 = .ok (.iconst 0, 1) := by decide +kernel
theorem dX12_reads_48 : decode cX12_reads 48 = .ok (.ireturn, 1) := by decide +kernel
theorem dX12_reads_49 : decode cX12_reads 49 = .ok (.aload_n 0, 1) := by decide +kernel
theorem dX12_reads_50 : decode cX12_reads 50 = .ok (.getfield 42, 3) := by decide +kernel
theorem dX12_reads_53 : decode cX12_reads 53 = .ok (.iconst 2, 1) := by decide +kernel
theorem dX12_reads_54 : decode cX12_reads 54 = .ok (.iload_n 3, 1) := by decide +kernel
theorem dX12_reads_55 : decode cX12_reads 55 = .ok (.iastore, 1) := by decide +kernel
theorem dX12_reads_56 : decode cX12_reads 56 = .ok (.aload_n 0, 1) := by decide +kernel
theorem dX12_reads_57 : decode cX12_reads 57 = .ok (.iconst 2, 1) := by decide +kernel
theorem dX12_reads_58 : decode cX12_reads 58 = .ok (.iload_n 1, 1) := by decide +kernel
theorem dX12_reads_59 : decode cX12_reads 59 = .ok (.invokevirtual 457, 3) := by decide +kernel
theorem dX12_reads_62 : decode cX12_reads 62 = .ok (.iload_n 3, 1) := by decide +kernel
theorem dX12_reads_63 : decode cX12_reads 63 = .ok (.ireturn, 1) := by decide +kernel
theorem dX12_readLaw_0 : decode cX12_readLaw 0 = .ok (.aload_n 0, 1) := by decide +kernel
theorem dX12_readLaw_1 : decode cX12_readLaw 1 = .ok (.aload_n 0, 1) := by decide +kernel
theorem dX12_readLaw_2 : decode cX12_readLaw 2 = .ok (.getfield 332, 3) := by decide +kernel
theorem dX12_readLaw_5 : decode cX12_readLaw 5 = .ok (.putfield 338, 3) := by decide +kernel
theorem dX12_readLaw_8 : decode cX12_readLaw 8 = .ok (.aload_n 0, 1) := by decide +kernel
theorem dX12_readLaw_9 : decode cX12_readLaw 9 = .ok (.iconst 0, 1) := by decide +kernel
theorem dX12_readLaw_10 : decode cX12_readLaw 10 = .ok (.putfield 332, 3) := by decide +kernel
theorem dX12_readLaw_13 : decode cX12_readLaw 13 = .ok (.aload_n 0, 1) := by decide +kernel
theorem dX12_readLaw_14 : decode cX12_readLaw 14 = .ok (.iconst 0, 1) := by decide +kernel
theorem dX12_readLaw_15 : decode cX12_readLaw 15 = .ok (.putfield 335, 3) := by decide +kernel
theorem dX12_readLaw_18 : decode cX12_readLaw 18 = .ok (.aload_n 0, 1) := by decide +kernel
theorem dX12_readLaw_19 : decode cX12_readLaw 19 = .ok (.iconst 0, 1) := by decide +kernel
theorem dX12_readLaw_20 : decode cX12_readLaw 20 = .ok (.putfield 367, 3) := by decide +kernel
theorem dX12_readLaw_23 : decode cX12_readLaw 23 = .ok (.aload_n 0, 1) := by decide +kernel
theorem dX12_readLaw_24 : decode cX12_readLaw 24 = .ok (.invokevirtual 348, 3) := by decide +kernel
theorem dX12_readLaw_27 : decode cX12_readLaw 27 = .ok (.aload_n 0, 1) := by decide +kernel
theorem dX12_readLaw_28 : decode cX12_readLaw 28 = .ok (.getfield 335, 3) := by decide +kernel
theorem dX12_readLaw_31 : decode cX12_readLaw 31 = .ok (.aload_n 0, 1) := by decide +kernel
theorem dX12_readLaw_32 : decode cX12_readLaw 32 = .ok (.getfield 338, 3) := by decide +kernel
theorem dX12_readLaw_35 : decode cX12_readLaw 35 = .ok (.if_icmp .ne 5, 3) := by decide +kernel
theorem dX12_readLaw_38 : decode cX12_readLaw 38 = .ok (.iconst 0, 1) := by decide +kernel
theorem dX12_readLaw_39 : decode cX12_readLaw 39 = .ok (.ireturn, 1) := by decide +kernel
theorem dX12_readLaw_40 : decode cX12_readLaw 40 = .ok (.iconst 0, 1) := by decide +kernel
theorem dX12_readLaw_41 : decode cX12_readLaw 41 = .ok (.istore_n 1, 1) := by decide +kernel
theorem dX12_readLaw_42 : decode cX12_readLaw 42 = .ok (.aload_n 0, 1) := by decide +kernel
theorem dX12_readLaw_43 : decode cX12_readLaw 43 = .ok (.iload_n 1, 1) := by decide +kernel
theorem dX12_readLaw_44 : decode cX12_readLaw 44 = .ok (.invokevirtual 451, 3) := by decide +kernel
theorem dX12_readLaw_47 : decode cX12_readLaw 47 = .ok (.ifCond .ne 5, 3) := by decide +kernel
theorem dX12_readLaw_50 : decode cX12_readLaw 50 = .ok (.iconst (-1), 1) := by decide +kernel
theorem dX12_readLaw_51 : decode cX12_readLaw 51 = .ok (.ireturn, 1) := by decide +kernel
theorem dX12_readLaw_52 : decode cX12_readLaw 52 = .ok (.aload_n 0, 1) := by decide +kernel
theorem dX12_readLaw_53 : decode cX12_readLaw 53 = .ok (.invokevirtual 348, 3) := by decide +kernel
theorem dX12_readLaw_56 : decode cX12_readLaw 56 = .ok (.aload_n 0, 1) := by decide +kernel
theorem dX12_readLaw_57 : decode cX12_readLaw 57 = .ok (.getfield 335, 3) := by decide +kernel
theorem dX12_readLaw_60 : decode cX12_readLaw 60 = .ok (.aload_n 0, 1) := by decide +kernel
theorem dX12_readLaw_61 : decode cX12_readLaw 61 = .ok (.getfield 338, 3) := by decide +kernel
theorem dX12_readLaw_64 : decode cX12_readLaw 64 = .ok (.if_icmp .ne 7, 3) := by decide +kernel
theorem dX12_readLaw_67 : decode cX12_readLaw 67 = .ok (.iload_n 1, 1) := by decide +kernel
theorem dX12_readLaw_68 : decode cX12_readLaw 68 = .ok (.iconst 1, 1) := by decide +kernel
theorem dX12_readLaw_69 : decode cX12_readLaw 69 = .ok (.iadd, 1) := by decide +kernel
theorem dX12_readLaw_70 : decode cX12_readLaw 70 = .ok (.ireturn, 1) := by decide +kernel
theorem dX12_readLaw_71 : decode cX12_readLaw 71 = .ok (.aload_n 0, 1) := by decide +kernel
theorem dX12_readLaw_72 : decode cX12_readLaw 72 = .ok (.bipush 59, 2) := by decide +kernel
theorem dX12_readLaw_74 : decode cX12_readLaw 74 = .ok (.bipush 59, 2) := by decide +kernel
theorem dX12_readLaw_76 : decode cX12_readLaw 76 = .ok (.invokevirtual 341, 3) := by decide +kernel
theorem dX12_readLaw_79 : decode cX12_readLaw 79 = .ok (.ifCond .ne 5, 3) := by decide +kernel
theorem dX12_readLaw_82 : decode cX12_readLaw 82 = .ok (.iconst (-1), 1) := by decide +kernel
theorem dX12_readLaw_83 : decode cX12_readLaw 83 = .ok (.ireturn, 1) := by decide +kernel
theorem dX12_readLaw_84 : decode cX12_readLaw 84 = .ok (.aload_n 0, 1) := by decide +kernel
theorem dX12_readLaw_85 : decode cX12_readLaw 85 = .ok (.dup, 1) := by decide +kernel
theorem dX12_readLaw_86 : decode cX12_readLaw 86 = .ok (.getfield 335, 3) := by decide +kernel
theorem dX12_readLaw_89 : decode cX12_readLaw 89 = .ok (.iconst 1, 1) := by decide +kernel
theorem dX12_readLaw_90 : decode cX12_readLaw 90 = .ok (.iadd, 1) := by decide +kernel
theorem dX12_readLaw_91 : decode cX12_readLaw 91 = .ok (.putfield 335, 3) := by decide +kernel
theorem dX12_readLaw_94 : decode cX12_readLaw 94 = .ok (.iinc 1 1, 3) := by decide +kernel
theorem dX12_readLaw_97 : decode cX12_readLaw 97 = .ok (.goto (-55), 3) := by decide +kernel
theorem dX12_blanks_0 : decode cX12_blanks 0 = .ok (.aload_n 0, 1) := by decide +kernel
theorem dX12_blanks_1 : decode cX12_blanks 1 = .ok (.bipush 32, 2) := by decide +kernel
theorem dX12_blanks_3 : decode cX12_blanks 3 = .ok (.bipush 32, 2) := by decide +kernel
theorem dX12_blanks_5 : decode cX12_blanks 5 = .ok (.invokevirtual 341, 3) := by decide +kernel
theorem dX12_blanks_8 : decode cX12_blanks 8 = .ok (.ifCond .eq 16, 3) := by decide +kernel
theorem dX12_blanks_11 : decode cX12_blanks 11 = .ok (.aload_n 0, 1) := by decide +kernel
theorem dX12_blanks_12 : decode cX12_blanks 12 = .ok (.dup, 1) := by decide +kernel
theorem dX12_blanks_13 : decode cX12_blanks 13 = .ok (.getfield 335, 3) := by decide +kernel
theorem dX12_blanks_16 : decode cX12_blanks 16 = .ok (.iconst 1, 1) := by decide +kernel
theorem dX12_blanks_17 : decode cX12_blanks 17 = .ok (.iadd, 1) := by decide +kernel
theorem dX12_blanks_18 : decode cX12_blanks 18 = .ok (.putfield 335, 3) := by decide +kernel
theorem dX12_blanks_21 : decode cX12_blanks 21 = .ok (.goto (-21), 3) := by decide +kernel
theorem dX12_blanks_24 : decode cX12_blanks 24 = .ok (.aload_n 0, 1) := by decide +kernel
theorem dX12_blanks_25 : decode cX12_blanks 25 = .ok (.aload_n 0, 1) := by decide +kernel
theorem dX12_blanks_26 : decode cX12_blanks 26 = .ok (.getfield 335, 3) := by decide +kernel
theorem dX12_blanks_29 : decode cX12_blanks 29 = .ok (.putfield 345, 3) := by decide +kernel
theorem dX12_blanks_32 : decode cX12_blanks 32 = .ok (.return_, 1) := by decide +kernel
theorem dX12_isAt_0 : decode cX12_isAt 0 = .ok (.aload_n 0, 1) := by decide +kernel
theorem dX12_isAt_1 : decode cX12_isAt 1 = .ok (.getfield 335, 3) := by decide +kernel
theorem dX12_isAt_4 : decode cX12_isAt 4 = .ok (.aload_n 0, 1) := by decide +kernel
theorem dX12_isAt_5 : decode cX12_isAt 5 = .ok (.getfield 338, 3) := by decide +kernel
theorem dX12_isAt_8 : decode cX12_isAt 8 = .ok (.if_icmp .ge 33, 3) := by decide +kernel
theorem dX12_isAt_11 : decode cX12_isAt 11 = .ok (.aload_n 0, 1) := by decide +kernel
theorem dX12_isAt_12 : decode cX12_isAt 12 = .ok (.getfield 31, 3) := by decide +kernel
theorem dX12_isAt_15 : decode cX12_isAt 15 = .ok (.aload_n 0, 1) := by decide +kernel
theorem dX12_isAt_16 : decode cX12_isAt 16 = .ok (.getfield 335, 3) := by decide +kernel
theorem dX12_isAt_19 : decode cX12_isAt 19 = .ok (.baload, 1) := by decide +kernel
theorem dX12_isAt_20 : decode cX12_isAt 20 = .ok (.iload_n 1, 1) := by decide +kernel
theorem dX12_isAt_21 : decode cX12_isAt 21 = .ok (.if_icmp .lt 20, 3) := by decide +kernel
theorem dX12_isAt_24 : decode cX12_isAt 24 = .ok (.aload_n 0, 1) := by decide +kernel
theorem dX12_isAt_25 : decode cX12_isAt 25 = .ok (.getfield 31, 3) := by decide +kernel
theorem dX12_isAt_28 : decode cX12_isAt 28 = .ok (.aload_n 0, 1) := by decide +kernel
theorem dX12_isAt_29 : decode cX12_isAt 29 = .ok (.getfield 335, 3) := by decide +kernel
theorem dX12_isAt_32 : decode cX12_isAt 32 = .ok (.baload, 1) := by decide +kernel
theorem dX12_isAt_33 : decode cX12_isAt 33 = .ok (.iload_n 2, 1) := by decide +kernel
theorem dX12_isAt_34 : decode cX12_isAt 34 = .ok (.if_icmp .gt 7, 3) := by decide +kernel
theorem dX12_isAt_37 : decode cX12_isAt 37 = .ok (.iconst 1, 1) := by decide +kernel
theorem dX12_isAt_38 : decode cX12_isAt 38 = .ok (.goto 4, 3) := by decide +kernel
theorem dX12_isAt_41 : decode cX12_isAt 41 = .ok (.iconst 0, 1) := by decide +kernel
theorem dX12_isAt_42 : decode cX12_isAt 42 = .ok (.ireturn, 1) := by decide +kernel
theorem dX12_copies_0 : decode cX12_copies 0 = .ok (.aload_n 0, 1) := by decide +kernel
theorem dX12_copies_1 : decode cX12_copies 1 = .ok (.getfield 42, 3) := by decide +kernel
theorem dX12_copies_4 : decode cX12_copies 4 = .ok (.iload_n 2, 1) := by decide +kernel
theorem dX12_copies_5 : decode cX12_copies 5 = .ok (.aload_n 0, 1) := by decide +kernel
theorem dX12_copies_6 : decode cX12_copies 6 = .ok (.getfield 42, 3) := by decide +kernel
theorem dX12_copies_9 : decode cX12_copies 9 = .ok (.iload_n 1, 1) := by decide +kernel
theorem dX12_copies_10 : decode cX12_copies 10 = .ok (.iaload, 1) := by decide +kernel
theorem dX12_copies_11 : decode cX12_copies 11 = .ok (.iastore, 1) := by decide +kernel
theorem dX12_copies_12 : decode cX12_copies 12 = .ok (.iconst 0, 1) := by decide +kernel
theorem dX12_copies_13 : decode cX12_copies 13 = .ok (.istore_n 3, 1) := by decide +kernel
theorem dX12_copies_14 : decode cX12_copies 14 = .ok (.iload_n 3, 1) := by decide +kernel
theorem dX12_copies_15 : decode cX12_copies 15 = .ok (.bipush 20, 2) := by decide +kernel
theorem dX12_copies_17 : decode cX12_copies 17 = .ok (.if_icmp .ge 163, 3) := by decide +kernel
theorem dX12_copies_20 : decode cX12_copies 20 = .ok (.aload_n 0, 1) := by decide +kernel
theorem dX12_copies_21 : decode cX12_copies 21 = .ok (.getfield 45, 3) := by decide +kernel
theorem dX12_copies_24 : decode cX12_copies 24 = .ok (.bipush 20, 2) := by decide +kernel
theorem dX12_copies_26 : decode cX12_copies 26 = .ok (.iload_n 2, 1) := by decide +kernel
theorem dX12_copies_27 : decode cX12_copies 27 = .ok (.imul, 1) := by decide +kernel
theorem dX12_copies_28 : decode cX12_copies 28 = .ok (.iload_n 3, 1) := by decide +kernel
theorem dX12_copies_29 : decode cX12_copies 29 = .ok (.iadd, 1) := by decide +kernel
theorem dX12_copies_30 : decode cX12_copies 30 = .ok (.aload_n 0, 1) := by decide +kernel
theorem dX12_copies_31 : decode cX12_copies 31 = .ok (.getfield 45, 3) := by decide +kernel
theorem dX12_copies_34 : decode cX12_copies 34 = .ok (.bipush 20, 2) := by decide +kernel
theorem dX12_copies_36 : decode cX12_copies 36 = .ok (.iload_n 1, 1) := by decide +kernel
theorem dX12_copies_37 : decode cX12_copies 37 = .ok (.imul, 1) := by decide +kernel
theorem dX12_copies_38 : decode cX12_copies 38 = .ok (.iload_n 3, 1) := by decide +kernel
theorem dX12_copies_39 : decode cX12_copies 39 = .ok (.iadd, 1) := by decide +kernel
theorem dX12_copies_40 : decode cX12_copies 40 = .ok (.iaload, 1) := by decide +kernel
theorem dX12_copies_41 : decode cX12_copies 41 = .ok (.iastore, 1) := by decide +kernel
theorem dX12_copies_42 : decode cX12_copies 42 = .ok (.aload_n 0, 1) := by decide +kernel
theorem dX12_copies_43 : decode cX12_copies 43 = .ok (.getfield 48, 3) := by decide +kernel
theorem dX12_copies_46 : decode cX12_copies 46 = .ok (.bipush 20, 2) := by decide +kernel
theorem dX12_copies_48 : decode cX12_copies 48 = .ok (.iload_n 2, 1) := by decide +kernel
theorem dX12_copies_49 : decode cX12_copies 49 = .ok (.imul, 1) := by decide +kernel
theorem dX12_copies_50 : decode cX12_copies 50 = .ok (.iload_n 3, 1) := by decide +kernel
theorem dX12_copies_51 : decode cX12_copies 51 = .ok (.iadd, 1) := by decide +kernel
theorem dX12_copies_52 : decode cX12_copies 52 = .ok (.aload_n 0, 1) := by decide +kernel
theorem dX12_copies_53 : decode cX12_copies 53 = .ok (.getfield 48, 3) := by decide +kernel
theorem dX12_copies_56 : decode cX12_copies 56 = .ok (.bipush 20, 2) := by decide +kernel
theorem dX12_copies_58 : decode cX12_copies 58 = .ok (.iload_n 1, 1) := by decide +kernel
theorem dX12_copies_59 : decode cX12_copies 59 = .ok (.imul, 1) := by decide +kernel
theorem dX12_copies_60 : decode cX12_copies 60 = .ok (.iload_n 3, 1) := by decide +kernel
theorem dX12_copies_61 : decode cX12_copies 61 = .ok (.iadd, 1) := by decide +kernel
theorem dX12_copies_62 : decode cX12_copies 62 = .ok (.iaload, 1) := by decide +kernel
theorem dX12_copies_63 : decode cX12_copies 63 = .ok (.iastore, 1) := by decide +kernel
theorem dX12_copies_64 : decode cX12_copies 64 = .ok (.aload_n 0, 1) := by decide +kernel
theorem dX12_copies_65 : decode cX12_copies 65 = .ok (.getfield 51, 3) := by decide +kernel
theorem dX12_copies_68 : decode cX12_copies 68 = .ok (.bipush 20, 2) := by decide +kernel
theorem dX12_copies_70 : decode cX12_copies 70 = .ok (.iload_n 2, 1) := by decide +kernel
theorem dX12_copies_71 : decode cX12_copies 71 = .ok (.imul, 1) := by decide +kernel
theorem dX12_copies_72 : decode cX12_copies 72 = .ok (.iload_n 3, 1) := by decide +kernel
theorem dX12_copies_73 : decode cX12_copies 73 = .ok (.iadd, 1) := by decide +kernel
theorem dX12_copies_74 : decode cX12_copies 74 = .ok (.aload_n 0, 1) := by decide +kernel
theorem dX12_copies_75 : decode cX12_copies 75 = .ok (.getfield 51, 3) := by decide +kernel
theorem dX12_copies_78 : decode cX12_copies 78 = .ok (.bipush 20, 2) := by decide +kernel
theorem dX12_copies_80 : decode cX12_copies 80 = .ok (.iload_n 1, 1) := by decide +kernel
theorem dX12_copies_81 : decode cX12_copies 81 = .ok (.imul, 1) := by decide +kernel
theorem dX12_copies_82 : decode cX12_copies 82 = .ok (.iload_n 3, 1) := by decide +kernel
theorem dX12_copies_83 : decode cX12_copies 83 = .ok (.iadd, 1) := by decide +kernel
theorem dX12_copies_84 : decode cX12_copies 84 = .ok (.iaload, 1) := by decide +kernel
theorem dX12_copies_85 : decode cX12_copies 85 = .ok (.iastore, 1) := by decide +kernel
theorem dX12_copies_86 : decode cX12_copies 86 = .ok (.aload_n 0, 1) := by decide +kernel
theorem dX12_copies_87 : decode cX12_copies 87 = .ok (.getfield 54, 3) := by decide +kernel
theorem dX12_copies_90 : decode cX12_copies 90 = .ok (.bipush 20, 2) := by decide +kernel
theorem dX12_copies_92 : decode cX12_copies 92 = .ok (.iload_n 2, 1) := by decide +kernel
theorem dX12_copies_93 : decode cX12_copies 93 = .ok (.imul, 1) := by decide +kernel
theorem dX12_copies_94 : decode cX12_copies 94 = .ok (.iload_n 3, 1) := by decide +kernel
theorem dX12_copies_95 : decode cX12_copies 95 = .ok (.iadd, 1) := by decide +kernel
theorem dX12_copies_96 : decode cX12_copies 96 = .ok (.aload_n 0, 1) := by decide +kernel
theorem dX12_copies_97 : decode cX12_copies 97 = .ok (.getfield 54, 3) := by decide +kernel
theorem dX12_copies_100 : decode cX12_copies 100 = .ok (.bipush 20, 2) := by decide +kernel
theorem dX12_copies_102 : decode cX12_copies 102 = .ok (.iload_n 1, 1) := by decide +kernel
theorem dX12_copies_103 : decode cX12_copies 103 = .ok (.imul, 1) := by decide +kernel
theorem dX12_copies_104 : decode cX12_copies 104 = .ok (.iload_n 3, 1) := by decide +kernel
theorem dX12_copies_105 : decode cX12_copies 105 = .ok (.iadd, 1) := by decide +kernel
theorem dX12_copies_106 : decode cX12_copies 106 = .ok (.iaload, 1) := by decide +kernel
theorem dX12_copies_107 : decode cX12_copies 107 = .ok (.iastore, 1) := by decide +kernel
theorem dX12_copies_108 : decode cX12_copies 108 = .ok (.aload_n 0, 1) := by decide +kernel
theorem dX12_copies_109 : decode cX12_copies 109 = .ok (.getfield 57, 3) := by decide +kernel
theorem dX12_copies_112 : decode cX12_copies 112 = .ok (.bipush 20, 2) := by decide +kernel
theorem dX12_copies_114 : decode cX12_copies 114 = .ok (.iload_n 2, 1) := by decide +kernel
theorem dX12_copies_115 : decode cX12_copies 115 = .ok (.imul, 1) := by decide +kernel
theorem dX12_copies_116 : decode cX12_copies 116 = .ok (.iload_n 3, 1) := by decide +kernel
theorem dX12_copies_117 : decode cX12_copies 117 = .ok (.iadd, 1) := by decide +kernel
theorem dX12_copies_118 : decode cX12_copies 118 = .ok (.aload_n 0, 1) := by decide +kernel
theorem dX12_copies_119 : decode cX12_copies 119 = .ok (.getfield 57, 3) := by decide +kernel
theorem dX12_copies_122 : decode cX12_copies 122 = .ok (.bipush 20, 2) := by decide +kernel
theorem dX12_copies_124 : decode cX12_copies 124 = .ok (.iload_n 1, 1) := by decide +kernel
theorem dX12_copies_125 : decode cX12_copies 125 = .ok (.imul, 1) := by decide +kernel
theorem dX12_copies_126 : decode cX12_copies 126 = .ok (.iload_n 3, 1) := by decide +kernel
theorem dX12_copies_127 : decode cX12_copies 127 = .ok (.iadd, 1) := by decide +kernel
theorem dX12_copies_128 : decode cX12_copies 128 = .ok (.iaload, 1) := by decide +kernel
theorem dX12_copies_129 : decode cX12_copies 129 = .ok (.iastore, 1) := by decide +kernel
theorem dX12_copies_130 : decode cX12_copies 130 = .ok (.aload_n 0, 1) := by decide +kernel
theorem dX12_copies_131 : decode cX12_copies 131 = .ok (.getfield 60, 3) := by decide +kernel
theorem dX12_copies_134 : decode cX12_copies 134 = .ok (.bipush 20, 2) := by decide +kernel
theorem dX12_copies_136 : decode cX12_copies 136 = .ok (.iload_n 2, 1) := by decide +kernel
theorem dX12_copies_137 : decode cX12_copies 137 = .ok (.imul, 1) := by decide +kernel
theorem dX12_copies_138 : decode cX12_copies 138 = .ok (.iload_n 3, 1) := by decide +kernel
theorem dX12_copies_139 : decode cX12_copies 139 = .ok (.iadd, 1) := by decide +kernel
theorem dX12_copies_140 : decode cX12_copies 140 = .ok (.aload_n 0, 1) := by decide +kernel
theorem dX12_copies_141 : decode cX12_copies 141 = .ok (.getfield 60, 3) := by decide +kernel
theorem dX12_copies_144 : decode cX12_copies 144 = .ok (.bipush 20, 2) := by decide +kernel
theorem dX12_copies_146 : decode cX12_copies 146 = .ok (.iload_n 1, 1) := by decide +kernel
theorem dX12_copies_147 : decode cX12_copies 147 = .ok (.imul, 1) := by decide +kernel
theorem dX12_copies_148 : decode cX12_copies 148 = .ok (.iload_n 3, 1) := by decide +kernel
theorem dX12_copies_149 : decode cX12_copies 149 = .ok (.iadd, 1) := by decide +kernel
theorem dX12_copies_150 : decode cX12_copies 150 = .ok (.iaload, 1) := by decide +kernel
theorem dX12_copies_151 : decode cX12_copies 151 = .ok (.iastore, 1) := by decide +kernel
theorem dX12_copies_152 : decode cX12_copies 152 = .ok (.aload_n 0, 1) := by decide +kernel
theorem dX12_copies_153 : decode cX12_copies 153 = .ok (.getfield 63, 3) := by decide +kernel
theorem dX12_copies_156 : decode cX12_copies 156 = .ok (.bipush 20, 2) := by decide +kernel
theorem dX12_copies_158 : decode cX12_copies 158 = .ok (.iload_n 2, 1) := by decide +kernel
theorem dX12_copies_159 : decode cX12_copies 159 = .ok (.imul, 1) := by decide +kernel
theorem dX12_copies_160 : decode cX12_copies 160 = .ok (.iload_n 3, 1) := by decide +kernel
theorem dX12_copies_161 : decode cX12_copies 161 = .ok (.iadd, 1) := by decide +kernel
theorem dX12_copies_162 : decode cX12_copies 162 = .ok (.aload_n 0, 1) := by decide +kernel
theorem dX12_copies_163 : decode cX12_copies 163 = .ok (.getfield 63, 3) := by decide +kernel
theorem dX12_copies_166 : decode cX12_copies 166 = .ok (.bipush 20, 2) := by decide +kernel
theorem dX12_copies_168 : decode cX12_copies 168 = .ok (.iload_n 1, 1) := by decide +kernel
theorem dX12_copies_169 : decode cX12_copies 169 = .ok (.imul, 1) := by decide +kernel
theorem dX12_copies_170 : decode cX12_copies 170 = .ok (.iload_n 3, 1) := by decide +kernel
theorem dX12_copies_171 : decode cX12_copies 171 = .ok (.iadd, 1) := by decide +kernel
theorem dX12_copies_172 : decode cX12_copies 172 = .ok (.iaload, 1) := by decide +kernel
theorem dX12_copies_173 : decode cX12_copies 173 = .ok (.iastore, 1) := by decide +kernel
theorem dX12_copies_174 : decode cX12_copies 174 = .ok (.iinc 3 1, 3) := by decide +kernel
theorem dX12_copies_177 : decode cX12_copies 177 = .ok (.goto (-163), 3) := by decide +kernel
theorem dX12_copies_180 : decode cX12_copies 180 = .ok (.iconst 0, 1) := by decide +kernel
theorem dX12_copies_181 : decode cX12_copies 181 = .ok (.istore_n 3, 1) := by decide +kernel
theorem dX12_copies_182 : decode cX12_copies 182 = .ok (.iload_n 3, 1) := by decide +kernel
theorem dX12_copies_183 : decode cX12_copies 183 = .ok (.sipush 400, 3) := by decide +kernel
theorem dX12_copies_186 : decode cX12_copies 186 = .ok (.if_icmp .ge 57, 3) := by decide +kernel
theorem dX12_copies_189 : decode cX12_copies 189 = .ok (.aload_n 0, 1) := by decide +kernel
theorem dX12_copies_190 : decode cX12_copies 190 = .ok (.getfield 66, 3) := by decide +kernel
theorem dX12_copies_193 : decode cX12_copies 193 = .ok (.sipush 400, 3) := by decide +kernel
theorem dX12_copies_196 : decode cX12_copies 196 = .ok (.iload_n 2, 1) := by decide +kernel
theorem dX12_copies_197 : decode cX12_copies 197 = .ok (.imul, 1) := by decide +kernel
theorem dX12_copies_198 : decode cX12_copies 198 = .ok (.iload_n 3, 1) := by decide +kernel
theorem dX12_copies_199 : decode cX12_copies 199 = .ok (.iadd, 1) := by decide +kernel
theorem dX12_copies_200 : decode cX12_copies 200 = .ok (.aload_n 0, 1) := by decide +kernel
theorem dX12_copies_201 : decode cX12_copies 201 = .ok (.getfield 66, 3) := by decide +kernel
theorem dX12_copies_204 : decode cX12_copies 204 = .ok (.sipush 400, 3) := by decide +kernel
theorem dX12_copies_207 : decode cX12_copies 207 = .ok (.iload_n 1, 1) := by decide +kernel
theorem dX12_copies_208 : decode cX12_copies 208 = .ok (.imul, 1) := by decide +kernel
theorem dX12_copies_209 : decode cX12_copies 209 = .ok (.iload_n 3, 1) := by decide +kernel
theorem dX12_copies_210 : decode cX12_copies 210 = .ok (.iadd, 1) := by decide +kernel
theorem dX12_copies_211 : decode cX12_copies 211 = .ok (.iaload, 1) := by decide +kernel
theorem dX12_copies_212 : decode cX12_copies 212 = .ok (.iastore, 1) := by decide +kernel
theorem dX12_copies_213 : decode cX12_copies 213 = .ok (.aload_n 0, 1) := by decide +kernel
theorem dX12_copies_214 : decode cX12_copies 214 = .ok (.getfield 69, 3) := by decide +kernel
theorem dX12_copies_217 : decode cX12_copies 217 = .ok (.sipush 400, 3) := by decide +kernel
theorem dX12_copies_220 : decode cX12_copies 220 = .ok (.iload_n 2, 1) := by decide +kernel
theorem dX12_copies_221 : decode cX12_copies 221 = .ok (.imul, 1) := by decide +kernel
theorem dX12_copies_222 : decode cX12_copies 222 = .ok (.iload_n 3, 1) := by decide +kernel
theorem dX12_copies_223 : decode cX12_copies 223 = .ok (.iadd, 1) := by decide +kernel
theorem dX12_copies_224 : decode cX12_copies 224 = .ok (.aload_n 0, 1) := by decide +kernel
theorem dX12_copies_225 : decode cX12_copies 225 = .ok (.getfield 69, 3) := by decide +kernel
theorem dX12_copies_228 : decode cX12_copies 228 = .ok (.sipush 400, 3) := by decide +kernel
theorem dX12_copies_231 : decode cX12_copies 231 = .ok (.iload_n 1, 1) := by decide +kernel
theorem dX12_copies_232 : decode cX12_copies 232 = .ok (.imul, 1) := by decide +kernel
theorem dX12_copies_233 : decode cX12_copies 233 = .ok (.iload_n 3, 1) := by decide +kernel
theorem dX12_copies_234 : decode cX12_copies 234 = .ok (.iadd, 1) := by decide +kernel
theorem dX12_copies_235 : decode cX12_copies 235 = .ok (.iaload, 1) := by decide +kernel
theorem dX12_copies_236 : decode cX12_copies 236 = .ok (.iastore, 1) := by decide +kernel
theorem dX12_copies_237 : decode cX12_copies 237 = .ok (.iinc 3 1, 3) := by decide +kernel
theorem dX12_copies_240 : decode cX12_copies 240 = .ok (.goto (-58), 3) := by decide +kernel
theorem dX12_copies_243 : decode cX12_copies 243 = .ok (.return_, 1) := by decide +kernel
theorem dX12_lifts__0 : decode cX12_lifts_ 0 = .ok (.aload_n 0, 1) := by decide +kernel
theorem dX12_lifts__1 : decode cX12_lifts_ 1 = .ok (.iconst 0, 1) := by decide +kernel
theorem dX12_lifts__2 : decode cX12_lifts_ 2 = .ok (.putfield 194, 3) := by decide +kernel
theorem dX12_lifts__5 : decode cX12_lifts_ 5 = .ok (.aload_n 0, 1) := by decide +kernel
theorem dX12_lifts__6 : decode cX12_lifts_ 6 = .ok (.iload_n 1, 1) := by decide +kernel
theorem dX12_lifts__7 : decode cX12_lifts_ 7 = .ok (.iconst 0, 1) := by decide +kernel
theorem dX12_lifts__8 : decode cX12_lifts_ 8 = .ok (.sipush 1000, 3) := by decide +kernel
theorem dX12_lifts__11 : decode cX12_lifts_ 11 = .ok (.invokestatic 197, 3) := by decide +kernel
theorem dX12_lifts__14 : decode cX12_lifts_ 14 = .ok (.ifCond .eq 35, 3) := by decide +kernel
theorem dX12_lifts__17 : decode cX12_lifts_ 17 = .ok (.iload_n 2, 1) := by decide +kernel
theorem dX12_lifts__18 : decode cX12_lifts_ 18 = .ok (.iconst 0, 1) := by decide +kernel
theorem dX12_lifts__19 : decode cX12_lifts_ 19 = .ok (.bipush 100, 2) := by decide +kernel
theorem dX12_lifts__21 : decode cX12_lifts_ 21 = .ok (.invokestatic 197, 3) := by decide +kernel
theorem dX12_lifts__24 : decode cX12_lifts_ 24 = .ok (.ifCond .eq 25, 3) := by decide +kernel
theorem dX12_lifts__27 : decode cX12_lifts_ 27 = .ok (.iload_n 3, 1) := by decide +kernel
theorem dX12_lifts__28 : decode cX12_lifts_ 28 = .ok (.iconst 1, 1) := by decide +kernel
theorem dX12_lifts__29 : decode cX12_lifts_ 29 = .ok (.bipush 24, 2) := by decide +kernel
theorem dX12_lifts__31 : decode cX12_lifts_ 31 = .ok (.invokestatic 197, 3) := by decide +kernel
theorem dX12_lifts__34 : decode cX12_lifts_ 34 = .ok (.ifCond .eq 15, 3) := by decide +kernel
theorem dX12_lifts__37 : decode cX12_lifts_ 37 = .ok (.iload 4, 2) := by decide +kernel
theorem dX12_lifts__39 : decode cX12_lifts_ 39 = .ok (.iconst 0, 1) := by decide +kernel
theorem dX12_lifts__40 : decode cX12_lifts_ 40 = .ok (.sipush 1000, 3) := by decide +kernel
theorem dX12_lifts__43 : decode cX12_lifts_ 43 = .ok (.invokestatic 197, 3) := by decide +kernel
theorem dX12_lifts__46 : decode cX12_lifts_ 46 = .ok (.ifCond .ne 7, 3) := by decide +kernel
theorem dX12_lifts__49 : decode cX12_lifts_ 49 = .ok (.iconst 1, 1) := by decide +kernel
theorem dX12_lifts__50 : decode cX12_lifts_ 50 = .ok (.goto 4, 3) := by decide +kernel
theorem dX12_lifts__53 : decode cX12_lifts_ 53 = .ok (.iconst 0, 1) := by decide +kernel
theorem dX12_lifts__54 : decode cX12_lifts_ 54 = .ok (.iconst 1, 1) := by decide +kernel
theorem dX12_lifts__55 : decode cX12_lifts_ 55 = .ok (.invokevirtual 224, 3) := by decide +kernel
theorem dX12_lifts__58 : decode cX12_lifts_ 58 = .ok (.ifCond .eq 5, 3) := by decide +kernel
theorem dX12_lifts__61 : decode cX12_lifts_ 61 = .ok (.iconst 0, 1) := by decide +kernel
theorem dX12_lifts__62 : decode cX12_lifts_ 62 = .ok (.ireturn, 1) := by decide +kernel
theorem dX12_lifts__63 : decode cX12_lifts_ 63 = .ok (.iconst 0, 1) := by decide +kernel
theorem dX12_lifts__64 : decode cX12_lifts_ 64 = .ok (.istore 5, 2) := by decide +kernel
theorem dX12_lifts__66 : decode cX12_lifts_ 66 = .ok (.iconst 0, 1) := by decide +kernel
theorem dX12_lifts__67 : decode cX12_lifts_ 67 = .ok (.istore 6, 2) := by decide +kernel
theorem dX12_lifts__69 : decode cX12_lifts_ 69 = .ok (.iload 6, 2) := by decide +kernel
theorem dX12_lifts__71 : decode cX12_lifts_ 71 = .ok (.aload_n 0, 1) := by decide +kernel
theorem dX12_lifts__72 : decode cX12_lifts_ 72 = .ok (.getfield 9, 3) := by decide +kernel
theorem dX12_lifts__75 : decode cX12_lifts_ 75 = .ok (.sipush 1428, 3) := by decide +kernel
theorem dX12_lifts__78 : decode cX12_lifts_ 78 = .ok (.iaload, 1) := by decide +kernel
theorem dX12_lifts__79 : decode cX12_lifts_ 79 = .ok (.if_icmp .ge 47, 3) := by decide +kernel
theorem dX12_lifts__82 : decode cX12_lifts_ 82 = .ok (.aload_n 0, 1) := by decide +kernel
theorem dX12_lifts__83 : decode cX12_lifts_ 83 = .ok (.iload 6, 2) := by decide +kernel
theorem dX12_lifts__85 : decode cX12_lifts_ 85 = .ok (.iconst 0, 1) := by decide +kernel
theorem dX12_lifts__86 : decode cX12_lifts_ 86 = .ok (.invokevirtual 217, 3) := by decide +kernel
theorem dX12_lifts__89 : decode cX12_lifts_ 89 = .ok (.iconst 3, 1) := by decide +kernel
theorem dX12_lifts__90 : decode cX12_lifts_ 90 = .ok (.if_icmp .ne 30, 3) := by decide +kernel
theorem dX12_lifts__93 : decode cX12_lifts_ 93 = .ok (.iload 5, 2) := by decide +kernel
theorem dX12_lifts__95 : decode cX12_lifts_ 95 = .ok (.iconst 5, 1) := by decide +kernel
theorem dX12_lifts__96 : decode cX12_lifts_ 96 = .ok (.if_icmp .ne 6, 3) := by decide +kernel
theorem dX12_lifts__99 : decode cX12_lifts_ 99 = .ok (.goto 21, 3) := by decide +kernel
theorem dX12_lifts__102 : decode cX12_lifts_ 102 = .ok (.aload_n 0, 1) := by decide +kernel
theorem dX12_lifts__103 : decode cX12_lifts_ 103 = .ok (.getfield 167, 3) := by decide +kernel
theorem dX12_lifts__106 : decode cX12_lifts_ 106 = .ok (.iload 5, 2) := by decide +kernel
theorem dX12_lifts__108 : decode cX12_lifts_ 108 = .ok (.aload_n 0, 1) := by decide +kernel
theorem dX12_lifts__109 : decode cX12_lifts_ 109 = .ok (.iload 6, 2) := by decide +kernel
theorem dX12_lifts__111 : decode cX12_lifts_ 111 = .ok (.bipush 17, 2) := by decide +kernel
theorem dX12_lifts__113 : decode cX12_lifts_ 113 = .ok (.invokevirtual 217, 3) := by decide +kernel
theorem dX12_lifts__116 : decode cX12_lifts_ 116 = .ok (.iastore, 1) := by decide +kernel
theorem dX12_lifts__117 : decode cX12_lifts_ 117 = .ok (.iinc 5 1, 3) := by decide +kernel
theorem dX12_lifts__120 : decode cX12_lifts_ 120 = .ok (.iinc 6 1, 3) := by decide +kernel
theorem dX12_lifts__123 : decode cX12_lifts_ 123 = .ok (.goto (-54), 3) := by decide +kernel
theorem dX12_lifts__126 : decode cX12_lifts_ 126 = .ok (.iconst 0, 1) := by decide +kernel
theorem dX12_lifts__127 : decode cX12_lifts_ 127 = .ok (.istore 6, 2) := by decide +kernel
theorem dX12_lifts__129 : decode cX12_lifts_ 129 = .ok (.iload 6, 2) := by decide +kernel
theorem dX12_lifts__131 : decode cX12_lifts_ 131 = .ok (.sipush 1001, 3) := by decide +kernel
theorem dX12_lifts__134 : decode cX12_lifts_ 134 = .ok (.if_icmp .ge 29, 3) := by decide +kernel
theorem dX12_lifts__137 : decode cX12_lifts_ 137 = .ok (.aload_n 0, 1) := by decide +kernel
theorem dX12_lifts__138 : decode cX12_lifts_ 138 = .ok (.getfield 161, 3) := by decide +kernel
theorem dX12_lifts__141 : decode cX12_lifts_ 141 = .ok (.iload 6, 2) := by decide +kernel
theorem dX12_lifts__143 : decode cX12_lifts_ 143 = .ok (.iload 6, 2) := by decide +kernel
theorem dX12_lifts__145 : decode cX12_lifts_ 145 = .ok (.iload_n 1, 1) := by decide +kernel
theorem dX12_lifts__146 : decode cX12_lifts_ 146 = .ok (.if_icmp .ne 7, 3) := by decide +kernel
theorem dX12_lifts__149 : decode cX12_lifts_ 149 = .ok (.iconst 0, 1) := by decide +kernel
theorem dX12_lifts__150 : decode cX12_lifts_ 150 = .ok (.goto 6, 3) := by decide +kernel
theorem dX12_lifts__153 : decode cX12_lifts_ 153 = .ok (.ldc_w 538, 3) := by decide +kernel
theorem dX12_lifts__156 : decode cX12_lifts_ 156 = .ok (.iastore, 1) := by decide +kernel
theorem dX12_lifts__157 : decode cX12_lifts_ 157 = .ok (.iinc 6 1, 3) := by decide +kernel
theorem dX12_lifts__160 : decode cX12_lifts_ 160 = .ok (.goto (-31), 3) := by decide +kernel
theorem dX12_lifts__163 : decode cX12_lifts_ 163 = .ok (.iconst 1, 1) := by decide +kernel
theorem dX12_lifts__164 : decode cX12_lifts_ 164 = .ok (.istore 6, 2) := by decide +kernel
theorem dX12_lifts__166 : decode cX12_lifts_ 166 = .ok (.iload 6, 2) := by decide +kernel
theorem dX12_lifts__168 : decode cX12_lifts_ 168 = .ok (.iload_n 3, 1) := by decide +kernel
theorem dX12_lifts__169 : decode cX12_lifts_ 169 = .ok (.if_icmp .gt 280, 3) := by decide +kernel
theorem dX12_lifts__172 : decode cX12_lifts_ 172 = .ok (.iconst 0, 1) := by decide +kernel
theorem dX12_lifts__173 : decode cX12_lifts_ 173 = .ok (.istore 7, 2) := by decide +kernel
theorem dX12_lifts__175 : decode cX12_lifts_ 175 = .ok (.iconst 0, 1) := by decide +kernel
theorem dX12_lifts__176 : decode cX12_lifts_ 176 = .ok (.istore 8, 2) := by decide +kernel
theorem dX12_lifts__178 : decode cX12_lifts_ 178 = .ok (.iload 8, 2) := by decide +kernel
theorem dX12_lifts__180 : decode cX12_lifts_ 180 = .ok (.aload_n 0, 1) := by decide +kernel
theorem dX12_lifts__181 : decode cX12_lifts_ 181 = .ok (.getfield 9, 3) := by decide +kernel
theorem dX12_lifts__184 : decode cX12_lifts_ 184 = .ok (.sipush 1428, 3) := by decide +kernel
theorem dX12_lifts__187 : decode cX12_lifts_ 187 = .ok (.iaload, 1) := by decide +kernel
theorem dX12_lifts__188 : decode cX12_lifts_ 188 = .ok (.if_icmp .ge 48, 3) := by decide +kernel
theorem dX12_lifts__191 : decode cX12_lifts_ 191 = .ok (.aload_n 0, 1) := by decide +kernel
theorem dX12_lifts__192 : decode cX12_lifts_ 192 = .ok (.iload 8, 2) := by decide +kernel
theorem dX12_lifts__194 : decode cX12_lifts_ 194 = .ok (.iconst 0, 1) := by decide +kernel
theorem dX12_lifts__195 : decode cX12_lifts_ 195 = .ok (.invokevirtual 217, 3) := by decide +kernel
theorem dX12_lifts__198 : decode cX12_lifts_ 198 = .ok (.iconst 2, 1) := by decide +kernel
theorem dX12_lifts__199 : decode cX12_lifts_ 199 = .ok (.if_icmp .ne 31, 3) := by decide +kernel
theorem dX12_lifts__202 : decode cX12_lifts_ 202 = .ok (.iload 7, 2) := by decide +kernel
theorem dX12_lifts__204 : decode cX12_lifts_ 204 = .ok (.aload_n 0, 1) := by decide +kernel
theorem dX12_lifts__205 : decode cX12_lifts_ 205 = .ok (.iload 8, 2) := by decide +kernel
theorem dX12_lifts__207 : decode cX12_lifts_ 207 = .ok (.bipush 17, 2) := by decide +kernel
theorem dX12_lifts__209 : decode cX12_lifts_ 209 = .ok (.invokevirtual 217, 3) := by decide +kernel
theorem dX12_lifts__212 : decode cX12_lifts_ 212 = .ok (.aload_n 0, 1) := by decide +kernel
theorem dX12_lifts__213 : decode cX12_lifts_ 213 = .ok (.aload_n 0, 1) := by decide +kernel
theorem dX12_lifts__214 : decode cX12_lifts_ 214 = .ok (.invokevirtual 228, 3) := by decide +kernel
theorem dX12_lifts__217 : decode cX12_lifts_ 217 = .ok (.iload 6, 2) := by decide +kernel
theorem dX12_lifts__219 : decode cX12_lifts_ 219 = .ok (.iadd, 1) := by decide +kernel
theorem dX12_lifts__220 : decode cX12_lifts_ 220 = .ok (.invokevirtual 250, 3) := by decide +kernel
theorem dX12_lifts__223 : decode cX12_lifts_ 223 = .ok (.imul, 1) := by decide +kernel
theorem dX12_lifts__224 : decode cX12_lifts_ 224 = .ok (.bipush 10, 2) := by decide +kernel
theorem dX12_lifts__226 : decode cX12_lifts_ 226 = .ok (.idiv, 1) := by decide +kernel
theorem dX12_lifts__227 : decode cX12_lifts_ 227 = .ok (.iadd, 1) := by decide +kernel
theorem dX12_lifts__228 : decode cX12_lifts_ 228 = .ok (.istore 7, 2) := by decide +kernel
theorem dX12_lifts__230 : decode cX12_lifts_ 230 = .ok (.iinc 8 1, 3) := by decide +kernel
theorem dX12_lifts__233 : decode cX12_lifts_ 233 = .ok (.goto (-55), 3) := by decide +kernel
theorem dX12_lifts__236 : decode cX12_lifts_ 236 = .ok (.iconst 0, 1) := by decide +kernel
theorem dX12_lifts__237 : decode cX12_lifts_ 237 = .ok (.istore 8, 2) := by decide +kernel
theorem dX12_lifts__239 : decode cX12_lifts_ 239 = .ok (.iload 8, 2) := by decide +kernel
theorem dX12_lifts__241 : decode cX12_lifts_ 241 = .ok (.sipush 1001, 3) := by decide +kernel
theorem dX12_lifts__244 : decode cX12_lifts_ 244 = .ok (.if_icmp .ge 19, 3) := by decide +kernel
theorem dX12_lifts__247 : decode cX12_lifts_ 247 = .ok (.aload_n 0, 1) := by decide +kernel
theorem dX12_lifts__248 : decode cX12_lifts_ 248 = .ok (.getfield 164, 3) := by decide +kernel
theorem dX12_lifts__251 : decode cX12_lifts_ 251 = .ok (.iload 8, 2) := by decide +kernel
theorem dX12_lifts__253 : decode cX12_lifts_ 253 = .ok (.ldc_w 538, 3) := by decide +kernel
theorem dX12_lifts__256 : decode cX12_lifts_ 256 = .ok (.iastore, 1) := by decide +kernel
theorem dX12_lifts__257 : decode cX12_lifts_ 257 = .ok (.iinc 8 1, 3) := by decide +kernel
theorem dX12_lifts__260 : decode cX12_lifts_ 260 = .ok (.goto (-21), 3) := by decide +kernel
theorem dX12_lifts__263 : decode cX12_lifts_ 263 = .ok (.iconst 0, 1) := by decide +kernel
theorem dX12_lifts__264 : decode cX12_lifts_ 264 = .ok (.istore 8, 2) := by decide +kernel
theorem dX12_lifts__266 : decode cX12_lifts_ 266 = .ok (.iload 8, 2) := by decide +kernel
theorem dX12_lifts__268 : decode cX12_lifts_ 268 = .ok (.iconst 1, 1) := by decide +kernel
theorem dX12_lifts__269 : decode cX12_lifts_ 269 = .ok (.iload 5, 2) := by decide +kernel
theorem dX12_lifts__271 : decode cX12_lifts_ 271 = .ok (.ishl, 1) := by decide +kernel
theorem dX12_lifts__272 : decode cX12_lifts_ 272 = .ok (.if_icmp .ge 140, 3) := by decide +kernel
theorem dX12_lifts__275 : decode cX12_lifts_ 275 = .ok (.iload 7, 2) := by decide +kernel
theorem dX12_lifts__277 : decode cX12_lifts_ 277 = .ok (.istore 9, 2) := by decide +kernel
theorem dX12_lifts__279 : decode cX12_lifts_ 279 = .ok (.iconst 0, 1) := by decide +kernel
theorem dX12_lifts__280 : decode cX12_lifts_ 280 = .ok (.istore 10, 2) := by decide +kernel
theorem dX12_lifts__282 : decode cX12_lifts_ 282 = .ok (.iload 10, 2) := by decide +kernel
theorem dX12_lifts__284 : decode cX12_lifts_ 284 = .ok (.iload 5, 2) := by decide +kernel
theorem dX12_lifts__286 : decode cX12_lifts_ 286 = .ok (.if_icmp .ge 36, 3) := by decide +kernel
theorem dX12_lifts__289 : decode cX12_lifts_ 289 = .ok (.iload 9, 2) := by decide +kernel
theorem dX12_lifts__291 : decode cX12_lifts_ 291 = .ok (.iload 8, 2) := by decide +kernel
theorem dX12_lifts__293 : decode cX12_lifts_ 293 = .ok (.iload 10, 2) := by decide +kernel
theorem dX12_lifts__295 : decode cX12_lifts_ 295 = .ok (.ishr, 1) := by decide +kernel
theorem dX12_lifts__296 : decode cX12_lifts_ 296 = .ok (.iconst 1, 1) := by decide +kernel
theorem dX12_lifts__297 : decode cX12_lifts_ 297 = .ok (.iand, 1) := by decide +kernel
theorem dX12_lifts__298 : decode cX12_lifts_ 298 = .ok (.iconst 1, 1) := by decide +kernel
theorem dX12_lifts__299 : decode cX12_lifts_ 299 = .ok (.if_icmp .ne 13, 3) := by decide +kernel
theorem dX12_lifts__302 : decode cX12_lifts_ 302 = .ok (.aload_n 0, 1) := by decide +kernel
theorem dX12_lifts__303 : decode cX12_lifts_ 303 = .ok (.getfield 167, 3) := by decide +kernel
theorem dX12_lifts__306 : decode cX12_lifts_ 306 = .ok (.iload 10, 2) := by decide +kernel
theorem dX12_lifts__308 : decode cX12_lifts_ 308 = .ok (.iaload, 1) := by decide +kernel
theorem dX12_lifts__309 : decode cX12_lifts_ 309 = .ok (.goto 4, 3) := by decide +kernel
theorem dX12_lifts__312 : decode cX12_lifts_ 312 = .ok (.iconst 0, 1) := by decide +kernel
theorem dX12_lifts__313 : decode cX12_lifts_ 313 = .ok (.iadd, 1) := by decide +kernel
theorem dX12_lifts__314 : decode cX12_lifts_ 314 = .ok (.istore 9, 2) := by decide +kernel
theorem dX12_lifts__316 : decode cX12_lifts_ 316 = .ok (.iinc 10 1, 3) := by decide +kernel
theorem dX12_lifts__319 : decode cX12_lifts_ 319 = .ok (.goto (-37), 3) := by decide +kernel
theorem dX12_lifts__322 : decode cX12_lifts_ 322 = .ok (.iload 8, 2) := by decide +kernel
theorem dX12_lifts__324 : decode cX12_lifts_ 324 = .ok (.invokestatic 545, 3) := by decide +kernel
theorem dX12_lifts__327 : decode cX12_lifts_ 327 = .ok (.istore 10, 2) := by decide +kernel
theorem dX12_lifts__329 : decode cX12_lifts_ 329 = .ok (.iconst 0, 1) := by decide +kernel
theorem dX12_lifts__330 : decode cX12_lifts_ 330 = .ok (.istore 11, 2) := by decide +kernel
theorem dX12_lifts__332 : decode cX12_lifts_ 332 = .ok (.iload 11, 2) := by decide +kernel
theorem dX12_lifts__334 : decode cX12_lifts_ 334 = .ok (.sipush 1001, 3) := by decide +kernel
theorem dX12_lifts__337 : decode cX12_lifts_ 337 = .ok (.if_icmp .ge 69, 3) := by decide +kernel
theorem dX12_lifts__340 : decode cX12_lifts_ 340 = .ok (.iconst 0, 1) := by decide +kernel
theorem dX12_lifts__341 : decode cX12_lifts_ 341 = .ok (.iload 11, 2) := by decide +kernel
theorem dX12_lifts__343 : decode cX12_lifts_ 343 = .ok (.iload_n 2, 1) := by decide +kernel
theorem dX12_lifts__344 : decode cX12_lifts_ 344 = .ok (.iadd, 1) := by decide +kernel
theorem dX12_lifts__345 : decode cX12_lifts_ 345 = .ok (.iload 9, 2) := by decide +kernel
theorem dX12_lifts__347 : decode cX12_lifts_ 347 = .ok (.isub, 1) := by decide +kernel
theorem dX12_lifts__348 : decode cX12_lifts_ 348 = .ok (.invokestatic 211, 3) := by decide +kernel
theorem dX12_lifts__351 : decode cX12_lifts_ 351 = .ok (.istore 12, 2) := by decide +kernel
theorem dX12_lifts__353 : decode cX12_lifts_ 353 = .ok (.aload_n 0, 1) := by decide +kernel
theorem dX12_lifts__354 : decode cX12_lifts_ 354 = .ok (.getfield 161, 3) := by decide +kernel
theorem dX12_lifts__357 : decode cX12_lifts_ 357 = .ok (.iload 11, 2) := by decide +kernel
theorem dX12_lifts__359 : decode cX12_lifts_ 359 = .ok (.iaload, 1) := by decide +kernel
theorem dX12_lifts__360 : decode cX12_lifts_ 360 = .ok (.ldc_w 538, 3) := by decide +kernel
theorem dX12_lifts__363 : decode cX12_lifts_ 363 = .ok (.if_icmp .ge 37, 3) := by decide +kernel
theorem dX12_lifts__366 : decode cX12_lifts_ 366 = .ok (.iload 12, 2) := by decide +kernel
theorem dX12_lifts__368 : decode cX12_lifts_ 368 = .ok (.iload 4, 2) := by decide +kernel
theorem dX12_lifts__370 : decode cX12_lifts_ 370 = .ok (.if_icmp .gt 30, 3) := by decide +kernel
theorem dX12_lifts__373 : decode cX12_lifts_ 373 = .ok (.aload_n 0, 1) := by decide +kernel
theorem dX12_lifts__374 : decode cX12_lifts_ 374 = .ok (.getfield 164, 3) := by decide +kernel
theorem dX12_lifts__377 : decode cX12_lifts_ 377 = .ok (.iload 12, 2) := by decide +kernel
theorem dX12_lifts__379 : decode cX12_lifts_ 379 = .ok (.aload_n 0, 1) := by decide +kernel
theorem dX12_lifts__380 : decode cX12_lifts_ 380 = .ok (.getfield 164, 3) := by decide +kernel
theorem dX12_lifts__383 : decode cX12_lifts_ 383 = .ok (.iload 12, 2) := by decide +kernel
theorem dX12_lifts__385 : decode cX12_lifts_ 385 = .ok (.iaload, 1) := by decide +kernel
theorem dX12_lifts__386 : decode cX12_lifts_ 386 = .ok (.aload_n 0, 1) := by decide +kernel
theorem dX12_lifts__387 : decode cX12_lifts_ 387 = .ok (.getfield 161, 3) := by decide +kernel
theorem dX12_lifts__390 : decode cX12_lifts_ 390 = .ok (.iload 11, 2) := by decide +kernel
theorem dX12_lifts__392 : decode cX12_lifts_ 392 = .ok (.iaload, 1) := by decide +kernel
theorem dX12_lifts__393 : decode cX12_lifts_ 393 = .ok (.iload 10, 2) := by decide +kernel
theorem dX12_lifts__395 : decode cX12_lifts_ 395 = .ok (.iadd, 1) := by decide +kernel
theorem dX12_lifts__396 : decode cX12_lifts_ 396 = .ok (.invokestatic 207, 3) := by decide +kernel
theorem dX12_lifts__399 : decode cX12_lifts_ 399 = .ok (.iastore, 1) := by decide +kernel
theorem dX12_lifts__400 : decode cX12_lifts_ 400 = .ok (.iinc 11 1, 3) := by decide +kernel
theorem dX12_lifts__403 : decode cX12_lifts_ 403 = .ok (.goto (-71), 3) := by decide +kernel
theorem dX12_lifts__406 : decode cX12_lifts_ 406 = .ok (.iinc 8 1, 3) := by decide +kernel
theorem dX12_lifts__409 : decode cX12_lifts_ 409 = .ok (.goto (-143), 3) := by decide +kernel
theorem dX12_lifts__412 : decode cX12_lifts_ 412 = .ok (.iconst 0, 1) := by decide +kernel
theorem dX12_lifts__413 : decode cX12_lifts_ 413 = .ok (.istore 8, 2) := by decide +kernel
theorem dX12_lifts__415 : decode cX12_lifts_ 415 = .ok (.iload 8, 2) := by decide +kernel
theorem dX12_lifts__417 : decode cX12_lifts_ 417 = .ok (.sipush 1001, 3) := by decide +kernel
theorem dX12_lifts__420 : decode cX12_lifts_ 420 = .ok (.if_icmp .ge 23, 3) := by decide +kernel
theorem dX12_lifts__423 : decode cX12_lifts_ 423 = .ok (.aload_n 0, 1) := by decide +kernel
theorem dX12_lifts__424 : decode cX12_lifts_ 424 = .ok (.getfield 161, 3) := by decide +kernel
theorem dX12_lifts__427 : decode cX12_lifts_ 427 = .ok (.iload 8, 2) := by decide +kernel
theorem dX12_lifts__429 : decode cX12_lifts_ 429 = .ok (.aload_n 0, 1) := by decide +kernel
theorem dX12_lifts__430 : decode cX12_lifts_ 430 = .ok (.getfield 164, 3) := by decide +kernel
theorem dX12_lifts__433 : decode cX12_lifts_ 433 = .ok (.iload 8, 2) := by decide +kernel
theorem dX12_lifts__435 : decode cX12_lifts_ 435 = .ok (.iaload, 1) := by decide +kernel
theorem dX12_lifts__436 : decode cX12_lifts_ 436 = .ok (.iastore, 1) := by decide +kernel
theorem dX12_lifts__437 : decode cX12_lifts_ 437 = .ok (.iinc 8 1, 3) := by decide +kernel
theorem dX12_lifts__440 : decode cX12_lifts_ 440 = .ok (.goto (-25), 3) := by decide +kernel
theorem dX12_lifts__443 : decode cX12_lifts_ 443 = .ok (.iinc 6 1, 3) := by decide +kernel
theorem dX12_lifts__446 : decode cX12_lifts_ 446 = .ok (.goto (-280), 3) := by decide +kernel
theorem dX12_lifts__449 : decode cX12_lifts_ 449 = .ok (.ldc_w 538, 3) := by decide +kernel
theorem dX12_lifts__452 : decode cX12_lifts_ 452 = .ok (.istore 6, 2) := by decide +kernel
theorem dX12_lifts__454 : decode cX12_lifts_ 454 = .ok (.iconst 0, 1) := by decide +kernel
theorem dX12_lifts__455 : decode cX12_lifts_ 455 = .ok (.istore 7, 2) := by decide +kernel
theorem dX12_lifts__457 : decode cX12_lifts_ 457 = .ok (.iload 7, 2) := by decide +kernel
theorem dX12_lifts__459 : decode cX12_lifts_ 459 = .ok (.sipush 1001, 3) := by decide +kernel
theorem dX12_lifts__462 : decode cX12_lifts_ 462 = .ok (.if_icmp .ge 23, 3) := by decide +kernel
theorem dX12_lifts__465 : decode cX12_lifts_ 465 = .ok (.iload 6, 2) := by decide +kernel
theorem dX12_lifts__467 : decode cX12_lifts_ 467 = .ok (.aload_n 0, 1) := by decide +kernel
theorem dX12_lifts__468 : decode cX12_lifts_ 468 = .ok (.getfield 161, 3) := by decide +kernel
theorem dX12_lifts__471 : decode cX12_lifts_ 471 = .ok (.iload 7, 2) := by decide +kernel
theorem dX12_lifts__473 : decode cX12_lifts_ 473 = .ok (.iaload, 1) := by decide +kernel
theorem dX12_lifts__474 : decode cX12_lifts_ 474 = .ok (.invokestatic 207, 3) := by decide +kernel
theorem dX12_lifts__477 : decode cX12_lifts_ 477 = .ok (.istore 6, 2) := by decide +kernel
theorem dX12_lifts__479 : decode cX12_lifts_ 479 = .ok (.iinc 7 1, 3) := by decide +kernel
theorem dX12_lifts__482 : decode cX12_lifts_ 482 = .ok (.goto (-25), 3) := by decide +kernel
theorem dX12_lifts__485 : decode cX12_lifts_ 485 = .ok (.iload 6, 2) := by decide +kernel
theorem dX12_lifts__487 : decode cX12_lifts_ 487 = .ok (.ldc_w 538, 3) := by decide +kernel
theorem dX12_lifts__490 : decode cX12_lifts_ 490 = .ok (.if_icmp .ne 7, 3) := by decide +kernel
theorem dX12_lifts__493 : decode cX12_lifts_ 493 = .ok (.iconst (-1), 1) := by decide +kernel
theorem dX12_lifts__494 : decode cX12_lifts_ 494 = .ok (.goto 5, 3) := by decide +kernel
theorem dX12_lifts__497 : decode cX12_lifts_ 497 = .ok (.iload 6, 2) := by decide +kernel
theorem dX12_lifts__499 : decode cX12_lifts_ 499 = .ok (.ireturn, 1) := by decide +kernel
