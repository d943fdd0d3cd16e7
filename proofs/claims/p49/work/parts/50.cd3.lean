theorem dX4_readLine_54 : decode cX4_readLine 54 = .ok (.tableswitch 128 5 9 #[125, 125, 34, 103, 114], 34) := by decide +kernel
theorem dX4_readLine_88 : decode cX4_readLine 88 = .ok (.aload_n 0, 1) := by decide +kernel
theorem dX4_readLine_89 : decode cX4_readLine 89 = .ok (.sipush 900, 3) := by decide +kernel
theorem dX4_readLine_92 : decode cX4_readLine 92 = .ok (.aload_n 0, 1) := by decide +kernel
theorem dX4_readLine_93 : decode cX4_readLine 93 = .ok (.getfield 21, 3) := by decide +kernel
theorem dX4_readLine_96 : decode cX4_readLine 96 = .ok (.invokevirtual 168, 3) := by decide +kernel
theorem dX4_readLine_99 : decode cX4_readLine 99 = .ok (.ifCond .eq 56, 3) := by decide +kernel
theorem dX4_readLine_102 : decode cX4_readLine 102 = .ok (.aload_n 0, 1) := by decide +kernel
theorem dX4_readLine_103 : decode cX4_readLine 103 = .ok (.sipush 900, 3) := by decide +kernel
theorem dX4_readLine_106 : decode cX4_readLine 106 = .ok (.aload_n 0, 1) := by decide +kernel
theorem dX4_readLine_107 : decode cX4_readLine 107 = .ok (.getfield 24, 3) := by decide +kernel
theorem dX4_readLine_110 : decode cX4_readLine 110 = .ok (.invokevirtual 168, 3) := by decide +kernel
theorem dX4_readLine_113 : decode cX4_readLine 113 = .ok (.ifCond .eq 42, 3) := by decide +kernel
theorem dX4_readLine_116 : decode cX4_readLine 116 = .ok (.aload_n 0, 1) := by decide +kernel
theorem dX4_readLine_117 : decode cX4_readLine 117 = .ok (.bipush 20, 2) := by decide +kernel
theorem dX4_readLine_119 : decode cX4_readLine 119 = .ok (.invokevirtual 70, 3) := by decide +kernel
theorem dX4_readLine_122 : decode cX4_readLine 122 = .ok (.ifCond .eq 33, 3) := by decide +kernel
theorem dX4_readLine_125 : decode cX4_readLine 125 = .ok (.aload_n 0, 1) := by decide +kernel
theorem dX4_readLine_126 : decode cX4_readLine 126 = .ok (.bipush 95, 2) := by decide +kernel
theorem dX4_readLine_128 : decode cX4_readLine 128 = .ok (.aload_n 0, 1) := by decide +kernel
theorem dX4_readLine_129 : decode cX4_readLine 129 = .ok (.getfield 27, 3) := by decide +kernel
theorem dX4_readLine_132 : decode cX4_readLine 132 = .ok (.invokevirtual 168, 3) := by decide +kernel
theorem dX4_readLine_135 : decode cX4_readLine 135 = .ok (.ifCond .eq 20, 3) := by decide +kernel
theorem dX4_readLine_138 : decode cX4_readLine 138 = .ok (.aload_n 0, 1) := by decide +kernel
theorem dX4_readLine_139 : decode cX4_readLine 139 = .ok (.bipush 95, 2) := by decide +kernel
theorem dX4_readLine_141 : decode cX4_readLine 141 = .ok (.aload_n 0, 1) := by decide +kernel
theorem dX4_readLine_142 : decode cX4_readLine 142 = .ok (.getfield 30, 3) := by decide +kernel
theorem dX4_readLine_145 : decode cX4_readLine 145 = .ok (.invokevirtual 168, 3) := by decide +kernel
theorem dX4_readLine_148 : decode cX4_readLine 148 = .ok (.ifCond .eq 7, 3) := by decide +kernel
theorem dX4_readLine_151 : decode cX4_readLine 151 = .ok (.iconst 1, 1) := by decide +kernel
theorem dX4_readLine_152 : decode cX4_readLine 152 = .ok (.goto 4, 3) := by decide +kernel
theorem dX4_readLine_155 : decode cX4_readLine 155 = .ok (.iconst 0, 1) := by decide +kernel
theorem dX4_readLine_156 : decode cX4_readLine 156 = .ok (.ireturn, 1) := by decide +kernel
theorem dX4_readLine_157 : decode cX4_readLine 157 = .ok (.aload_n 0, 1) := by decide +kernel
theorem dX4_readLine_158 : decode cX4_readLine 158 = .ok (.bipush 100, 2) := by decide +kernel
theorem dX4_readLine_160 : decode cX4_readLine 160 = .ok (.aload_n 0, 1) := by decide +kernel
theorem dX4_readLine_161 : decode cX4_readLine 161 = .ok (.getfield 21, 3) := by decide +kernel
theorem dX4_readLine_164 : decode cX4_readLine 164 = .ok (.invokevirtual 168, 3) := by decide +kernel
theorem dX4_readLine_167 : decode cX4_readLine 167 = .ok (.ireturn, 1) := by decide +kernel
theorem dX4_readLine_168 : decode cX4_readLine 168 = .ok (.aload_n 0, 1) := by decide +kernel
theorem dX4_readLine_169 : decode cX4_readLine 169 = .ok (.bipush 18, 2) := by decide +kernel
theorem dX4_readLine_171 : decode cX4_readLine 171 = .ok (.aload_n 0, 1) := by decide +kernel
theorem dX4_readLine_172 : decode cX4_readLine 172 = .ok (.getfield 21, 3) := by decide +kernel
theorem dX4_readLine_175 : decode cX4_readLine 175 = .ok (.invokevirtual 168, 3) := by decide +kernel
theorem dX4_readLine_178 : decode cX4_readLine 178 = .ok (.ireturn, 1) := by decide +kernel
theorem dX4_readLine_179 : decode cX4_readLine 179 = .ok (.goto 18, 3) := by decide +kernel
theorem dX4_readLine_182 : decode cX4_readLine 182 = .ok (.aload_n 0, 1) := by decide +kernel
theorem dX4_readLine_183 : decode cX4_readLine 183 = .ok (.ldc 172, 2) := by decide +kernel
theorem dX4_readLine_185 : decode cX4_readLine 185 = .ok (.aload_n 0, 1) := by decide +kernel
theorem dX4_readLine_186 : decode cX4_readLine 186 = .ok (.getfield 21, 3) := by decide +kernel
theorem dX4_readLine_189 : decode cX4_readLine 189 = .ok (.invokevirtual 168, 3) := by decide +kernel
theorem dX4_readLine_192 : decode cX4_readLine 192 = .ok (.ifCond .ne 5, 3) := by decide +kernel
theorem dX4_readLine_195 : decode cX4_readLine 195 = .ok (.iconst 0, 1) := by decide +kernel
theorem dX4_readLine_196 : decode cX4_readLine 196 = .ok (.ireturn, 1) := by decide +kernel
theorem dX4_readLine_197 : decode cX4_readLine 197 = .ok (.aload_n 0, 1) := by decide +kernel
theorem dX4_readLine_198 : decode cX4_readLine 198 = .ok (.bipush 19, 2) := by decide +kernel
theorem dX4_readLine_200 : decode cX4_readLine 200 = .ok (.invokevirtual 70, 3) := by decide +kernel
theorem dX4_readLine_203 : decode cX4_readLine 203 = .ok (.ifCond .eq 11, 3) := by decide +kernel
theorem dX4_readLine_206 : decode cX4_readLine 206 = .ok (.aload_n 0, 1) := by decide +kernel
theorem dX4_readLine_207 : decode cX4_readLine 207 = .ok (.iconst 0, 1) := by decide +kernel
theorem dX4_readLine_208 : decode cX4_readLine 208 = .ok (.invokevirtual 173, 3) := by decide +kernel
theorem dX4_readLine_211 : decode cX4_readLine 211 = .ok (.ifCond .eq 7, 3) := by decide +kernel
theorem dX4_readLine_214 : decode cX4_readLine 214 = .ok (.iconst 1, 1) := by decide +kernel
theorem dX4_readLine_215 : decode cX4_readLine 215 = .ok (.goto 4, 3) := by decide +kernel
theorem dX4_readLine_218 : decode cX4_readLine 218 = .ok (.iconst 0, 1) := by decide +kernel
theorem dX4_readLine_219 : decode cX4_readLine 219 = .ok (.istore_n 2, 1) := by decide +kernel
theorem dX4_readLine_220 : decode cX4_readLine 220 = .ok (.aload_n 0, 1) := by decide +kernel
theorem dX4_readLine_221 : decode cX4_readLine 221 = .ok (.getfield 36, 3) := by decide +kernel
theorem dX4_readLine_224 : decode cX4_readLine 224 = .ok (.aload_n 0, 1) := by decide +kernel
theorem dX4_readLine_225 : decode cX4_readLine 225 = .ok (.getfield 60, 3) := by decide +kernel
theorem dX4_readLine_228 : decode cX4_readLine 228 = .ok (.aload_n 0, 1) := by decide +kernel
theorem dX4_readLine_229 : decode cX4_readLine 229 = .ok (.getfield 63, 3) := by decide +kernel
theorem dX4_readLine_232 : decode cX4_readLine 232 = .ok (.iastore, 1) := by decide +kernel
theorem dX4_readLine_233 : decode cX4_readLine 233 = .ok (.iload_n 2, 1) := by decide +kernel
theorem dX4_readLine_234 : decode cX4_readLine 234 = .ok (.ireturn, 1) := by decide +kernel
theorem dX4_readAny_0 : decode cX4_readAny 0 = .ok (.aload_n 0, 1) := by decide +kernel
theorem dX4_readAny_1 : decode cX4_readAny 1 = .ok (.iload_n 1, 1) := by decide +kernel
theorem dX4_readAny_2 : decode cX4_readAny 2 = .ok (.invokevirtual 176, 3) := by decide +kernel
theorem dX4_readAny_5 : decode cX4_readAny 5 = .ok (.istore_n 2, 1) := by decide +kernel
theorem dX4_readAny_6 : decode cX4_readAny 6 = .ok (.iconst 0, 1) := by decide +kernel
theorem dX4_readAny_7 : decode cX4_readAny 7 = .ok (.istore_n 3, 1) := by decide +kernel
theorem dX4_readAny_8 : decode cX4_readAny 8 = .ok (.iload_n 3, 1) := by decide +kernel
theorem dX4_readAny_9 : decode cX4_readAny 9 = .ok (.sipush 400, 3) := by decide +kernel
theorem dX4_readAny_12 : decode cX4_readAny 12 = .ok (.if_icmp .ge 34, 3) := by decide +kernel
theorem dX4_readAny_15 : decode cX4_readAny 15 = .ok (.iload_n 2, 1) := by decide +kernel
theorem dX4_readAny_16 : decode cX4_readAny 16 = .ok (.ifCond .eq 30, 3) := by decide +kernel
theorem dX4_readAny_19 : decode cX4_readAny 19 = .ok (.aload_n 0, 1) := by decide +kernel
theorem dX4_readAny_20 : decode cX4_readAny 20 = .ok (.bipush 15, 2) := by decide +kernel
theorem dX4_readAny_22 : decode cX4_readAny 22 = .ok (.invokevirtual 70, 3) := by decide +kernel
theorem dX4_readAny_25 : decode cX4_readAny 25 = .ok (.ifCond .eq 21, 3) := by decide +kernel
theorem dX4_readAny_28 : decode cX4_readAny 28 = .ok (.aload_n 0, 1) := by decide +kernel
theorem dX4_readAny_29 : decode cX4_readAny 29 = .ok (.iload_n 1, 1) := by decide +kernel
theorem dX4_readAny_30 : decode cX4_readAny 30 = .ok (.invokevirtual 176, 3) := by decide +kernel
theorem dX4_readAny_33 : decode cX4_readAny 33 = .ok (.istore_n 2, 1) := by decide +kernel
theorem dX4_readAny_34 : decode cX4_readAny 34 = .ok (.aload_n 0, 1) := by decide +kernel
theorem dX4_readAny_35 : decode cX4_readAny 35 = .ok (.bipush 15, 2) := by decide +kernel
theorem dX4_readAny_37 : decode cX4_readAny 37 = .ok (.invokevirtual 179, 3) := by decide +kernel
theorem dX4_readAny_40 : decode cX4_readAny 40 = .ok (.iinc 3 1, 3) := by decide +kernel
theorem dX4_readAny_43 : decode cX4_readAny 43 = .ok (.goto (-35), 3) := by decide +kernel
theorem dX4_readAny_46 : decode cX4_readAny 46 = .ok (.iload_n 2, 1) := by decide +kernel
theorem dX4_readAny_47 : decode cX4_readAny 47 = .ok (.ireturn, 1) := by decide +kernel
theorem dX4_readAll_0 : decode cX4_readAll 0 = .ok (.aload_n 0, 1) := by decide +kernel
theorem dX4_readAll_1 : decode cX4_readAll 1 = .ok (.iload_n 1, 1) := by decide +kernel
theorem dX4_readAll_2 : decode cX4_readAll 2 = .ok (.invokevirtual 183, 3) := by decide +kernel
theorem dX4_readAll_5 : decode cX4_readAll 5 = .ok (.istore_n 2, 1) := by decide +kernel
theorem dX4_readAll_6 : decode cX4_readAll 6 = .ok (.iconst 0, 1) := by decide +kernel
theorem dX4_readAll_7 : decode cX4_readAll 7 = .ok (.istore_n 3, 1) := by decide +kernel
theorem dX4_readAll_8 : decode cX4_readAll 8 = .ok (.iload_n 3, 1) := by decide +kernel
theorem dX4_readAll_9 : decode cX4_readAll 9 = .ok (.sipush 400, 3) := by decide +kernel
theorem dX4_readAll_12 : decode cX4_readAll 12 = .ok (.if_icmp .ge 34, 3) := by decide +kernel
theorem dX4_readAll_15 : decode cX4_readAll 15 = .ok (.iload_n 2, 1) := by decide +kernel
theorem dX4_readAll_16 : decode cX4_readAll 16 = .ok (.ifCond .eq 30, 3) := by decide +kernel
theorem dX4_readAll_19 : decode cX4_readAll 19 = .ok (.aload_n 0, 1) := by decide +kernel
theorem dX4_readAll_20 : decode cX4_readAll 20 = .ok (.bipush 14, 2) := by decide +kernel
theorem dX4_readAll_22 : decode cX4_readAll 22 = .ok (.invokevirtual 70, 3) := by decide +kernel
theorem dX4_readAll_25 : decode cX4_readAll 25 = .ok (.ifCond .eq 21, 3) := by decide +kernel
theorem dX4_readAll_28 : decode cX4_readAll 28 = .ok (.aload_n 0, 1) := by decide +kernel
theorem dX4_readAll_29 : decode cX4_readAll 29 = .ok (.iload_n 1, 1) := by decide +kernel
theorem dX4_readAll_30 : decode cX4_readAll 30 = .ok (.invokevirtual 183, 3) := by decide +kernel
theorem dX4_readAll_33 : decode cX4_readAll 33 = .ok (.istore_n 2, 1) := by decide +kernel
theorem dX4_readAll_34 : decode cX4_readAll 34 = .ok (.aload_n 0, 1) := by decide +kernel
theorem dX4_readAll_35 : decode cX4_readAll 35 = .ok (.bipush 14, 2) := by decide +kernel
theorem dX4_readAll_37 : decode cX4_readAll 37 = .ok (.invokevirtual 179, 3) := by decide +kernel
theorem dX4_readAll_40 : decode cX4_readAll 40 = .ok (.iinc 3 1, 3) := by decide +kernel
theorem dX4_readAll_43 : decode cX4_readAll 43 = .ok (.goto (-35), 3) := by decide +kernel
theorem dX4_readAll_46 : decode cX4_readAll 46 = .ok (.iload_n 2, 1) := by decide +kernel
theorem dX4_readAll_47 : decode cX4_readAll 47 = .ok (.ireturn, 1) := by decide +kernel
theorem dX4_readAtom_0 : decode cX4_readAtom 0 = .ok (.aload_n 0, 1) := by decide +kernel
theorem dX4_readAtom_1 : decode cX4_readAtom 1 = .ok (.getfield 11, 3) := by decide +kernel
theorem dX4_readAtom_4 : decode cX4_readAtom 4 = .ok (.aload_n 0, 1) := by decide +kernel
theorem dX4_readAtom_5 : decode cX4_readAtom 5 = .ok (.getfield 56, 3) := by decide +kernel
theorem dX4_readAtom_8 : decode cX4_readAtom 8 = .ok (.iaload, 1) := by decide +kernel
theorem dX4_readAtom_9 : decode cX4_readAtom 9 = .ok (.bipush 13, 2) := by decide +kernel
theorem dX4_readAtom_11 : decode cX4_readAtom 11 = .ok (.if_icmp .ne 7, 3) := by decide +kernel
theorem dX4_readAtom_14 : decode cX4_readAtom 14 = .ok (.iconst 1, 1) := by decide +kernel
theorem dX4_readAtom_15 : decode cX4_readAtom 15 = .ok (.goto 4, 3) := by decide +kernel
theorem dX4_readAtom_18 : decode cX4_readAtom 18 = .ok (.iconst 0, 1) := by decide +kernel
theorem dX4_readAtom_19 : decode cX4_readAtom 19 = .ok (.istore_n 2, 1) := by decide +kernel
theorem dX4_readAtom_20 : decode cX4_readAtom 20 = .ok (.iload_n 2, 1) := by decide +kernel
theorem dX4_readAtom_21 : decode cX4_readAtom 21 = .ok (.ifCond .ne 22, 3) := by decide +kernel
theorem dX4_readAtom_24 : decode cX4_readAtom 24 = .ok (.aload_n 0, 1) := by decide +kernel
theorem dX4_readAtom_25 : decode cX4_readAtom 25 = .ok (.getfield 11, 3) := by decide +kernel
theorem dX4_readAtom_28 : decode cX4_readAtom 28 = .ok (.aload_n 0, 1) := by decide +kernel
theorem dX4_readAtom_29 : decode cX4_readAtom 29 = .ok (.getfield 56, 3) := by decide +kernel
theorem dX4_readAtom_32 : decode cX4_readAtom 32 = .ok (.iaload, 1) := by decide +kernel
theorem dX4_readAtom_33 : decode cX4_readAtom 33 = .ok (.bipush 16, 2) := by decide +kernel
theorem dX4_readAtom_35 : decode cX4_readAtom 35 = .ok (.if_icmp .eq 8, 3) := by decide +kernel
theorem dX4_readAtom_38 : decode cX4_readAtom 38 = .ok (.aload_n 0, 1) := by decide +kernel
theorem dX4_readAtom_39 : decode cX4_readAtom 39 = .ok (.invokevirtual 186, 3) := by decide +kernel
theorem dX4_readAtom_42 : decode cX4_readAtom 42 = .ok (.ireturn, 1) := by decide +kernel
theorem dX4_readAtom_43 : decode cX4_readAtom 43 = .ok (.iload_n 1, 1) := by decide +kernel
theorem dX4_readAtom_44 : decode cX4_readAtom 44 = .ok (.bipush 6, 2) := by decide +kernel
theorem dX4_readAtom_46 : decode cX4_readAtom 46 = .ok (.if_icmp .lt 5, 3) := by decide +kernel
theorem dX4_readAtom_49 : decode cX4_readAtom 49 = .ok (.iconst 0, 1) := by decide +kernel
theorem dX4_readAtom_50 : decode cX4_readAtom 50 = .ok (.ireturn, 1) := by decide +kernel
theorem dX4_readAtom_51 : decode cX4_readAtom 51 = .ok (.aload_n 0, 1) := by decide +kernel
theorem dX4_readAtom_52 : decode cX4_readAtom 52 = .ok (.dup, 1) := by decide +kernel
theorem dX4_readAtom_53 : decode cX4_readAtom 53 = .ok (.getfield 56, 3) := by decide +kernel
theorem dX4_readAtom_56 : decode cX4_readAtom 56 = .ok (.iconst 1, 1) := by decide +kernel
theorem dX4_readAtom_57 : decode cX4_readAtom 57 = .ok (.iadd, 1) := by decide +kernel
theorem dX4_readAtom_58 : decode cX4_readAtom 58 = .ok (.putfield 56, 3) := by decide +kernel
theorem dX4_readAtom_61 : decode cX4_readAtom 61 = .ok (.iload_n 2, 1) := by decide +kernel
theorem dX4_readAtom_62 : decode cX4_readAtom 62 = .ok (.ifCond .eq 19, 3) := by decide +kernel
theorem dX4_readAtom_65 : decode cX4_readAtom 65 = .ok (.aload_n 0, 1) := by decide +kernel
theorem dX4_readAtom_66 : decode cX4_readAtom 66 = .ok (.iload_n 1, 1) := by decide +kernel
theorem dX4_readAtom_67 : decode cX4_readAtom 67 = .ok (.iconst 1, 1) := by decide +kernel
theorem dX4_readAtom_68 : decode cX4_readAtom 68 = .ok (.iadd, 1) := by decide +kernel
theorem dX4_readAtom_69 : decode cX4_readAtom 69 = .ok (.invokevirtual 183, 3) := by decide +kernel
theorem dX4_readAtom_72 : decode cX4_readAtom 72 = .ok (.istore_n 3, 1) := by decide +kernel
theorem dX4_readAtom_73 : decode cX4_readAtom 73 = .ok (.aload_n 0, 1) := by decide +kernel
theorem dX4_readAtom_74 : decode cX4_readAtom 74 = .ok (.bipush 13, 2) := by decide +kernel
theorem dX4_readAtom_76 : decode cX4_readAtom 76 = .ok (.invokevirtual 179, 3) := by decide +kernel
theorem dX4_readAtom_79 : decode cX4_readAtom 79 = .ok (.iload_n 3, 1) := by decide +kernel
theorem dX4_readAtom_80 : decode cX4_readAtom 80 = .ok (.ireturn, 1) := by decide +kernel
theorem dX4_readAtom_81 : decode cX4_readAtom 81 = .ok (.aload_n 0, 1) := by decide +kernel
theorem dX4_readAtom_82 : decode cX4_readAtom 82 = .ok (.iload_n 1, 1) := by decide +kernel
theorem dX4_readAtom_83 : decode cX4_readAtom 83 = .ok (.iconst 1, 1) := by decide +kernel
theorem dX4_readAtom_84 : decode cX4_readAtom 84 = .ok (.iadd, 1) := by decide +kernel
theorem dX4_readAtom_85 : decode cX4_readAtom 85 = .ok (.invokevirtual 173, 3) := by decide +kernel
theorem dX4_readAtom_88 : decode cX4_readAtom 88 = .ok (.ifCond .eq 16, 3) := by decide +kernel
theorem dX4_readAtom_91 : decode cX4_readAtom 91 = .ok (.aload_n 0, 1) := by decide +kernel
theorem dX4_readAtom_92 : decode cX4_readAtom 92 = .ok (.bipush 17, 2) := by decide +kernel
theorem dX4_readAtom_94 : decode cX4_readAtom 94 = .ok (.invokevirtual 70, 3) := by decide +kernel
theorem dX4_readAtom_97 : decode cX4_readAtom 97 = .ok (.ifCond .eq 7, 3) := by decide +kernel
theorem dX4_readAtom_100 : decode cX4_readAtom 100 = .ok (.iconst 1, 1) := by decide +kernel
theorem dX4_readAtom_101 : decode cX4_readAtom 101 = .ok (.goto 4, 3) := by decide +kernel
theorem dX4_readAtom_104 : decode cX4_readAtom 104 = .ok (.iconst 0, 1) := by decide +kernel
theorem dX4_readAtom_105 : decode cX4_readAtom 105 = .ok (.ireturn, 1) := by decide +kernel
theorem dX4_readComparison_0 : decode cX4_readComparison 0 = .ok (.aload_n 0, 1) := by decide +kernel
theorem dX4_readComparison_1 : decode cX4_readComparison 1 = .ok (.invokevirtual 189, 3) := by decide +kernel
theorem dX4_readComparison_4 : decode cX4_readComparison 4 = .ok (.ifCond .ne 5, 3) := by decide +kernel
theorem dX4_readComparison_7 : decode cX4_readComparison 7 = .ok (.iconst 0, 1) := by decide +kernel
theorem dX4_readComparison_8 : decode cX4_readComparison 8 = .ok (.ireturn, 1) := by decide +kernel
theorem dX4_readComparison_9 : decode cX4_readComparison 9 = .ok (.aload_n 0, 1) := by decide +kernel
theorem dX4_readComparison_10 : decode cX4_readComparison 10 = .ok (.getfield 11, 3) := by decide +kernel
theorem dX4_readComparison_13 : decode cX4_readComparison 13 = .ok (.aload_n 0, 1) := by decide +kernel
theorem dX4_readComparison_14 : decode cX4_readComparison 14 = .ok (.getfield 56, 3) := by decide +kernel
theorem dX4_readComparison_17 : decode cX4_readComparison 17 = .ok (.iaload, 1) := by decide +kernel
theorem dX4_readComparison_18 : decode cX4_readComparison 18 = .ok (.istore_n 1, 1) := by decide +kernel
theorem dX4_readComparison_19 : decode cX4_readComparison 19 = .ok (.iload_n 1, 1) := by decide +kernel
theorem dX4_readComparison_20 : decode cX4_readComparison 20 = .ok (.bipush 11, 2) := by decide +kernel
theorem dX4_readComparison_22 : decode cX4_readComparison 22 = .ok (.if_icmp .eq 11, 3) := by decide +kernel
theorem dX4_readComparison_25 : decode cX4_readComparison 25 = .ok (.iload_n 1, 1) := by decide +kernel
theorem dX4_readComparison_26 : decode cX4_readComparison 26 = .ok (.bipush 12, 2) := by decide +kernel
theorem dX4_readComparison_28 : decode cX4_readComparison 28 = .ok (.if_icmp .eq 5, 3) := by decide +kernel
theorem dX4_readComparison_31 : decode cX4_readComparison 31 = .ok (.iconst 0, 1) := by decide +kernel
theorem dX4_readComparison_32 : decode cX4_readComparison 32 = .ok (.ireturn, 1) := by decide +kernel
theorem dX4_readComparison_33 : decode cX4_readComparison 33 = .ok (.aload_n 0, 1) := by decide +kernel
theorem dX4_readComparison_34 : decode cX4_readComparison 34 = .ok (.dup, 1) := by decide +kernel
theorem dX4_readComparison_35 : decode cX4_readComparison 35 = .ok (.getfield 56, 3) := by decide +kernel
theorem dX4_readComparison_38 : decode cX4_readComparison 38 = .ok (.iconst 1, 1) := by decide +kernel
theorem dX4_readComparison_39 : decode cX4_readComparison 39 = .ok (.iadd, 1) := by decide +kernel
theorem dX4_readComparison_40 : decode cX4_readComparison 40 = .ok (.putfield 56, 3) := by decide +kernel
theorem dX4_readComparison_43 : decode cX4_readComparison 43 = .ok (.aload_n 0, 1) := by decide +kernel
theorem dX4_readComparison_44 : decode cX4_readComparison 44 = .ok (.invokevirtual 189, 3) := by decide +kernel
theorem dX4_readComparison_47 : decode cX4_readComparison 47 = .ok (.istore_n 2, 1) := by decide +kernel
theorem dX4_readComparison_48 : decode cX4_readComparison 48 = .ok (.aload_n 0, 1) := by decide +kernel
theorem dX4_readComparison_49 : decode cX4_readComparison 49 = .ok (.iload_n 1, 1) := by decide +kernel
theorem dX4_readComparison_50 : decode cX4_readComparison 50 = .ok (.invokevirtual 179, 3) := by decide +kernel
theorem dX4_readComparison_53 : decode cX4_readComparison 53 = .ok (.iload_n 2, 1) := by decide +kernel
theorem dX4_readComparison_54 : decode cX4_readComparison 54 = .ok (.ireturn, 1) := by decide +kernel
theorem dX4_readSum_0 : decode cX4_readSum 0 = .ok (.aload_n 0, 1) := by decide +kernel
theorem dX4_readSum_1 : decode cX4_readSum 1 = .ok (.invokevirtual 192, 3) := by decide +kernel
theorem dX4_readSum_4 : decode cX4_readSum 4 = .ok (.istore_n 1, 1) := by decide +kernel
theorem dX4_readSum_5 : decode cX4_readSum 5 = .ok (.iconst 0, 1) := by decide +kernel
theorem dX4_readSum_6 : decode cX4_readSum 6 = .ok (.istore_n 2, 1) := by decide +kernel
theorem dX4_readSum_7 : decode cX4_readSum 7 = .ok (.iload_n 2, 1) := by decide +kernel
theorem dX4_readSum_8 : decode cX4_readSum 8 = .ok (.sipush 400, 3) := by decide +kernel
theorem dX4_readSum_11 : decode cX4_readSum 11 = .ok (.if_icmp .ge 33, 3) := by decide +kernel
theorem dX4_readSum_14 : decode cX4_readSum 14 = .ok (.iload_n 1, 1) := by decide +kernel
theorem dX4_readSum_15 : decode cX4_readSum 15 = .ok (.ifCond .eq 29, 3) := by decide +kernel
theorem dX4_readSum_18 : decode cX4_readSum 18 = .ok (.aload_n 0, 1) := by decide +kernel
theorem dX4_readSum_19 : decode cX4_readSum 19 = .ok (.bipush 10, 2) := by decide +kernel
theorem dX4_readSum_21 : decode cX4_readSum 21 = .ok (.invokevirtual 70, 3) := by decide +kernel
theorem dX4_readSum_24 : decode cX4_readSum 24 = .ok (.ifCond .eq 20, 3) := by decide +kernel
theorem dX4_readSum_27 : decode cX4_readSum 27 = .ok (.aload_n 0, 1) := by decide +kernel
theorem dX4_readSum_28 : decode cX4_readSum 28 = .ok (.invokevirtual 192, 3) := by decide +kernel
theorem dX4_readSum_31 : decode cX4_readSum 31 = .ok (.istore_n 1, 1) := by decide +kernel
theorem dX4_readSum_32 : decode cX4_readSum 32 = .ok (.aload_n 0, 1) := by decide +kernel
theorem dX4_readSum_33 : decode cX4_readSum 33 = .ok (.bipush 10, 2) := by decide +kernel
theorem dX4_readSum_35 : decode cX4_readSum 35 = .ok (.invokevirtual 179, 3) := by decide +kernel
theorem dX4_readSum_38 : decode cX4_readSum 38 = .ok (.iinc 2 1, 3) := by decide +kernel
theorem dX4_readSum_41 : decode cX4_readSum 41 = .ok (.goto (-34), 3) := by decide +kernel
theorem dX4_readSum_44 : decode cX4_readSum 44 = .ok (.iload_n 1, 1) := by decide +kernel
theorem dX4_readSum_45 : decode cX4_readSum 45 = .ok (.ireturn, 1) := by decide +kernel
theorem dX4_readPart_0 : decode cX4_readPart 0 = .ok (.aload_n 0, 1) := by decide +kernel
theorem dX4_readPart_1 : decode cX4_readPart 1 = .ok (.getfield 11, 3) := by decide +kernel
theorem dX4_readPart_4 : decode cX4_readPart 4 = .ok (.aload_n 0, 1) := by decide +kernel
theorem dX4_readPart_5 : decode cX4_readPart 5 = .ok (.getfield 56, 3) := by decide +kernel
theorem dX4_readPart_8 : decode cX4_readPart 8 = .ok (.iaload, 1) := by decide +kernel
theorem dX4_readPart_9 : decode cX4_readPart 9 = .ok (.istore_n 1, 1) := by decide +kernel
theorem dX4_readPart_10 : decode cX4_readPart 10 = .ok (.iload_n 1, 1) := by decide +kernel
theorem dX4_readPart_11 : decode cX4_readPart 11 = .ok (.bipush 10, 2) := by decide +kernel
theorem dX4_readPart_13 : decode cX4_readPart 13 = .ok (.if_icmp .lt 11, 3) := by decide +kernel
theorem dX4_readPart_16 : decode cX4_readPart 16 = .ok (.iload_n 1, 1) := by decide +kernel
theorem dX4_readPart_17 : decode cX4_readPart 17 = .ok (.bipush 40, 2) := by decide +kernel
theorem dX4_readPart_19 : decode cX4_readPart 19 = .ok (.if_icmp .ge 5, 3) := by decide +kernel
theorem dX4_readPart_22 : decode cX4_readPart 22 = .ok (.iconst 0, 1) := by decide +kernel
theorem dX4_readPart_23 : decode cX4_readPart 23 = .ok (.ireturn, 1) := by decide +kernel
theorem dX4_readPart_24 : decode cX4_readPart 24 = .ok (.aload_n 0, 1) := by decide +kernel
theorem dX4_readPart_25 : decode cX4_readPart 25 = .ok (.iload_n 1, 1) := by decide +kernel
theorem dX4_readPart_26 : decode cX4_readPart 26 = .ok (.invokevirtual 179, 3) := by decide +kernel
theorem dX4_readPart_29 : decode cX4_readPart 29 = .ok (.aload_n 0, 1) := by decide +kernel
theorem dX4_readPart_30 : decode cX4_readPart 30 = .ok (.dup, 1) := by decide +kernel
theorem dX4_readPart_31 : decode cX4_readPart 31 = .ok (.getfield 56, 3) := by decide +kernel
theorem dX4_readPart_34 : decode cX4_readPart 34 = .ok (.iconst 1, 1) := by decide +kernel
theorem dX4_readPart_35 : decode cX4_readPart 35 = .ok (.iadd, 1) := by decide +kernel
theorem dX4_readPart_36 : decode cX4_readPart 36 = .ok (.putfield 56, 3) := by decide +kernel
theorem dX4_readPart_39 : decode cX4_readPart 39 = .ok (.iconst 1, 1) := by decide +kernel
theorem dX4_readPart_40 : decode cX4_readPart 40 = .ok (.ireturn, 1) := by decide +kernel
theorem dX4_addStep_0 : decode cX4_addStep 0 = .ok (.aload_n 0, 1) := by decide +kernel
theorem dX4_addStep_1 : decode cX4_addStep 1 = .ok (.getfield 63, 3) := by decide +kernel
theorem dX4_addStep_4 : decode cX4_addStep 4 = .ok (.sipush 400, 3) := by decide +kernel
theorem dX4_addStep_7 : decode cX4_addStep 7 = .ok (.if_icmp .ge 23, 3) := by decide +kernel
theorem dX4_addStep_10 : decode cX4_addStep 10 = .ok (.aload_n 0, 1) := by decide +kernel
theorem dX4_addStep_11 : decode cX4_addStep 11 = .ok (.getfield 39, 3) := by decide +kernel
theorem dX4_addStep_14 : decode cX4_addStep 14 = .ok (.aload_n 0, 1) := by decide +kernel
theorem dX4_addStep_15 : decode cX4_addStep 15 = .ok (.getfield 63, 3) := by decide +kernel
theorem dX4_addStep_18 : decode cX4_addStep 18 = .ok (.iload_n 1, 1) := by decide +kernel
theorem dX4_addStep_19 : decode cX4_addStep 19 = .ok (.iastore, 1) := by decide +kernel
theorem dX4_addStep_20 : decode cX4_addStep 20 = .ok (.aload_n 0, 1) := by decide +kernel
theorem dX4_addStep_21 : decode cX4_addStep 21 = .ok (.dup, 1) := by decide +kernel
theorem dX4_addStep_22 : decode cX4_addStep 22 = .ok (.getfield 63, 3) := by decide +kernel
theorem dX4_addStep_25 : decode cX4_addStep 25 = .ok (.iconst 1, 1) := by decide +kernel
theorem dX4_addStep_26 : decode cX4_addStep 26 = .ok (.iadd, 1) := by decide +kernel
theorem dX4_addStep_27 : decode cX4_addStep 27 = .ok (.putfield 63, 3) := by decide +kernel
theorem dX4_addStep_30 : decode cX4_addStep 30 = .ok (.return_, 1) := by decide +kernel
theorem dX4_lineHolds_0 : decode cX4_lineHolds 0 = .ok (.iconst 0, 1) := by decide +kernel
theorem dX4_lineHolds_1 : decode cX4_lineHolds 1 = .ok (.istore_n 3, 1) := by decide +kernel
theorem dX4_lineHolds_2 : decode cX4_lineHolds 2 = .ok (.aload_n 0, 1) := by decide +kernel
theorem dX4_lineHolds_3 : decode cX4_lineHolds 3 = .ok (.getfield 33, 3) := by decide +kernel
theorem dX4_lineHolds_6 : decode cX4_lineHolds 6 = .ok (.iload_n 1, 1) := by decide +kernel
theorem dX4_lineHolds_7 : decode cX4_lineHolds 7 = .ok (.iaload, 1) := by decide +kernel
theorem dX4_lineHolds_8 : decode cX4_lineHolds 8 = .ok (.istore 4, 2) := by decide +kernel
theorem dX4_lineHolds_10 : decode cX4_lineHolds 10 = .ok (.iload 4, 2) := by decide +kernel
theorem dX4_lineHolds_12 : decode cX4_lineHolds 12 = .ok (.aload_n 0, 1) := by decide +kernel
theorem dX4_lineHolds_13 : decode cX4_lineHolds 13 = .ok (.getfield 36, 3) := by decide +kernel
theorem dX4_lineHolds_16 : decode cX4_lineHolds 16 = .ok (.iload_n 1, 1) := by decide +kernel
theorem dX4_lineHolds_17 : decode cX4_lineHolds 17 = .ok (.iaload, 1) := by decide +kernel
theorem dX4_lineHolds_18 : decode cX4_lineHolds 18 = .ok (.if_icmp .ge 151, 3) := by decide +kernel
theorem dX4_lineHolds_21 : decode cX4_lineHolds 21 = .ok (.aload_n 0, 1) := by decide +kernel
theorem dX4_lineHolds_22 : decode cX4_lineHolds 22 = .ok (.getfield 39, 3) := by decide +kernel
theorem dX4_lineHolds_25 : decode cX4_lineHolds 25 = .ok (.iload 4, 2) := by decide +kernel
theorem dX4_lineHolds_27 : decode cX4_lineHolds 27 = .ok (.iaload, 1) := by decide +kernel
theorem dX4_lineHolds_28 : decode cX4_lineHolds 28 = .ok (.istore 5, 2) := by decide +kernel
theorem dX4_lineHolds_30 : decode cX4_lineHolds 30 = .ok (.iload 5, 2) := by decide +kernel
theorem dX4_lineHolds_32 : decode cX4_lineHolds 32 = .ok (.bipush 13, 2) := by decide +kernel
theorem dX4_lineHolds_34 : decode cX4_lineHolds 34 = .ok (.if_icmp .ne 28, 3) := by decide +kernel
theorem dX4_lineHolds_37 : decode cX4_lineHolds 37 = .ok (.iload_n 3, 1) := by decide +kernel
theorem dX4_lineHolds_38 : decode cX4_lineHolds 38 = .ok (.ifCond .le 24, 3) := by decide +kernel
theorem dX4_lineHolds_41 : decode cX4_lineHolds 41 = .ok (.aload_n 0, 1) := by decide +kernel
theorem dX4_lineHolds_42 : decode cX4_lineHolds 42 = .ok (.getfield 42, 3) := by decide +kernel
theorem dX4_lineHolds_45 : decode cX4_lineHolds 45 = .ok (.iload_n 3, 1) := by decide +kernel
theorem dX4_lineHolds_46 : decode cX4_lineHolds 46 = .ok (.iconst 1, 1) := by decide +kernel
theorem dX4_lineHolds_47 : decode cX4_lineHolds 47 = .ok (.isub, 1) := by decide +kernel
theorem dX4_lineHolds_48 : decode cX4_lineHolds 48 = .ok (.lconst 1, 1) := by decide +kernel
theorem dX4_lineHolds_49 : decode cX4_lineHolds 49 = .ok (.aload_n 0, 1) := by decide +kernel
theorem dX4_lineHolds_50 : decode cX4_lineHolds 50 = .ok (.getfield 42, 3) := by decide +kernel
theorem dX4_lineHolds_53 : decode cX4_lineHolds 53 = .ok (.iload_n 3, 1) := by decide +kernel
theorem dX4_lineHolds_54 : decode cX4_lineHolds 54 = .ok (.iconst 1, 1) := by decide +kernel
theorem dX4_lineHolds_55 : decode cX4_lineHolds 55 = .ok (.isub, 1) := by decide +kernel
theorem dX4_lineHolds_56 : decode cX4_lineHolds 56 = .ok (.laload, 1) := by decide +kernel
theorem dX4_lineHolds_57 : decode cX4_lineHolds 57 = .ok (.lsub, 1) := by decide +kernel
theorem dX4_lineHolds_58 : decode cX4_lineHolds 58 = .ok (.lastore, 1) := by decide +kernel
theorem dX4_lineHolds_59 : decode cX4_lineHolds 59 = .ok (.goto 104, 3) := by decide +kernel
theorem dX4_lineHolds_62 : decode cX4_lineHolds 62 = .ok (.iload 5, 2) := by decide +kernel
theorem dX4_lineHolds_64 : decode cX4_lineHolds 64 = .ok (.bipush 10, 2) := by decide +kernel
theorem dX4_lineHolds_66 : decode cX4_lineHolds 66 = .ok (.if_icmp .lt 48, 3) := by decide +kernel
theorem dX4_lineHolds_69 : decode cX4_lineHolds 69 = .ok (.iload 5, 2) := by decide +kernel
theorem dX4_lineHolds_71 : decode cX4_lineHolds 71 = .ok (.bipush 15, 2) := by decide +kernel
theorem dX4_lineHolds_73 : decode cX4_lineHolds 73 = .ok (.if_icmp .gt 41, 3) := by decide +kernel
theorem dX4_lineHolds_76 : decode cX4_lineHolds 76 = .ok (.iload_n 3, 1) := by decide +kernel
theorem dX4_lineHolds_77 : decode cX4_lineHolds 77 = .ok (.iconst 1, 1) := by decide +kernel
theorem dX4_lineHolds_78 : decode cX4_lineHolds 78 = .ok (.if_icmp .le 36, 3) := by decide +kernel
theorem dX4_lineHolds_81 : decode cX4_lineHolds 81 = .ok (.iinc 3 (-1), 3) := by decide +kernel
theorem dX4_lineHolds_84 : decode cX4_lineHolds 84 = .ok (.aload_n 0, 1) := by decide +kernel
theorem dX4_lineHolds_85 : decode cX4_lineHolds 85 = .ok (.getfield 42, 3) := by decide +kernel
theorem dX4_lineHolds_88 : decode cX4_lineHolds 88 = .ok (.iload_n 3, 1) := by decide +kernel
theorem dX4_lineHolds_89 : decode cX4_lineHolds 89 = .ok (.iconst 1, 1) := by decide +kernel
theorem dX4_lineHolds_90 : decode cX4_lineHolds 90 = .ok (.isub, 1) := by decide +kernel
theorem dX4_lineHolds_91 : decode cX4_lineHolds 91 = .ok (.iload 5, 2) := by decide +kernel
theorem dX4_lineHolds_93 : decode cX4_lineHolds 93 = .ok (.aload_n 0, 1) := by decide +kernel
theorem dX4_lineHolds_94 : decode cX4_lineHolds 94 = .ok (.getfield 42, 3) := by decide +kernel
theorem dX4_lineHolds_97 : decode cX4_lineHolds 97 = .ok (.iload_n 3, 1) := by decide +kernel
theorem dX4_lineHolds_98 : decode cX4_lineHolds 98 = .ok (.iconst 1, 1) := by decide +kernel
theorem dX4_lineHolds_99 : decode cX4_lineHolds 99 = .ok (.isub, 1) := by decide +kernel
theorem dX4_lineHolds_100 : decode cX4_lineHolds 100 = .ok (.laload, 1) := by decide +kernel
theorem dX4_lineHolds_101 : decode cX4_lineHolds 101 = .ok (.aload_n 0, 1) := by decide +kernel
theorem dX4_lineHolds_102 : decode cX4_lineHolds 102 = .ok (.getfield 42, 3) := by decide +kernel
theorem dX4_lineHolds_105 : decode cX4_lineHolds 105 = .ok (.iload_n 3, 1) := by decide +kernel
theorem dX4_lineHolds_106 : decode cX4_lineHolds 106 = .ok (.laload, 1) := by decide +kernel
theorem dX4_lineHolds_107 : decode cX4_lineHolds 107 = .ok (.invokestatic 195, 3) := by decide +kernel
theorem dX4_lineHolds_110 : decode cX4_lineHolds 110 = .ok (.lastore, 1) := by decide +kernel
theorem dX4_lineHolds_111 : decode cX4_lineHolds 111 = .ok (.goto 52, 3) := by decide +kernel
theorem dX4_lineHolds_114 : decode cX4_lineHolds 114 = .ok (.iload_n 3, 1) := by decide +kernel
theorem dX4_lineHolds_115 : decode cX4_lineHolds 115 = .ok (.bipush 20, 2) := by decide +kernel
theorem dX4_lineHolds_117 : decode cX4_lineHolds 117 = .ok (.if_icmp .ge 46, 3) := by decide +kernel
theorem dX4_lineHolds_120 : decode cX4_lineHolds 120 = .ok (.iload 5, 2) := by decide +kernel
theorem dX4_lineHolds_122 : decode cX4_lineHolds 122 = .ok (.bipush 10, 2) := by decide +kernel
theorem dX4_lineHolds_124 : decode cX4_lineHolds 124 = .ok (.if_icmp .lt 10, 3) := by decide +kernel
theorem dX4_lineHolds_127 : decode cX4_lineHolds 127 = .ok (.iload 5, 2) := by decide +kernel
theorem dX4_lineHolds_129 : decode cX4_lineHolds 129 = .ok (.bipush 40, 2) := by decide +kernel
theorem dX4_lineHolds_131 : decode cX4_lineHolds 131 = .ok (.if_icmp .lt 32, 3) := by decide +kernel
theorem dX4_lineHolds_134 : decode cX4_lineHolds 134 = .ok (.aload_n 0, 1) := by decide +kernel
theorem dX4_lineHolds_135 : decode cX4_lineHolds 135 = .ok (.getfield 42, 3) := by decide +kernel
theorem dX4_lineHolds_138 : decode cX4_lineHolds 138 = .ok (.iload_n 3, 1) := by decide +kernel
theorem dX4_lineHolds_139 : decode cX4_lineHolds 139 = .ok (.iload 5, 2) := by decide +kernel
theorem dX4_lineHolds_141 : decode cX4_lineHolds 141 = .ok (.bipush 40, 2) := by decide +kernel
theorem dX4_lineHolds_143 : decode cX4_lineHolds 143 = .ok (.if_icmp .lt 12, 3) := by decide +kernel
theorem dX4_lineHolds_146 : decode cX4_lineHolds 146 = .ok (.iload 5, 2) := by decide +kernel
theorem dX4_lineHolds_148 : decode cX4_lineHolds 148 = .ok (.bipush 40, 2) := by decide +kernel
theorem dX4_lineHolds_150 : decode cX4_lineHolds 150 = .ok (.isub, 1) := by decide +kernel
theorem dX4_lineHolds_151 : decode cX4_lineHolds 151 = .ok (.i2l, 1) := by decide +kernel
theorem dX4_lineHolds_152 : decode cX4_lineHolds 152 = .ok (.goto 7, 3) := by decide +kernel
theorem dX4_lineHolds_155 : decode cX4_lineHolds 155 = .ok (.aload_n 2, 1) := by decide +kernel
theorem dX4_lineHolds_156 : decode cX4_lineHolds 156 = .ok (.iload 5, 2) := by decide +kernel
theorem dX4_lineHolds_158 : decode cX4_lineHolds 158 = .ok (.laload, 1) := by decide +kernel
theorem dX4_lineHolds_159 : decode cX4_lineHolds 159 = .ok (.lastore, 1) := by decide +kernel
theorem dX4_lineHolds_160 : decode cX4_lineHolds 160 = .ok (.iinc 3 1, 3) := by decide +kernel
theorem dX4_lineHolds_163 : decode cX4_lineHolds 163 = .ok (.iinc 4 1, 3) := by decide +kernel
theorem dX4_lineHolds_166 : decode cX4_lineHolds 166 = .ok (.goto (-156), 3) := by decide +kernel
theorem dX4_lineHolds_169 : decode cX4_lineHolds 169 = .ok (.iload_n 3, 1) := by decide +kernel
theorem dX4_lineHolds_170 : decode cX4_lineHolds 170 = .ok (.ifCond .eq 14, 3) := by decide +kernel
theorem dX4_lineHolds_173 : decode cX4_lineHolds 173 = .ok (.aload_n 0, 1) := by decide +kernel
theorem dX4_lineHolds_174 : decode cX4_lineHolds 174 = .ok (.getfield 42, 3) := by decide +kernel
theorem dX4_lineHolds_177 : decode cX4_lineHolds 177 = .ok (.iconst 0, 1) := by decide +kernel
theorem dX4_lineHolds_178 : decode cX4_lineHolds 178 = .ok (.laload, 1) := by decide +kernel
theorem dX4_lineHolds_179 : decode cX4_lineHolds 179 = .ok (.lconst 0, 1) := by decide +kernel
theorem dX4_lineHolds_180 : decode cX4_lineHolds 180 = .ok (.lcmp, 1) := by decide +kernel
theorem dX4_lineHolds_181 : decode cX4_lineHolds 181 = .ok (.ifCond .eq 7, 3) := by decide +kernel
theorem dX4_lineHolds_184 : decode cX4_lineHolds 184 = .ok (.iconst 1, 1) := by decide +kernel
theorem dX4_lineHolds_185 : decode cX4_lineHolds 185 = .ok (.goto 4, 3) := by decide +kernel
theorem dX4_lineHolds_188 : decode cX4_lineHolds 188 = .ok (.iconst 0, 1) := by decide +kernel
theorem dX4_lineHolds_189 : decode cX4_lineHolds 189 = .ok (.ireturn, 1) := by decide +kernel
theorem dX4_joined_0 : decode cX4_joined 0 = .ok (.iload_n 0, 1) := by decide +kernel
theorem dX4_joined_1 : decode cX4_joined 1 = .ok (.tableswitch 67 10 14 #[35, 39, 51, 67, 63], 35) := by decide +kernel
theorem dX4_joined_36 : decode cX4_joined 36 = .ok (.lload_n 1, 1) := by decide +kernel
theorem dX4_joined_37 : decode cX4_joined 37 = .ok (.lload_n 3, 1) := by decide +kernel
theorem dX4_joined_38 : decode cX4_joined 38 = .ok (.ladd, 1) := by decide +kernel
theorem dX4_joined_39 : decode cX4_joined 39 = .ok (.lreturn, 1) := by decide +kernel
theorem dX4_joined_40 : decode cX4_joined 40 = .ok (.lload_n 1, 1) := by decide +kernel
theorem dX4_joined_41 : decode cX4_joined 41 = .ok (.lload_n 3, 1) := by decide +kernel
theorem dX4_joined_42 : decode cX4_joined 42 = .ok (.lcmp, 1) := by decide +kernel
theorem dX4_joined_43 : decode cX4_joined 43 = .ok (.ifCond .ge 7, 3) := by decide +kernel
theorem dX4_joined_46 : decode cX4_joined 46 = .ok (.lconst 1, 1) := by decide +kernel
theorem dX4_joined_47 : decode cX4_joined 47 = .ok (.goto 4, 3) := by decide +kernel
theorem dX4_joined_50 : decode cX4_joined 50 = .ok (.lconst 0, 1) := by decide +kernel
theorem dX4_joined_51 : decode cX4_joined 51 = .ok (.lreturn, 1) := by decide +kernel
theorem dX4_joined_52 : decode cX4_joined 52 = .ok (.lload_n 1, 1) := by decide +kernel
theorem dX4_joined_53 : decode cX4_joined 53 = .ok (.lload_n 3, 1) := by decide +kernel
theorem dX4_joined_54 : decode cX4_joined 54 = .ok (.lcmp, 1) := by decide +kernel
theorem dX4_joined_55 : decode cX4_joined 55 = .ok (.ifCond .le 7, 3) := by decide +kernel
theorem dX4_joined_58 : decode cX4_joined 58 = .ok (.lconst 1, 1) := by decide +kernel
theorem dX4_joined_59 : decode cX4_joined 59 = .ok (.goto 4, 3) := by decide +kernel
theorem dX4_joined_62 : decode cX4_joined 62 = .ok (.lconst 0, 1) := by decide +kernel
theorem dX4_joined_63 : decode cX4_joined 63 = .ok (.lreturn, 1) := by decide +kernel
theorem dX4_joined_64 : decode cX4_joined 64 = .ok (.lload_n 1, 1) := by decide +kernel
theorem dX4_joined_65 : decode cX4_joined 65 = .ok (.lload_n 3, 1) := by decide +kernel
theorem dX4_joined_66 : decode cX4_joined 66 = .ok (.lmul, 1) := by decide +kernel
theorem dX4_joined_67 : decode cX4_joined 67 = .ok (.lreturn, 1) := by decide +kernel
theorem dX4_joined_68 : decode cX4_joined 68 = .ok (.lload_n 1, 1) := by decide +kernel
theorem dX4_joined_69 : decode cX4_joined 69 = .ok (.lload_n 3, 1) := by decide +kernel
theorem dX4_joined_70 : decode cX4_joined 70 = .ok (.invokestatic 199, 3) := by decide +kernel
theorem dX4_joined_73 : decode cX4_joined 73 = .ok (.lreturn, 1) := by decide +kernel
theorem dX4_sumThatHolds_0 : decode cX4_sumThatHolds 0 = .ok (.lconst 0, 1) := by decide +kernel
theorem dX4_sumThatHolds_1 : decode cX4_sumThatHolds 1 = .ok (.lstore_n 3, 1) := by decide +kernel
theorem dX4_sumThatHolds_2 : decode cX4_sumThatHolds 2 = .ok (.iconst 0, 1) := by decide +kernel
theorem dX4_sumThatHolds_3 : decode cX4_sumThatHolds 3 = .ok (.istore 5, 2) := by decide +kernel
theorem dX4_sumThatHolds_5 : decode cX4_sumThatHolds 5 = .ok (.iload 5, 2) := by decide +kernel
theorem dX4_sumThatHolds_7 : decode cX4_sumThatHolds 7 = .ok (.aload_n 0, 1) := by decide +kernel
theorem dX4_sumThatHolds_8 : decode cX4_sumThatHolds 8 = .ok (.getfield 60, 3) := by decide +kernel
theorem dX4_sumThatHolds_11 : decode cX4_sumThatHolds 11 = .ok (.if_icmp .ge 41, 3) := by decide +kernel
theorem dX4_sumThatHolds_14 : decode cX4_sumThatHolds 14 = .ok (.aload_n 0, 1) := by decide +kernel
theorem dX4_sumThatHolds_15 : decode cX4_sumThatHolds 15 = .ok (.getfield 18, 3) := by decide +kernel
theorem dX4_sumThatHolds_18 : decode cX4_sumThatHolds 18 = .ok (.iload 5, 2) := by decide +kernel
theorem dX4_sumThatHolds_20 : decode cX4_sumThatHolds 20 = .ok (.iaload, 1) := by decide +kernel
theorem dX4_sumThatHolds_21 : decode cX4_sumThatHolds 21 = .ok (.iload_n 1, 1) := by decide +kernel
theorem dX4_sumThatHolds_22 : decode cX4_sumThatHolds 22 = .ok (.if_icmp .ne 24, 3) := by decide +kernel
theorem dX4_sumThatHolds_25 : decode cX4_sumThatHolds 25 = .ok (.aload_n 0, 1) := by decide +kernel
theorem dX4_sumThatHolds_26 : decode cX4_sumThatHolds 26 = .ok (.iload 5, 2) := by decide +kernel
theorem dX4_sumThatHolds_28 : decode cX4_sumThatHolds 28 = .ok (.aload_n 2, 1) := by decide +kernel
theorem dX4_sumThatHolds_29 : decode cX4_sumThatHolds 29 = .ok (.invokevirtual 203, 3) := by decide +kernel
theorem dX4_sumThatHolds_32 : decode cX4_sumThatHolds 32 = .ok (.ifCond .eq 14, 3) := by decide +kernel
theorem dX4_sumThatHolds_35 : decode cX4_sumThatHolds 35 = .ok (.lload_n 3, 1) := by decide +kernel
theorem dX4_sumThatHolds_36 : decode cX4_sumThatHolds 36 = .ok (.aload_n 0, 1) := by decide +kernel
theorem dX4_sumThatHolds_37 : decode cX4_sumThatHolds 37 = .ok (.getfield 21, 3) := by decide +kernel
theorem dX4_sumThatHolds_40 : decode cX4_sumThatHolds 40 = .ok (.iload 5, 2) := by decide +kernel
theorem dX4_sumThatHolds_42 : decode cX4_sumThatHolds 42 = .ok (.iaload, 1) := by decide +kernel
theorem dX4_sumThatHolds_43 : decode cX4_sumThatHolds 43 = .ok (.i2l, 1) := by decide +kernel
theorem dX4_sumThatHolds_44 : decode cX4_sumThatHolds 44 = .ok (.ladd, 1) := by decide +kernel
theorem dX4_sumThatHolds_45 : decode cX4_sumThatHolds 45 = .ok (.lstore_n 3, 1) := by decide +kernel
theorem dX4_sumThatHolds_46 : decode cX4_sumThatHolds 46 = .ok (.iinc 5 1, 3) := by decide +kernel
theorem dX4_sumThatHolds_49 : decode cX4_sumThatHolds 49 = .ok (.goto (-44), 3) := by decide +kernel
theorem dX4_sumThatHolds_52 : decode cX4_sumThatHolds 52 = .ok (.lload_n 3, 1) := by decide +kernel
theorem dX4_sumThatHolds_53 : decode cX4_sumThatHolds 53 = .ok (.lreturn, 1) := by decide +kernel
theorem dX4_firstThatHolds_0 : decode cX4_firstThatHolds 0 = .ok (.iconst 0, 1) := by decide +kernel
theorem dX4_firstThatHolds_1 : decode cX4_firstThatHolds 1 = .ok (.istore_n 3, 1) := by decide +kernel
theorem dX4_firstThatHolds_2 : decode cX4_firstThatHolds 2 = .ok (.iload_n 3, 1) := by decide +kernel
theorem dX4_firstThatHolds_3 : decode cX4_firstThatHolds 3 = .ok (.aload_n 0, 1) := by decide +kernel
theorem dX4_firstThatHolds_4 : decode cX4_firstThatHolds 4 = .ok (.getfield 60, 3) := by decide +kernel
theorem dX4_firstThatHolds_7 : decode cX4_firstThatHolds 7 = .ok (.if_icmp .ge 30, 3) := by decide +kernel
theorem dX4_firstThatHolds_10 : decode cX4_firstThatHolds 10 = .ok (.aload_n 0, 1) := by decide +kernel
theorem dX4_firstThatHolds_11 : decode cX4_firstThatHolds 11 = .ok (.getfield 18, 3) := by decide +kernel
theorem dX4_firstThatHolds_14 : decode cX4_firstThatHolds 14 = .ok (.iload_n 3, 1) := by decide +kernel
theorem dX4_firstThatHolds_15 : decode cX4_firstThatHolds 15 = .ok (.iaload, 1) := by decide +kernel
theorem dX4_firstThatHolds_16 : decode cX4_firstThatHolds 16 = .ok (.iload_n 1, 1) := by decide +kernel
theorem dX4_firstThatHolds_17 : decode cX4_firstThatHolds 17 = .ok (.if_icmp .ne 14, 3) := by decide +kernel
theorem dX4_firstThatHolds_20 : decode cX4_firstThatHolds 20 = .ok (.aload_n 0, 1) := by decide +kernel
theorem dX4_firstThatHolds_21 : decode cX4_firstThatHolds 21 = .ok (.iload_n 3, 1) := by decide +kernel
theorem dX4_firstThatHolds_22 : decode cX4_firstThatHolds 22 = .ok (.aload_n 2, 1) := by decide +kernel
theorem dX4_firstThatHolds_23 : decode cX4_firstThatHolds 23 = .ok (.invokevirtual 203, 3) := by decide +kernel
theorem dX4_firstThatHolds_26 : decode cX4_firstThatHolds 26 = .ok (.ifCond .eq 5, 3) := by decide +kernel
theorem dX4_firstThatHolds_29 : decode cX4_firstThatHolds 29 = .ok (.iload_n 3, 1) := by decide +kernel
theorem dX4_firstThatHolds_30 : decode cX4_firstThatHolds 30 = .ok (.ireturn, 1) := by decide +kernel
theorem dX4_firstThatHolds_31 : decode cX4_firstThatHolds 31 = .ok (.iinc 3 1, 3) := by decide +kernel
theorem dX4_firstThatHolds_34 : decode cX4_firstThatHolds 34 = .ok (.goto (-32), 3) := by decide +kernel
theorem dX4_firstThatHolds_37 : decode cX4_firstThatHolds 37 = .ok (.iconst (-1), 1) := by decide +kernel
theorem dX4_firstThatHolds_38 : decode cX4_firstThatHolds 38 = .ok (.ireturn, 1) := by decide +kernel
theorem dX4_lastOf_0 : decode cX4_lastOf 0 = .ok (.iload_n 2, 1) := by decide +kernel
theorem dX4_lastOf_1 : decode cX4_lastOf 1 = .ok (.istore_n 3, 1) := by decide +kernel
theorem dX4_lastOf_2 : decode cX4_lastOf 2 = .ok (.iconst 0, 1) := by decide +kernel
theorem dX4_lastOf_3 : decode cX4_lastOf 3 = .ok (.istore 4, 2) := by decide +kernel
theorem dX4_lastOf_5 : decode cX4_lastOf 5 = .ok (.iload 4, 2) := by decide +kernel
theorem dX4_lastOf_7 : decode cX4_lastOf 7 = .ok (.aload_n 0, 1) := by decide +kernel
theorem dX4_lastOf_8 : decode cX4_lastOf 8 = .ok (.getfield 60, 3) := by decide +kernel
theorem dX4_lastOf_11 : decode cX4_lastOf 11 = .ok (.if_icmp .ge 32, 3) := by decide +kernel
theorem dX4_lastOf_14 : decode cX4_lastOf 14 = .ok (.aload_n 0, 1) := by decide +kernel
theorem dX4_lastOf_15 : decode cX4_lastOf 15 = .ok (.getfield 18, 3) := by decide +kernel
theorem dX4_lastOf_18 : decode cX4_lastOf 18 = .ok (.iload 4, 2) := by decide +kernel
theorem dX4_lastOf_20 : decode cX4_lastOf 20 = .ok (.iaload, 1) := by decide +kernel
theorem dX4_lastOf_21 : decode cX4_lastOf 21 = .ok (.iload_n 1, 1) := by decide +kernel
theorem dX4_lastOf_22 : decode cX4_lastOf 22 = .ok (.if_icmp .ne 13, 3) := by decide +kernel
theorem dX4_lastOf_25 : decode cX4_lastOf 25 = .ok (.aload_n 0, 1) := by decide +kernel
theorem dX4_lastOf_26 : decode cX4_lastOf 26 = .ok (.getfield 21, 3) := by decide +kernel
theorem dX4_lastOf_29 : decode cX4_lastOf 29 = .ok (.iload 4, 2) := by decide +kernel
theorem dX4_lastOf_31 : decode cX4_lastOf 31 = .ok (.iaload, 1) := by decide +kernel
theorem dX4_lastOf_32 : decode cX4_lastOf 32 = .ok (.goto 4, 3) := by decide +kernel
theorem dX4_lastOf_35 : decode cX4_lastOf 35 = .ok (.iload_n 3, 1) := by decide +kernel
theorem dX4_lastOf_36 : decode cX4_lastOf 36 = .ok (.istore_n 3, 1) := by decide +kernel
theorem dX4_lastOf_37 : decode cX4_lastOf 37 = .ok (.iinc 4 1, 3) := by decide +kernel
theorem dX4_lastOf_40 : decode cX4_lastOf 40 = .ok (.goto (-35), 3) := by decide +kernel
theorem dX4_lastOf_43 : decode cX4_lastOf 43 = .ok (.iload_n 3, 1) := by decide +kernel
theorem dX4_lastOf_44 : decode cX4_lastOf 44 = .ok (.ireturn, 1) := by decide +kernel
theorem dX4_levelFor_0 : decode cX4_levelFor 0 = .ok (.sipush 1000, 3) := by decide +kernel
theorem dX4_levelFor_3 : decode cX4_levelFor 3 = .ok (.istore_n 3, 1) := by decide +kernel
theorem dX4_levelFor_4 : decode cX4_levelFor 4 = .ok (.iconst 0, 1) := by decide +kernel
theorem dX4_levelFor_5 : decode cX4_levelFor 5 = .ok (.istore 4, 2) := by decide +kernel
theorem dX4_levelFor_7 : decode cX4_levelFor 7 = .ok (.iload 4, 2) := by decide +kernel
theorem dX4_levelFor_9 : decode cX4_levelFor 9 = .ok (.aload_n 0, 1) := by decide +kernel
theorem dX4_levelFor_10 : decode cX4_levelFor 10 = .ok (.getfield 60, 3) := by decide +kernel
theorem dX4_levelFor_13 : decode cX4_levelFor 13 = .ok (.if_icmp .ge 66, 3) := by decide +kernel
theorem dX4_levelFor_16 : decode cX4_levelFor 16 = .ok (.aload_n 0, 1) := by decide +kernel
theorem dX4_levelFor_17 : decode cX4_levelFor 17 = .ok (.getfield 18, 3) := by decide +kernel
theorem dX4_levelFor_20 : decode cX4_levelFor 20 = .ok (.iload 4, 2) := by decide +kernel
theorem dX4_levelFor_22 : decode cX4_levelFor 22 = .ok (.iaload, 1) := by decide +kernel
theorem dX4_levelFor_23 : decode cX4_levelFor 23 = .ok (.bipush 7, 2) := by decide +kernel
theorem dX4_levelFor_25 : decode cX4_levelFor 25 = .ok (.if_icmp .ne 48, 3) := by decide +kernel
theorem dX4_levelFor_28 : decode cX4_levelFor 28 = .ok (.iload_n 1, 1) := by decide +kernel
theorem dX4_levelFor_29 : decode cX4_levelFor 29 = .ok (.aload_n 0, 1) := by decide +kernel
theorem dX4_levelFor_30 : decode cX4_levelFor 30 = .ok (.getfield 27, 3) := by decide +kernel
theorem dX4_levelFor_33 : decode cX4_levelFor 33 = .ok (.iload 4, 2) := by decide +kernel
theorem dX4_levelFor_35 : decode cX4_levelFor 35 = .ok (.iaload, 1) := by decide +kernel
theorem dX4_levelFor_36 : decode cX4_levelFor 36 = .ok (.aload_n 0, 1) := by decide +kernel
theorem dX4_levelFor_37 : decode cX4_levelFor 37 = .ok (.getfield 30, 3) := by decide +kernel
theorem dX4_levelFor_40 : decode cX4_levelFor 40 = .ok (.iload 4, 2) := by decide +kernel
theorem dX4_levelFor_42 : decode cX4_levelFor 42 = .ok (.iaload, 1) := by decide +kernel
theorem dX4_levelFor_43 : decode cX4_levelFor 43 = .ok (.invokestatic 207, 3) := by decide +kernel
theorem dX4_levelFor_46 : decode cX4_levelFor 46 = .ok (.ifCond .eq 27, 3) := by decide +kernel
theorem dX4_levelFor_49 : decode cX4_levelFor 49 = .ok (.iload_n 2, 1) := by decide +kernel
theorem dX4_levelFor_50 : decode cX4_levelFor 50 = .ok (.ifCond .eq 14, 3) := by decide +kernel
theorem dX4_levelFor_53 : decode cX4_levelFor 53 = .ok (.aload_n 0, 1) := by decide +kernel
theorem dX4_levelFor_54 : decode cX4_levelFor 54 = .ok (.getfield 21, 3) := by decide +kernel
theorem dX4_levelFor_57 : decode cX4_levelFor 57 = .ok (.iload 4, 2) := by decide +kernel
theorem dX4_levelFor_59 : decode cX4_levelFor 59 = .ok (.iaload, 1) := by decide +kernel
theorem dX4_levelFor_60 : decode cX4_levelFor 60 = .ok (.ineg, 1) := by decide +kernel
theorem dX4_levelFor_61 : decode cX4_levelFor 61 = .ok (.goto 11, 3) := by decide +kernel
theorem dX4_levelFor_64 : decode cX4_levelFor 64 = .ok (.aload_n 0, 1) := by decide +kernel
theorem dX4_levelFor_65 : decode cX4_levelFor 65 = .ok (.getfield 24, 3) := by decide +kernel
theorem dX4_levelFor_68 : decode cX4_levelFor 68 = .ok (.iload 4, 2) := by decide +kernel
theorem dX4_levelFor_70 : decode cX4_levelFor 70 = .ok (.iaload, 1) := by decide +kernel
theorem dX4_levelFor_71 : decode cX4_levelFor 71 = .ok (.ineg, 1) := by decide +kernel
theorem dX4_levelFor_72 : decode cX4_levelFor 72 = .ok (.istore_n 3, 1) := by decide +kernel
theorem dX4_levelFor_73 : decode cX4_levelFor 73 = .ok (.iinc 4 1, 3) := by decide +kernel
theorem dX4_levelFor_76 : decode cX4_levelFor 76 = .ok (.goto (-69), 3) := by decide +kernel
theorem dX4_levelFor_79 : decode cX4_levelFor 79 = .ok (.iload_n 3, 1) := by decide +kernel
theorem dX4_levelFor_80 : decode cX4_levelFor 80 = .ok (.ireturn, 1) := by decide +kernel
theorem dX5_init_0 : decode cX5_init 0 = .ok (.aload_n 0, 1) := by decide +kernel
theorem dX5_init_1 : decode cX5_init 1 = .ok (.invokespecial 5, 3) := by decide +kernel
theorem dX5_init_4 : decode cX5_init 4 = .ok (.aload_n 0, 1) := by decide +kernel
theorem dX5_init_5 : decode cX5_init 5 = .ok (.bipush 6, 2) := by decide +kernel
theorem dX5_init_7 : decode cX5_init 7 = .ok (.newarray .int, 2) := by decide +kernel
theorem dX5_init_9 : decode cX5_init 9 = .ok (.putfield 13, 3) := by decide +kernel
theorem dX5_init_12 : decode cX5_init 12 = .ok (.aload_n 0, 1) := by decide +kernel
theorem dX5_init_13 : decode cX5_init 13 = .ok (.bipush 121, 2) := by decide +kernel
theorem dX5_init_15 : decode cX5_init 15 = .ok (.newarray .int, 2) := by decide +kernel
theorem dX5_init_17 : decode cX5_init 17 = .ok (.putfield 17, 3) := by decide +kernel
theorem dX5_init_20 : decode cX5_init 20 = .ok (.aload_n 0, 1) := by decide +kernel
theorem dX5_init_21 : decode cX5_init 21 = .ok (.bipush 121, 2) := by decide +kernel
theorem dX5_init_23 : decode cX5_init 23 = .ok (.newarray .int, 2) := by decide +kernel
theorem dX5_init_25 : decode cX5_init 25 = .ok (.putfield 20, 3) := by decide +kernel
theorem dX5_init_28 : decode cX5_init 28 = .ok (.aload_n 0, 1) := by decide +kernel
theorem dX5_init_29 : decode cX5_init 29 = .ok (.bipush 6, 2) := by decide +kernel
theorem dX5_init_31 : decode cX5_init 31 = .ok (.newarray .int, 2) := by decide +kernel
theorem dX5_init_33 : decode cX5_init 33 = .ok (.putfield 23, 3) := by decide +kernel
theorem dX5_init_36 : decode cX5_init 36 = .ok (.aload_n 0, 1) := by decide +kernel
theorem dX5_init_37 : decode cX5_init 37 = .ok (.bipush 6, 2) := by decide +kernel
theorem dX5_init_39 : decode cX5_init 39 = .ok (.newarray .int, 2) := by decide +kernel
theorem dX5_init_41 : decode cX5_init 41 = .ok (.putfield 26, 3) := by decide +kernel
theorem dX5_init_44 : decode cX5_init 44 = .ok (.aload_n 0, 1) := by decide +kernel
theorem dX5_init_45 : decode cX5_init 45 = .ok (.bipush 7, 2) := by decide +kernel
theorem dX5_init_47 : decode cX5_init 47 = .ok (.newarray .int, 2) := by decide +kernel
theorem dX5_init_49 : decode cX5_init 49 = .ok (.putfield 29, 3) := by decide +kernel
theorem dX5_init_52 : decode cX5_init 52 = .ok (.aload_n 0, 1) := by decide +kernel
theorem dX5_init_53 : decode cX5_init 53 = .ok (.bipush 7, 2) := by decide +kernel
theorem dX5_init_55 : decode cX5_init 55 = .ok (.newarray .int, 2) := by decide +kernel
theorem dX5_init_57 : decode cX5_init 57 = .ok (.putfield 32, 3) := by decide +kernel
theorem dX5_init_60 : decode cX5_init 60 = .ok (.aload_n 0, 1) := by decide +kernel
theorem dX5_init_61 : decode cX5_init 61 = .ok (.bipush 7, 2) := by decide +kernel
theorem dX5_init_63 : decode cX5_init 63 = .ok (.newarray .int, 2) := by decide +kernel
theorem dX5_init_65 : decode cX5_init 65 = .ok (.putfield 35, 3) := by decide +kernel
theorem dX5_init_68 : decode cX5_init 68 = .ok (.aload_n 0, 1) := by decide +kernel
theorem dX5_init_69 : decode cX5_init 69 = .ok (.bipush 7, 2) := by decide +kernel
theorem dX5_init_71 : decode cX5_init 71 = .ok (.newarray .int, 2) := by decide +kernel
theorem dX5_init_73 : decode cX5_init 73 = .ok (.putfield 38, 3) := by decide +kernel
theorem dX5_init_76 : decode cX5_init 76 = .ok (.aload_n 0, 1) := by decide +kernel
theorem dX5_init_77 : decode cX5_init 77 = .ok (.bipush 7, 2) := by decide +kernel
theorem dX5_init_79 : decode cX5_init 79 = .ok (.newarray .boolean, 2) := by decide +kernel
theorem dX5_init_81 : decode cX5_init 81 = .ok (.putfield 41, 3) := by decide +kernel
theorem dX5_init_84 : decode cX5_init 84 = .ok (.aload_n 0, 1) := by decide +kernel
theorem dX5_init_85 : decode cX5_init 85 = .ok (.bipush 7, 2) := by decide +kernel
theorem dX5_init_87 : decode cX5_init 87 = .ok (.newarray .int, 2) := by decide +kernel
theorem dX5_init_89 : decode cX5_init 89 = .ok (.putfield 45, 3) := by decide +kernel
theorem dX5_init_92 : decode cX5_init 92 = .ok (.aload_n 0, 1) := by decide +kernel
theorem dX5_init_93 : decode cX5_init 93 = .ok (.bipush 7, 2) := by decide +kernel
theorem dX5_init_95 : decode cX5_init 95 = .ok (.newarray .int, 2) := by decide +kernel
theorem dX5_init_97 : decode cX5_init 97 = .ok (.putfield 48, 3) := by decide +kernel
theorem dX5_init_100 : decode cX5_init 100 = .ok (.return_, 1) := by decide +kernel
theorem dX5_leastCoal_0 : decode cX5_leastCoal 0 = .ok (.aload_n 0, 1) := by decide +kernel
theorem dX5_leastCoal_1 : decode cX5_leastCoal 1 = .ok (.aload_n 1, 1) := by decide +kernel
theorem dX5_leastCoal_2 : decode cX5_leastCoal 2 = .ok (.invokevirtual 51, 3) := by decide +kernel
theorem dX5_leastCoal_5 : decode cX5_leastCoal 5 = .ok (.aload_n 0, 1) := by decide +kernel
theorem dX5_leastCoal_6 : decode cX5_leastCoal 6 = .ok (.getfield 17, 3) := by decide +kernel
theorem dX5_leastCoal_9 : decode cX5_leastCoal 9 = .ok (.ldc 55, 2) := by decide +kernel
theorem dX5_leastCoal_11 : decode cX5_leastCoal 11 = .ok (.invokestatic 56, 3) := by decide +kernel
theorem dX5_leastCoal_14 : decode cX5_leastCoal 14 = .ok (.aload_n 0, 1) := by decide +kernel
theorem dX5_leastCoal_15 : decode cX5_leastCoal 15 = .ok (.getfield 17, 3) := by decide +kernel
theorem dX5_leastCoal_18 : decode cX5_leastCoal 18 = .ok (.iconst 0, 1) := by decide +kernel
theorem dX5_leastCoal_19 : decode cX5_leastCoal 19 = .ok (.iload_n 2, 1) := by decide +kernel
theorem dX5_leastCoal_20 : decode cX5_leastCoal 20 = .ok (.iastore, 1) := by decide +kernel
theorem dX5_leastCoal_21 : decode cX5_leastCoal 21 = .ok (.iconst 1, 1) := by decide +kernel
theorem dX5_leastCoal_22 : decode cX5_leastCoal 22 = .ok (.istore 6, 2) := by decide +kernel
theorem dX5_leastCoal_24 : decode cX5_leastCoal 24 = .ok (.iload 6, 2) := by decide +kernel
theorem dX5_leastCoal_26 : decode cX5_leastCoal 26 = .ok (.iload 4, 2) := by decide +kernel
theorem dX5_leastCoal_28 : decode cX5_leastCoal 28 = .ok (.if_icmp .gt 27, 3) := by decide +kernel
theorem dX5_leastCoal_31 : decode cX5_leastCoal 31 = .ok (.aload_n 0, 1) := by decide +kernel
theorem dX5_leastCoal_32 : decode cX5_leastCoal 32 = .ok (.iload_n 3, 1) := by decide +kernel
theorem dX5_leastCoal_33 : decode cX5_leastCoal 33 = .ok (.aload_n 1, 1) := by decide +kernel
theorem dX5_leastCoal_34 : decode cX5_leastCoal 34 = .ok (.aload_n 1, 1) := by decide +kernel
theorem dX5_leastCoal_35 : decode cX5_leastCoal 35 = .ok (.getfield 62, 3) := by decide +kernel
theorem dX5_leastCoal_38 : decode cX5_leastCoal 38 = .ok (.iload 6, 2) := by decide +kernel
theorem dX5_leastCoal_40 : decode cX5_leastCoal 40 = .ok (.iadd, 1) := by decide +kernel
theorem dX5_leastCoal_41 : decode cX5_leastCoal 41 = .ok (.invokevirtual 68, 3) := by decide +kernel
theorem dX5_leastCoal_44 : decode cX5_leastCoal 44 = .ok (.iload 5, 2) := by decide +kernel
theorem dX5_leastCoal_46 : decode cX5_leastCoal 46 = .ok (.invokevirtual 72, 3) := by decide +kernel
theorem dX5_leastCoal_49 : decode cX5_leastCoal 49 = .ok (.iinc 6 1, 3) := by decide +kernel
theorem dX5_leastCoal_52 : decode cX5_leastCoal 52 = .ok (.goto (-28), 3) := by decide +kernel
theorem dX5_leastCoal_55 : decode cX5_leastCoal 55 = .ok (.iconst 0, 1) := by decide +kernel
theorem dX5_leastCoal_56 : decode cX5_leastCoal 56 = .ok (.istore 6, 2) := by decide +kernel
theorem dX5_leastCoal_58 : decode cX5_leastCoal 58 = .ok (.iload 6, 2) := by decide +kernel
theorem dX5_leastCoal_60 : decode cX5_leastCoal 60 = .ok (.bipush 120, 2) := by decide +kernel
theorem dX5_leastCoal_62 : decode cX5_leastCoal 62 = .ok (.if_icmp .gt 24, 3) := by decide +kernel
theorem dX5_leastCoal_65 : decode cX5_leastCoal 65 = .ok (.aload_n 0, 1) := by decide +kernel
theorem dX5_leastCoal_66 : decode cX5_leastCoal 66 = .ok (.getfield 17, 3) := by decide +kernel
theorem dX5_leastCoal_69 : decode cX5_leastCoal 69 = .ok (.iload 6, 2) := by decide +kernel
theorem dX5_leastCoal_71 : decode cX5_leastCoal 71 = .ok (.iaload, 1) := by decide +kernel
theorem dX5_leastCoal_72 : decode cX5_leastCoal 72 = .ok (.ldc 55, 2) := by decide +kernel
theorem dX5_leastCoal_74 : decode cX5_leastCoal 74 = .ok (.if_icmp .eq 6, 3) := by decide +kernel
theorem dX5_leastCoal_77 : decode cX5_leastCoal 77 = .ok (.iload 6, 2) := by decide +kernel
theorem dX5_leastCoal_79 : decode cX5_leastCoal 79 = .ok (.ireturn, 1) := by decide +kernel
theorem dX5_leastCoal_80 : decode cX5_leastCoal 80 = .ok (.iinc 6 1, 3) := by decide +kernel
theorem dX5_leastCoal_83 : decode cX5_leastCoal 83 = .ok (.goto (-25), 3) := by decide +kernel
theorem dX5_leastCoal_86 : decode cX5_leastCoal 86 = .ok (.iconst (-1), 1) := by decide +kernel
theorem dX5_leastCoal_87 : decode cX5_leastCoal 87 = .ok (.ireturn, 1) := by decide +kernel
theorem dX5_gatherEngines_0 : decode cX5_gatherEngines 0 = .ok (.aload_n 0, 1) := by decide +kernel
theorem dX5_gatherEngines_1 : decode cX5_gatherEngines 1 = .ok (.iconst 0, 1) := by decide +kernel
theorem dX5_gatherEngines_2 : decode cX5_gatherEngines 2 = .ok (.putfield 76, 3) := by decide +kernel
theorem dX5_gatherEngines_5 : decode cX5_gatherEngines 5 = .ok (.iconst 0, 1) := by decide +kernel
theorem dX5_gatherEngines_6 : decode cX5_gatherEngines 6 = .ok (.istore_n 2, 1) := by decide +kernel
theorem dX5_gatherEngines_7 : decode cX5_gatherEngines 7 = .ok (.iload_n 2, 1) := by decide +kernel
theorem dX5_gatherEngines_8 : decode cX5_gatherEngines 8 = .ok (.aload_n 1, 1) := by decide +kernel
theorem dX5_gatherEngines_9 : decode cX5_gatherEngines 9 = .ok (.getfield 79, 3) := by decide +kernel
theorem dX5_gatherEngines_12 : decode cX5_gatherEngines 12 = .ok (.if_icmp .ge 105, 3) := by decide +kernel
theorem dX5_gatherEngines_15 : decode cX5_gatherEngines 15 = .ok (.aload_n 0, 1) := by decide +kernel
theorem dX5_gatherEngines_16 : decode cX5_gatherEngines 16 = .ok (.getfield 76, 3) := by decide +kernel
theorem dX5_gatherEngines_19 : decode cX5_gatherEngines 19 = .ok (.iconst 5, 1) := by decide +kernel
theorem dX5_gatherEngines_20 : decode cX5_gatherEngines 20 = .ok (.if_icmp .ge 97, 3) := by decide +kernel
theorem dX5_gatherEngines_23 : decode cX5_gatherEngines 23 = .ok (.aload_n 1, 1) := by decide +kernel
theorem dX5_gatherEngines_24 : decode cX5_gatherEngines 24 = .ok (.getfield 82, 3) := by decide +kernel
theorem dX5_gatherEngines_27 : decode cX5_gatherEngines 27 = .ok (.iload_n 2, 1) := by decide +kernel
theorem dX5_gatherEngines_28 : decode cX5_gatherEngines 28 = .ok (.aaload, 1) := by decide +kernel
theorem dX5_gatherEngines_29 : decode cX5_gatherEngines 29 = .ok (.getfield 86, 3) := by decide +kernel
theorem dX5_gatherEngines_32 : decode cX5_gatherEngines 32 = .ok (.iconst 3, 1) := by decide +kernel
theorem dX5_gatherEngines_33 : decode cX5_gatherEngines 33 = .ok (.if_icmp .ne 78, 3) := by decide +kernel
theorem dX5_gatherEngines_36 : decode cX5_gatherEngines 36 = .ok (.aload_n 0, 1) := by decide +kernel
theorem dX5_gatherEngines_37 : decode cX5_gatherEngines 37 = .ok (.dup, 1) := by decide +kernel
theorem dX5_gatherEngines_38 : decode cX5_gatherEngines 38 = .ok (.getfield 76, 3) := by decide +kernel
theorem dX5_gatherEngines_41 : decode cX5_gatherEngines 41 = .ok (.iconst 1, 1) := by decide +kernel
theorem dX5_gatherEngines_42 : decode cX5_gatherEngines 42 = .ok (.iadd, 1) := by decide +kernel
theorem dX5_gatherEngines_43 : decode cX5_gatherEngines 43 = .ok (.putfield 76, 3) := by decide +kernel
theorem dX5_gatherEngines_46 : decode cX5_gatherEngines 46 = .ok (.aload_n 0, 1) := by decide +kernel
theorem dX5_gatherEngines_47 : decode cX5_gatherEngines 47 = .ok (.getfield 76, 3) := by decide +kernel
theorem dX5_gatherEngines_50 : decode cX5_gatherEngines 50 = .ok (.istore_n 3, 1) := by decide +kernel
theorem dX5_gatherEngines_51 : decode cX5_gatherEngines 51 = .ok (.iload_n 3, 1) := by decide +kernel
theorem dX5_gatherEngines_52 : decode cX5_gatherEngines 52 = .ok (.iconst 1, 1) := by decide +kernel
theorem dX5_gatherEngines_53 : decode cX5_gatherEngines 53 = .ok (.if_icmp .le 43, 3) := by decide +kernel
theorem dX5_gatherEngines_56 : decode cX5_gatherEngines 56 = .ok (.aload_n 0, 1) := by decide +kernel
theorem dX5_gatherEngines_57 : decode cX5_gatherEngines 57 = .ok (.getfield 13, 3) := by decide +kernel
theorem dX5_gatherEngines_60 : decode cX5_gatherEngines 60 = .ok (.iload_n 3, 1) := by decide +kernel
theorem dX5_gatherEngines_61 : decode cX5_gatherEngines 61 = .ok (.iconst 1, 1) := by decide +kernel
theorem dX5_gatherEngines_62 : decode cX5_gatherEngines 62 = .ok (.isub, 1) := by decide +kernel
theorem dX5_gatherEngines_63 : decode cX5_gatherEngines 63 = .ok (.iaload, 1) := by decide +kernel
theorem dX5_gatherEngines_64 : decode cX5_gatherEngines 64 = .ok (.aload_n 1, 1) := by decide +kernel
theorem dX5_gatherEngines_65 : decode cX5_gatherEngines 65 = .ok (.getfield 82, 3) := by decide +kernel
theorem dX5_gatherEngines_68 : decode cX5_gatherEngines 68 = .ok (.iload_n 2, 1) := by decide +kernel
theorem dX5_gatherEngines_69 : decode cX5_gatherEngines 69 = .ok (.aaload, 1) := by decide +kernel
theorem dX5_gatherEngines_70 : decode cX5_gatherEngines 70 = .ok (.getfield 91, 3) := by decide +kernel
theorem dX5_gatherEngines_73 : decode cX5_gatherEngines 73 = .ok (.if_icmp .ge 23, 3) := by decide +kernel
theorem dX5_gatherEngines_76 : decode cX5_gatherEngines 76 = .ok (.aload_n 0, 1) := by decide +kernel
theorem dX5_gatherEngines_77 : decode cX5_gatherEngines 77 = .ok (.getfield 13, 3) := by decide +kernel
theorem dX5_gatherEngines_80 : decode cX5_gatherEngines 80 = .ok (.iload_n 3, 1) := by decide +kernel
theorem dX5_gatherEngines_81 : decode cX5_gatherEngines 81 = .ok (.aload_n 0, 1) := by decide +kernel
theorem dX5_gatherEngines_82 : decode cX5_gatherEngines 82 = .ok (.getfield 13, 3) := by decide +kernel
theorem dX5_gatherEngines_85 : decode cX5_gatherEngines 85 = .ok (.iload_n 3, 1) := by decide +kernel
theorem dX5_gatherEngines_86 : decode cX5_gatherEngines 86 = .ok (.iconst 1, 1) := by decide +kernel
theorem dX5_gatherEngines_87 : decode cX5_gatherEngines 87 = .ok (.isub, 1) := by decide +kernel
theorem dX5_gatherEngines_88 : decode cX5_gatherEngines 88 = .ok (.iaload, 1) := by decide +kernel
theorem dX5_gatherEngines_89 : decode cX5_gatherEngines 89 = .ok (.iastore, 1) := by decide +kernel
theorem dX5_gatherEngines_90 : decode cX5_gatherEngines 90 = .ok (.iinc 3 (-1), 3) := by decide +kernel
theorem dX5_gatherEngines_93 : decode cX5_gatherEngines 93 = .ok (.goto (-42), 3) := by decide +kernel
theorem dX5_gatherEngines_96 : decode cX5_gatherEngines 96 = .ok (.aload_n 0, 1) := by decide +kernel
theorem dX5_gatherEngines_97 : decode cX5_gatherEngines 97 = .ok (.getfield 13, 3) := by decide +kernel
theorem dX5_gatherEngines_100 : decode cX5_gatherEngines 100 = .ok (.iload_n 3, 1) := by decide +kernel
theorem dX5_gatherEngines_101 : decode cX5_gatherEngines 101 = .ok (.aload_n 1, 1) := by decide +kernel
theorem dX5_gatherEngines_102 : decode cX5_gatherEngines 102 = .ok (.getfield 82, 3) := by decide +kernel
theorem dX5_gatherEngines_105 : decode cX5_gatherEngines 105 = .ok (.iload_n 2, 1) := by decide +kernel
theorem dX5_gatherEngines_106 : decode cX5_gatherEngines 106 = .ok (.aaload, 1) := by decide +kernel
theorem dX5_gatherEngines_107 : decode cX5_gatherEngines 107 = .ok (.getfield 91, 3) := by decide +kernel
theorem dX5_gatherEngines_110 : decode cX5_gatherEngines 110 = .ok (.iastore, 1) := by decide +kernel
theorem dX5_gatherEngines_111 : decode cX5_gatherEngines 111 = .ok (.iinc 2 1, 3) := by decide +kernel
theorem dX5_gatherEngines_114 : decode cX5_gatherEngines 114 = .ok (.goto (-107), 3) := by decide +kernel
theorem dX5_gatherEngines_117 : decode cX5_gatherEngines 117 = .ok (.aload_n 0, 1) := by decide +kernel
theorem dX5_gatherEngines_118 : decode cX5_gatherEngines 118 = .ok (.getfield 13, 3) := by decide +kernel
theorem dX5_gatherEngines_121 : decode cX5_gatherEngines 121 = .ok (.iconst 0, 1) := by decide +kernel
theorem dX5_gatherEngines_122 : decode cX5_gatherEngines 122 = .ok (.iconst 0, 1) := by decide +kernel
theorem dX5_gatherEngines_123 : decode cX5_gatherEngines 123 = .ok (.iastore, 1) := by decide +kernel
theorem dX5_gatherEngines_124 : decode cX5_gatherEngines 124 = .ok (.iconst 1, 1) := by decide +kernel
theorem dX5_gatherEngines_125 : decode cX5_gatherEngines 125 = .ok (.istore_n 2, 1) := by decide +kernel
theorem dX5_gatherEngines_126 : decode cX5_gatherEngines 126 = .ok (.iload_n 2, 1) := by decide +kernel
theorem dX5_gatherEngines_127 : decode cX5_gatherEngines 127 = .ok (.aload_n 0, 1) := by decide +kernel
theorem dX5_gatherEngines_128 : decode cX5_gatherEngines 128 = .ok (.getfield 76, 3) := by decide +kernel
theorem dX5_gatherEngines_131 : decode cX5_gatherEngines 131 = .ok (.if_icmp .gt 26, 3) := by decide +kernel
theorem dX5_gatherEngines_134 : decode cX5_gatherEngines 134 = .ok (.aload_n 0, 1) := by decide +kernel
theorem dX5_gatherEngines_135 : decode cX5_gatherEngines 135 = .ok (.getfield 13, 3) := by decide +kernel
theorem dX5_gatherEngines_138 : decode cX5_gatherEngines 138 = .ok (.iload_n 2, 1) := by decide +kernel
theorem dX5_gatherEngines_139 : decode cX5_gatherEngines 139 = .ok (.dup2, 1) := by decide +kernel
theorem dX5_gatherEngines_140 : decode cX5_gatherEngines 140 = .ok (.iaload, 1) := by decide +kernel
theorem dX5_gatherEngines_141 : decode cX5_gatherEngines 141 = .ok (.aload_n 0, 1) := by decide +kernel
theorem dX5_gatherEngines_142 : decode cX5_gatherEngines 142 = .ok (.getfield 13, 3) := by decide +kernel
theorem dX5_gatherEngines_145 : decode cX5_gatherEngines 145 = .ok (.iload_n 2, 1) := by decide +kernel
theorem dX5_gatherEngines_146 : decode cX5_gatherEngines 146 = .ok (.iconst 1, 1) := by decide +kernel
theorem dX5_gatherEngines_147 : decode cX5_gatherEngines 147 = .ok (.isub, 1) := by decide +kernel
theorem dX5_gatherEngines_148 : decode cX5_gatherEngines 148 = .ok (.iaload, 1) := by decide +kernel
theorem dX5_gatherEngines_149 : decode cX5_gatherEngines 149 = .ok (.iadd, 1) := by decide +kernel
theorem dX5_gatherEngines_150 : decode cX5_gatherEngines 150 = .ok (.iastore, 1) := by decide +kernel
theorem dX5_gatherEngines_151 : decode cX5_gatherEngines 151 = .ok (.iinc 2 1, 3) := by decide +kernel
theorem dX5_gatherEngines_154 : decode cX5_gatherEngines 154 = .ok (.goto (-28), 3) := by decide +kernel
theorem dX5_gatherEngines_157 : decode cX5_gatherEngines 157 = .ok (.return_, 1) := by decide +kernel
theorem dX5_passPlannedHour_0 : decode cX5_passPlannedHour 0 = .ok (.aload_n 0, 1) := by decide +kernel
theorem dX5_passPlannedHour_1 : decode cX5_passPlannedHour 1 = .ok (.getfield 20, 3) := by decide +kernel
theorem dX5_passPlannedHour_4 : decode cX5_passPlannedHour 4 = .ok (.ldc 55, 2) := by decide +kernel
theorem dX5_passPlannedHour_6 : decode cX5_passPlannedHour 6 = .ok (.invokestatic 56, 3) := by decide +kernel
theorem dX5_passPlannedHour_9 : decode cX5_passPlannedHour 9 = .ok (.iconst 0, 1) := by decide +kernel
theorem dX5_passPlannedHour_10 : decode cX5_passPlannedHour 10 = .ok (.istore 4, 2) := by decide +kernel
theorem dX5_passPlannedHour_12 : decode cX5_passPlannedHour 12 = .ok (.iload 4, 2) := by decide +kernel
theorem dX5_passPlannedHour_14 : decode cX5_passPlannedHour 14 = .ok (.bipush 120, 2) := by decide +kernel
theorem dX5_passPlannedHour_16 : decode cX5_passPlannedHour 16 = .ok (.if_icmp .gt 107, 3) := by decide +kernel
theorem dX5_passPlannedHour_19 : decode cX5_passPlannedHour 19 = .ok (.iconst 0, 1) := by decide +kernel
theorem dX5_passPlannedHour_20 : decode cX5_passPlannedHour 20 = .ok (.istore 5, 2) := by decide +kernel
theorem dX5_passPlannedHour_22 : decode cX5_passPlannedHour 22 = .ok (.iload 5, 2) := by decide +kernel
theorem dX5_passPlannedHour_24 : decode cX5_passPlannedHour 24 = .ok (.aload_n 0, 1) := by decide +kernel
theorem dX5_passPlannedHour_25 : decode cX5_passPlannedHour 25 = .ok (.getfield 76, 3) := by decide +kernel
theorem dX5_passPlannedHour_28 : decode cX5_passPlannedHour 28 = .ok (.if_icmp .gt 89, 3) := by decide +kernel
theorem dX5_passPlannedHour_31 : decode cX5_passPlannedHour 31 = .ok (.iload 4, 2) := by decide +kernel
theorem dX5_passPlannedHour_33 : decode cX5_passPlannedHour 33 = .ok (.iload 5, 2) := by decide +kernel
theorem dX5_passPlannedHour_35 : decode cX5_passPlannedHour 35 = .ok (.iadd, 1) := by decide +kernel
theorem dX5_passPlannedHour_36 : decode cX5_passPlannedHour 36 = .ok (.bipush 120, 2) := by decide +kernel
theorem dX5_passPlannedHour_38 : decode cX5_passPlannedHour 38 = .ok (.if_icmp .gt 79, 3) := by decide +kernel
theorem dX5_passPlannedHour_41 : decode cX5_passPlannedHour 41 = .ok (.aload_n 0, 1) := by decide +kernel
theorem dX5_passPlannedHour_42 : decode cX5_passPlannedHour 42 = .ok (.getfield 17, 3) := by decide +kernel
theorem dX5_passPlannedHour_45 : decode cX5_passPlannedHour 45 = .ok (.iload 4, 2) := by decide +kernel
theorem dX5_passPlannedHour_47 : decode cX5_passPlannedHour 47 = .ok (.iaload, 1) := by decide +kernel
theorem dX5_passPlannedHour_48 : decode cX5_passPlannedHour 48 = .ok (.ldc 55, 2) := by decide +kernel
theorem dX5_passPlannedHour_50 : decode cX5_passPlannedHour 50 = .ok (.if_icmp .eq 67, 3) := by decide +kernel
theorem dX5_passPlannedHour_53 : decode cX5_passPlannedHour 53 = .ok (.iconst 0, 1) := by decide +kernel
theorem dX5_passPlannedHour_54 : decode cX5_passPlannedHour 54 = .ok (.aload_n 0, 1) := by decide +kernel
theorem dX5_passPlannedHour_55 : decode cX5_passPlannedHour 55 = .ok (.getfield 17, 3) := by decide +kernel
theorem dX5_passPlannedHour_58 : decode cX5_passPlannedHour 58 = .ok (.iload 4, 2) := by decide +kernel
theorem dX5_passPlannedHour_60 : decode cX5_passPlannedHour 60 = .ok (.iaload, 1) := by decide +kernel
theorem dX5_passPlannedHour_61 : decode cX5_passPlannedHour 61 = .ok (.iload_n 1, 1) := by decide +kernel
theorem dX5_passPlannedHour_62 : decode cX5_passPlannedHour 62 = .ok (.iadd, 1) := by decide +kernel
theorem dX5_passPlannedHour_63 : decode cX5_passPlannedHour 63 = .ok (.iload_n 2, 1) := by decide +kernel
theorem dX5_passPlannedHour_64 : decode cX5_passPlannedHour 64 = .ok (.isub, 1) := by decide +kernel
theorem dX5_passPlannedHour_65 : decode cX5_passPlannedHour 65 = .ok (.aload_n 0, 1) := by decide +kernel
theorem dX5_passPlannedHour_66 : decode cX5_passPlannedHour 66 = .ok (.getfield 13, 3) := by decide +kernel
theorem dX5_passPlannedHour_69 : decode cX5_passPlannedHour 69 = .ok (.iload 5, 2) := by decide +kernel
theorem dX5_passPlannedHour_71 : decode cX5_passPlannedHour 71 = .ok (.iaload, 1) := by decide +kernel
theorem dX5_passPlannedHour_72 : decode cX5_passPlannedHour 72 = .ok (.isub, 1) := by decide +kernel
theorem dX5_passPlannedHour_73 : decode cX5_passPlannedHour 73 = .ok (.invokestatic 94, 3) := by decide +kernel
theorem dX5_passPlannedHour_76 : decode cX5_passPlannedHour 76 = .ok (.istore 6, 2) := by decide +kernel
theorem dX5_passPlannedHour_78 : decode cX5_passPlannedHour 78 = .ok (.iload 6, 2) := by decide +kernel
theorem dX5_passPlannedHour_80 : decode cX5_passPlannedHour 80 = .ok (.iload_n 3, 1) := by decide +kernel
theorem dX5_passPlannedHour_81 : decode cX5_passPlannedHour 81 = .ok (.if_icmp .gt 30, 3) := by decide +kernel
theorem dX5_passPlannedHour_84 : decode cX5_passPlannedHour 84 = .ok (.iload 6, 2) := by decide +kernel
theorem dX5_passPlannedHour_86 : decode cX5_passPlannedHour 86 = .ok (.aload_n 0, 1) := by decide +kernel
theorem dX5_passPlannedHour_87 : decode cX5_passPlannedHour 87 = .ok (.getfield 20, 3) := by decide +kernel
theorem dX5_passPlannedHour_90 : decode cX5_passPlannedHour 90 = .ok (.iload 4, 2) := by decide +kernel
theorem dX5_passPlannedHour_92 : decode cX5_passPlannedHour 92 = .ok (.iload 5, 2) := by decide +kernel
theorem dX5_passPlannedHour_94 : decode cX5_passPlannedHour 94 = .ok (.iadd, 1) := by decide +kernel
theorem dX5_passPlannedHour_95 : decode cX5_passPlannedHour 95 = .ok (.iaload, 1) := by decide +kernel
theorem dX5_passPlannedHour_96 : decode cX5_passPlannedHour 96 = .ok (.if_icmp .ge 15, 3) := by decide +kernel
theorem dX5_passPlannedHour_99 : decode cX5_passPlannedHour 99 = .ok (.aload_n 0, 1) := by decide +kernel
theorem dX5_passPlannedHour_100 : decode cX5_passPlannedHour 100 = .ok (.getfield 20, 3) := by decide +kernel
theorem dX5_passPlannedHour_103 : decode cX5_passPlannedHour 103 = .ok (.iload 4, 2) := by decide +kernel
theorem dX5_passPlannedHour_105 : decode cX5_passPlannedHour 105 = .ok (.iload 5, 2) := by decide +kernel
theorem dX5_passPlannedHour_107 : decode cX5_passPlannedHour 107 = .ok (.iadd, 1) := by decide +kernel
theorem dX5_passPlannedHour_108 : decode cX5_passPlannedHour 108 = .ok (.iload 6, 2) := by decide +kernel
theorem dX5_passPlannedHour_110 : decode cX5_passPlannedHour 110 = .ok (.iastore, 1) := by decide +kernel
theorem dX5_passPlannedHour_111 : decode cX5_passPlannedHour 111 = .ok (.iinc 5 1, 3) := by decide +kernel
theorem dX5_passPlannedHour_114 : decode cX5_passPlannedHour 114 = .ok (.goto (-92), 3) := by decide +kernel
theorem dX5_passPlannedHour_117 : decode cX5_passPlannedHour 117 = .ok (.iinc 4 1, 3) := by decide +kernel
theorem dX5_passPlannedHour_120 : decode cX5_passPlannedHour 120 = .ok (.goto (-108), 3) := by decide +kernel
theorem dX5_passPlannedHour_123 : decode cX5_passPlannedHour 123 = .ok (.aload_n 0, 1) := by decide +kernel
theorem dX5_passPlannedHour_124 : decode cX5_passPlannedHour 124 = .ok (.getfield 20, 3) := by decide +kernel
theorem dX5_passPlannedHour_127 : decode cX5_passPlannedHour 127 = .ok (.iconst 0, 1) := by decide +kernel
theorem dX5_passPlannedHour_128 : decode cX5_passPlannedHour 128 = .ok (.aload_n 0, 1) := by decide +kernel
theorem dX5_passPlannedHour_129 : decode cX5_passPlannedHour 129 = .ok (.getfield 17, 3) := by decide +kernel
theorem dX5_passPlannedHour_132 : decode cX5_passPlannedHour 132 = .ok (.iconst 0, 1) := by decide +kernel
theorem dX5_passPlannedHour_133 : decode cX5_passPlannedHour 133 = .ok (.bipush 121, 2) := by decide +kernel
theorem dX5_passPlannedHour_135 : decode cX5_passPlannedHour 135 = .ok (.invokestatic 100, 3) := by decide +kernel
theorem dX5_passPlannedHour_138 : decode cX5_passPlannedHour 138 = .ok (.return_, 1) := by decide +kernel
theorem dX5_closingHour_0 : decode cX5_closingHour 0 = .ok (.iload_n 2, 1) := by decide +kernel
theorem dX5_closingHour_1 : decode cX5_closingHour 1 = .ok (.istore 5, 2) := by decide +kernel
theorem dX5_closingHour_3 : decode cX5_closingHour 3 = .ok (.iconst 1, 1) := by decide +kernel
theorem dX5_closingHour_4 : decode cX5_closingHour 4 = .ok (.istore 6, 2) := by decide +kernel
theorem dX5_closingHour_6 : decode cX5_closingHour 6 = .ok (.iload 6, 2) := by decide +kernel
theorem dX5_closingHour_8 : decode cX5_closingHour 8 = .ok (.sipush 200, 3) := by decide +kernel
theorem dX5_closingHour_11 : decode cX5_closingHour 11 = .ok (.if_icmp .gt 56, 3) := by decide +kernel
theorem dX5_closingHour_14 : decode cX5_closingHour 14 = .ok (.aload_n 1, 1) := by decide +kernel
theorem dX5_closingHour_15 : decode cX5_closingHour 15 = .ok (.getfield 62, 3) := by decide +kernel
theorem dX5_closingHour_18 : decode cX5_closingHour 18 = .ok (.iload 6, 2) := by decide +kernel
theorem dX5_closingHour_20 : decode cX5_closingHour 20 = .ok (.iadd, 1) := by decide +kernel
theorem dX5_closingHour_21 : decode cX5_closingHour 21 = .ok (.istore 7, 2) := by decide +kernel
theorem dX5_closingHour_23 : decode cX5_closingHour 23 = .ok (.aload_n 1, 1) := by decide +kernel
theorem dX5_closingHour_24 : decode cX5_closingHour 24 = .ok (.getfield 106, 3) := by decide +kernel
theorem dX5_closingHour_27 : decode cX5_closingHour 27 = .ok (.iload 7, 2) := by decide +kernel
theorem dX5_closingHour_29 : decode cX5_closingHour 29 = .ok (.invokevirtual 110, 3) := by decide +kernel
theorem dX5_closingHour_32 : decode cX5_closingHour 32 = .ok (.iload 4, 2) := by decide +kernel
theorem dX5_closingHour_34 : decode cX5_closingHour 34 = .ok (.if_icmp .gt 12, 3) := by decide +kernel
theorem dX5_closingHour_37 : decode cX5_closingHour 37 = .ok (.iload 5, 2) := by decide +kernel
theorem dX5_closingHour_39 : decode cX5_closingHour 39 = .ok (.iload_n 3, 1) := by decide +kernel
theorem dX5_closingHour_40 : decode cX5_closingHour 40 = .ok (.iconst 4, 1) := by decide +kernel
theorem dX5_closingHour_41 : decode cX5_closingHour 41 = .ok (.idiv, 1) := by decide +kernel
theorem dX5_closingHour_42 : decode cX5_closingHour 42 = .ok (.isub, 1) := by decide +kernel
theorem dX5_closingHour_43 : decode cX5_closingHour 43 = .ok (.goto 8, 3) := by decide +kernel
theorem dX5_closingHour_46 : decode cX5_closingHour 46 = .ok (.iload 5, 2) := by decide +kernel
theorem dX5_closingHour_48 : decode cX5_closingHour 48 = .ok (.invokestatic 115, 3) := by decide +kernel
theorem dX5_closingHour_51 : decode cX5_closingHour 51 = .ok (.istore 5, 2) := by decide +kernel
theorem dX5_closingHour_53 : decode cX5_closingHour 53 = .ok (.iload 5, 2) := by decide +kernel
theorem dX5_closingHour_55 : decode cX5_closingHour 55 = .ok (.ifCond .gt 6, 3) := by decide +kernel
theorem dX5_closingHour_58 : decode cX5_closingHour 58 = .ok (.iload 7, 2) := by decide +kernel
theorem dX5_closingHour_60 : decode cX5_closingHour 60 = .ok (.ireturn, 1) := by decide +kernel
theorem dX5_closingHour_61 : decode cX5_closingHour 61 = .ok (.iinc 6 1, 3) := by decide +kernel
theorem dX5_closingHour_64 : decode cX5_closingHour 64 = .ok (.goto (-58), 3) := by decide +kernel
theorem dX5_closingHour_67 : decode cX5_closingHour 67 = .ok (.iconst (-1), 1) := by decide +kernel
theorem dX5_closingHour_68 : decode cX5_closingHour 68 = .ok (.ireturn, 1) := by decide +kernel
theorem dX5_bestLevels_0 : decode cX5_bestLevels 0 = .ok (.aload_n 0, 1) := by decide +kernel
theorem dX5_bestLevels_1 : decode cX5_bestLevels 1 = .ok (.iconst 0, 1) := by decide +kernel
theorem dX5_bestLevels_2 : decode cX5_bestLevels 2 = .ok (.putfield 118, 3) := by decide +kernel
theorem dX5_bestLevels_5 : decode cX5_bestLevels 5 = .ok (.iconst 0, 1) := by decide +kernel
theorem dX5_bestLevels_6 : decode cX5_bestLevels 6 = .ok (.istore 5, 2) := by decide +kernel
theorem dX5_bestLevels_8 : decode cX5_bestLevels 8 = .ok (.iload 5, 2) := by decide +kernel
theorem dX5_bestLevels_10 : decode cX5_bestLevels 10 = .ok (.bipush 96, 2) := by decide +kernel
theorem dX5_bestLevels_12 : decode cX5_bestLevels 12 = .ok (.if_icmp .ge 50, 3) := by decide +kernel
theorem dX5_bestLevels_15 : decode cX5_bestLevels 15 = .ok (.aload_n 0, 1) := by decide +kernel
theorem dX5_bestLevels_16 : decode cX5_bestLevels 16 = .ok (.getfield 118, 3) := by decide +kernel
theorem dX5_bestLevels_19 : decode cX5_bestLevels 19 = .ok (.bipush 6, 2) := by decide +kernel
theorem dX5_bestLevels_21 : decode cX5_bestLevels 21 = .ok (.if_icmp .ge 41, 3) := by decide +kernel
theorem dX5_bestLevels_24 : decode cX5_bestLevels 24 = .ok (.aload_n 1, 1) := by decide +kernel
theorem dX5_bestLevels_25 : decode cX5_bestLevels 25 = .ok (.getfield 121, 3) := by decide +kernel
theorem dX5_bestLevels_28 : decode cX5_bestLevels 28 = .ok (.iload 5, 2) := by decide +kernel
theorem dX5_bestLevels_30 : decode cX5_bestLevels 30 = .ok (.iaload, 1) := by decide +kernel
theorem dX5_bestLevels_31 : decode cX5_bestLevels 31 = .ok (.iload_n 2, 1) := by decide +kernel
theorem dX5_bestLevels_32 : decode cX5_bestLevels 32 = .ok (.if_icmp .ne 24, 3) := by decide +kernel
theorem dX5_bestLevels_35 : decode cX5_bestLevels 35 = .ok (.aload_n 0, 1) := by decide +kernel
theorem dX5_bestLevels_36 : decode cX5_bestLevels 36 = .ok (.getfield 23, 3) := by decide +kernel
theorem dX5_bestLevels_39 : decode cX5_bestLevels 39 = .ok (.aload_n 0, 1) := by decide +kernel
theorem dX5_bestLevels_40 : decode cX5_bestLevels 40 = .ok (.getfield 118, 3) := by decide +kernel
theorem dX5_bestLevels_43 : decode cX5_bestLevels 43 = .ok (.iload 5, 2) := by decide +kernel
theorem dX5_bestLevels_45 : decode cX5_bestLevels 45 = .ok (.iastore, 1) := by decide +kernel
theorem dX5_bestLevels_46 : decode cX5_bestLevels 46 = .ok (.aload_n 0, 1) := by decide +kernel
theorem dX5_bestLevels_47 : decode cX5_bestLevels 47 = .ok (.dup, 1) := by decide +kernel
theorem dX5_bestLevels_48 : decode cX5_bestLevels 48 = .ok (.getfield 118, 3) := by decide +kernel
theorem dX5_bestLevels_51 : decode cX5_bestLevels 51 = .ok (.iconst 1, 1) := by decide +kernel
theorem dX5_bestLevels_52 : decode cX5_bestLevels 52 = .ok (.iadd, 1) := by decide +kernel
theorem dX5_bestLevels_53 : decode cX5_bestLevels 53 = .ok (.putfield 118, 3) := by decide +kernel
theorem dX5_bestLevels_56 : decode cX5_bestLevels 56 = .ok (.iinc 5 1, 3) := by decide +kernel
theorem dX5_bestLevels_59 : decode cX5_bestLevels 59 = .ok (.goto (-51), 3) := by decide +kernel
theorem dX5_bestLevels_62 : decode cX5_bestLevels 62 = .ok (.aload_n 0, 1) := by decide +kernel
theorem dX5_bestLevels_63 : decode cX5_bestLevels 63 = .ok (.iconst (-1), 1) := by decide +kernel
theorem dX5_bestLevels_64 : decode cX5_bestLevels 64 = .ok (.putfield 126, 3) := by decide +kernel
theorem dX5_bestLevels_67 : decode cX5_bestLevels 67 = .ok (.aload_n 0, 1) := by decide +kernel
theorem dX5_bestLevels_68 : decode cX5_bestLevels 68 = .ok (.iconst 0, 1) := by decide +kernel
theorem dX5_bestLevels_69 : decode cX5_bestLevels 69 = .ok (.iconst 0, 1) := by decide +kernel
theorem dX5_bestLevels_70 : decode cX5_bestLevels 70 = .ok (.aload_n 1, 1) := by decide +kernel
theorem dX5_bestLevels_71 : decode cX5_bestLevels 71 = .ok (.getfield 129, 3) := by decide +kernel
theorem dX5_bestLevels_74 : decode cX5_bestLevels 74 = .ok (.iload_n 2, 1) := by decide +kernel
theorem dX5_bestLevels_75 : decode cX5_bestLevels 75 = .ok (.iaload, 1) := by decide +kernel
theorem dX5_bestLevels_76 : decode cX5_bestLevels 76 = .ok (.aload_n 3, 1) := by decide +kernel
theorem dX5_bestLevels_77 : decode cX5_bestLevels 77 = .ok (.iload 4, 2) := by decide +kernel
theorem dX5_bestLevels_79 : decode cX5_bestLevels 79 = .ok (.invokevirtual 132, 3) := by decide +kernel
theorem dX5_bestLevels_82 : decode cX5_bestLevels 82 = .ok (.aload_n 0, 1) := by decide +kernel
theorem dX5_bestLevels_83 : decode cX5_bestLevels 83 = .ok (.getfield 126, 3) := by decide +kernel
theorem dX5_bestLevels_86 : decode cX5_bestLevels 86 = .ok (.ireturn, 1) := by decide +kernel
theorem dX5_tryLevels_0 : decode cX5_tryLevels 0 = .ok (.iload_n 1, 1) := by decide +kernel
theorem dX5_tryLevels_1 : decode cX5_tryLevels 1 = .ok (.aload_n 0, 1) := by decide +kernel
theorem dX5_tryLevels_2 : decode cX5_tryLevels 2 = .ok (.getfield 118, 3) := by decide +kernel
theorem dX5_tryLevels_5 : decode cX5_tryLevels 5 = .ok (.if_icmp .lt 16, 3) := by decide +kernel
theorem dX5_tryLevels_8 : decode cX5_tryLevels 8 = .ok (.aload_n 0, 1) := by decide +kernel
theorem dX5_tryLevels_9 : decode cX5_tryLevels 9 = .ok (.aload_n 0, 1) := by decide +kernel
theorem dX5_tryLevels_10 : decode cX5_tryLevels 10 = .ok (.getfield 126, 3) := by decide +kernel
theorem dX5_tryLevels_13 : decode cX5_tryLevels 13 = .ok (.iload_n 2, 1) := by decide +kernel
theorem dX5_tryLevels_14 : decode cX5_tryLevels 14 = .ok (.invokestatic 94, 3) := by decide +kernel
theorem dX5_tryLevels_17 : decode cX5_tryLevels 17 = .ok (.putfield 126, 3) := by decide +kernel
theorem dX5_tryLevels_20 : decode cX5_tryLevels 20 = .ok (.return_, 1) := by decide +kernel
theorem dX5_tryLevels_21 : decode cX5_tryLevels 21 = .ok (.bipush 40, 2) := by decide +kernel
theorem dX5_tryLevels_23 : decode cX5_tryLevels 23 = .ok (.istore 6, 2) := by decide +kernel
theorem dX5_tryLevels_25 : decode cX5_tryLevels 25 = .ok (.iload 6, 2) := by decide +kernel
theorem dX5_tryLevels_27 : decode cX5_tryLevels 27 = .ok (.sipush 160, 3) := by decide +kernel
theorem dX5_tryLevels_30 : decode cX5_tryLevels 30 = .ok (.if_icmp .gt 60, 3) := by decide +kernel
theorem dX5_tryLevels_33 : decode cX5_tryLevels 33 = .ok (.aload_n 0, 1) := by decide +kernel
theorem dX5_tryLevels_34 : decode cX5_tryLevels 34 = .ok (.getfield 26, 3) := by decide +kernel
theorem dX5_tryLevels_37 : decode cX5_tryLevels 37 = .ok (.iload_n 1, 1) := by decide +kernel
theorem dX5_tryLevels_38 : decode cX5_tryLevels 38 = .ok (.aload 4, 2) := by decide +kernel
theorem dX5_tryLevels_40 : decode cX5_tryLevels 40 = .ok (.getfield 136, 3) := by decide +kernel
theorem dX5_tryLevels_43 : decode cX5_tryLevels 43 = .ok (.aload_n 0, 1) := by decide +kernel
theorem dX5_tryLevels_44 : decode cX5_tryLevels 44 = .ok (.getfield 23, 3) := by decide +kernel
theorem dX5_tryLevels_47 : decode cX5_tryLevels 47 = .ok (.iload_n 1, 1) := by decide +kernel
theorem dX5_tryLevels_48 : decode cX5_tryLevels 48 = .ok (.iaload, 1) := by decide +kernel
theorem dX5_tryLevels_49 : decode cX5_tryLevels 49 = .ok (.iaload, 1) := by decide +kernel
theorem dX5_tryLevels_50 : decode cX5_tryLevels 50 = .ok (.iload 6, 2) := by decide +kernel
theorem dX5_tryLevels_52 : decode cX5_tryLevels 52 = .ok (.isub, 1) := by decide +kernel
theorem dX5_tryLevels_53 : decode cX5_tryLevels 53 = .ok (.iastore, 1) := by decide +kernel
theorem dX5_tryLevels_54 : decode cX5_tryLevels 54 = .ok (.aload_n 0, 1) := by decide +kernel
theorem dX5_tryLevels_55 : decode cX5_tryLevels 55 = .ok (.iload_n 1, 1) := by decide +kernel
theorem dX5_tryLevels_56 : decode cX5_tryLevels 56 = .ok (.iload 5, 2) := by decide +kernel
theorem dX5_tryLevels_58 : decode cX5_tryLevels 58 = .ok (.invokevirtual 141, 3) := by decide +kernel
theorem dX5_tryLevels_61 : decode cX5_tryLevels 61 = .ok (.ifCond .eq 23, 3) := by decide +kernel
theorem dX5_tryLevels_64 : decode cX5_tryLevels 64 = .ok (.aload_n 0, 1) := by decide +kernel
theorem dX5_tryLevels_65 : decode cX5_tryLevels 65 = .ok (.iload_n 1, 1) := by decide +kernel
theorem dX5_tryLevels_66 : decode cX5_tryLevels 66 = .ok (.iconst 1, 1) := by decide +kernel
theorem dX5_tryLevels_67 : decode cX5_tryLevels 67 = .ok (.iadd, 1) := by decide +kernel
theorem dX5_tryLevels_68 : decode cX5_tryLevels 68 = .ok (.iload_n 2, 1) := by decide +kernel
theorem dX5_tryLevels_69 : decode cX5_tryLevels 69 = .ok (.iload_n 3, 1) := by decide +kernel
theorem dX5_tryLevels_70 : decode cX5_tryLevels 70 = .ok (.iload 6, 2) := by decide +kernel
theorem dX5_tryLevels_72 : decode cX5_tryLevels 72 = .ok (.invokestatic 145, 3) := by decide +kernel
theorem dX5_tryLevels_75 : decode cX5_tryLevels 75 = .ok (.iadd, 1) := by decide +kernel
theorem dX5_tryLevels_76 : decode cX5_tryLevels 76 = .ok (.iload_n 3, 1) := by decide +kernel
theorem dX5_tryLevels_77 : decode cX5_tryLevels 77 = .ok (.aload 4, 2) := by decide +kernel
theorem dX5_tryLevels_79 : decode cX5_tryLevels 79 = .ok (.iload 5, 2) := by decide +kernel
theorem dX5_tryLevels_81 : decode cX5_tryLevels 81 = .ok (.invokevirtual 132, 3) := by decide +kernel
theorem dX5_tryLevels_84 : decode cX5_tryLevels 84 = .ok (.iinc 6 40, 3) := by decide +kernel
theorem dX5_tryLevels_87 : decode cX5_tryLevels 87 = .ok (.goto (-62), 3) := by decide +kernel
theorem dX5_tryLevels_90 : decode cX5_tryLevels 90 = .ok (.return_, 1) := by decide +kernel
theorem dX5_agreesWithEarlier_0 : decode cX5_agreesWithEarlier 0 = .ok (.iconst 0, 1) := by decide +kernel
theorem dX5_agreesWithEarlier_1 : decode cX5_agreesWithEarlier 1 = .ok (.istore_n 3, 1) := by decide +kernel
theorem dX5_agreesWithEarlier_2 : decode cX5_agreesWithEarlier 2 = .ok (.iload_n 3, 1) := by decide +kernel
theorem dX5_agreesWithEarlier_3 : decode cX5_agreesWithEarlier 3 = .ok (.iload_n 1, 1) := by decide +kernel
theorem dX5_agreesWithEarlier_4 : decode cX5_agreesWithEarlier 4 = .ok (.if_icmp .ge 50, 3) := by decide +kernel
theorem dX5_agreesWithEarlier_7 : decode cX5_agreesWithEarlier 7 = .ok (.aload_n 0, 1) := by decide +kernel
theorem dX5_agreesWithEarlier_8 : decode cX5_agreesWithEarlier 8 = .ok (.getfield 23, 3) := by decide +kernel
theorem dX5_agreesWithEarlier_11 : decode cX5_agreesWithEarlier 11 = .ok (.iload_n 3, 1) := by decide +kernel
theorem dX5_agreesWithEarlier_12 : decode cX5_agreesWithEarlier 12 = .ok (.iaload, 1) := by decide +kernel
theorem dX5_agreesWithEarlier_13 : decode cX5_agreesWithEarlier 13 = .ok (.aload_n 0, 1) := by decide +kernel
theorem dX5_agreesWithEarlier_14 : decode cX5_agreesWithEarlier 14 = .ok (.getfield 23, 3) := by decide +kernel
theorem dX5_agreesWithEarlier_17 : decode cX5_agreesWithEarlier 17 = .ok (.iload_n 1, 1) := by decide +kernel
theorem dX5_agreesWithEarlier_18 : decode cX5_agreesWithEarlier 18 = .ok (.iaload, 1) := by decide +kernel
theorem dX5_agreesWithEarlier_19 : decode cX5_agreesWithEarlier 19 = .ok (.invokestatic 148, 3) := by decide +kernel
theorem dX5_agreesWithEarlier_22 : decode cX5_agreesWithEarlier 22 = .ok (.iconst 1, 1) := by decide +kernel
theorem dX5_agreesWithEarlier_23 : decode cX5_agreesWithEarlier 23 = .ok (.if_icmp .ne 25, 3) := by decide +kernel
theorem dX5_agreesWithEarlier_26 : decode cX5_agreesWithEarlier 26 = .ok (.aload_n 0, 1) := by decide +kernel
theorem dX5_agreesWithEarlier_27 : decode cX5_agreesWithEarlier 27 = .ok (.getfield 26, 3) := by decide +kernel
theorem dX5_agreesWithEarlier_30 : decode cX5_agreesWithEarlier 30 = .ok (.iload_n 3, 1) := by decide +kernel
theorem dX5_agreesWithEarlier_31 : decode cX5_agreesWithEarlier 31 = .ok (.iaload, 1) := by decide +kernel
theorem dX5_agreesWithEarlier_32 : decode cX5_agreesWithEarlier 32 = .ok (.aload_n 0, 1) := by decide +kernel
theorem dX5_agreesWithEarlier_33 : decode cX5_agreesWithEarlier 33 = .ok (.getfield 26, 3) := by decide +kernel
theorem dX5_agreesWithEarlier_36 : decode cX5_agreesWithEarlier 36 = .ok (.iload_n 1, 1) := by decide +kernel
theorem dX5_agreesWithEarlier_37 : decode cX5_agreesWithEarlier 37 = .ok (.iaload, 1) := by decide +kernel
theorem dX5_agreesWithEarlier_38 : decode cX5_agreesWithEarlier 38 = .ok (.isub, 1) := by decide +kernel
theorem dX5_agreesWithEarlier_39 : decode cX5_agreesWithEarlier 39 = .ok (.invokestatic 151, 3) := by decide +kernel
theorem dX5_agreesWithEarlier_42 : decode cX5_agreesWithEarlier 42 = .ok (.iload_n 2, 1) := by decide +kernel
theorem dX5_agreesWithEarlier_43 : decode cX5_agreesWithEarlier 43 = .ok (.if_icmp .le 5, 3) := by decide +kernel
theorem dX5_agreesWithEarlier_46 : decode cX5_agreesWithEarlier 46 = .ok (.iconst 0, 1) := by decide +kernel
theorem dX5_agreesWithEarlier_47 : decode cX5_agreesWithEarlier 47 = .ok (.ireturn, 1) := by decide +kernel
theorem dX5_agreesWithEarlier_48 : decode cX5_agreesWithEarlier 48 = .ok (.iinc 3 1, 3) := by decide +kernel
theorem dX5_agreesWithEarlier_51 : decode cX5_agreesWithEarlier 51 = .ok (.goto (-49), 3) := by decide +kernel
theorem dX5_agreesWithEarlier_54 : decode cX5_agreesWithEarlier 54 = .ok (.iconst 1, 1) := by decide +kernel
theorem dX5_agreesWithEarlier_55 : decode cX5_agreesWithEarlier 55 = .ok (.ireturn, 1) := by decide +kernel
theorem dX5_worthOfDepth_0 : decode cX5_worthOfDepth 0 = .ok (.iload_n 0, 1) := by decide +kernel
theorem dX5_worthOfDepth_1 : decode cX5_worthOfDepth 1 = .ok (.tableswitch 78 1 3 #[27, 44, 61], 27) := by decide +kernel
theorem dX5_worthOfDepth_28 : decode cX5_worthOfDepth 28 = .ok (.iconst 0, 1) := by decide +kernel
theorem dX5_worthOfDepth_29 : decode cX5_worthOfDepth 29 = .ok (.bipush 20, 2) := by decide +kernel
theorem dX5_worthOfDepth_31 : decode cX5_worthOfDepth 31 = .ok (.iload_n 1, 1) := by decide +kernel
theorem dX5_worthOfDepth_32 : decode cX5_worthOfDepth 32 = .ok (.bipush 60, 2) := by decide +kernel
theorem dX5_worthOfDepth_34 : decode cX5_worthOfDepth 34 = .ok (.isub, 1) := by decide +kernel
theorem dX5_worthOfDepth_35 : decode cX5_worthOfDepth 35 = .ok (.invokestatic 151, 3) := by decide +kernel
theorem dX5_worthOfDepth_38 : decode cX5_worthOfDepth 38 = .ok (.iconst 5, 1) := by decide +kernel
theorem dX5_worthOfDepth_39 : decode cX5_worthOfDepth 39 = .ok (.idiv, 1) := by decide +kernel
theorem dX5_worthOfDepth_40 : decode cX5_worthOfDepth 40 = .ok (.isub, 1) := by decide +kernel
theorem dX5_worthOfDepth_41 : decode cX5_worthOfDepth 41 = .ok (.invokestatic 94, 3) := by decide +kernel
theorem dX5_worthOfDepth_44 : decode cX5_worthOfDepth 44 = .ok (.ireturn, 1) := by decide +kernel
theorem dX5_worthOfDepth_45 : decode cX5_worthOfDepth 45 = .ok (.iconst 0, 1) := by decide +kernel
theorem dX5_worthOfDepth_46 : decode cX5_worthOfDepth 46 = .ok (.bipush 50, 2) := by decide +kernel
