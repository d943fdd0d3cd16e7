theorem dX12_anHour_0 : decode cX12_anHour 0 = .ok (.aload_n 0, 1) := by decide +kernel
theorem dX12_anHour_1 : decode cX12_anHour 1 = .ok (.getfield 9, 3) := by decide +kernel
theorem dX12_anHour_4 : decode cX12_anHour 4 = .ok (.sipush 1429, 3) := by decide +kernel
theorem dX12_anHour_7 : decode cX12_anHour 7 = .ok (.dup2, 1) := by decide +kernel
theorem dX12_anHour_8 : decode cX12_anHour 8 = .ok (.iaload, 1) := by decide +kernel
theorem dX12_anHour_9 : decode cX12_anHour 9 = .ok (.iconst 1, 1) := by decide +kernel
theorem dX12_anHour_10 : decode cX12_anHour 10 = .ok (.iadd, 1) := by decide +kernel
theorem dX12_anHour_11 : decode cX12_anHour 11 = .ok (.iastore, 1) := by decide +kernel
theorem dX12_anHour_12 : decode cX12_anHour 12 = .ok (.aload_n 0, 1) := by decide +kernel
theorem dX12_anHour_13 : decode cX12_anHour 13 = .ok (.aload_n 0, 1) := by decide +kernel
theorem dX12_anHour_14 : decode cX12_anHour 14 = .ok (.invokevirtual 228, 3) := by decide +kernel
theorem dX12_anHour_17 : decode cX12_anHour 17 = .ok (.invokevirtual 247, 3) := by decide +kernel
theorem dX12_anHour_20 : decode cX12_anHour 20 = .ok (.istore_n 1, 1) := by decide +kernel
theorem dX12_anHour_21 : decode cX12_anHour 21 = .ok (.aload_n 0, 1) := by decide +kernel
theorem dX12_anHour_22 : decode cX12_anHour 22 = .ok (.aload_n 0, 1) := by decide +kernel
theorem dX12_anHour_23 : decode cX12_anHour 23 = .ok (.invokevirtual 228, 3) := by decide +kernel
theorem dX12_anHour_26 : decode cX12_anHour 26 = .ok (.invokevirtual 253, 3) := by decide +kernel
theorem dX12_anHour_29 : decode cX12_anHour 29 = .ok (.istore_n 2, 1) := by decide +kernel
theorem dX12_anHour_30 : decode cX12_anHour 30 = .ok (.aload_n 0, 1) := by decide +kernel
theorem dX12_anHour_31 : decode cX12_anHour 31 = .ok (.aload_n 0, 1) := by decide +kernel
theorem dX12_anHour_32 : decode cX12_anHour 32 = .ok (.invokevirtual 228, 3) := by decide +kernel
theorem dX12_anHour_35 : decode cX12_anHour 35 = .ok (.invokevirtual 250, 3) := by decide +kernel
theorem dX12_anHour_38 : decode cX12_anHour 38 = .ok (.istore_n 3, 1) := by decide +kernel
theorem dX12_anHour_39 : decode cX12_anHour 39 = .ok (.iconst 0, 1) := by decide +kernel
theorem dX12_anHour_40 : decode cX12_anHour 40 = .ok (.istore 4, 2) := by decide +kernel
theorem dX12_anHour_42 : decode cX12_anHour 42 = .ok (.iload 4, 2) := by decide +kernel
theorem dX12_anHour_44 : decode cX12_anHour 44 = .ok (.bipush 96, 2) := by decide +kernel
theorem dX12_anHour_46 : decode cX12_anHour 46 = .ok (.if_icmp .ge 48, 3) := by decide +kernel
theorem dX12_anHour_49 : decode cX12_anHour 49 = .ok (.aload_n 0, 1) := by decide +kernel
theorem dX12_anHour_50 : decode cX12_anHour 50 = .ok (.iload 4, 2) := by decide +kernel
theorem dX12_anHour_52 : decode cX12_anHour 52 = .ok (.invokevirtual 235, 3) := by decide +kernel
theorem dX12_anHour_55 : decode cX12_anHour 55 = .ok (.ifCond .ne 6, 3) := by decide +kernel
theorem dX12_anHour_58 : decode cX12_anHour 58 = .ok (.goto 30, 3) := by decide +kernel
theorem dX12_anHour_61 : decode cX12_anHour 61 = .ok (.aload_n 0, 1) := by decide +kernel
theorem dX12_anHour_62 : decode cX12_anHour 62 = .ok (.getfield 9, 3) := by decide +kernel
theorem dX12_anHour_65 : decode cX12_anHour 65 = .ok (.sipush 384, 3) := by decide +kernel
theorem dX12_anHour_68 : decode cX12_anHour 68 = .ok (.iload 4, 2) := by decide +kernel
theorem dX12_anHour_70 : decode cX12_anHour 70 = .ok (.iadd, 1) := by decide +kernel
theorem dX12_anHour_71 : decode cX12_anHour 71 = .ok (.dup2, 1) := by decide +kernel
theorem dX12_anHour_72 : decode cX12_anHour 72 = .ok (.iaload, 1) := by decide +kernel
theorem dX12_anHour_73 : decode cX12_anHour 73 = .ok (.iload_n 2, 1) := by decide +kernel
theorem dX12_anHour_74 : decode cX12_anHour 74 = .ok (.iadd, 1) := by decide +kernel
theorem dX12_anHour_75 : decode cX12_anHour 75 = .ok (.iastore, 1) := by decide +kernel
theorem dX12_anHour_76 : decode cX12_anHour 76 = .ok (.aload_n 0, 1) := by decide +kernel
theorem dX12_anHour_77 : decode cX12_anHour 77 = .ok (.getfield 9, 3) := by decide +kernel
theorem dX12_anHour_80 : decode cX12_anHour 80 = .ok (.sipush 1745, 3) := by decide +kernel
theorem dX12_anHour_83 : decode cX12_anHour 83 = .ok (.dup2, 1) := by decide +kernel
theorem dX12_anHour_84 : decode cX12_anHour 84 = .ok (.iaload, 1) := by decide +kernel
theorem dX12_anHour_85 : decode cX12_anHour 85 = .ok (.iload_n 2, 1) := by decide +kernel
theorem dX12_anHour_86 : decode cX12_anHour 86 = .ok (.iadd, 1) := by decide +kernel
theorem dX12_anHour_87 : decode cX12_anHour 87 = .ok (.iastore, 1) := by decide +kernel
theorem dX12_anHour_88 : decode cX12_anHour 88 = .ok (.iinc 4 1, 3) := by decide +kernel
theorem dX12_anHour_91 : decode cX12_anHour 91 = .ok (.goto (-49), 3) := by decide +kernel
theorem dX12_anHour_94 : decode cX12_anHour 94 = .ok (.aload_n 0, 1) := by decide +kernel
theorem dX12_anHour_95 : decode cX12_anHour 95 = .ok (.getfield 9, 3) := by decide +kernel
theorem dX12_anHour_98 : decode cX12_anHour 98 = .ok (.sipush 1428, 3) := by decide +kernel
theorem dX12_anHour_101 : decode cX12_anHour 101 = .ok (.iaload, 1) := by decide +kernel
theorem dX12_anHour_102 : decode cX12_anHour 102 = .ok (.istore 4, 2) := by decide +kernel
theorem dX12_anHour_104 : decode cX12_anHour 104 = .ok (.iconst 0, 1) := by decide +kernel
theorem dX12_anHour_105 : decode cX12_anHour 105 = .ok (.istore 5, 2) := by decide +kernel
theorem dX12_anHour_107 : decode cX12_anHour 107 = .ok (.iload 5, 2) := by decide +kernel
theorem dX12_anHour_109 : decode cX12_anHour 109 = .ok (.iload 4, 2) := by decide +kernel
theorem dX12_anHour_111 : decode cX12_anHour 111 = .ok (.if_icmp .ge 25, 3) := by decide +kernel
theorem dX12_anHour_114 : decode cX12_anHour 114 = .ok (.aload_n 0, 1) := by decide +kernel
theorem dX12_anHour_115 : decode cX12_anHour 115 = .ok (.iload 5, 2) := by decide +kernel
theorem dX12_anHour_117 : decode cX12_anHour 117 = .ok (.invokevirtual 272, 3) := by decide +kernel
theorem dX12_anHour_120 : decode cX12_anHour 120 = .ok (.ifCond .eq 10, 3) := by decide +kernel
theorem dX12_anHour_123 : decode cX12_anHour 123 = .ok (.aload_n 0, 1) := by decide +kernel
theorem dX12_anHour_124 : decode cX12_anHour 124 = .ok (.iload 5, 2) := by decide +kernel
theorem dX12_anHour_126 : decode cX12_anHour 126 = .ok (.iload_n 1, 1) := by decide +kernel
theorem dX12_anHour_127 : decode cX12_anHour 127 = .ok (.invokevirtual 304, 3) := by decide +kernel
theorem dX12_anHour_130 : decode cX12_anHour 130 = .ok (.iinc 5 1, 3) := by decide +kernel
theorem dX12_anHour_133 : decode cX12_anHour 133 = .ok (.goto (-26), 3) := by decide +kernel
theorem dX12_anHour_136 : decode cX12_anHour 136 = .ok (.iconst 0, 1) := by decide +kernel
theorem dX12_anHour_137 : decode cX12_anHour 137 = .ok (.istore 5, 2) := by decide +kernel
theorem dX12_anHour_139 : decode cX12_anHour 139 = .ok (.iload 5, 2) := by decide +kernel
theorem dX12_anHour_141 : decode cX12_anHour 141 = .ok (.iload 4, 2) := by decide +kernel
theorem dX12_anHour_143 : decode cX12_anHour 143 = .ok (.if_icmp .ge 27, 3) := by decide +kernel
theorem dX12_anHour_146 : decode cX12_anHour 146 = .ok (.aload_n 0, 1) := by decide +kernel
theorem dX12_anHour_147 : decode cX12_anHour 147 = .ok (.iload 5, 2) := by decide +kernel
theorem dX12_anHour_149 : decode cX12_anHour 149 = .ok (.iconst 0, 1) := by decide +kernel
theorem dX12_anHour_150 : decode cX12_anHour 150 = .ok (.invokevirtual 217, 3) := by decide +kernel
theorem dX12_anHour_153 : decode cX12_anHour 153 = .ok (.iconst 4, 1) := by decide +kernel
theorem dX12_anHour_154 : decode cX12_anHour 154 = .ok (.if_icmp .ne 10, 3) := by decide +kernel
theorem dX12_anHour_157 : decode cX12_anHour 157 = .ok (.aload_n 0, 1) := by decide +kernel
theorem dX12_anHour_158 : decode cX12_anHour 158 = .ok (.iload 5, 2) := by decide +kernel
theorem dX12_anHour_160 : decode cX12_anHour 160 = .ok (.iload_n 1, 1) := by decide +kernel
theorem dX12_anHour_161 : decode cX12_anHour 161 = .ok (.invokevirtual 307, 3) := by decide +kernel
theorem dX12_anHour_164 : decode cX12_anHour 164 = .ok (.iinc 5 1, 3) := by decide +kernel
theorem dX12_anHour_167 : decode cX12_anHour 167 = .ok (.goto (-28), 3) := by decide +kernel
theorem dX12_anHour_170 : decode cX12_anHour 170 = .ok (.aload_n 0, 1) := by decide +kernel
theorem dX12_anHour_171 : decode cX12_anHour 171 = .ok (.invokevirtual 310, 3) := by decide +kernel
theorem dX12_anHour_174 : decode cX12_anHour 174 = .ok (.iconst 0, 1) := by decide +kernel
theorem dX12_anHour_175 : decode cX12_anHour 175 = .ok (.istore 5, 2) := by decide +kernel
theorem dX12_anHour_177 : decode cX12_anHour 177 = .ok (.iload 5, 2) := by decide +kernel
theorem dX12_anHour_179 : decode cX12_anHour 179 = .ok (.iload 4, 2) := by decide +kernel
theorem dX12_anHour_181 : decode cX12_anHour 181 = .ok (.if_icmp .ge 38, 3) := by decide +kernel
theorem dX12_anHour_184 : decode cX12_anHour 184 = .ok (.aload_n 0, 1) := by decide +kernel
theorem dX12_anHour_185 : decode cX12_anHour 185 = .ok (.iload 5, 2) := by decide +kernel
theorem dX12_anHour_187 : decode cX12_anHour 187 = .ok (.iconst 0, 1) := by decide +kernel
theorem dX12_anHour_188 : decode cX12_anHour 188 = .ok (.invokevirtual 217, 3) := by decide +kernel
theorem dX12_anHour_191 : decode cX12_anHour 191 = .ok (.iconst 2, 1) := by decide +kernel
theorem dX12_anHour_192 : decode cX12_anHour 192 = .ok (.if_icmp .eq 14, 3) := by decide +kernel
theorem dX12_anHour_195 : decode cX12_anHour 195 = .ok (.aload_n 0, 1) := by decide +kernel
theorem dX12_anHour_196 : decode cX12_anHour 196 = .ok (.iload 5, 2) := by decide +kernel
theorem dX12_anHour_198 : decode cX12_anHour 198 = .ok (.iconst 0, 1) := by decide +kernel
theorem dX12_anHour_199 : decode cX12_anHour 199 = .ok (.invokevirtual 217, 3) := by decide +kernel
theorem dX12_anHour_202 : decode cX12_anHour 202 = .ok (.iconst 3, 1) := by decide +kernel
theorem dX12_anHour_203 : decode cX12_anHour 203 = .ok (.if_icmp .ne 10, 3) := by decide +kernel
theorem dX12_anHour_206 : decode cX12_anHour 206 = .ok (.aload_n 0, 1) := by decide +kernel
theorem dX12_anHour_207 : decode cX12_anHour 207 = .ok (.iload 5, 2) := by decide +kernel
theorem dX12_anHour_209 : decode cX12_anHour 209 = .ok (.iload_n 3, 1) := by decide +kernel
theorem dX12_anHour_210 : decode cX12_anHour 210 = .ok (.invokevirtual 313, 3) := by decide +kernel
theorem dX12_anHour_213 : decode cX12_anHour 213 = .ok (.iinc 5 1, 3) := by decide +kernel
theorem dX12_anHour_216 : decode cX12_anHour 216 = .ok (.goto (-39), 3) := by decide +kernel
theorem dX12_anHour_219 : decode cX12_anHour 219 = .ok (.aload_n 0, 1) := by decide +kernel
theorem dX12_anHour_220 : decode cX12_anHour 220 = .ok (.invokevirtual 228, 3) := by decide +kernel
theorem dX12_anHour_223 : decode cX12_anHour 223 = .ok (.bipush 24, 2) := by decide +kernel
theorem dX12_anHour_225 : decode cX12_anHour 225 = .ok (.irem, 1) := by decide +kernel
theorem dX12_anHour_226 : decode cX12_anHour 226 = .ok (.ifCond .ne 7, 3) := by decide +kernel
theorem dX12_anHour_229 : decode cX12_anHour 229 = .ok (.aload_n 0, 1) := by decide +kernel
theorem dX12_anHour_230 : decode cX12_anHour 230 = .ok (.invokevirtual 316, 3) := by decide +kernel
theorem dX12_anHour_233 : decode cX12_anHour 233 = .ok (.aload_n 0, 1) := by decide +kernel
theorem dX12_anHour_234 : decode cX12_anHour 234 = .ok (.invokevirtual 319, 3) := by decide +kernel
theorem dX12_anHour_237 : decode cX12_anHour 237 = .ok (.return_, 1) := by decide +kernel
theorem dX12_choose_0 : decode cX12_choose 0 = .ok (.aload_n 0, 1) := by decide +kernel
theorem dX12_choose_1 : decode cX12_choose 1 = .ok (.iconst 0, 1) := by decide +kernel
theorem dX12_choose_2 : decode cX12_choose 2 = .ok (.putfield 194, 3) := by decide +kernel
theorem dX12_choose_5 : decode cX12_choose 5 = .ok (.aload_n 0, 1) := by decide +kernel
theorem dX12_choose_6 : decode cX12_choose 6 = .ok (.iload_n 1, 1) := by decide +kernel
theorem dX12_choose_7 : decode cX12_choose 7 = .ok (.iconst 0, 1) := by decide +kernel
theorem dX12_choose_8 : decode cX12_choose 8 = .ok (.bipush 60, 2) := by decide +kernel
theorem dX12_choose_10 : decode cX12_choose 10 = .ok (.invokestatic 197, 3) := by decide +kernel
theorem dX12_choose_13 : decode cX12_choose 13 = .ok (.ifCond .ne 7, 3) := by decide +kernel
theorem dX12_choose_16 : decode cX12_choose 16 = .ok (.iconst 1, 1) := by decide +kernel
theorem dX12_choose_17 : decode cX12_choose 17 = .ok (.goto 4, 3) := by decide +kernel
theorem dX12_choose_20 : decode cX12_choose 20 = .ok (.iconst 0, 1) := by decide +kernel
theorem dX12_choose_21 : decode cX12_choose 21 = .ok (.iconst 1, 1) := by decide +kernel
theorem dX12_choose_22 : decode cX12_choose 22 = .ok (.invokevirtual 224, 3) := by decide +kernel
theorem dX12_choose_25 : decode cX12_choose 25 = .ok (.ifCond .eq 5, 3) := by decide +kernel
theorem dX12_choose_28 : decode cX12_choose 28 = .ok (.iconst 0, 1) := by decide +kernel
theorem dX12_choose_29 : decode cX12_choose 29 = .ok (.ireturn, 1) := by decide +kernel
theorem dX12_choose_30 : decode cX12_choose 30 = .ok (.iconst 0, 1) := by decide +kernel
theorem dX12_choose_31 : decode cX12_choose 31 = .ok (.istore_n 2, 1) := by decide +kernel
theorem dX12_choose_32 : decode cX12_choose 32 = .ok (.iload_n 2, 1) := by decide +kernel
theorem dX12_choose_33 : decode cX12_choose 33 = .ok (.aload_n 0, 1) := by decide +kernel
theorem dX12_choose_34 : decode cX12_choose 34 = .ok (.getfield 495, 3) := by decide +kernel
theorem dX12_choose_37 : decode cX12_choose 37 = .ok (.if_icmp .ge 53, 3) := by decide +kernel
theorem dX12_choose_40 : decode cX12_choose 40 = .ok (.aload_n 0, 1) := by decide +kernel
theorem dX12_choose_41 : decode cX12_choose 41 = .ok (.getfield 131, 3) := by decide +kernel
theorem dX12_choose_44 : decode cX12_choose 44 = .ok (.iload_n 2, 1) := by decide +kernel
theorem dX12_choose_45 : decode cX12_choose 45 = .ok (.aload_n 0, 1) := by decide +kernel
theorem dX12_choose_46 : decode cX12_choose 46 = .ok (.getfield 101, 3) := by decide +kernel
theorem dX12_choose_49 : decode cX12_choose 49 = .ok (.iload_n 2, 1) := by decide +kernel
theorem dX12_choose_50 : decode cX12_choose 50 = .ok (.iaload, 1) := by decide +kernel
theorem dX12_choose_51 : decode cX12_choose 51 = .ok (.ifCond .ge 19, 3) := by decide +kernel
theorem dX12_choose_54 : decode cX12_choose 54 = .ok (.aload_n 0, 1) := by decide +kernel
theorem dX12_choose_55 : decode cX12_choose 55 = .ok (.iload_n 2, 1) := by decide +kernel
theorem dX12_choose_56 : decode cX12_choose 56 = .ok (.bipush 6, 2) := by decide +kernel
theorem dX12_choose_58 : decode cX12_choose 58 = .ok (.invokevirtual 480, 3) := by decide +kernel
theorem dX12_choose_61 : decode cX12_choose 61 = .ok (.lconst 0, 1) := by decide +kernel
theorem dX12_choose_62 : decode cX12_choose 62 = .ok (.lcmp, 1) := by decide +kernel
theorem dX12_choose_63 : decode cX12_choose 63 = .ok (.ifCond .ne 7, 3) := by decide +kernel
theorem dX12_choose_66 : decode cX12_choose 66 = .ok (.iconst 1, 1) := by decide +kernel
theorem dX12_choose_67 : decode cX12_choose 67 = .ok (.goto 4, 3) := by decide +kernel
theorem dX12_choose_70 : decode cX12_choose 70 = .ok (.iconst 0, 1) := by decide +kernel
theorem dX12_choose_71 : decode cX12_choose 71 = .ok (.bastore, 1) := by decide +kernel
theorem dX12_choose_72 : decode cX12_choose 72 = .ok (.aload_n 0, 1) := by decide +kernel
theorem dX12_choose_73 : decode cX12_choose 73 = .ok (.getfield 128, 3) := by decide +kernel
theorem dX12_choose_76 : decode cX12_choose 76 = .ok (.iload_n 2, 1) := by decide +kernel
theorem dX12_choose_77 : decode cX12_choose 77 = .ok (.aload_n 0, 1) := by decide +kernel
theorem dX12_choose_78 : decode cX12_choose 78 = .ok (.iload_n 2, 1) := by decide +kernel
theorem dX12_choose_79 : decode cX12_choose 79 = .ok (.iconst 4, 1) := by decide +kernel
theorem dX12_choose_80 : decode cX12_choose 80 = .ok (.invokevirtual 480, 3) := by decide +kernel
theorem dX12_choose_83 : decode cX12_choose 83 = .ok (.lastore, 1) := by decide +kernel
theorem dX12_choose_84 : decode cX12_choose 84 = .ok (.iinc 2 1, 3) := by decide +kernel
theorem dX12_choose_87 : decode cX12_choose 87 = .ok (.goto (-55), 3) := by decide +kernel
theorem dX12_choose_90 : decode cX12_choose 90 = .ok (.iconst 0, 1) := by decide +kernel
theorem dX12_choose_91 : decode cX12_choose 91 = .ok (.istore_n 2, 1) := by decide +kernel
theorem dX12_choose_92 : decode cX12_choose 92 = .ok (.iconst 0, 1) := by decide +kernel
theorem dX12_choose_93 : decode cX12_choose 93 = .ok (.istore_n 3, 1) := by decide +kernel
theorem dX12_choose_94 : decode cX12_choose 94 = .ok (.iload_n 3, 1) := by decide +kernel
theorem dX12_choose_95 : decode cX12_choose 95 = .ok (.iload_n 1, 1) := by decide +kernel
theorem dX12_choose_96 : decode cX12_choose 96 = .ok (.if_icmp .ge 62, 3) := by decide +kernel
theorem dX12_choose_99 : decode cX12_choose 99 = .ok (.aload_n 0, 1) := by decide +kernel
theorem dX12_choose_100 : decode cX12_choose 100 = .ok (.invokevirtual 508, 3) := by decide +kernel
theorem dX12_choose_103 : decode cX12_choose 103 = .ok (.istore 4, 2) := by decide +kernel
theorem dX12_choose_105 : decode cX12_choose 105 = .ok (.aload_n 0, 1) := by decide +kernel
theorem dX12_choose_106 : decode cX12_choose 106 = .ok (.invokevirtual 511, 3) := by decide +kernel
theorem dX12_choose_109 : decode cX12_choose 109 = .ok (.istore 5, 2) := by decide +kernel
theorem dX12_choose_111 : decode cX12_choose 111 = .ok (.iload 4, 2) := by decide +kernel
theorem dX12_choose_113 : decode cX12_choose 113 = .ok (.ifCond .lt 8, 3) := by decide +kernel
theorem dX12_choose_116 : decode cX12_choose 116 = .ok (.iload 5, 2) := by decide +kernel
theorem dX12_choose_118 : decode cX12_choose 118 = .ok (.ifCond .ge 5, 3) := by decide +kernel
theorem dX12_choose_121 : decode cX12_choose 121 = .ok (.iload_n 2, 1) := by decide +kernel
theorem dX12_choose_122 : decode cX12_choose 122 = .ok (.ireturn, 1) := by decide +kernel
theorem dX12_choose_123 : decode cX12_choose 123 = .ok (.aload_n 0, 1) := by decide +kernel
theorem dX12_choose_124 : decode cX12_choose 124 = .ok (.getfield 131, 3) := by decide +kernel
theorem dX12_choose_127 : decode cX12_choose 127 = .ok (.iload 4, 2) := by decide +kernel
theorem dX12_choose_129 : decode cX12_choose 129 = .ok (.iconst 0, 1) := by decide +kernel
theorem dX12_choose_130 : decode cX12_choose 130 = .ok (.bastore, 1) := by decide +kernel
theorem dX12_choose_131 : decode cX12_choose 131 = .ok (.aload_n 0, 1) := by decide +kernel
theorem dX12_choose_132 : decode cX12_choose 132 = .ok (.getfield 101, 3) := by decide +kernel
theorem dX12_choose_135 : decode cX12_choose 135 = .ok (.iload 4, 2) := by decide +kernel
theorem dX12_choose_137 : decode cX12_choose 137 = .ok (.iload 5, 2) := by decide +kernel
theorem dX12_choose_139 : decode cX12_choose 139 = .ok (.iastore, 1) := by decide +kernel
theorem dX12_choose_140 : decode cX12_choose 140 = .ok (.aload_n 0, 1) := by decide +kernel
theorem dX12_choose_141 : decode cX12_choose 141 = .ok (.getfield 122, 3) := by decide +kernel
theorem dX12_choose_144 : decode cX12_choose 144 = .ok (.iload 5, 2) := by decide +kernel
theorem dX12_choose_146 : decode cX12_choose 146 = .ok (.iload 4, 2) := by decide +kernel
theorem dX12_choose_148 : decode cX12_choose 148 = .ok (.iastore, 1) := by decide +kernel
theorem dX12_choose_149 : decode cX12_choose 149 = .ok (.iinc 2 1, 3) := by decide +kernel
theorem dX12_choose_152 : decode cX12_choose 152 = .ok (.iinc 3 1, 3) := by decide +kernel
theorem dX12_choose_155 : decode cX12_choose 155 = .ok (.goto (-61), 3) := by decide +kernel
theorem dX12_choose_158 : decode cX12_choose 158 = .ok (.iload_n 2, 1) := by decide +kernel
theorem dX12_choose_159 : decode cX12_choose 159 = .ok (.ireturn, 1) := by decide +kernel
theorem dX12_dike_0 : decode cX12_dike 0 = .ok (.aload_n 0, 1) := by decide +kernel
theorem dX12_dike_1 : decode cX12_dike 1 = .ok (.iconst 0, 1) := by decide +kernel
theorem dX12_dike_2 : decode cX12_dike 2 = .ok (.putfield 194, 3) := by decide +kernel
theorem dX12_dike_5 : decode cX12_dike 5 = .ok (.aload_n 0, 1) := by decide +kernel
theorem dX12_dike_6 : decode cX12_dike 6 = .ok (.iload_n 1, 1) := by decide +kernel
theorem dX12_dike_7 : decode cX12_dike 7 = .ok (.invokestatic 220, 3) := by decide +kernel
theorem dX12_dike_10 : decode cX12_dike 10 = .ok (.ifCond .ne 17, 3) := by decide +kernel
theorem dX12_dike_13 : decode cX12_dike 13 = .ok (.iload_n 2, 1) := by decide +kernel
theorem dX12_dike_14 : decode cX12_dike 14 = .ok (.invokestatic 220, 3) := by decide +kernel
theorem dX12_dike_17 : decode cX12_dike 17 = .ok (.ifCond .ne 10, 3) := by decide +kernel
theorem dX12_dike_20 : decode cX12_dike 20 = .ok (.iload_n 3, 1) := by decide +kernel
theorem dX12_dike_21 : decode cX12_dike 21 = .ok (.invokestatic 220, 3) := by decide +kernel
theorem dX12_dike_24 : decode cX12_dike 24 = .ok (.ifCond .eq 7, 3) := by decide +kernel
theorem dX12_dike_27 : decode cX12_dike 27 = .ok (.iconst 1, 1) := by decide +kernel
theorem dX12_dike_28 : decode cX12_dike 28 = .ok (.goto 4, 3) := by decide +kernel
theorem dX12_dike_31 : decode cX12_dike 31 = .ok (.iconst 0, 1) := by decide +kernel
theorem dX12_dike_32 : decode cX12_dike 32 = .ok (.iconst 1, 1) := by decide +kernel
theorem dX12_dike_33 : decode cX12_dike 33 = .ok (.invokevirtual 224, 3) := by decide +kernel
theorem dX12_dike_36 : decode cX12_dike 36 = .ok (.ifCond .ne 54, 3) := by decide +kernel
theorem dX12_dike_39 : decode cX12_dike 39 = .ok (.aload_n 0, 1) := by decide +kernel
theorem dX12_dike_40 : decode cX12_dike 40 = .ok (.iload 4, 2) := by decide +kernel
theorem dX12_dike_42 : decode cX12_dike 42 = .ok (.iconst 1, 1) := by decide +kernel
theorem dX12_dike_43 : decode cX12_dike 43 = .ok (.sipush 1000, 3) := by decide +kernel
theorem dX12_dike_46 : decode cX12_dike 46 = .ok (.invokestatic 197, 3) := by decide +kernel
theorem dX12_dike_49 : decode cX12_dike 49 = .ok (.ifCond .ne 7, 3) := by decide +kernel
theorem dX12_dike_52 : decode cX12_dike 52 = .ok (.iconst 1, 1) := by decide +kernel
theorem dX12_dike_53 : decode cX12_dike 53 = .ok (.goto 4, 3) := by decide +kernel
theorem dX12_dike_56 : decode cX12_dike 56 = .ok (.iconst 0, 1) := by decide +kernel
theorem dX12_dike_57 : decode cX12_dike 57 = .ok (.iconst 2, 1) := by decide +kernel
theorem dX12_dike_58 : decode cX12_dike 58 = .ok (.invokevirtual 224, 3) := by decide +kernel
theorem dX12_dike_61 : decode cX12_dike 61 = .ok (.ifCond .ne 29, 3) := by decide +kernel
theorem dX12_dike_64 : decode cX12_dike 64 = .ok (.aload_n 0, 1) := by decide +kernel
theorem dX12_dike_65 : decode cX12_dike 65 = .ok (.aload_n 0, 1) := by decide +kernel
theorem dX12_dike_66 : decode cX12_dike 66 = .ok (.getfield 9, 3) := by decide +kernel
theorem dX12_dike_69 : decode cX12_dike 69 = .ok (.sipush 1428, 3) := by decide +kernel
theorem dX12_dike_72 : decode cX12_dike 72 = .ok (.iaload, 1) := by decide +kernel
theorem dX12_dike_73 : decode cX12_dike 73 = .ok (.bipush 30, 2) := by decide +kernel
theorem dX12_dike_75 : decode cX12_dike 75 = .ok (.if_icmp .ne 7, 3) := by decide +kernel
theorem dX12_dike_78 : decode cX12_dike 78 = .ok (.iconst 1, 1) := by decide +kernel
theorem dX12_dike_79 : decode cX12_dike 79 = .ok (.goto 4, 3) := by decide +kernel
theorem dX12_dike_82 : decode cX12_dike 82 = .ok (.iconst 0, 1) := by decide +kernel
theorem dX12_dike_83 : decode cX12_dike 83 = .ok (.iconst 3, 1) := by decide +kernel
theorem dX12_dike_84 : decode cX12_dike 84 = .ok (.invokevirtual 224, 3) := by decide +kernel
theorem dX12_dike_87 : decode cX12_dike 87 = .ok (.ifCond .eq 5, 3) := by decide +kernel
theorem dX12_dike_90 : decode cX12_dike 90 = .ok (.iconst 0, 1) := by decide +kernel
theorem dX12_dike_91 : decode cX12_dike 91 = .ok (.ireturn, 1) := by decide +kernel
theorem dX12_dike_92 : decode cX12_dike 92 = .ok (.aload_n 0, 1) := by decide +kernel
theorem dX12_dike_93 : decode cX12_dike 93 = .ok (.iload_n 1, 1) := by decide +kernel
theorem dX12_dike_94 : decode cX12_dike 94 = .ok (.invokevirtual 259, 3) := by decide +kernel
theorem dX12_dike_97 : decode cX12_dike 97 = .ok (.ifCond .ne 37, 3) := by decide +kernel
theorem dX12_dike_100 : decode cX12_dike 100 = .ok (.aload_n 0, 1) := by decide +kernel
theorem dX12_dike_101 : decode cX12_dike 101 = .ok (.iload_n 2, 1) := by decide +kernel
theorem dX12_dike_102 : decode cX12_dike 102 = .ok (.invokevirtual 235, 3) := by decide +kernel
theorem dX12_dike_105 : decode cX12_dike 105 = .ok (.ifCond .ne 29, 3) := by decide +kernel
theorem dX12_dike_108 : decode cX12_dike 108 = .ok (.aload_n 0, 1) := by decide +kernel
theorem dX12_dike_109 : decode cX12_dike 109 = .ok (.iload_n 3, 1) := by decide +kernel
theorem dX12_dike_110 : decode cX12_dike 110 = .ok (.invokevirtual 235, 3) := by decide +kernel
theorem dX12_dike_113 : decode cX12_dike 113 = .ok (.ifCond .eq 21, 3) := by decide +kernel
theorem dX12_dike_116 : decode cX12_dike 116 = .ok (.iload_n 1, 1) := by decide +kernel
theorem dX12_dike_117 : decode cX12_dike 117 = .ok (.iload_n 2, 1) := by decide +kernel
theorem dX12_dike_118 : decode cX12_dike 118 = .ok (.invokestatic 262, 3) := by decide +kernel
theorem dX12_dike_121 : decode cX12_dike 121 = .ok (.iconst 1, 1) := by decide +kernel
theorem dX12_dike_122 : decode cX12_dike 122 = .ok (.if_icmp .ne 12, 3) := by decide +kernel
theorem dX12_dike_125 : decode cX12_dike 125 = .ok (.iload_n 1, 1) := by decide +kernel
theorem dX12_dike_126 : decode cX12_dike 126 = .ok (.iload_n 3, 1) := by decide +kernel
theorem dX12_dike_127 : decode cX12_dike 127 = .ok (.invokestatic 262, 3) := by decide +kernel
theorem dX12_dike_130 : decode cX12_dike 130 = .ok (.iconst 1, 1) := by decide +kernel
theorem dX12_dike_131 : decode cX12_dike 131 = .ok (.if_icmp .eq 5, 3) := by decide +kernel
theorem dX12_dike_134 : decode cX12_dike 134 = .ok (.iconst (-1), 1) := by decide +kernel
theorem dX12_dike_135 : decode cX12_dike 135 = .ok (.ireturn, 1) := by decide +kernel
theorem dX12_dike_136 : decode cX12_dike 136 = .ok (.aload_n 0, 1) := by decide +kernel
theorem dX12_dike_137 : decode cX12_dike 137 = .ok (.iconst 0, 1) := by decide +kernel
theorem dX12_dike_138 : decode cX12_dike 138 = .ok (.iload_n 1, 1) := by decide +kernel
theorem dX12_dike_139 : decode cX12_dike 139 = .ok (.iload_n 3, 1) := by decide +kernel
theorem dX12_dike_140 : decode cX12_dike 140 = .ok (.iload 4, 2) := by decide +kernel
theorem dX12_dike_142 : decode cX12_dike 142 = .ok (.iconst 0, 1) := by decide +kernel
theorem dX12_dike_143 : decode cX12_dike 143 = .ok (.invokevirtual 265, 3) := by decide +kernel
theorem dX12_dike_146 : decode cX12_dike 146 = .ok (.ireturn, 1) := by decide +kernel
theorem dX12_fill_0 : decode cX12_fill 0 = .ok (.aload_n 0, 1) := by decide +kernel
theorem dX12_fill_1 : decode cX12_fill 1 = .ok (.iconst 0, 1) := by decide +kernel
theorem dX12_fill_2 : decode cX12_fill 2 = .ok (.putfield 194, 3) := by decide +kernel
theorem dX12_fill_5 : decode cX12_fill 5 = .ok (.aload_n 0, 1) := by decide +kernel
theorem dX12_fill_6 : decode cX12_fill 6 = .ok (.iload_n 1, 1) := by decide +kernel
theorem dX12_fill_7 : decode cX12_fill 7 = .ok (.invokestatic 220, 3) := by decide +kernel
theorem dX12_fill_10 : decode cX12_fill 10 = .ok (.iconst 1, 1) := by decide +kernel
theorem dX12_fill_11 : decode cX12_fill 11 = .ok (.invokevirtual 224, 3) := by decide +kernel
theorem dX12_fill_14 : decode cX12_fill 14 = .ok (.ifCond .ne 45, 3) := by decide +kernel
theorem dX12_fill_17 : decode cX12_fill 17 = .ok (.aload_n 0, 1) := by decide +kernel
theorem dX12_fill_18 : decode cX12_fill 18 = .ok (.iload_n 2, 1) := by decide +kernel
theorem dX12_fill_19 : decode cX12_fill 19 = .ok (.iconst 0, 1) := by decide +kernel
theorem dX12_fill_20 : decode cX12_fill 20 = .ok (.sipush 900, 3) := by decide +kernel
theorem dX12_fill_23 : decode cX12_fill 23 = .ok (.invokestatic 197, 3) := by decide +kernel
theorem dX12_fill_26 : decode cX12_fill 26 = .ok (.ifCond .eq 13, 3) := by decide +kernel
theorem dX12_fill_29 : decode cX12_fill 29 = .ok (.iload_n 3, 1) := by decide +kernel
theorem dX12_fill_30 : decode cX12_fill 30 = .ok (.iconst 0, 1) := by decide +kernel
theorem dX12_fill_31 : decode cX12_fill 31 = .ok (.ldc 241, 2) := by decide +kernel
theorem dX12_fill_33 : decode cX12_fill 33 = .ok (.invokestatic 197, 3) := by decide +kernel
theorem dX12_fill_36 : decode cX12_fill 36 = .ok (.ifCond .ne 7, 3) := by decide +kernel
theorem dX12_fill_39 : decode cX12_fill 39 = .ok (.iconst 1, 1) := by decide +kernel
theorem dX12_fill_40 : decode cX12_fill 40 = .ok (.goto 4, 3) := by decide +kernel
theorem dX12_fill_43 : decode cX12_fill 43 = .ok (.iconst 0, 1) := by decide +kernel
theorem dX12_fill_44 : decode cX12_fill 44 = .ok (.iconst 2, 1) := by decide +kernel
theorem dX12_fill_45 : decode cX12_fill 45 = .ok (.invokevirtual 224, 3) := by decide +kernel
theorem dX12_fill_48 : decode cX12_fill 48 = .ok (.ifCond .ne 11, 3) := by decide +kernel
theorem dX12_fill_51 : decode cX12_fill 51 = .ok (.aload_n 0, 1) := by decide +kernel
theorem dX12_fill_52 : decode cX12_fill 52 = .ok (.iload_n 1, 1) := by decide +kernel
theorem dX12_fill_53 : decode cX12_fill 53 = .ok (.invokevirtual 235, 3) := by decide +kernel
theorem dX12_fill_56 : decode cX12_fill 56 = .ok (.ifCond .ne 5, 3) := by decide +kernel
theorem dX12_fill_59 : decode cX12_fill 59 = .ok (.iconst 0, 1) := by decide +kernel
theorem dX12_fill_60 : decode cX12_fill 60 = .ok (.ireturn, 1) := by decide +kernel
theorem dX12_fill_61 : decode cX12_fill 61 = .ok (.aload_n 0, 1) := by decide +kernel
theorem dX12_fill_62 : decode cX12_fill 62 = .ok (.getfield 9, 3) := by decide +kernel
theorem dX12_fill_65 : decode cX12_fill 65 = .ok (.sipush 1748, 3) := by decide +kernel
theorem dX12_fill_68 : decode cX12_fill 68 = .ok (.dup2, 1) := by decide +kernel
theorem dX12_fill_69 : decode cX12_fill 69 = .ok (.iaload, 1) := by decide +kernel
theorem dX12_fill_70 : decode cX12_fill 70 = .ok (.iload_n 2, 1) := by decide +kernel
theorem dX12_fill_71 : decode cX12_fill 71 = .ok (.aload_n 0, 1) := by decide +kernel
theorem dX12_fill_72 : decode cX12_fill 72 = .ok (.getfield 9, 3) := by decide +kernel
theorem dX12_fill_75 : decode cX12_fill 75 = .ok (.sipush 384, 3) := by decide +kernel
theorem dX12_fill_78 : decode cX12_fill 78 = .ok (.iload_n 1, 1) := by decide +kernel
theorem dX12_fill_79 : decode cX12_fill 79 = .ok (.iadd, 1) := by decide +kernel
theorem dX12_fill_80 : decode cX12_fill 80 = .ok (.iaload, 1) := by decide +kernel
theorem dX12_fill_81 : decode cX12_fill 81 = .ok (.isub, 1) := by decide +kernel
theorem dX12_fill_82 : decode cX12_fill 82 = .ok (.iadd, 1) := by decide +kernel
theorem dX12_fill_83 : decode cX12_fill 83 = .ok (.iastore, 1) := by decide +kernel
theorem dX12_fill_84 : decode cX12_fill 84 = .ok (.aload_n 0, 1) := by decide +kernel
theorem dX12_fill_85 : decode cX12_fill 85 = .ok (.getfield 9, 3) := by decide +kernel
theorem dX12_fill_88 : decode cX12_fill 88 = .ok (.sipush 384, 3) := by decide +kernel
theorem dX12_fill_91 : decode cX12_fill 91 = .ok (.iload_n 1, 1) := by decide +kernel
theorem dX12_fill_92 : decode cX12_fill 92 = .ok (.iadd, 1) := by decide +kernel
theorem dX12_fill_93 : decode cX12_fill 93 = .ok (.iload_n 2, 1) := by decide +kernel
theorem dX12_fill_94 : decode cX12_fill 94 = .ok (.iastore, 1) := by decide +kernel
theorem dX12_fill_95 : decode cX12_fill 95 = .ok (.aload_n 0, 1) := by decide +kernel
theorem dX12_fill_96 : decode cX12_fill 96 = .ok (.getfield 9, 3) := by decide +kernel
theorem dX12_fill_99 : decode cX12_fill 99 = .ok (.sipush 480, 3) := by decide +kernel
theorem dX12_fill_102 : decode cX12_fill 102 = .ok (.iload_n 1, 1) := by decide +kernel
theorem dX12_fill_103 : decode cX12_fill 103 = .ok (.iadd, 1) := by decide +kernel
theorem dX12_fill_104 : decode cX12_fill 104 = .ok (.iload_n 3, 1) := by decide +kernel
theorem dX12_fill_105 : decode cX12_fill 105 = .ok (.iastore, 1) := by decide +kernel
theorem dX12_fill_106 : decode cX12_fill 106 = .ok (.aload_n 0, 1) := by decide +kernel
theorem dX12_fill_107 : decode cX12_fill 107 = .ok (.iconst 0, 1) := by decide +kernel
theorem dX12_fill_108 : decode cX12_fill 108 = .ok (.putfield 238, 3) := by decide +kernel
theorem dX12_fill_111 : decode cX12_fill 111 = .ok (.iconst 1, 1) := by decide +kernel
theorem dX12_fill_112 : decode cX12_fill 112 = .ok (.ireturn, 1) := by decide +kernel
theorem dX12_hour_0 : decode cX12_hour 0 = .ok (.aload_n 0, 1) := by decide +kernel
theorem dX12_hour_1 : decode cX12_hour 1 = .ok (.getfield 9, 3) := by decide +kernel
theorem dX12_hour_4 : decode cX12_hour 4 = .ok (.sipush 1429, 3) := by decide +kernel
theorem dX12_hour_7 : decode cX12_hour 7 = .ok (.iaload, 1) := by decide +kernel
theorem dX12_hour_8 : decode cX12_hour 8 = .ok (.ireturn, 1) := by decide +kernel
theorem dX12_isWord_0 : decode cX12_isWord 0 = .ok (.aload_n 0, 1) := by decide +kernel
theorem dX12_isWord_1 : decode cX12_isWord 1 = .ok (.getfield 335, 3) := by decide +kernel
theorem dX12_isWord_4 : decode cX12_isWord 4 = .ok (.aload_n 0, 1) := by decide +kernel
theorem dX12_isWord_5 : decode cX12_isWord 5 = .ok (.getfield 345, 3) := by decide +kernel
theorem dX12_isWord_8 : decode cX12_isWord 8 = .ok (.isub, 1) := by decide +kernel
theorem dX12_isWord_9 : decode cX12_isWord 9 = .ok (.aload_n 1, 1) := by decide +kernel
theorem dX12_isWord_10 : decode cX12_isWord 10 = .ok (.invokevirtual 351, 3) := by decide +kernel
theorem dX12_isWord_13 : decode cX12_isWord 13 = .ok (.if_icmp .ne 7, 3) := by decide +kernel
theorem dX12_isWord_16 : decode cX12_isWord 16 = .ok (.iconst 1, 1) := by decide +kernel
theorem dX12_isWord_17 : decode cX12_isWord 17 = .ok (.goto 4, 3) := by decide +kernel
theorem dX12_isWord_20 : decode cX12_isWord 20 = .ok (.iconst 0, 1) := by decide +kernel
theorem dX12_isWord_21 : decode cX12_isWord 21 = .ok (.istore_n 2, 1) := by decide +kernel
theorem dX12_isWord_22 : decode cX12_isWord 22 = .ok (.iconst 0, 1) := by decide +kernel
theorem dX12_isWord_23 : decode cX12_isWord 23 = .ok (.istore_n 3, 1) := by decide +kernel
theorem dX12_isWord_24 : decode cX12_isWord 24 = .ok (.iload_n 2, 1) := by decide +kernel
theorem dX12_isWord_25 : decode cX12_isWord 25 = .ok (.ifCond .eq 42, 3) := by decide +kernel
theorem dX12_isWord_28 : decode cX12_isWord 28 = .ok (.iload_n 3, 1) := by decide +kernel
theorem dX12_isWord_29 : decode cX12_isWord 29 = .ok (.aload_n 1, 1) := by decide +kernel
theorem dX12_isWord_30 : decode cX12_isWord 30 = .ok (.invokevirtual 351, 3) := by decide +kernel
theorem dX12_isWord_33 : decode cX12_isWord 33 = .ok (.if_icmp .ge 34, 3) := by decide +kernel
theorem dX12_isWord_36 : decode cX12_isWord 36 = .ok (.aload_n 0, 1) := by decide +kernel
theorem dX12_isWord_37 : decode cX12_isWord 37 = .ok (.getfield 31, 3) := by decide +kernel
theorem dX12_isWord_40 : decode cX12_isWord 40 = .ok (.aload_n 0, 1) := by decide +kernel
theorem dX12_isWord_41 : decode cX12_isWord 41 = .ok (.getfield 345, 3) := by decide +kernel
theorem dX12_isWord_44 : decode cX12_isWord 44 = .ok (.iload_n 3, 1) := by decide +kernel
theorem dX12_isWord_45 : decode cX12_isWord 45 = .ok (.iadd, 1) := by decide +kernel
theorem dX12_isWord_46 : decode cX12_isWord 46 = .ok (.baload, 1) := by decide +kernel
theorem dX12_isWord_47 : decode cX12_isWord 47 = .ok (.aload_n 1, 1) := by decide +kernel
theorem dX12_isWord_48 : decode cX12_isWord 48 = .ok (.iload_n 3, 1) := by decide +kernel
theorem dX12_isWord_49 : decode cX12_isWord 49 = .ok (.invokevirtual 356, 3) := by decide +kernel
theorem dX12_isWord_52 : decode cX12_isWord 52 = .ok (.if_icmp .ne 7, 3) := by decide +kernel
theorem dX12_isWord_55 : decode cX12_isWord 55 = .ok (.iconst 1, 1) := by decide +kernel
theorem dX12_isWord_56 : decode cX12_isWord 56 = .ok (.goto 4, 3) := by decide +kernel
theorem dX12_isWord_59 : decode cX12_isWord 59 = .ok (.iconst 0, 1) := by decide +kernel
theorem dX12_isWord_60 : decode cX12_isWord 60 = .ok (.istore_n 2, 1) := by decide +kernel
theorem dX12_isWord_61 : decode cX12_isWord 61 = .ok (.iinc 3 1, 3) := by decide +kernel
theorem dX12_isWord_64 : decode cX12_isWord 64 = .ok (.goto (-40), 3) := by decide +kernel
theorem dX12_isWord_67 : decode cX12_isWord 67 = .ok (.iload_n 2, 1) := by decide +kernel
theorem dX12_isWord_68 : decode cX12_isWord 68 = .ok (.ireturn, 1) := by decide +kernel
theorem dX12_lastOf_0 : decode cX12_lastOf 0 = .ok (.iload_n 2, 1) := by decide +kernel
theorem dX12_lastOf_1 : decode cX12_lastOf 1 = .ok (.istore_n 3, 1) := by decide +kernel
theorem dX12_lastOf_2 : decode cX12_lastOf 2 = .ok (.iconst 0, 1) := by decide +kernel
theorem dX12_lastOf_3 : decode cX12_lastOf 3 = .ok (.istore 4, 2) := by decide +kernel
theorem dX12_lastOf_5 : decode cX12_lastOf 5 = .ok (.iload 4, 2) := by decide +kernel
theorem dX12_lastOf_7 : decode cX12_lastOf 7 = .ok (.aload_n 0, 1) := by decide +kernel
theorem dX12_lastOf_8 : decode cX12_lastOf 8 = .ok (.getfield 42, 3) := by decide +kernel
theorem dX12_lastOf_11 : decode cX12_lastOf 11 = .ok (.iconst 0, 1) := by decide +kernel
theorem dX12_lastOf_12 : decode cX12_lastOf 12 = .ok (.iaload, 1) := by decide +kernel
theorem dX12_lastOf_13 : decode cX12_lastOf 13 = .ok (.if_icmp .ge 28, 3) := by decide +kernel
theorem dX12_lastOf_16 : decode cX12_lastOf 16 = .ok (.aload_n 0, 1) := by decide +kernel
theorem dX12_lastOf_17 : decode cX12_lastOf 17 = .ok (.getfield 45, 3) := by decide +kernel
theorem dX12_lastOf_20 : decode cX12_lastOf 20 = .ok (.iload 4, 2) := by decide +kernel
theorem dX12_lastOf_22 : decode cX12_lastOf 22 = .ok (.iaload, 1) := by decide +kernel
theorem dX12_lastOf_23 : decode cX12_lastOf 23 = .ok (.iload_n 1, 1) := by decide +kernel
theorem dX12_lastOf_24 : decode cX12_lastOf 24 = .ok (.if_icmp .ne 11, 3) := by decide +kernel
theorem dX12_lastOf_27 : decode cX12_lastOf 27 = .ok (.aload_n 0, 1) := by decide +kernel
theorem dX12_lastOf_28 : decode cX12_lastOf 28 = .ok (.getfield 48, 3) := by decide +kernel
theorem dX12_lastOf_31 : decode cX12_lastOf 31 = .ok (.iload 4, 2) := by decide +kernel
theorem dX12_lastOf_33 : decode cX12_lastOf 33 = .ok (.iaload, 1) := by decide +kernel
theorem dX12_lastOf_34 : decode cX12_lastOf 34 = .ok (.istore_n 3, 1) := by decide +kernel
theorem dX12_lastOf_35 : decode cX12_lastOf 35 = .ok (.iinc 4 1, 3) := by decide +kernel
theorem dX12_lastOf_38 : decode cX12_lastOf 38 = .ok (.goto (-33), 3) := by decide +kernel
theorem dX12_lastOf_41 : decode cX12_lastOf 41 = .ok (.iload_n 3, 1) := by decide +kernel
theorem dX12_lastOf_42 : decode cX12_lastOf 42 = .ok (.ireturn, 1) := by decide +kernel
theorem dX12_lays_0 : decode cX12_lays 0 = .ok (.aload_n 0, 1) := by decide +kernel
theorem dX12_lays_1 : decode cX12_lays 1 = .ok (.iload_n 1, 1) := by decide +kernel
theorem dX12_lays_2 : decode cX12_lays 2 = .ok (.iconst 4, 1) := by decide +kernel
theorem dX12_lays_3 : decode cX12_lays 3 = .ok (.invokevirtual 217, 3) := by decide +kernel
theorem dX12_lays_6 : decode cX12_lays 6 = .ok (.istore 4, 2) := by decide +kernel
theorem dX12_lays_8 : decode cX12_lays 8 = .ok (.aload_n 0, 1) := by decide +kernel
theorem dX12_lays_9 : decode cX12_lays 9 = .ok (.getfield 9, 3) := by decide +kernel
theorem dX12_lays_12 : decode cX12_lays 12 = .ok (.iload_n 1, 1) := by decide +kernel
theorem dX12_lays_13 : decode cX12_lays 13 = .ok (.iconst 5, 1) := by decide +kernel
theorem dX12_lays_14 : decode cX12_lays 14 = .ok (.iload 4, 2) := by decide +kernel
theorem dX12_lays_16 : decode cX12_lays 16 = .ok (.iadd, 1) := by decide +kernel
theorem dX12_lays_17 : decode cX12_lays 17 = .ok (.invokestatic 214, 3) := by decide +kernel
theorem dX12_lays_20 : decode cX12_lays 20 = .ok (.iload_n 2, 1) := by decide +kernel
theorem dX12_lays_21 : decode cX12_lays 21 = .ok (.iastore, 1) := by decide +kernel
theorem dX12_lays_22 : decode cX12_lays 22 = .ok (.aload_n 0, 1) := by decide +kernel
theorem dX12_lays_23 : decode cX12_lays 23 = .ok (.getfield 9, 3) := by decide +kernel
theorem dX12_lays_26 : decode cX12_lays 26 = .ok (.iload_n 1, 1) := by decide +kernel
theorem dX12_lays_27 : decode cX12_lays 27 = .ok (.bipush 11, 2) := by decide +kernel
theorem dX12_lays_29 : decode cX12_lays 29 = .ok (.iload 4, 2) := by decide +kernel
theorem dX12_lays_31 : decode cX12_lays 31 = .ok (.iadd, 1) := by decide +kernel
theorem dX12_lays_32 : decode cX12_lays 32 = .ok (.invokestatic 214, 3) := by decide +kernel
theorem dX12_lays_35 : decode cX12_lays 35 = .ok (.iload_n 3, 1) := by decide +kernel
theorem dX12_lays_36 : decode cX12_lays 36 = .ok (.iastore, 1) := by decide +kernel
theorem dX12_lays_37 : decode cX12_lays 37 = .ok (.aload_n 0, 1) := by decide +kernel
theorem dX12_lays_38 : decode cX12_lays 38 = .ok (.getfield 9, 3) := by decide +kernel
theorem dX12_lays_41 : decode cX12_lays 41 = .ok (.iload_n 1, 1) := by decide +kernel
theorem dX12_lays_42 : decode cX12_lays 42 = .ok (.iconst 4, 1) := by decide +kernel
theorem dX12_lays_43 : decode cX12_lays 43 = .ok (.invokestatic 214, 3) := by decide +kernel
theorem dX12_lays_46 : decode cX12_lays 46 = .ok (.iload 4, 2) := by decide +kernel
theorem dX12_lays_48 : decode cX12_lays 48 = .ok (.iconst 1, 1) := by decide +kernel
theorem dX12_lays_49 : decode cX12_lays 49 = .ok (.iadd, 1) := by decide +kernel
theorem dX12_lays_50 : decode cX12_lays 50 = .ok (.iastore, 1) := by decide +kernel
theorem dX12_lays_51 : decode cX12_lays 51 = .ok (.aload_n 0, 1) := by decide +kernel
theorem dX12_lays_52 : decode cX12_lays 52 = .ok (.iconst 0, 1) := by decide +kernel
theorem dX12_lays_53 : decode cX12_lays 53 = .ok (.putfield 238, 3) := by decide +kernel
theorem dX12_lays_56 : decode cX12_lays 56 = .ok (.return_, 1) := by decide +kernel
theorem dX12_lifts__0 : decode cX12_lifts_ 0 = .ok (.aload_n 0, 1) := by decide +kernel
theorem dX12_lifts__1 : decode cX12_lifts_ 1 = .ok (.iconst 0, 1) := by decide +kernel
theorem dX12_lifts__2 : decode cX12_lifts_ 2 = .ok (.putfield 194, 3) := by decide +kernel
theorem dX12_lifts__5 : decode cX12_lifts_ 5 = .ok (.aload_n 0, 1) := by decide +kernel
theorem dX12_lifts__6 : decode cX12_lifts_ 6 = .ok (.iload_n 1, 1) := by decide +kernel
theorem dX12_lifts__7 : decode cX12_lifts_ 7 = .ok (.iconst 0, 1) := by decide +kernel
theorem dX12_lifts__8 : decode cX12_lifts_ 8 = .ok (.sipush 1000, 3) := by decide +kernel
theorem dX12_lifts__11 : decode cX12_lifts_ 11 = .ok (.invokestatic 197, 3) := by decide +kernel
theorem dX12_lifts__14 : decode cX12_lifts_ 14 = .ok (.ifCond .eq 35, 3) := by decide +kernel
theorem dX12_lifts__17 : decode cX12_lifts_ 17 = .ok (.iload_n 2, 1) := by decide +kernel
theorem dX12_lifts__18 : decode cX12_lifts_ 18 = .ok (.iconst 0, 1) := by decide +kernel
theorem dX12_lifts__19 : decode cX12_lifts_ 19 = .ok (.bipush 100, 2) := by decide +kernel
theorem dX12_lifts__21 : decode cX12_lifts_ 21 = .ok (.invokestatic 197, 3) := by decide +kernel
theorem dX12_lifts__24 : decode cX12_lifts_ 24 = .ok (.ifCond .eq 25, 3) := by decide +kernel
theorem dX12_lifts__27 : decode cX12_lifts_ 27 = .ok (.iload_n 3, 1) := by decide +kernel
theorem dX12_lifts__28 : decode cX12_lifts_ 28 = .ok (.iconst 1, 1) := by decide +kernel
theorem dX12_lifts__29 : decode cX12_lifts_ 29 = .ok (.bipush 24, 2) := by decide +kernel
theorem dX12_lifts__31 : decode cX12_lifts_ 31 = .ok (.invokestatic 197, 3) := by decide +kernel
theorem dX12_lifts__34 : decode cX12_lifts_ 34 = .ok (.ifCond .eq 15, 3) := by decide +kernel
theorem dX12_lifts__37 : decode cX12_lifts_ 37 = .ok (.iload 4, 2) := by decide +kernel
theorem dX12_lifts__39 : decode cX12_lifts_ 39 = .ok (.iconst 0, 1) := by decide +kernel
theorem dX12_lifts__40 : decode cX12_lifts_ 40 = .ok (.sipush 1000, 3) := by decide +kernel
theorem dX12_lifts__43 : decode cX12_lifts_ 43 = .ok (.invokestatic 197, 3) := by decide +kernel
theorem dX12_lifts__46 : decode cX12_lifts_ 46 = .ok (.ifCond .ne 7, 3) := by decide +kernel
theorem dX12_lifts__49 : decode cX12_lifts_ 49 = .ok (.iconst 1, 1) := by decide +kernel
theorem dX12_lifts__50 : decode cX12_lifts_ 50 = .ok (.goto 4, 3) := by decide +kernel
theorem dX12_lifts__53 : decode cX12_lifts_ 53 = .ok (.iconst 0, 1) := by decide +kernel
theorem dX12_lifts__54 : decode cX12_lifts_ 54 = .ok (.iconst 1, 1) := by decide +kernel
theorem dX12_lifts__55 : decode cX12_lifts_ 55 = .ok (.invokevirtual 224, 3) := by decide +kernel
theorem dX12_lifts__58 : decode cX12_lifts_ 58 = .ok (.ifCond .eq 5, 3) := by decide +kernel
theorem dX12_lifts__61 : decode cX12_lifts_ 61 = .ok (.iconst 0, 1) := by decide +kernel
theorem dX12_lifts__62 : decode cX12_lifts_ 62 = .ok (.ireturn, 1) := by decide +kernel
theorem dX12_lifts__63 : decode cX12_lifts_ 63 = .ok (.iconst 0, 1) := by decide +kernel
theorem dX12_lifts__64 : decode cX12_lifts_ 64 = .ok (.istore 5, 2) := by decide +kernel
theorem dX12_lifts__66 : decode cX12_lifts_ 66 = .ok (.iconst 0, 1) := by decide +kernel
theorem dX12_lifts__67 : decode cX12_lifts_ 67 = .ok (.istore 6, 2) := by decide +kernel
theorem dX12_lifts__69 : decode cX12_lifts_ 69 = .ok (.iload 6, 2) := by decide +kernel
theorem dX12_lifts__71 : decode cX12_lifts_ 71 = .ok (.aload_n 0, 1) := by decide +kernel
theorem dX12_lifts__72 : decode cX12_lifts_ 72 = .ok (.getfield 9, 3) := by decide +kernel
theorem dX12_lifts__75 : decode cX12_lifts_ 75 = .ok (.sipush 1428, 3) := by decide +kernel
theorem dX12_lifts__78 : decode cX12_lifts_ 78 = .ok (.iaload, 1) := by decide +kernel
theorem dX12_lifts__79 : decode cX12_lifts_ 79 = .ok (.if_icmp .ge 47, 3) := by decide +kernel
theorem dX12_lifts__82 : decode cX12_lifts_ 82 = .ok (.aload_n 0, 1) := by decide +kernel
theorem dX12_lifts__83 : decode cX12_lifts_ 83 = .ok (.iload 6, 2) := by decide +kernel
theorem dX12_lifts__85 : decode cX12_lifts_ 85 = .ok (.iconst 0, 1) := by decide +kernel
theorem dX12_lifts__86 : decode cX12_lifts_ 86 = .ok (.invokevirtual 217, 3) := by decide +kernel
theorem dX12_lifts__89 : decode cX12_lifts_ 89 = .ok (.iconst 3, 1) := by decide +kernel
theorem dX12_lifts__90 : decode cX12_lifts_ 90 = .ok (.if_icmp .ne 30, 3) := by decide +kernel
theorem dX12_lifts__93 : decode cX12_lifts_ 93 = .ok (.iload 5, 2) := by decide +kernel
theorem dX12_lifts__95 : decode cX12_lifts_ 95 = .ok (.iconst 5, 1) := by decide +kernel
theorem dX12_lifts__96 : decode cX12_lifts_ 96 = .ok (.if_icmp .ne 6, 3) := by decide +kernel
theorem dX12_lifts__99 : decode cX12_lifts_ 99 = .ok (.goto 21, 3) := by decide +kernel
theorem dX12_lifts__102 : decode cX12_lifts_ 102 = .ok (.aload_n 0, 1) := by decide +kernel
theorem dX12_lifts__103 : decode cX12_lifts_ 103 = .ok (.getfield 167, 3) := by decide +kernel
theorem dX12_lifts__106 : decode cX12_lifts_ 106 = .ok (.iload 5, 2) := by decide +kernel
theorem dX12_lifts__108 : decode cX12_lifts_ 108 = .ok (.aload_n 0, 1) := by decide +kernel
theorem dX12_lifts__109 : decode cX12_lifts_ 109 = .ok (.iload 6, 2) := by decide +kernel
theorem dX12_lifts__111 : decode cX12_lifts_ 111 = .ok (.bipush 17, 2) := by decide +kernel
theorem dX12_lifts__113 : decode cX12_lifts_ 113 = .ok (.invokevirtual 217, 3) := by decide +kernel
theorem dX12_lifts__116 : decode cX12_lifts_ 116 = .ok (.iastore, 1) := by decide +kernel
theorem dX12_lifts__117 : decode cX12_lifts_ 117 = .ok (.iinc 5 1, 3) := by decide +kernel
theorem dX12_lifts__120 : decode cX12_lifts_ 120 = .ok (.iinc 6 1, 3) := by decide +kernel
theorem dX12_lifts__123 : decode cX12_lifts_ 123 = .ok (.goto (-54), 3) := by decide +kernel
theorem dX12_lifts__126 : decode cX12_lifts_ 126 = .ok (.iconst 0, 1) := by decide +kernel
theorem dX12_lifts__127 : decode cX12_lifts_ 127 = .ok (.istore 6, 2) := by decide +kernel
theorem dX12_lifts__129 : decode cX12_lifts_ 129 = .ok (.iload 6, 2) := by decide +kernel
theorem dX12_lifts__131 : decode cX12_lifts_ 131 = .ok (.sipush 1001, 3) := by decide +kernel
theorem dX12_lifts__134 : decode cX12_lifts_ 134 = .ok (.if_icmp .ge 29, 3) := by decide +kernel
theorem dX12_lifts__137 : decode cX12_lifts_ 137 = .ok (.aload_n 0, 1) := by decide +kernel
theorem dX12_lifts__138 : decode cX12_lifts_ 138 = .ok (.getfield 161, 3) := by decide +kernel
theorem dX12_lifts__141 : decode cX12_lifts_ 141 = .ok (.iload 6, 2) := by decide +kernel
theorem dX12_lifts__143 : decode cX12_lifts_ 143 = .ok (.iload 6, 2) := by decide +kernel
theorem dX12_lifts__145 : decode cX12_lifts_ 145 = .ok (.iload_n 1, 1) := by decide +kernel
theorem dX12_lifts__146 : decode cX12_lifts_ 146 = .ok (.if_icmp .ne 7, 3) := by decide +kernel
theorem dX12_lifts__149 : decode cX12_lifts_ 149 = .ok (.iconst 0, 1) := by decide +kernel
theorem dX12_lifts__150 : decode cX12_lifts_ 150 = .ok (.goto 6, 3) := by decide +kernel
theorem dX12_lifts__153 : decode cX12_lifts_ 153 = .ok (.ldc_w 538, 3) := by decide +kernel
theorem dX12_lifts__156 : decode cX12_lifts_ 156 = .ok (.iastore, 1) := by decide +kernel
theorem dX12_lifts__157 : decode cX12_lifts_ 157 = .ok (.iinc 6 1, 3) := by decide +kernel
theorem dX12_lifts__160 : decode cX12_lifts_ 160 = .ok (.goto (-31), 3) := by decide +kernel
theorem dX12_lifts__163 : decode cX12_lifts_ 163 = .ok (.iconst 1, 1) := by decide +kernel
theorem dX12_lifts__164 : decode cX12_lifts_ 164 = .ok (.istore 6, 2) := by decide +kernel
theorem dX12_lifts__166 : decode cX12_lifts_ 166 = .ok (.iload 6, 2) := by decide +kernel
theorem dX12_lifts__168 : decode cX12_lifts_ 168 = .ok (.iload_n 3, 1) := by decide +kernel
theorem dX12_lifts__169 : decode cX12_lifts_ 169 = .ok (.if_icmp .gt 280, 3) := by decide +kernel
theorem dX12_lifts__172 : decode cX12_lifts_ 172 = .ok (.iconst 0, 1) := by decide +kernel
theorem dX12_lifts__173 : decode cX12_lifts_ 173 = .ok (.istore 7, 2) := by decide +kernel
theorem dX12_lifts__175 : decode cX12_lifts_ 175 = .ok (.iconst 0, 1) := by decide +kernel
theorem dX12_lifts__176 : decode cX12_lifts_ 176 = .ok (.istore 8, 2) := by decide +kernel
theorem dX12_lifts__178 : decode cX12_lifts_ 178 = .ok (.iload 8, 2) := by decide +kernel
theorem dX12_lifts__180 : decode cX12_lifts_ 180 = .ok (.aload_n 0, 1) := by decide +kernel
theorem dX12_lifts__181 : decode cX12_lifts_ 181 = .ok (.getfield 9, 3) := by decide +kernel
theorem dX12_lifts__184 : decode cX12_lifts_ 184 = .ok (.sipush 1428, 3) := by decide +kernel
theorem dX12_lifts__187 : decode cX12_lifts_ 187 = .ok (.iaload, 1) := by decide +kernel
theorem dX12_lifts__188 : decode cX12_lifts_ 188 = .ok (.if_icmp .ge 48, 3) := by decide +kernel
theorem dX12_lifts__191 : decode cX12_lifts_ 191 = .ok (.aload_n 0, 1) := by decide +kernel
theorem dX12_lifts__192 : decode cX12_lifts_ 192 = .ok (.iload 8, 2) := by decide +kernel
theorem dX12_lifts__194 : decode cX12_lifts_ 194 = .ok (.iconst 0, 1) := by decide +kernel
theorem dX12_lifts__195 : decode cX12_lifts_ 195 = .ok (.invokevirtual 217, 3) := by decide +kernel
theorem dX12_lifts__198 : decode cX12_lifts_ 198 = .ok (.iconst 2, 1) := by decide +kernel
theorem dX12_lifts__199 : decode cX12_lifts_ 199 = .ok (.if_icmp .ne 31, 3) := by decide +kernel
theorem dX12_lifts__202 : decode cX12_lifts_ 202 = .ok (.iload 7, 2) := by decide +kernel
theorem dX12_lifts__204 : decode cX12_lifts_ 204 = .ok (.aload_n 0, 1) := by decide +kernel
theorem dX12_lifts__205 : decode cX12_lifts_ 205 = .ok (.iload 8, 2) := by decide +kernel
theorem dX12_lifts__207 : decode cX12_lifts_ 207 = .ok (.bipush 17, 2) := by decide +kernel
theorem dX12_lifts__209 : decode cX12_lifts_ 209 = .ok (.invokevirtual 217, 3) := by decide +kernel
theorem dX12_lifts__212 : decode cX12_lifts_ 212 = .ok (.aload_n 0, 1) := by decide +kernel
theorem dX12_lifts__213 : decode cX12_lifts_ 213 = .ok (.aload_n 0, 1) := by decide +kernel
theorem dX12_lifts__214 : decode cX12_lifts_ 214 = .ok (.invokevirtual 228, 3) := by decide +kernel
theorem dX12_lifts__217 : decode cX12_lifts_ 217 = .ok (.iload 6, 2) := by decide +kernel
theorem dX12_lifts__219 : decode cX12_lifts_ 219 = .ok (.iadd, 1) := by decide +kernel
theorem dX12_lifts__220 : decode cX12_lifts_ 220 = .ok (.invokevirtual 250, 3) := by decide +kernel
theorem dX12_lifts__223 : decode cX12_lifts_ 223 = .ok (.imul, 1) := by decide +kernel
theorem dX12_lifts__224 : decode cX12_lifts_ 224 = .ok (.bipush 10, 2) := by decide +kernel
theorem dX12_lifts__226 : decode cX12_lifts_ 226 = .ok (.idiv, 1) := by decide +kernel
theorem dX12_lifts__227 : decode cX12_lifts_ 227 = .ok (.iadd, 1) := by decide +kernel
theorem dX12_lifts__228 : decode cX12_lifts_ 228 = .ok (.istore 7, 2) := by decide +kernel
theorem dX12_lifts__230 : decode cX12_lifts_ 230 = .ok (.iinc 8 1, 3) := by decide +kernel
theorem dX12_lifts__233 : decode cX12_lifts_ 233 = .ok (.goto (-55), 3) := by decide +kernel
theorem dX12_lifts__236 : decode cX12_lifts_ 236 = .ok (.iconst 0, 1) := by decide +kernel
theorem dX12_lifts__237 : decode cX12_lifts_ 237 = .ok (.istore 8, 2) := by decide +kernel
theorem dX12_lifts__239 : decode cX12_lifts_ 239 = .ok (.iload 8, 2) := by decide +kernel
theorem dX12_lifts__241 : decode cX12_lifts_ 241 = .ok (.sipush 1001, 3) := by decide +kernel
theorem dX12_lifts__244 : decode cX12_lifts_ 244 = .ok (.if_icmp .ge 19, 3) := by decide +kernel
theorem dX12_lifts__247 : decode cX12_lifts_ 247 = .ok (.aload_n 0, 1) := by decide +kernel
theorem dX12_lifts__248 : decode cX12_lifts_ 248 = .ok (.getfield 164, 3) := by decide +kernel
theorem dX12_lifts__251 : decode cX12_lifts_ 251 = .ok (.iload 8, 2) := by decide +kernel
theorem dX12_lifts__253 : decode cX12_lifts_ 253 = .ok (.ldc_w 538, 3) := by decide +kernel
theorem dX12_lifts__256 : decode cX12_lifts_ 256 = .ok (.iastore, 1) := by decide +kernel
theorem dX12_lifts__257 : decode cX12_lifts_ 257 = .ok (.iinc 8 1, 3) := by decide +kernel
theorem dX12_lifts__260 : decode cX12_lifts_ 260 = .ok (.goto (-21), 3) := by decide +kernel
theorem dX12_lifts__263 : decode cX12_lifts_ 263 = .ok (.iconst 0, 1) := by decide +kernel
theorem dX12_lifts__264 : decode cX12_lifts_ 264 = .ok (.istore 8, 2) := by decide +kernel
theorem dX12_lifts__266 : decode cX12_lifts_ 266 = .ok (.iload 8, 2) := by decide +kernel
theorem dX12_lifts__268 : decode cX12_lifts_ 268 = .ok (.iconst 1, 1) := by decide +kernel
theorem dX12_lifts__269 : decode cX12_lifts_ 269 = .ok (.iload 5, 2) := by decide +kernel
theorem dX12_lifts__271 : decode cX12_lifts_ 271 = .ok (.ishl, 1) := by decide +kernel
theorem dX12_lifts__272 : decode cX12_lifts_ 272 = .ok (.if_icmp .ge 140, 3) := by decide +kernel
theorem dX12_lifts__275 : decode cX12_lifts_ 275 = .ok (.iload 7, 2) := by decide +kernel
theorem dX12_lifts__277 : decode cX12_lifts_ 277 = .ok (.istore 9, 2) := by decide +kernel
theorem dX12_lifts__279 : decode cX12_lifts_ 279 = .ok (.iconst 0, 1) := by decide +kernel
theorem dX12_lifts__280 : decode cX12_lifts_ 280 = .ok (.istore 10, 2) := by decide +kernel
theorem dX12_lifts__282 : decode cX12_lifts_ 282 = .ok (.iload 10, 2) := by decide +kernel
theorem dX12_lifts__284 : decode cX12_lifts_ 284 = .ok (.iload 5, 2) := by decide +kernel
theorem dX12_lifts__286 : decode cX12_lifts_ 286 = .ok (.if_icmp .ge 36, 3) := by decide +kernel
theorem dX12_lifts__289 : decode cX12_lifts_ 289 = .ok (.iload 9, 2) := by decide +kernel
theorem dX12_lifts__291 : decode cX12_lifts_ 291 = .ok (.iload 8, 2) := by decide +kernel
theorem dX12_lifts__293 : decode cX12_lifts_ 293 = .ok (.iload 10, 2) := by decide +kernel
theorem dX12_lifts__295 : decode cX12_lifts_ 295 = .ok (.ishr, 1) := by decide +kernel
theorem dX12_lifts__296 : decode cX12_lifts_ 296 = .ok (.iconst 1, 1) := by decide +kernel
theorem dX12_lifts__297 : decode cX12_lifts_ 297 = .ok (.iand, 1) := by decide +kernel
theorem dX12_lifts__298 : decode cX12_lifts_ 298 = .ok (.iconst 1, 1) := by decide +kernel
theorem dX12_lifts__299 : decode cX12_lifts_ 299 = .ok (.if_icmp .ne 13, 3) := by decide +kernel
theorem dX12_lifts__302 : decode cX12_lifts_ 302 = .ok (.aload_n 0, 1) := by decide +kernel
theorem dX12_lifts__303 : decode cX12_lifts_ 303 = .ok (.getfield 167, 3) := by decide +kernel
theorem dX12_lifts__306 : decode cX12_lifts_ 306 = .ok (.iload 10, 2) := by decide +kernel
theorem dX12_lifts__308 : decode cX12_lifts_ 308 = .ok (.iaload, 1) := by decide +kernel
theorem dX12_lifts__309 : decode cX12_lifts_ 309 = .ok (.goto 4, 3) := by decide +kernel
theorem dX12_lifts__312 : decode cX12_lifts_ 312 = .ok (.iconst 0, 1) := by decide +kernel
theorem dX12_lifts__313 : decode cX12_lifts_ 313 = .ok (.iadd, 1) := by decide +kernel
theorem dX12_lifts__314 : decode cX12_lifts_ 314 = .ok (.istore 9, 2) := by decide +kernel
theorem dX12_lifts__316 : decode cX12_lifts_ 316 = .ok (.iinc 10 1, 3) := by decide +kernel
theorem dX12_lifts__319 : decode cX12_lifts_ 319 = .ok (.goto (-37), 3) := by decide +kernel
theorem dX12_lifts__322 : decode cX12_lifts_ 322 = .ok (.iload 8, 2) := by decide +kernel
theorem dX12_lifts__324 : decode cX12_lifts_ 324 = .ok (.invokestatic 545, 3) := by decide +kernel
theorem dX12_lifts__327 : decode cX12_lifts_ 327 = .ok (.istore 10, 2) := by decide +kernel
theorem dX12_lifts__329 : decode cX12_lifts_ 329 = .ok (.iconst 0, 1) := by decide +kernel
theorem dX12_lifts__330 : decode cX12_lifts_ 330 = .ok (.istore 11, 2) := by decide +kernel
theorem dX12_lifts__332 : decode cX12_lifts_ 332 = .ok (.iload 11, 2) := by decide +kernel
theorem dX12_lifts__334 : decode cX12_lifts_ 334 = .ok (.sipush 1001, 3) := by decide +kernel
theorem dX12_lifts__337 : decode cX12_lifts_ 337 = .ok (.if_icmp .ge 69, 3) := by decide +kernel
theorem dX12_lifts__340 : decode cX12_lifts_ 340 = .ok (.iconst 0, 1) := by decide +kernel
theorem dX12_lifts__341 : decode cX12_lifts_ 341 = .ok (.iload 11, 2) := by decide +kernel
theorem dX12_lifts__343 : decode cX12_lifts_ 343 = .ok (.iload_n 2, 1) := by decide +kernel
theorem dX12_lifts__344 : decode cX12_lifts_ 344 = .ok (.iadd, 1) := by decide +kernel
theorem dX12_lifts__345 : decode cX12_lifts_ 345 = .ok (.iload 9, 2) := by decide +kernel
theorem dX12_lifts__347 : decode cX12_lifts_ 347 = .ok (.isub, 1) := by decide +kernel
theorem dX12_lifts__348 : decode cX12_lifts_ 348 = .ok (.invokestatic 211, 3) := by decide +kernel
theorem dX12_lifts__351 : decode cX12_lifts_ 351 = .ok (.istore 12, 2) := by decide +kernel
theorem dX12_lifts__353 : decode cX12_lifts_ 353 = .ok (.aload_n 0, 1) := by decide +kernel
theorem dX12_lifts__354 : decode cX12_lifts_ 354 = .ok (.getfield 161, 3) := by decide +kernel
theorem dX12_lifts__357 : decode cX12_lifts_ 357 = .ok (.iload 11, 2) := by decide +kernel
theorem dX12_lifts__359 : decode cX12_lifts_ 359 = .ok (.iaload, 1) := by decide +kernel
theorem dX12_lifts__360 : decode cX12_lifts_ 360 = .ok (.ldc_w 538, 3) := by decide +kernel
theorem dX12_lifts__363 : decode cX12_lifts_ 363 = .ok (.if_icmp .ge 37, 3) := by decide +kernel
theorem dX12_lifts__366 : decode cX12_lifts_ 366 = .ok (.iload 12, 2) := by decide +kernel
theorem dX12_lifts__368 : decode cX12_lifts_ 368 = .ok (.iload 4, 2) := by decide +kernel
theorem dX12_lifts__370 : decode cX12_lifts_ 370 = .ok (.if_icmp .gt 30, 3) := by decide +kernel
theorem dX12_lifts__373 : decode cX12_lifts_ 373 = .ok (.aload_n 0, 1) := by decide +kernel
theorem dX12_lifts__374 : decode cX12_lifts_ 374 = .ok (.getfield 164, 3) := by decide +kernel
theorem dX12_lifts__377 : decode cX12_lifts_ 377 = .ok (.iload 12, 2) := by decide +kernel
theorem dX12_lifts__379 : decode cX12_lifts_ 379 = .ok (.aload_n 0, 1) := by decide +kernel
theorem dX12_lifts__380 : decode cX12_lifts_ 380 = .ok (.getfield 164, 3) := by decide +kernel
theorem dX12_lifts__383 : decode cX12_lifts_ 383 = .ok (.iload 12, 2) := by decide +kernel
theorem dX12_lifts__385 : decode cX12_lifts_ 385 = .ok (.iaload, 1) := by decide +kernel
theorem dX12_lifts__386 : decode cX12_lifts_ 386 = .ok (.aload_n 0, 1) := by decide +kernel
theorem dX12_lifts__387 : decode cX12_lifts_ 387 = .ok (.getfield 161, 3) := by decide +kernel
theorem dX12_lifts__390 : decode cX12_lifts_ 390 = .ok (.iload 11, 2) := by decide +kernel
theorem dX12_lifts__392 : decode cX12_lifts_ 392 = .ok (.iaload, 1) := by decide +kernel
theorem dX12_lifts__393 : decode cX12_lifts_ 393 = .ok (.iload 10, 2) := by decide +kernel
theorem dX12_lifts__395 : decode cX12_lifts_ 395 = .ok (.iadd, 1) := by decide +kernel
theorem dX12_lifts__396 : decode cX12_lifts_ 396 = .ok (.invokestatic 207, 3) := by decide +kernel
theorem dX12_lifts__399 : decode cX12_lifts_ 399 = .ok (.iastore, 1) := by decide +kernel
theorem dX12_lifts__400 : decode cX12_lifts_ 400 = .ok (.iinc 11 1, 3) := by decide +kernel
theorem dX12_lifts__403 : decode cX12_lifts_ 403 = .ok (.goto (-71), 3) := by decide +kernel
theorem dX12_lifts__406 : decode cX12_lifts_ 406 = .ok (.iinc 8 1, 3) := by decide +kernel
theorem dX12_lifts__409 : decode cX12_lifts_ 409 = .ok (.goto (-143), 3) := by decide +kernel
theorem dX12_lifts__412 : decode cX12_lifts_ 412 = .ok (.iconst 0, 1) := by decide +kernel
theorem dX12_lifts__413 : decode cX12_lifts_ 413 = .ok (.istore 8, 2) := by decide +kernel
theorem dX12_lifts__415 : decode cX12_lifts_ 415 = .ok (.iload 8, 2) := by decide +kernel
theorem dX12_lifts__417 : decode cX12_lifts_ 417 = .ok (.sipush 1001, 3) := by decide +kernel
theorem dX12_lifts__420 : decode cX12_lifts_ 420 = .ok (.if_icmp .ge 23, 3) := by decide +kernel
theorem dX12_lifts__423 : decode cX12_lifts_ 423 = .ok (.aload_n 0, 1) := by decide +kernel
theorem dX12_lifts__424 : decode cX12_lifts_ 424 = .ok (.getfield 161, 3) := by decide +kernel
theorem dX12_lifts__427 : decode cX12_lifts_ 427 = .ok (.iload 8, 2) := by decide +kernel
theorem dX12_lifts__429 : decode cX12_lifts_ 429 = .ok (.aload_n 0, 1) := by decide +kernel
theorem dX12_lifts__430 : decode cX12_lifts_ 430 = .ok (.getfield 164, 3) := by decide +kernel
theorem dX12_lifts__433 : decode cX12_lifts_ 433 = .ok (.iload 8, 2) := by decide +kernel
theorem dX12_lifts__435 : decode cX12_lifts_ 435 = .ok (.iaload, 1) := by decide +kernel
theorem dX12_lifts__436 : decode cX12_lifts_ 436 = .ok (.iastore, 1) := by decide +kernel
theorem dX12_lifts__437 : decode cX12_lifts_ 437 = .ok (.iinc 8 1, 3) := by decide +kernel
theorem dX12_lifts__440 : decode cX12_lifts_ 440 = .ok (.goto (-25), 3) := by decide +kernel
theorem dX12_lifts__443 : decode cX12_lifts_ 443 = .ok (.iinc 6 1, 3) := by decide +kernel
theorem dX12_lifts__446 : decode cX12_lifts_ 446 = .ok (.goto (-280), 3) := by decide +kernel
theorem dX12_lifts__449 : decode cX12_lifts_ 449 = .ok (.ldc_w 538, 3) := by decide +kernel
theorem dX12_lifts__452 : decode cX12_lifts_ 452 = .ok (.istore 6, 2) := by decide +kernel
theorem dX12_lifts__454 : decode cX12_lifts_ 454 = .ok (.iconst 0, 1) := by decide +kernel
theorem dX12_lifts__455 : decode cX12_lifts_ 455 = .ok (.istore 7, 2) := by decide +kernel
theorem dX12_lifts__457 : decode cX12_lifts_ 457 = .ok (.iload 7, 2) := by decide +kernel
theorem dX12_lifts__459 : decode cX12_lifts_ 459 = .ok (.sipush 1001, 3) := by decide +kernel
theorem dX12_lifts__462 : decode cX12_lifts_ 462 = .ok (.if_icmp .ge 23, 3) := by decide +kernel
theorem dX12_lifts__465 : decode cX12_lifts_ 465 = .ok (.iload 6, 2) := by decide +kernel
theorem dX12_lifts__467 : decode cX12_lifts_ 467 = .ok (.aload_n 0, 1) := by decide +kernel
theorem dX12_lifts__468 : decode cX12_lifts_ 468 = .ok (.getfield 161, 3) := by decide +kernel
theorem dX12_lifts__471 : decode cX12_lifts_ 471 = .ok (.iload 7, 2) := by decide +kernel
theorem dX12_lifts__473 : decode cX12_lifts_ 473 = .ok (.iaload, 1) := by decide +kernel
theorem dX12_lifts__474 : decode cX12_lifts_ 474 = .ok (.invokestatic 207, 3) := by decide +kernel
theorem dX12_lifts__477 : decode cX12_lifts_ 477 = .ok (.istore 6, 2) := by decide +kernel
theorem dX12_lifts__479 : decode cX12_lifts_ 479 = .ok (.iinc 7 1, 3) := by decide +kernel
theorem dX12_lifts__482 : decode cX12_lifts_ 482 = .ok (.goto (-25), 3) := by decide +kernel
theorem dX12_lifts__485 : decode cX12_lifts_ 485 = .ok (.iload 6, 2) := by decide +kernel
theorem dX12_lifts__487 : decode cX12_lifts_ 487 = .ok (.ldc_w 538, 3) := by decide +kernel
theorem dX12_lifts__490 : decode cX12_lifts_ 490 = .ok (.if_icmp .ne 7, 3) := by decide +kernel
theorem dX12_lifts__493 : decode cX12_lifts_ 493 = .ok (.iconst (-1), 1) := by decide +kernel
theorem dX12_lifts__494 : decode cX12_lifts_ 494 = .ok (.goto 5, 3) := by decide +kernel
theorem dX12_lifts__497 : decode cX12_lifts_ 497 = .ok (.iload 6, 2) := by decide +kernel
theorem dX12_lifts__499 : decode cX12_lifts_ 499 = .ok (.ireturn, 1) := by decide +kernel
theorem dX12_measure_0 : decode cX12_measure 0 = .ok (.aload_n 0, 1) := by decide +kernel
theorem dX12_measure_1 : decode cX12_measure 1 = .ok (.iconst 0, 1) := by decide +kernel
theorem dX12_measure_2 : decode cX12_measure 2 = .ok (.putfield 194, 3) := by decide +kernel
theorem dX12_measure_5 : decode cX12_measure 5 = .ok (.aload_n 0, 1) := by decide +kernel
theorem dX12_measure_6 : decode cX12_measure 6 = .ok (.aload_n 0, 1) := by decide +kernel
theorem dX12_measure_7 : decode cX12_measure 7 = .ok (.iload_n 1, 1) := by decide +kernel
theorem dX12_measure_8 : decode cX12_measure 8 = .ok (.invokevirtual 539, 3) := by decide +kernel
theorem dX12_measure_11 : decode cX12_measure 11 = .ok (.iconst 1, 1) := by decide +kernel
theorem dX12_measure_12 : decode cX12_measure 12 = .ok (.invokevirtual 224, 3) := by decide +kernel
theorem dX12_measure_15 : decode cX12_measure 15 = .ok (.ifCond .ne 41, 3) := by decide +kernel
theorem dX12_measure_18 : decode cX12_measure 18 = .ok (.aload_n 0, 1) := by decide +kernel
theorem dX12_measure_19 : decode cX12_measure 19 = .ok (.iload_n 2, 1) := by decide +kernel
theorem dX12_measure_20 : decode cX12_measure 20 = .ok (.iconst 0, 1) := by decide +kernel
theorem dX12_measure_21 : decode cX12_measure 21 = .ok (.sipush 2000, 3) := by decide +kernel
theorem dX12_measure_24 : decode cX12_measure 24 = .ok (.invokestatic 197, 3) := by decide +kernel
theorem dX12_measure_27 : decode cX12_measure 27 = .ok (.ifCond .ne 7, 3) := by decide +kernel
theorem dX12_measure_30 : decode cX12_measure 30 = .ok (.iconst 1, 1) := by decide +kernel
theorem dX12_measure_31 : decode cX12_measure 31 = .ok (.goto 4, 3) := by decide +kernel
theorem dX12_measure_34 : decode cX12_measure 34 = .ok (.iconst 0, 1) := by decide +kernel
theorem dX12_measure_35 : decode cX12_measure 35 = .ok (.iconst 2, 1) := by decide +kernel
theorem dX12_measure_36 : decode cX12_measure 36 = .ok (.invokevirtual 224, 3) := by decide +kernel
theorem dX12_measure_39 : decode cX12_measure 39 = .ok (.ifCond .ne 17, 3) := by decide +kernel
theorem dX12_measure_42 : decode cX12_measure 42 = .ok (.aload_n 0, 1) := by decide +kernel
theorem dX12_measure_43 : decode cX12_measure 43 = .ok (.aload_n 0, 1) := by decide +kernel
theorem dX12_measure_44 : decode cX12_measure 44 = .ok (.getfield 158, 3) := by decide +kernel
theorem dX12_measure_47 : decode cX12_measure 47 = .ok (.iload_n 1, 1) := by decide +kernel
theorem dX12_measure_48 : decode cX12_measure 48 = .ok (.baload, 1) := by decide +kernel
theorem dX12_measure_49 : decode cX12_measure 49 = .ok (.iconst 3, 1) := by decide +kernel
theorem dX12_measure_50 : decode cX12_measure 50 = .ok (.invokevirtual 224, 3) := by decide +kernel
theorem dX12_measure_53 : decode cX12_measure 53 = .ok (.ifCond .eq 5, 3) := by decide +kernel
theorem dX12_measure_56 : decode cX12_measure 56 = .ok (.iconst 0, 1) := by decide +kernel
theorem dX12_measure_57 : decode cX12_measure 57 = .ok (.ireturn, 1) := by decide +kernel
theorem dX12_measure_58 : decode cX12_measure 58 = .ok (.aload_n 0, 1) := by decide +kernel
theorem dX12_measure_59 : decode cX12_measure 59 = .ok (.getfield 155, 3) := by decide +kernel
theorem dX12_measure_62 : decode cX12_measure 62 = .ok (.iload_n 1, 1) := by decide +kernel
theorem dX12_measure_63 : decode cX12_measure 63 = .ok (.iconst 1, 1) := by decide +kernel
theorem dX12_measure_64 : decode cX12_measure 64 = .ok (.bastore, 1) := by decide +kernel
theorem dX12_measure_65 : decode cX12_measure 65 = .ok (.aload_n 0, 1) := by decide +kernel
theorem dX12_measure_66 : decode cX12_measure 66 = .ok (.getfield 149, 3) := by decide +kernel
theorem dX12_measure_69 : decode cX12_measure 69 = .ok (.iload_n 1, 1) := by decide +kernel
theorem dX12_measure_70 : decode cX12_measure 70 = .ok (.aload_n 0, 1) := by decide +kernel
theorem dX12_measure_71 : decode cX12_measure 71 = .ok (.getfield 149, 3) := by decide +kernel
theorem dX12_measure_74 : decode cX12_measure 74 = .ok (.iload_n 1, 1) := by decide +kernel
theorem dX12_measure_75 : decode cX12_measure 75 = .ok (.iaload, 1) := by decide +kernel
theorem dX12_measure_76 : decode cX12_measure 76 = .ok (.iload_n 2, 1) := by decide +kernel
theorem dX12_measure_77 : decode cX12_measure 77 = .ok (.aload_n 0, 1) := by decide +kernel
theorem dX12_measure_78 : decode cX12_measure 78 = .ok (.getfield 146, 3) := by decide +kernel
theorem dX12_measure_81 : decode cX12_measure 81 = .ok (.iload_n 1, 1) := by decide +kernel
theorem dX12_measure_82 : decode cX12_measure 82 = .ok (.iaload, 1) := by decide +kernel
theorem dX12_measure_83 : decode cX12_measure 83 = .ok (.isub, 1) := by decide +kernel
theorem dX12_measure_84 : decode cX12_measure 84 = .ok (.invokestatic 211, 3) := by decide +kernel
theorem dX12_measure_87 : decode cX12_measure 87 = .ok (.iastore, 1) := by decide +kernel
theorem dX12_measure_88 : decode cX12_measure 88 = .ok (.aload_n 0, 1) := by decide +kernel
theorem dX12_measure_89 : decode cX12_measure 89 = .ok (.getfield 152, 3) := by decide +kernel
theorem dX12_measure_92 : decode cX12_measure 92 = .ok (.iload_n 1, 1) := by decide +kernel
theorem dX12_measure_93 : decode cX12_measure 93 = .ok (.aload_n 0, 1) := by decide +kernel
theorem dX12_measure_94 : decode cX12_measure 94 = .ok (.getfield 152, 3) := by decide +kernel
theorem dX12_measure_97 : decode cX12_measure 97 = .ok (.iload_n 1, 1) := by decide +kernel
theorem dX12_measure_98 : decode cX12_measure 98 = .ok (.iaload, 1) := by decide +kernel
theorem dX12_measure_99 : decode cX12_measure 99 = .ok (.iload_n 2, 1) := by decide +kernel
theorem dX12_measure_100 : decode cX12_measure 100 = .ok (.aload_n 0, 1) := by decide +kernel
theorem dX12_measure_101 : decode cX12_measure 101 = .ok (.getfield 146, 3) := by decide +kernel
theorem dX12_measure_104 : decode cX12_measure 104 = .ok (.iload_n 1, 1) := by decide +kernel
theorem dX12_measure_105 : decode cX12_measure 105 = .ok (.iaload, 1) := by decide +kernel
theorem dX12_measure_106 : decode cX12_measure 106 = .ok (.iadd, 1) := by decide +kernel
theorem dX12_measure_107 : decode cX12_measure 107 = .ok (.invokestatic 207, 3) := by decide +kernel
theorem dX12_measure_110 : decode cX12_measure 110 = .ok (.iastore, 1) := by decide +kernel
theorem dX12_measure_111 : decode cX12_measure 111 = .ok (.aload_n 0, 1) := by decide +kernel
theorem dX12_measure_112 : decode cX12_measure 112 = .ok (.iload_n 1, 1) := by decide +kernel
theorem dX12_measure_113 : decode cX12_measure 113 = .ok (.invokevirtual 542, 3) := by decide +kernel
theorem dX12_measure_116 : decode cX12_measure 116 = .ok (.ireturn, 1) := by decide +kernel
theorem dX12_noFarm_0 : decode cX12_noFarm 0 = .ok (.iload_n 1, 1) := by decide +kernel
theorem dX12_noFarm_1 : decode cX12_noFarm 1 = .ok (.iconst 0, 1) := by decide +kernel
theorem dX12_noFarm_2 : decode cX12_noFarm 2 = .ok (.aload_n 0, 1) := by decide +kernel
theorem dX12_noFarm_3 : decode cX12_noFarm 3 = .ok (.getfield 498, 3) := by decide +kernel
theorem dX12_noFarm_6 : decode cX12_noFarm 6 = .ok (.iconst 1, 1) := by decide +kernel
theorem dX12_noFarm_7 : decode cX12_noFarm 7 = .ok (.isub, 1) := by decide +kernel
theorem dX12_noFarm_8 : decode cX12_noFarm 8 = .ok (.invokestatic 197, 3) := by decide +kernel
theorem dX12_noFarm_11 : decode cX12_noFarm 11 = .ok (.ifCond .ne 7, 3) := by decide +kernel
theorem dX12_noFarm_14 : decode cX12_noFarm 14 = .ok (.iconst 1, 1) := by decide +kernel
theorem dX12_noFarm_15 : decode cX12_noFarm 15 = .ok (.goto 4, 3) := by decide +kernel
theorem dX12_noFarm_18 : decode cX12_noFarm 18 = .ok (.iconst 0, 1) := by decide +kernel
theorem dX12_noFarm_19 : decode cX12_noFarm 19 = .ok (.ireturn, 1) := by decide +kernel
theorem dX12_order_0 : decode cX12_order 0 = .ok (.aload_n 0, 1) := by decide +kernel
theorem dX12_order_1 : decode cX12_order 1 = .ok (.iconst 0, 1) := by decide +kernel
theorem dX12_order_2 : decode cX12_order 2 = .ok (.putfield 194, 3) := by decide +kernel
theorem dX12_order_5 : decode cX12_order 5 = .ok (.aload_n 0, 1) := by decide +kernel
theorem dX12_order_6 : decode cX12_order 6 = .ok (.iload_n 1, 1) := by decide +kernel
theorem dX12_order_7 : decode cX12_order 7 = .ok (.iconst 0, 1) := by decide +kernel
theorem dX12_order_8 : decode cX12_order 8 = .ok (.ldc_w 536, 3) := by decide +kernel
theorem dX12_order_11 : decode cX12_order 11 = .ok (.invokestatic 197, 3) := by decide +kernel
theorem dX12_order_14 : decode cX12_order 14 = .ok (.ifCond .ne 7, 3) := by decide +kernel
theorem dX12_order_17 : decode cX12_order 17 = .ok (.iconst 1, 1) := by decide +kernel
theorem dX12_order_18 : decode cX12_order 18 = .ok (.goto 4, 3) := by decide +kernel
theorem dX12_order_21 : decode cX12_order 21 = .ok (.iconst 0, 1) := by decide +kernel
theorem dX12_order_22 : decode cX12_order 22 = .ok (.iconst 1, 1) := by decide +kernel
theorem dX12_order_23 : decode cX12_order 23 = .ok (.invokevirtual 224, 3) := by decide +kernel
theorem dX12_order_26 : decode cX12_order 26 = .ok (.ifCond .eq 5, 3) := by decide +kernel
theorem dX12_order_29 : decode cX12_order 29 = .ok (.iconst 0, 1) := by decide +kernel
theorem dX12_order_30 : decode cX12_order 30 = .ok (.ireturn, 1) := by decide +kernel
theorem dX12_order_31 : decode cX12_order 31 = .ok (.aload_n 0, 1) := by decide +kernel
theorem dX12_order_32 : decode cX12_order 32 = .ok (.iconst (-1), 1) := by decide +kernel
theorem dX12_order_33 : decode cX12_order 33 = .ok (.putfield 556, 3) := by decide +kernel
theorem dX12_order_36 : decode cX12_order 36 = .ok (.aload_n 0, 1) := by decide +kernel
theorem dX12_order_37 : decode cX12_order 37 = .ok (.iconst 0, 1) := by decide +kernel
theorem dX12_order_38 : decode cX12_order 38 = .ok (.iconst 0, 1) := by decide +kernel
theorem dX12_order_39 : decode cX12_order 39 = .ok (.iconst 0, 1) := by decide +kernel
theorem dX12_order_40 : decode cX12_order 40 = .ok (.iload_n 1, 1) := by decide +kernel
theorem dX12_order_41 : decode cX12_order 41 = .ok (.iconst 0, 1) := by decide +kernel
theorem dX12_order_42 : decode cX12_order 42 = .ok (.iconst 0, 1) := by decide +kernel
theorem dX12_order_43 : decode cX12_order 43 = .ok (.invokevirtual 559, 3) := by decide +kernel
theorem dX12_order_46 : decode cX12_order 46 = .ok (.aload_n 0, 1) := by decide +kernel
theorem dX12_order_47 : decode cX12_order 47 = .ok (.getfield 556, 3) := by decide +kernel
theorem dX12_order_50 : decode cX12_order 50 = .ok (.ifCond .lt 8, 3) := by decide +kernel
theorem dX12_order_53 : decode cX12_order 53 = .ok (.iload_n 2, 1) := by decide +kernel
theorem dX12_order_54 : decode cX12_order 54 = .ok (.iconst (-1), 1) := by decide +kernel
theorem dX12_order_55 : decode cX12_order 55 = .ok (.if_icmp .ne 8, 3) := by decide +kernel
theorem dX12_order_58 : decode cX12_order 58 = .ok (.aload_n 0, 1) := by decide +kernel
theorem dX12_order_59 : decode cX12_order 59 = .ok (.getfield 556, 3) := by decide +kernel
theorem dX12_order_62 : decode cX12_order 62 = .ok (.ireturn, 1) := by decide +kernel
theorem dX12_order_63 : decode cX12_order 63 = .ok (.iload_n 2, 1) := by decide +kernel
theorem dX12_order_64 : decode cX12_order 64 = .ok (.iconst 0, 1) := by decide +kernel
theorem dX12_order_65 : decode cX12_order 65 = .ok (.aload_n 0, 1) := by decide +kernel
theorem dX12_order_66 : decode cX12_order 66 = .ok (.getfield 553, 3) := by decide +kernel
theorem dX12_order_69 : decode cX12_order 69 = .ok (.iconst 1, 1) := by decide +kernel
theorem dX12_order_70 : decode cX12_order 70 = .ok (.isub, 1) := by decide +kernel
theorem dX12_order_71 : decode cX12_order 71 = .ok (.invokestatic 197, 3) := by decide +kernel
theorem dX12_order_74 : decode cX12_order 74 = .ok (.ifCond .eq 12, 3) := by decide +kernel
theorem dX12_order_77 : decode cX12_order 77 = .ok (.aload_n 0, 1) := by decide +kernel
theorem dX12_order_78 : decode cX12_order 78 = .ok (.getfield 191, 3) := by decide +kernel
theorem dX12_order_81 : decode cX12_order 81 = .ok (.iload_n 2, 1) := by decide +kernel
theorem dX12_order_82 : decode cX12_order 82 = .ok (.iaload, 1) := by decide +kernel
theorem dX12_order_83 : decode cX12_order 83 = .ok (.goto 4, 3) := by decide +kernel
theorem dX12_order_86 : decode cX12_order 86 = .ok (.iconst (-1), 1) := by decide +kernel
theorem dX12_order_87 : decode cX12_order 87 = .ok (.ireturn, 1) := by decide +kernel
theorem dX12_readSum_0 : decode cX12_readSum 0 = .ok (.aload_n 0, 1) := by decide +kernel
theorem dX12_readSum_1 : decode cX12_readSum 1 = .ok (.invokevirtual 394, 3) := by decide +kernel
theorem dX12_readSum_4 : decode cX12_readSum 4 = .ok (.ifCond .ne 5, 3) := by decide +kernel
theorem dX12_readSum_7 : decode cX12_readSum 7 = .ok (.iconst 0, 1) := by decide +kernel
theorem dX12_readSum_8 : decode cX12_readSum 8 = .ok (.ireturn, 1) := by decide +kernel
theorem dX12_readSum_9 : decode cX12_readSum 9 = .ok (.aload_n 0, 1) := by decide +kernel
theorem dX12_readSum_10 : decode cX12_readSum 10 = .ok (.bipush 43, 2) := by decide +kernel
theorem dX12_readSum_12 : decode cX12_readSum 12 = .ok (.invokevirtual 398, 3) := by decide +kernel
theorem dX12_readSum_15 : decode cX12_readSum 15 = .ok (.ifCond .eq 22, 3) := by decide +kernel
theorem dX12_readSum_18 : decode cX12_readSum 18 = .ok (.aload_n 0, 1) := by decide +kernel
theorem dX12_readSum_19 : decode cX12_readSum 19 = .ok (.invokevirtual 394, 3) := by decide +kernel
theorem dX12_readSum_22 : decode cX12_readSum 22 = .ok (.ifCond .ne 5, 3) := by decide +kernel
theorem dX12_readSum_25 : decode cX12_readSum 25 = .ok (.iconst 0, 1) := by decide +kernel
theorem dX12_readSum_26 : decode cX12_readSum 26 = .ok (.ireturn, 1) := by decide +kernel
theorem dX12_readSum_27 : decode cX12_readSum 27 = .ok (.aload_n 0, 1) := by decide +kernel
theorem dX12_readSum_28 : decode cX12_readSum 28 = .ok (.bipush 101, 2) := by decide +kernel
theorem dX12_readSum_30 : decode cX12_readSum 30 = .ok (.iconst 0, 1) := by decide +kernel
theorem dX12_readSum_31 : decode cX12_readSum 31 = .ok (.invokevirtual 387, 3) := by decide +kernel
theorem dX12_readSum_34 : decode cX12_readSum 34 = .ok (.goto (-25), 3) := by decide +kernel
theorem dX12_readSum_37 : decode cX12_readSum 37 = .ok (.iconst 1, 1) := by decide +kernel
theorem dX12_readSum_38 : decode cX12_readSum 38 = .ok (.ireturn, 1) := by decide +kernel
theorem dX12_sign_0 : decode cX12_sign 0 = .ok (.aload_n 0, 1) := by decide +kernel
theorem dX12_sign_1 : decode cX12_sign 1 = .ok (.invokevirtual 348, 3) := by decide +kernel
theorem dX12_sign_4 : decode cX12_sign 4 = .ok (.aload_n 0, 1) := by decide +kernel
theorem dX12_sign_5 : decode cX12_sign 5 = .ok (.iload_n 1, 1) := by decide +kernel
theorem dX12_sign_6 : decode cX12_sign 6 = .ok (.iload_n 1, 1) := by decide +kernel
theorem dX12_sign_7 : decode cX12_sign 7 = .ok (.invokevirtual 341, 3) := by decide +kernel
theorem dX12_sign_10 : decode cX12_sign 10 = .ok (.ifCond .ne 5, 3) := by decide +kernel
theorem dX12_sign_13 : decode cX12_sign 13 = .ok (.iconst 0, 1) := by decide +kernel
theorem dX12_sign_14 : decode cX12_sign 14 = .ok (.ireturn, 1) := by decide +kernel
theorem dX12_sign_15 : decode cX12_sign 15 = .ok (.aload_n 0, 1) := by decide +kernel
theorem dX12_sign_16 : decode cX12_sign 16 = .ok (.dup, 1) := by decide +kernel
theorem dX12_sign_17 : decode cX12_sign 17 = .ok (.getfield 335, 3) := by decide +kernel
theorem dX12_sign_20 : decode cX12_sign 20 = .ok (.iconst 1, 1) := by decide +kernel
theorem dX12_sign_21 : decode cX12_sign 21 = .ok (.iadd, 1) := by decide +kernel
theorem dX12_sign_22 : decode cX12_sign 22 = .ok (.putfield 335, 3) := by decide +kernel
theorem dX12_sign_25 : decode cX12_sign 25 = .ok (.iconst 1, 1) := by decide +kernel
theorem dX12_sign_26 : decode cX12_sign 26 = .ok (.ireturn, 1) := by decide +kernel
theorem dX12_soonest_0 : decode cX12_soonest 0 = .ok (.aload_n 0, 1) := by decide +kernel
theorem dX12_soonest_1 : decode cX12_soonest 1 = .ok (.iconst 0, 1) := by decide +kernel
theorem dX12_soonest_2 : decode cX12_soonest 2 = .ok (.putfield 194, 3) := by decide +kernel
theorem dX12_soonest_5 : decode cX12_soonest 5 = .ok (.aload_n 0, 1) := by decide +kernel
theorem dX12_soonest_6 : decode cX12_soonest 6 = .ok (.aload_n 0, 1) := by decide +kernel
theorem dX12_soonest_7 : decode cX12_soonest 7 = .ok (.iload_n 1, 1) := by decide +kernel
theorem dX12_soonest_8 : decode cX12_soonest 8 = .ok (.invokevirtual 269, 3) := by decide +kernel
theorem dX12_soonest_11 : decode cX12_soonest 11 = .ok (.iconst 1, 1) := by decide +kernel
theorem dX12_soonest_12 : decode cX12_soonest 12 = .ok (.invokevirtual 224, 3) := by decide +kernel
theorem dX12_soonest_15 : decode cX12_soonest 15 = .ok (.ifCond .ne 62, 3) := by decide +kernel
theorem dX12_soonest_18 : decode cX12_soonest 18 = .ok (.aload_n 0, 1) := by decide +kernel
theorem dX12_soonest_19 : decode cX12_soonest 19 = .ok (.iload_n 2, 1) := by decide +kernel
theorem dX12_soonest_20 : decode cX12_soonest 20 = .ok (.iconst 1, 1) := by decide +kernel
theorem dX12_soonest_21 : decode cX12_soonest 21 = .ok (.bipush 60, 2) := by decide +kernel
theorem dX12_soonest_23 : decode cX12_soonest 23 = .ok (.invokestatic 197, 3) := by decide +kernel
theorem dX12_soonest_26 : decode cX12_soonest 26 = .ok (.ifCond .eq 16, 3) := by decide +kernel
theorem dX12_soonest_29 : decode cX12_soonest 29 = .ok (.iload_n 3, 1) := by decide +kernel
theorem dX12_soonest_30 : decode cX12_soonest 30 = .ok (.sipush (-1000), 3) := by decide +kernel
theorem dX12_soonest_33 : decode cX12_soonest 33 = .ok (.sipush 1000, 3) := by decide +kernel
theorem dX12_soonest_36 : decode cX12_soonest 36 = .ok (.invokestatic 197, 3) := by decide +kernel
theorem dX12_soonest_39 : decode cX12_soonest 39 = .ok (.ifCond .ne 7, 3) := by decide +kernel
theorem dX12_soonest_42 : decode cX12_soonest 42 = .ok (.iconst 1, 1) := by decide +kernel
theorem dX12_soonest_43 : decode cX12_soonest 43 = .ok (.goto 4, 3) := by decide +kernel
theorem dX12_soonest_46 : decode cX12_soonest 46 = .ok (.iconst 0, 1) := by decide +kernel
theorem dX12_soonest_47 : decode cX12_soonest 47 = .ok (.iconst 2, 1) := by decide +kernel
theorem dX12_soonest_48 : decode cX12_soonest 48 = .ok (.invokevirtual 224, 3) := by decide +kernel
theorem dX12_soonest_51 : decode cX12_soonest 51 = .ok (.ifCond .ne 26, 3) := by decide +kernel
theorem dX12_soonest_54 : decode cX12_soonest 54 = .ok (.aload_n 0, 1) := by decide +kernel
theorem dX12_soonest_55 : decode cX12_soonest 55 = .ok (.aload_n 0, 1) := by decide +kernel
theorem dX12_soonest_56 : decode cX12_soonest 56 = .ok (.iload_n 1, 1) := by decide +kernel
theorem dX12_soonest_57 : decode cX12_soonest 57 = .ok (.iconst 0, 1) := by decide +kernel
theorem dX12_soonest_58 : decode cX12_soonest 58 = .ok (.invokevirtual 217, 3) := by decide +kernel
theorem dX12_soonest_61 : decode cX12_soonest 61 = .ok (.iconst 1, 1) := by decide +kernel
theorem dX12_soonest_62 : decode cX12_soonest 62 = .ok (.if_icmp .eq 7, 3) := by decide +kernel
theorem dX12_soonest_65 : decode cX12_soonest 65 = .ok (.iconst 1, 1) := by decide +kernel
theorem dX12_soonest_66 : decode cX12_soonest 66 = .ok (.goto 4, 3) := by decide +kernel
theorem dX12_soonest_69 : decode cX12_soonest 69 = .ok (.iconst 0, 1) := by decide +kernel
theorem dX12_soonest_70 : decode cX12_soonest 70 = .ok (.iconst 3, 1) := by decide +kernel
theorem dX12_soonest_71 : decode cX12_soonest 71 = .ok (.invokevirtual 224, 3) := by decide +kernel
theorem dX12_soonest_74 : decode cX12_soonest 74 = .ok (.ifCond .eq 5, 3) := by decide +kernel
theorem dX12_soonest_77 : decode cX12_soonest 77 = .ok (.iconst 0, 1) := by decide +kernel
theorem dX12_soonest_78 : decode cX12_soonest 78 = .ok (.ireturn, 1) := by decide +kernel
theorem dX12_soonest_79 : decode cX12_soonest 79 = .ok (.ldc_w 538, 3) := by decide +kernel
theorem dX12_soonest_82 : decode cX12_soonest 82 = .ok (.istore 4, 2) := by decide +kernel
theorem dX12_soonest_84 : decode cX12_soonest 84 = .ok (.aload_n 0, 1) := by decide +kernel
theorem dX12_soonest_85 : decode cX12_soonest 85 = .ok (.iload_n 1, 1) := by decide +kernel
theorem dX12_soonest_86 : decode cX12_soonest 86 = .ok (.bipush 17, 2) := by decide +kernel
theorem dX12_soonest_88 : decode cX12_soonest 88 = .ok (.invokevirtual 217, 3) := by decide +kernel
theorem dX12_soonest_91 : decode cX12_soonest 91 = .ok (.istore 5, 2) := by decide +kernel
theorem dX12_soonest_93 : decode cX12_soonest 93 = .ok (.iconst 1, 1) := by decide +kernel
theorem dX12_soonest_94 : decode cX12_soonest 94 = .ok (.istore 6, 2) := by decide +kernel
theorem dX12_soonest_96 : decode cX12_soonest 96 = .ok (.iload 6, 2) := by decide +kernel
theorem dX12_soonest_98 : decode cX12_soonest 98 = .ok (.bipush 48, 2) := by decide +kernel
theorem dX12_soonest_100 : decode cX12_soonest 100 = .ok (.if_icmp .gt 101, 3) := by decide +kernel
theorem dX12_soonest_103 : decode cX12_soonest 103 = .ok (.iload 5, 2) := by decide +kernel
theorem dX12_soonest_105 : decode cX12_soonest 105 = .ok (.istore 7, 2) := by decide +kernel
theorem dX12_soonest_107 : decode cX12_soonest 107 = .ok (.iload 6, 2) := by decide +kernel
theorem dX12_soonest_109 : decode cX12_soonest 109 = .ok (.istore 8, 2) := by decide +kernel
theorem dX12_soonest_111 : decode cX12_soonest 111 = .ok (.iload 8, 2) := by decide +kernel
theorem dX12_soonest_113 : decode cX12_soonest 113 = .ok (.sipush 200, 3) := by decide +kernel
theorem dX12_soonest_116 : decode cX12_soonest 116 = .ok (.if_icmp .gt 68, 3) := by decide +kernel
theorem dX12_soonest_119 : decode cX12_soonest 119 = .ok (.iload 7, 2) := by decide +kernel
theorem dX12_soonest_121 : decode cX12_soonest 121 = .ok (.ifCond .le 63, 3) := by decide +kernel
theorem dX12_soonest_124 : decode cX12_soonest 124 = .ok (.aload_n 0, 1) := by decide +kernel
theorem dX12_soonest_125 : decode cX12_soonest 125 = .ok (.aload_n 0, 1) := by decide +kernel
theorem dX12_soonest_126 : decode cX12_soonest 126 = .ok (.invokevirtual 228, 3) := by decide +kernel
theorem dX12_soonest_129 : decode cX12_soonest 129 = .ok (.iload 8, 2) := by decide +kernel
theorem dX12_soonest_131 : decode cX12_soonest 131 = .ok (.iadd, 1) := by decide +kernel
theorem dX12_soonest_132 : decode cX12_soonest 132 = .ok (.invokevirtual 247, 3) := by decide +kernel
theorem dX12_soonest_135 : decode cX12_soonest 135 = .ok (.iload_n 3, 1) := by decide +kernel
theorem dX12_soonest_136 : decode cX12_soonest 136 = .ok (.if_icmp .gt 12, 3) := by decide +kernel
theorem dX12_soonest_139 : decode cX12_soonest 139 = .ok (.iload 7, 2) := by decide +kernel
theorem dX12_soonest_141 : decode cX12_soonest 141 = .ok (.iload_n 2, 1) := by decide +kernel
theorem dX12_soonest_142 : decode cX12_soonest 142 = .ok (.iconst 4, 1) := by decide +kernel
theorem dX12_soonest_143 : decode cX12_soonest 143 = .ok (.idiv, 1) := by decide +kernel
theorem dX12_soonest_144 : decode cX12_soonest 144 = .ok (.isub, 1) := by decide +kernel
theorem dX12_soonest_145 : decode cX12_soonest 145 = .ok (.goto 12, 3) := by decide +kernel
theorem dX12_soonest_148 : decode cX12_soonest 148 = .ok (.bipush 60, 2) := by decide +kernel
theorem dX12_soonest_150 : decode cX12_soonest 150 = .ok (.iload 7, 2) := by decide +kernel
theorem dX12_soonest_152 : decode cX12_soonest 152 = .ok (.iconst 2, 1) := by decide +kernel
theorem dX12_soonest_153 : decode cX12_soonest 153 = .ok (.iadd, 1) := by decide +kernel
theorem dX12_soonest_154 : decode cX12_soonest 154 = .ok (.invokestatic 207, 3) := by decide +kernel
theorem dX12_soonest_157 : decode cX12_soonest 157 = .ok (.istore 7, 2) := by decide +kernel
theorem dX12_soonest_159 : decode cX12_soonest 159 = .ok (.iload 7, 2) := by decide +kernel
theorem dX12_soonest_161 : decode cX12_soonest 161 = .ok (.ifCond .gt 17, 3) := by decide +kernel
theorem dX12_soonest_164 : decode cX12_soonest 164 = .ok (.iload 4, 2) := by decide +kernel
theorem dX12_soonest_166 : decode cX12_soonest 166 = .ok (.aload_n 0, 1) := by decide +kernel
theorem dX12_soonest_167 : decode cX12_soonest 167 = .ok (.invokevirtual 228, 3) := by decide +kernel
theorem dX12_soonest_170 : decode cX12_soonest 170 = .ok (.iload 8, 2) := by decide +kernel
theorem dX12_soonest_172 : decode cX12_soonest 172 = .ok (.iadd, 1) := by decide +kernel
theorem dX12_soonest_173 : decode cX12_soonest 173 = .ok (.invokestatic 207, 3) := by decide +kernel
theorem dX12_soonest_176 : decode cX12_soonest 176 = .ok (.istore 4, 2) := by decide +kernel
theorem dX12_soonest_178 : decode cX12_soonest 178 = .ok (.iinc 8 1, 3) := by decide +kernel
theorem dX12_soonest_181 : decode cX12_soonest 181 = .ok (.goto (-70), 3) := by decide +kernel
theorem dX12_soonest_184 : decode cX12_soonest 184 = .ok (.bipush 60, 2) := by decide +kernel
theorem dX12_soonest_186 : decode cX12_soonest 186 = .ok (.iload 5, 2) := by decide +kernel
theorem dX12_soonest_188 : decode cX12_soonest 188 = .ok (.iconst 2, 1) := by decide +kernel
theorem dX12_soonest_189 : decode cX12_soonest 189 = .ok (.iadd, 1) := by decide +kernel
theorem dX12_soonest_190 : decode cX12_soonest 190 = .ok (.invokestatic 207, 3) := by decide +kernel
theorem dX12_soonest_193 : decode cX12_soonest 193 = .ok (.istore 5, 2) := by decide +kernel
theorem dX12_soonest_195 : decode cX12_soonest 195 = .ok (.iinc 6 1, 3) := by decide +kernel
theorem dX12_soonest_198 : decode cX12_soonest 198 = .ok (.goto (-102), 3) := by decide +kernel
theorem dX12_soonest_201 : decode cX12_soonest 201 = .ok (.iload 4, 2) := by decide +kernel
theorem dX12_soonest_203 : decode cX12_soonest 203 = .ok (.ldc_w 538, 3) := by decide +kernel
theorem dX12_soonest_206 : decode cX12_soonest 206 = .ok (.if_icmp .ne 7, 3) := by decide +kernel
theorem dX12_soonest_209 : decode cX12_soonest 209 = .ok (.iconst (-1), 1) := by decide +kernel
theorem dX12_soonest_210 : decode cX12_soonest 210 = .ok (.goto 5, 3) := by decide +kernel
theorem dX12_soonest_213 : decode cX12_soonest 213 = .ok (.iload 4, 2) := by decide +kernel
theorem dX12_soonest_215 : decode cX12_soonest 215 = .ok (.ireturn, 1) := by decide +kernel
theorem dX12_sortOf_0 : decode cX12_sortOf 0 = .ok (.aload_n 0, 1) := by decide +kernel
theorem dX12_sortOf_1 : decode cX12_sortOf 1 = .ok (.ldc_w 426, 3) := by decide +kernel
theorem dX12_sortOf_4 : decode cX12_sortOf 4 = .ok (.invokevirtual 363, 3) := by decide +kernel
theorem dX12_sortOf_7 : decode cX12_sortOf 7 = .ok (.ifCond .eq 7, 3) := by decide +kernel
theorem dX12_sortOf_10 : decode cX12_sortOf 10 = .ok (.iconst 0, 1) := by decide +kernel
theorem dX12_sortOf_11 : decode cX12_sortOf 11 = .ok (.goto 134, 3) := by decide +kernel
theorem dX12_sortOf_14 : decode cX12_sortOf 14 = .ok (.aload_n 0, 1) := by decide +kernel
theorem dX12_sortOf_15 : decode cX12_sortOf 15 = .ok (.ldc_w 371, 3) := by decide +kernel
theorem dX12_sortOf_18 : decode cX12_sortOf 18 = .ok (.invokevirtual 363, 3) := by decide +kernel
theorem dX12_sortOf_21 : decode cX12_sortOf 21 = .ok (.ifCond .eq 7, 3) := by decide +kernel
theorem dX12_sortOf_24 : decode cX12_sortOf 24 = .ok (.iconst 1, 1) := by decide +kernel
theorem dX12_sortOf_25 : decode cX12_sortOf 25 = .ok (.goto 120, 3) := by decide +kernel
theorem dX12_sortOf_28 : decode cX12_sortOf 28 = .ok (.aload_n 0, 1) := by decide +kernel
theorem dX12_sortOf_29 : decode cX12_sortOf 29 = .ok (.ldc_w 428, 3) := by decide +kernel
theorem dX12_sortOf_32 : decode cX12_sortOf 32 = .ok (.invokevirtual 363, 3) := by decide +kernel
theorem dX12_sortOf_35 : decode cX12_sortOf 35 = .ok (.ifCond .eq 7, 3) := by decide +kernel
theorem dX12_sortOf_38 : decode cX12_sortOf 38 = .ok (.iconst 2, 1) := by decide +kernel
theorem dX12_sortOf_39 : decode cX12_sortOf 39 = .ok (.goto 106, 3) := by decide +kernel
theorem dX12_sortOf_42 : decode cX12_sortOf 42 = .ok (.aload_n 0, 1) := by decide +kernel
theorem dX12_sortOf_43 : decode cX12_sortOf 43 = .ok (.ldc_w 430, 3) := by decide +kernel
theorem dX12_sortOf_46 : decode cX12_sortOf 46 = .ok (.invokevirtual 363, 3) := by decide +kernel
theorem dX12_sortOf_49 : decode cX12_sortOf 49 = .ok (.ifCond .eq 7, 3) := by decide +kernel
theorem dX12_sortOf_52 : decode cX12_sortOf 52 = .ok (.iconst 3, 1) := by decide +kernel
theorem dX12_sortOf_53 : decode cX12_sortOf 53 = .ok (.goto 92, 3) := by decide +kernel
theorem dX12_sortOf_56 : decode cX12_sortOf 56 = .ok (.aload_n 0, 1) := by decide +kernel
theorem dX12_sortOf_57 : decode cX12_sortOf 57 = .ok (.ldc_w 432, 3) := by decide +kernel
theorem dX12_sortOf_60 : decode cX12_sortOf 60 = .ok (.invokevirtual 363, 3) := by decide +kernel
theorem dX12_sortOf_63 : decode cX12_sortOf 63 = .ok (.ifCond .eq 7, 3) := by decide +kernel
theorem dX12_sortOf_66 : decode cX12_sortOf 66 = .ok (.iconst 4, 1) := by decide +kernel
theorem dX12_sortOf_67 : decode cX12_sortOf 67 = .ok (.goto 78, 3) := by decide +kernel
theorem dX12_sortOf_70 : decode cX12_sortOf 70 = .ok (.aload_n 0, 1) := by decide +kernel
theorem dX12_sortOf_71 : decode cX12_sortOf 71 = .ok (.ldc_w 434, 3) := by decide +kernel
theorem dX12_sortOf_74 : decode cX12_sortOf 74 = .ok (.invokevirtual 363, 3) := by decide +kernel
theorem dX12_sortOf_77 : decode cX12_sortOf 77 = .ok (.ifCond .eq 7, 3) := by decide +kernel
theorem dX12_sortOf_80 : decode cX12_sortOf 80 = .ok (.iconst 5, 1) := by decide +kernel
theorem dX12_sortOf_81 : decode cX12_sortOf 81 = .ok (.goto 64, 3) := by decide +kernel
theorem dX12_sortOf_84 : decode cX12_sortOf 84 = .ok (.aload_n 0, 1) := by decide +kernel
theorem dX12_sortOf_85 : decode cX12_sortOf 85 = .ok (.ldc_w 436, 3) := by decide +kernel
theorem dX12_sortOf_88 : decode cX12_sortOf 88 = .ok (.invokevirtual 363, 3) := by decide +kernel
theorem dX12_sortOf_91 : decode cX12_sortOf 91 = .ok (.ifCond .eq 8, 3) := by decide +kernel
theorem dX12_sortOf_94 : decode cX12_sortOf 94 = .ok (.bipush 6, 2) := by decide +kernel
theorem dX12_sortOf_96 : decode cX12_sortOf 96 = .ok (.goto 49, 3) := by decide +kernel
theorem dX12_sortOf_99 : decode cX12_sortOf 99 = .ok (.aload_n 0, 1) := by decide +kernel
theorem dX12_sortOf_100 : decode cX12_sortOf 100 = .ok (.ldc_w 438, 3) := by decide +kernel
theorem dX12_sortOf_103 : decode cX12_sortOf 103 = .ok (.invokevirtual 363, 3) := by decide +kernel
theorem dX12_sortOf_106 : decode cX12_sortOf 106 = .ok (.ifCond .eq 8, 3) := by decide +kernel
theorem dX12_sortOf_109 : decode cX12_sortOf 109 = .ok (.bipush 7, 2) := by decide +kernel
theorem dX12_sortOf_111 : decode cX12_sortOf 111 = .ok (.goto 34, 3) := by decide +kernel
theorem dX12_sortOf_114 : decode cX12_sortOf 114 = .ok (.aload_n 0, 1) := by decide +kernel
theorem dX12_sortOf_115 : decode cX12_sortOf 115 = .ok (.ldc_w 439, 3) := by decide +kernel
theorem dX12_sortOf_118 : decode cX12_sortOf 118 = .ok (.invokevirtual 363, 3) := by decide +kernel
theorem dX12_sortOf_121 : decode cX12_sortOf 121 = .ok (.ifCond .eq 8, 3) := by decide +kernel
theorem dX12_sortOf_124 : decode cX12_sortOf 124 = .ok (.bipush 8, 2) := by decide +kernel
theorem dX12_sortOf_126 : decode cX12_sortOf 126 = .ok (.goto 19, 3) := by decide +kernel
theorem dX12_sortOf_129 : decode cX12_sortOf 129 = .ok (.aload_n 0, 1) := by decide +kernel
theorem dX12_sortOf_130 : decode cX12_sortOf 130 = .ok (.ldc_w 441, 3) := by decide +kernel
theorem dX12_sortOf_133 : decode cX12_sortOf 133 = .ok (.invokevirtual 363, 3) := by decide +kernel
theorem dX12_sortOf_136 : decode cX12_sortOf 136 = .ok (.ifCond .eq 8, 3) := by decide +kernel
theorem dX12_sortOf_139 : decode cX12_sortOf 139 = .ok (.bipush 9, 2) := by decide +kernel
theorem dX12_sortOf_141 : decode cX12_sortOf 141 = .ok (.goto 4, 3) := by decide +kernel
theorem dX12_sortOf_144 : decode cX12_sortOf 144 = .ok (.iconst (-1), 1) := by decide +kernel
theorem dX12_sortOf_145 : decode cX12_sortOf 145 = .ok (.ireturn, 1) := by decide +kernel
theorem dX12_steps_0 : decode cX12_steps 0 = .ok (.iload_n 0, 1) := by decide +kernel
theorem dX12_steps_1 : decode cX12_steps 1 = .ok (.bipush 12, 2) := by decide +kernel
theorem dX12_steps_3 : decode cX12_steps 3 = .ok (.irem, 1) := by decide +kernel
theorem dX12_steps_4 : decode cX12_steps 4 = .ok (.iload_n 1, 1) := by decide +kernel
theorem dX12_steps_5 : decode cX12_steps 5 = .ok (.bipush 12, 2) := by decide +kernel
theorem dX12_steps_7 : decode cX12_steps 7 = .ok (.irem, 1) := by decide +kernel
theorem dX12_steps_8 : decode cX12_steps 8 = .ok (.isub, 1) := by decide +kernel
theorem dX12_steps_9 : decode cX12_steps 9 = .ok (.invokestatic 201, 3) := by decide +kernel
theorem dX12_steps_12 : decode cX12_steps 12 = .ok (.iload_n 0, 1) := by decide +kernel
theorem dX12_steps_13 : decode cX12_steps 13 = .ok (.bipush 12, 2) := by decide +kernel
theorem dX12_steps_15 : decode cX12_steps 15 = .ok (.idiv, 1) := by decide +kernel
theorem dX12_steps_16 : decode cX12_steps 16 = .ok (.iload_n 1, 1) := by decide +kernel
theorem dX12_steps_17 : decode cX12_steps 17 = .ok (.bipush 12, 2) := by decide +kernel
theorem dX12_steps_19 : decode cX12_steps 19 = .ok (.idiv, 1) := by decide +kernel
theorem dX12_steps_20 : decode cX12_steps 20 = .ok (.isub, 1) := by decide +kernel
theorem dX12_steps_21 : decode cX12_steps 21 = .ok (.invokestatic 201, 3) := by decide +kernel
theorem dX12_steps_24 : decode cX12_steps 24 = .ok (.iadd, 1) := by decide +kernel
theorem dX12_steps_25 : decode cX12_steps 25 = .ok (.ireturn, 1) := by decide +kernel
theorem dX12_tear_0 : decode cX12_tear 0 = .ok (.aload_n 0, 1) := by decide +kernel
theorem dX12_tear_1 : decode cX12_tear 1 = .ok (.iconst 0, 1) := by decide +kernel
theorem dX12_tear_2 : decode cX12_tear 2 = .ok (.putfield 194, 3) := by decide +kernel
theorem dX12_tear_5 : decode cX12_tear 5 = .ok (.aload_n 0, 1) := by decide +kernel
theorem dX12_tear_6 : decode cX12_tear 6 = .ok (.iload_n 2, 1) := by decide +kernel
theorem dX12_tear_7 : decode cX12_tear 7 = .ok (.invokestatic 220, 3) := by decide +kernel
theorem dX12_tear_10 : decode cX12_tear 10 = .ok (.iconst 1, 1) := by decide +kernel
theorem dX12_tear_11 : decode cX12_tear 11 = .ok (.invokevirtual 224, 3) := by decide +kernel
theorem dX12_tear_14 : decode cX12_tear 14 = .ok (.ifCond .ne 30, 3) := by decide +kernel
theorem dX12_tear_17 : decode cX12_tear 17 = .ok (.aload_n 0, 1) := by decide +kernel
theorem dX12_tear_18 : decode cX12_tear 18 = .ok (.iload_n 1, 1) := by decide +kernel
theorem dX12_tear_19 : decode cX12_tear 19 = .ok (.iconst 0, 1) := by decide +kernel
theorem dX12_tear_20 : decode cX12_tear 20 = .ok (.aload_n 0, 1) := by decide +kernel
theorem dX12_tear_21 : decode cX12_tear 21 = .ok (.getfield 238, 3) := by decide +kernel
theorem dX12_tear_24 : decode cX12_tear 24 = .ok (.iconst 1, 1) := by decide +kernel
theorem dX12_tear_25 : decode cX12_tear 25 = .ok (.isub, 1) := by decide +kernel
theorem dX12_tear_26 : decode cX12_tear 26 = .ok (.invokestatic 197, 3) := by decide +kernel
theorem dX12_tear_29 : decode cX12_tear 29 = .ok (.ifCond .ne 7, 3) := by decide +kernel
theorem dX12_tear_32 : decode cX12_tear 32 = .ok (.iconst 1, 1) := by decide +kernel
theorem dX12_tear_33 : decode cX12_tear 33 = .ok (.goto 4, 3) := by decide +kernel
theorem dX12_tear_36 : decode cX12_tear 36 = .ok (.iconst 0, 1) := by decide +kernel
theorem dX12_tear_37 : decode cX12_tear 37 = .ok (.iconst 2, 1) := by decide +kernel
theorem dX12_tear_38 : decode cX12_tear 38 = .ok (.invokevirtual 224, 3) := by decide +kernel
theorem dX12_tear_41 : decode cX12_tear 41 = .ok (.ifCond .eq 5, 3) := by decide +kernel
theorem dX12_tear_44 : decode cX12_tear 44 = .ok (.iconst 0, 1) := by decide +kernel
theorem dX12_tear_45 : decode cX12_tear 45 = .ok (.ireturn, 1) := by decide +kernel
theorem dX12_tear_46 : decode cX12_tear 46 = .ok (.aload_n 0, 1) := by decide +kernel
theorem dX12_tear_47 : decode cX12_tear 47 = .ok (.getfield 25, 3) := by decide +kernel
theorem dX12_tear_50 : decode cX12_tear 50 = .ok (.bipush 96, 2) := by decide +kernel
theorem dX12_tear_52 : decode cX12_tear 52 = .ok (.iload_n 1, 1) := by decide +kernel
theorem dX12_tear_53 : decode cX12_tear 53 = .ok (.imul, 1) := by decide +kernel
theorem dX12_tear_54 : decode cX12_tear 54 = .ok (.iload_n 2, 1) := by decide +kernel
theorem dX12_tear_55 : decode cX12_tear 55 = .ok (.iadd, 1) := by decide +kernel
theorem dX12_tear_56 : decode cX12_tear 56 = .ok (.dup2, 1) := by decide +kernel
theorem dX12_tear_57 : decode cX12_tear 57 = .ok (.iaload, 1) := by decide +kernel
theorem dX12_tear_58 : decode cX12_tear 58 = .ok (.iload_n 3, 1) := by decide +kernel
theorem dX12_tear_59 : decode cX12_tear 59 = .ok (.ixor, 1) := by decide +kernel
theorem dX12_tear_60 : decode cX12_tear 60 = .ok (.iastore, 1) := by decide +kernel
theorem dX12_tear_61 : decode cX12_tear 61 = .ok (.aload_n 0, 1) := by decide +kernel
theorem dX12_tear_62 : decode cX12_tear 62 = .ok (.getfield 25, 3) := by decide +kernel
theorem dX12_tear_65 : decode cX12_tear 65 = .ok (.bipush 96, 2) := by decide +kernel
theorem dX12_tear_67 : decode cX12_tear 67 = .ok (.iload_n 1, 1) := by decide +kernel
theorem dX12_tear_68 : decode cX12_tear 68 = .ok (.imul, 1) := by decide +kernel
theorem dX12_tear_69 : decode cX12_tear 69 = .ok (.iload_n 2, 1) := by decide +kernel
theorem dX12_tear_70 : decode cX12_tear 70 = .ok (.iadd, 1) := by decide +kernel
theorem dX12_tear_71 : decode cX12_tear 71 = .ok (.iaload, 1) := by decide +kernel
theorem dX12_tear_72 : decode cX12_tear 72 = .ok (.ireturn, 1) := by decide +kernel
theorem dX12_throwsIf_0 : decode cX12_throwsIf 0 = .ok (.iload_n 1, 1) := by decide +kernel
theorem dX12_throwsIf_1 : decode cX12_throwsIf 1 = .ok (.ifCond .eq 8, 3) := by decide +kernel
theorem dX12_throwsIf_4 : decode cX12_throwsIf 4 = .ok (.aload_n 0, 1) := by decide +kernel
theorem dX12_throwsIf_5 : decode cX12_throwsIf 5 = .ok (.iload_n 2, 1) := by decide +kernel
theorem dX12_throwsIf_6 : decode cX12_throwsIf 6 = .ok (.putfield 194, 3) := by decide +kernel
theorem dX12_throwsIf_9 : decode cX12_throwsIf 9 = .ok (.iload_n 1, 1) := by decide +kernel
theorem dX12_throwsIf_10 : decode cX12_throwsIf 10 = .ok (.ireturn, 1) := by decide +kernel
theorem dX12_word_0 : decode cX12_word 0 = .ok (.aload_n 0, 1) := by decide +kernel
theorem dX12_word_1 : decode cX12_word 1 = .ok (.invokevirtual 348, 3) := by decide +kernel
theorem dX12_word_4 : decode cX12_word 4 = .ok (.aload_n 0, 1) := by decide +kernel
theorem dX12_word_5 : decode cX12_word 5 = .ok (.bipush 97, 2) := by decide +kernel
theorem dX12_word_7 : decode cX12_word 7 = .ok (.bipush 122, 2) := by decide +kernel
theorem dX12_word_9 : decode cX12_word 9 = .ok (.invokevirtual 341, 3) := by decide +kernel
theorem dX12_word_12 : decode cX12_word 12 = .ok (.ifCond .eq 16, 3) := by decide +kernel
theorem dX12_word_15 : decode cX12_word 15 = .ok (.aload_n 0, 1) := by decide +kernel
theorem dX12_word_16 : decode cX12_word 16 = .ok (.dup, 1) := by decide +kernel
theorem dX12_word_17 : decode cX12_word 17 = .ok (.getfield 335, 3) := by decide +kernel
theorem dX12_word_20 : decode cX12_word 20 = .ok (.iconst 1, 1) := by decide +kernel
theorem dX12_word_21 : decode cX12_word 21 = .ok (.iadd, 1) := by decide +kernel
theorem dX12_word_22 : decode cX12_word 22 = .ok (.putfield 335, 3) := by decide +kernel
theorem dX12_word_25 : decode cX12_word 25 = .ok (.goto (-21), 3) := by decide +kernel
theorem dX12_word_28 : decode cX12_word 28 = .ok (.return_, 1) := by decide +kernel
theorem dX12_worthAt_0 : decode cX12_worthAt 0 = .ok (.iload_n 0, 1) := by decide +kernel
theorem dX12_worthAt_1 : decode cX12_worthAt 1 = .ok (.iconst 1, 1) := by decide +kernel
theorem dX12_worthAt_2 : decode cX12_worthAt 2 = .ok (.if_icmp .ne 18, 3) := by decide +kernel
theorem dX12_worthAt_5 : decode cX12_worthAt 5 = .ok (.bipush 20, 2) := by decide +kernel
theorem dX12_worthAt_7 : decode cX12_worthAt 7 = .ok (.iload_n 1, 1) := by decide +kernel
theorem dX12_worthAt_8 : decode cX12_worthAt 8 = .ok (.bipush 60, 2) := by decide +kernel
theorem dX12_worthAt_10 : decode cX12_worthAt 10 = .ok (.isub, 1) := by decide +kernel
theorem dX12_worthAt_11 : decode cX12_worthAt 11 = .ok (.invokestatic 201, 3) := by decide +kernel
theorem dX12_worthAt_14 : decode cX12_worthAt 14 = .ok (.iconst 5, 1) := by decide +kernel
theorem dX12_worthAt_15 : decode cX12_worthAt 15 = .ok (.idiv, 1) := by decide +kernel
theorem dX12_worthAt_16 : decode cX12_worthAt 16 = .ok (.isub, 1) := by decide +kernel
theorem dX12_worthAt_17 : decode cX12_worthAt 17 = .ok (.goto 44, 3) := by decide +kernel
theorem dX12_worthAt_20 : decode cX12_worthAt 20 = .ok (.iload_n 0, 1) := by decide +kernel
theorem dX12_worthAt_21 : decode cX12_worthAt 21 = .ok (.iconst 2, 1) := by decide +kernel
theorem dX12_worthAt_22 : decode cX12_worthAt 22 = .ok (.if_icmp .ne 18, 3) := by decide +kernel
theorem dX12_worthAt_25 : decode cX12_worthAt 25 = .ok (.bipush 50, 2) := by decide +kernel
theorem dX12_worthAt_27 : decode cX12_worthAt 27 = .ok (.iload_n 1, 1) := by decide +kernel
theorem dX12_worthAt_28 : decode cX12_worthAt 28 = .ok (.bipush 120, 2) := by decide +kernel
theorem dX12_worthAt_30 : decode cX12_worthAt 30 = .ok (.isub, 1) := by decide +kernel
theorem dX12_worthAt_31 : decode cX12_worthAt 31 = .ok (.invokestatic 201, 3) := by decide +kernel
theorem dX12_worthAt_34 : decode cX12_worthAt 34 = .ok (.iconst 2, 1) := by decide +kernel
theorem dX12_worthAt_35 : decode cX12_worthAt 35 = .ok (.idiv, 1) := by decide +kernel
theorem dX12_worthAt_36 : decode cX12_worthAt 36 = .ok (.isub, 1) := by decide +kernel
theorem dX12_worthAt_37 : decode cX12_worthAt 37 = .ok (.goto 24, 3) := by decide +kernel
theorem dX12_worthAt_40 : decode cX12_worthAt 40 = .ok (.iload_n 0, 1) := by decide +kernel
theorem dX12_worthAt_41 : decode cX12_worthAt 41 = .ok (.iconst 3, 1) := by decide +kernel
theorem dX12_worthAt_42 : decode cX12_worthAt 42 = .ok (.if_icmp .ne 18, 3) := by decide +kernel
theorem dX12_worthAt_45 : decode cX12_worthAt 45 = .ok (.bipush 40, 2) := by decide +kernel
theorem dX12_worthAt_47 : decode cX12_worthAt 47 = .ok (.iload_n 1, 1) := by decide +kernel
theorem dX12_worthAt_48 : decode cX12_worthAt 48 = .ok (.bipush 100, 2) := by decide +kernel
theorem dX12_worthAt_50 : decode cX12_worthAt 50 = .ok (.isub, 1) := by decide +kernel
theorem dX12_worthAt_51 : decode cX12_worthAt 51 = .ok (.invokestatic 201, 3) := by decide +kernel
theorem dX12_worthAt_54 : decode cX12_worthAt 54 = .ok (.iconst 3, 1) := by decide +kernel
theorem dX12_worthAt_55 : decode cX12_worthAt 55 = .ok (.idiv, 1) := by decide +kernel
theorem dX12_worthAt_56 : decode cX12_worthAt 56 = .ok (.isub, 1) := by decide +kernel
theorem dX12_worthAt_57 : decode cX12_worthAt 57 = .ok (.goto 4, 3) := by decide +kernel
theorem dX12_worthAt_60 : decode cX12_worthAt 60 = .ok (.iconst 0, 1) := by decide +kernel
theorem dX12_worthAt_61 : decode cX12_worthAt 61 = .ok (.istore_n 2, 1) := by decide +kernel
theorem dX12_worthAt_62 : decode cX12_worthAt 62 = .ok (.iconst 0, 1) := by decide +kernel
theorem dX12_worthAt_63 : decode cX12_worthAt 63 = .ok (.iload_n 2, 1) := by decide +kernel
theorem dX12_worthAt_64 : decode cX12_worthAt 64 = .ok (.invokestatic 211, 3) := by decide +kernel
theorem dX12_worthAt_67 : decode cX12_worthAt 67 = .ok (.ireturn, 1) := by decide +kernel
theorem dX12_yards_0 : decode cX12_yards 0 = .ok (.aload_n 0, 1) := by decide +kernel
theorem dX12_yards_1 : decode cX12_yards 1 = .ok (.iconst 0, 1) := by decide +kernel
theorem dX12_yards_2 : decode cX12_yards 2 = .ok (.putfield 194, 3) := by decide +kernel
theorem dX12_yards_5 : decode cX12_yards 5 = .ok (.aload_n 0, 1) := by decide +kernel
theorem dX12_yards_6 : decode cX12_yards 6 = .ok (.aload_n 0, 1) := by decide +kernel
theorem dX12_yards_7 : decode cX12_yards 7 = .ok (.iload_n 1, 1) := by decide +kernel
theorem dX12_yards_8 : decode cX12_yards 8 = .ok (.invokevirtual 539, 3) := by decide +kernel
theorem dX12_yards_11 : decode cX12_yards 11 = .ok (.iconst 1, 1) := by decide +kernel
theorem dX12_yards_12 : decode cX12_yards 12 = .ok (.invokevirtual 224, 3) := by decide +kernel
theorem dX12_yards_15 : decode cX12_yards 15 = .ok (.ifCond .eq 5, 3) := by decide +kernel
theorem dX12_yards_18 : decode cX12_yards 18 = .ok (.iconst 0, 1) := by decide +kernel
theorem dX12_yards_19 : decode cX12_yards 19 = .ok (.ireturn, 1) := by decide +kernel
theorem dX12_yards_20 : decode cX12_yards 20 = .ok (.aload_n 0, 1) := by decide +kernel
theorem dX12_yards_21 : decode cX12_yards 21 = .ok (.iload_n 1, 1) := by decide +kernel
theorem dX12_yards_22 : decode cX12_yards 22 = .ok (.invokevirtual 542, 3) := by decide +kernel
theorem dX12_yards_25 : decode cX12_yards 25 = .ok (.ifCond .ne 7, 3) := by decide +kernel
theorem dX12_yards_28 : decode cX12_yards 28 = .ok (.iconst (-1), 1) := by decide +kernel
theorem dX12_yards_29 : decode cX12_yards 29 = .ok (.goto 22, 3) := by decide +kernel
theorem dX12_yards_32 : decode cX12_yards 32 = .ok (.iload_n 2, 1) := by decide +kernel
theorem dX12_yards_33 : decode cX12_yards 33 = .ok (.ifCond .eq 12, 3) := by decide +kernel
theorem dX12_yards_36 : decode cX12_yards 36 = .ok (.aload_n 0, 1) := by decide +kernel
theorem dX12_yards_37 : decode cX12_yards 37 = .ok (.getfield 152, 3) := by decide +kernel
theorem dX12_yards_40 : decode cX12_yards 40 = .ok (.iload_n 1, 1) := by decide +kernel
theorem dX12_yards_41 : decode cX12_yards 41 = .ok (.iaload, 1) := by decide +kernel
theorem dX12_yards_42 : decode cX12_yards 42 = .ok (.goto 9, 3) := by decide +kernel
theorem dX12_yards_45 : decode cX12_yards 45 = .ok (.aload_n 0, 1) := by decide +kernel
theorem dX12_yards_46 : decode cX12_yards 46 = .ok (.getfield 149, 3) := by decide +kernel
theorem dX12_yards_49 : decode cX12_yards 49 = .ok (.iload_n 1, 1) := by decide +kernel
theorem dX12_yards_50 : decode cX12_yards 50 = .ok (.iaload, 1) := by decide +kernel
theorem dX12_yards_51 : decode cX12_yards 51 = .ok (.ireturn, 1) := by decide +kernel
