theorem dX12_bringsOf_0 : decode cX12_bringsOf 0 = .ok (.aload_n 0, 1) := by decide +kernel
theorem dX12_bringsOf_1 : decode cX12_bringsOf 1 = .ok (.getfield 119, 3) := by decide +kernel
theorem dX12_bringsOf_4 : decode cX12_bringsOf 4 = .ok (.iload_n 1, 1) := by decide +kernel
theorem dX12_bringsOf_5 : decode cX12_bringsOf 5 = .ok (.iaload, 1) := by decide +kernel
theorem dX12_bringsOf_6 : decode cX12_bringsOf 6 = .ok (.iconst 1, 1) := by decide +kernel
theorem dX12_bringsOf_7 : decode cX12_bringsOf 7 = .ok (.if_icmp .ne 8, 3) := by decide +kernel
theorem dX12_bringsOf_10 : decode cX12_bringsOf 10 = .ok (.bipush 60, 2) := by decide +kernel
theorem dX12_bringsOf_12 : decode cX12_bringsOf 12 = .ok (.goto 20, 3) := by decide +kernel
theorem dX12_bringsOf_15 : decode cX12_bringsOf 15 = .ok (.aload_n 0, 1) := by decide +kernel
theorem dX12_bringsOf_16 : decode cX12_bringsOf 16 = .ok (.getfield 119, 3) := by decide +kernel
theorem dX12_bringsOf_19 : decode cX12_bringsOf 19 = .ok (.iload_n 1, 1) := by decide +kernel
theorem dX12_bringsOf_20 : decode cX12_bringsOf 20 = .ok (.iaload, 1) := by decide +kernel
theorem dX12_bringsOf_21 : decode cX12_bringsOf 21 = .ok (.iconst 2, 1) := by decide +kernel
theorem dX12_bringsOf_22 : decode cX12_bringsOf 22 = .ok (.if_icmp .ne 8, 3) := by decide +kernel
theorem dX12_bringsOf_25 : decode cX12_bringsOf 25 = .ok (.bipush 20, 2) := by decide +kernel
theorem dX12_bringsOf_27 : decode cX12_bringsOf 27 = .ok (.goto 5, 3) := by decide +kernel
theorem dX12_bringsOf_30 : decode cX12_bringsOf 30 = .ok (.bipush 10, 2) := by decide +kernel
theorem dX12_bringsOf_32 : decode cX12_bringsOf 32 = .ok (.istore_n 2, 1) := by decide +kernel
theorem dX12_bringsOf_33 : decode cX12_bringsOf 33 = .ok (.aload_n 0, 1) := by decide +kernel
theorem dX12_bringsOf_34 : decode cX12_bringsOf 34 = .ok (.getfield 119, 3) := by decide +kernel
theorem dX12_bringsOf_37 : decode cX12_bringsOf 37 = .ok (.iload_n 1, 1) := by decide +kernel
theorem dX12_bringsOf_38 : decode cX12_bringsOf 38 = .ok (.iaload, 1) := by decide +kernel
theorem dX12_bringsOf_39 : decode cX12_bringsOf 39 = .ok (.iconst 1, 1) := by decide +kernel
theorem dX12_bringsOf_40 : decode cX12_bringsOf 40 = .ok (.if_icmp .ne 9, 3) := by decide +kernel
theorem dX12_bringsOf_43 : decode cX12_bringsOf 43 = .ok (.sipush 4000, 3) := by decide +kernel
theorem dX12_bringsOf_46 : decode cX12_bringsOf 46 = .ok (.goto 22, 3) := by decide +kernel
theorem dX12_bringsOf_49 : decode cX12_bringsOf 49 = .ok (.aload_n 0, 1) := by decide +kernel
theorem dX12_bringsOf_50 : decode cX12_bringsOf 50 = .ok (.getfield 119, 3) := by decide +kernel
theorem dX12_bringsOf_53 : decode cX12_bringsOf 53 = .ok (.iload_n 1, 1) := by decide +kernel
theorem dX12_bringsOf_54 : decode cX12_bringsOf 54 = .ok (.iaload, 1) := by decide +kernel
theorem dX12_bringsOf_55 : decode cX12_bringsOf 55 = .ok (.iconst 2, 1) := by decide +kernel
theorem dX12_bringsOf_56 : decode cX12_bringsOf 56 = .ok (.if_icmp .ne 9, 3) := by decide +kernel
theorem dX12_bringsOf_59 : decode cX12_bringsOf 59 = .ok (.sipush 2000, 3) := by decide +kernel
theorem dX12_bringsOf_62 : decode cX12_bringsOf 62 = .ok (.goto 6, 3) := by decide +kernel
theorem dX12_bringsOf_65 : decode cX12_bringsOf 65 = .ok (.sipush 8000, 3) := by decide +kernel
theorem dX12_bringsOf_68 : decode cX12_bringsOf 68 = .ok (.istore_n 3, 1) := by decide +kernel
theorem dX12_bringsOf_69 : decode cX12_bringsOf 69 = .ok (.aload_n 0, 1) := by decide +kernel
theorem dX12_bringsOf_70 : decode cX12_bringsOf 70 = .ok (.getfield 119, 3) := by decide +kernel
theorem dX12_bringsOf_73 : decode cX12_bringsOf 73 = .ok (.iload_n 1, 1) := by decide +kernel
theorem dX12_bringsOf_74 : decode cX12_bringsOf 74 = .ok (.iaload, 1) := by decide +kernel
theorem dX12_bringsOf_75 : decode cX12_bringsOf 75 = .ok (.ifCond .ne 7, 3) := by decide +kernel
theorem dX12_bringsOf_78 : decode cX12_bringsOf 78 = .ok (.iconst 0, 1) := by decide +kernel
theorem dX12_bringsOf_79 : decode cX12_bringsOf 79 = .ok (.goto 35, 3) := by decide +kernel
theorem dX12_bringsOf_82 : decode cX12_bringsOf 82 = .ok (.aload_n 0, 1) := by decide +kernel
theorem dX12_bringsOf_83 : decode cX12_bringsOf 83 = .ok (.getfield 119, 3) := by decide +kernel
theorem dX12_bringsOf_86 : decode cX12_bringsOf 86 = .ok (.iload_n 1, 1) := by decide +kernel
theorem dX12_bringsOf_87 : decode cX12_bringsOf 87 = .ok (.iaload, 1) := by decide +kernel
theorem dX12_bringsOf_88 : decode cX12_bringsOf 88 = .ok (.iconst 1, 1) := by decide +kernel
theorem dX12_bringsOf_89 : decode cX12_bringsOf 89 = .ok (.if_icmp .ne 8, 3) := by decide +kernel
theorem dX12_bringsOf_92 : decode cX12_bringsOf 92 = .ok (.bipush 20, 2) := by decide +kernel
theorem dX12_bringsOf_94 : decode cX12_bringsOf 94 = .ok (.goto 20, 3) := by decide +kernel
theorem dX12_bringsOf_97 : decode cX12_bringsOf 97 = .ok (.aload_n 0, 1) := by decide +kernel
theorem dX12_bringsOf_98 : decode cX12_bringsOf 98 = .ok (.getfield 119, 3) := by decide +kernel
theorem dX12_bringsOf_101 : decode cX12_bringsOf 101 = .ok (.iload_n 1, 1) := by decide +kernel
theorem dX12_bringsOf_102 : decode cX12_bringsOf 102 = .ok (.iaload, 1) := by decide +kernel
theorem dX12_bringsOf_103 : decode cX12_bringsOf 103 = .ok (.iconst 2, 1) := by decide +kernel
theorem dX12_bringsOf_104 : decode cX12_bringsOf 104 = .ok (.if_icmp .ne 8, 3) := by decide +kernel
theorem dX12_bringsOf_107 : decode cX12_bringsOf 107 = .ok (.bipush 50, 2) := by decide +kernel
theorem dX12_bringsOf_109 : decode cX12_bringsOf 109 = .ok (.goto 5, 3) := by decide +kernel
theorem dX12_bringsOf_112 : decode cX12_bringsOf 112 = .ok (.bipush 40, 2) := by decide +kernel
theorem dX12_bringsOf_114 : decode cX12_bringsOf 114 = .ok (.istore 4, 2) := by decide +kernel
theorem dX12_bringsOf_116 : decode cX12_bringsOf 116 = .ok (.iconst 0, 1) := by decide +kernel
theorem dX12_bringsOf_117 : decode cX12_bringsOf 117 = .ok (.istore 5, 2) := by decide +kernel
theorem dX12_bringsOf_119 : decode cX12_bringsOf 119 = .ok (.iconst 0, 1) := by decide +kernel
theorem dX12_bringsOf_120 : decode cX12_bringsOf 120 = .ok (.istore 6, 2) := by decide +kernel
theorem dX12_bringsOf_122 : decode cX12_bringsOf 122 = .ok (.iload 6, 2) := by decide +kernel
theorem dX12_bringsOf_124 : decode cX12_bringsOf 124 = .ok (.bipush 96, 2) := by decide +kernel
theorem dX12_bringsOf_126 : decode cX12_bringsOf 126 = .ok (.if_icmp .ge 104, 3) := by decide +kernel
theorem dX12_bringsOf_129 : decode cX12_bringsOf 129 = .ok (.iload 6, 2) := by decide +kernel
theorem dX12_bringsOf_131 : decode cX12_bringsOf 131 = .ok (.aload_n 0, 1) := by decide +kernel
theorem dX12_bringsOf_132 : decode cX12_bringsOf 132 = .ok (.getfield 113, 3) := by decide +kernel
theorem dX12_bringsOf_135 : decode cX12_bringsOf 135 = .ok (.iload_n 1, 1) := by decide +kernel
theorem dX12_bringsOf_136 : decode cX12_bringsOf 136 = .ok (.iaload, 1) := by decide +kernel
theorem dX12_bringsOf_137 : decode cX12_bringsOf 137 = .ok (.aload_n 0, 1) := by decide +kernel
theorem dX12_bringsOf_138 : decode cX12_bringsOf 138 = .ok (.getfield 116, 3) := by decide +kernel
theorem dX12_bringsOf_141 : decode cX12_bringsOf 141 = .ok (.iload_n 1, 1) := by decide +kernel
theorem dX12_bringsOf_142 : decode cX12_bringsOf 142 = .ok (.iaload, 1) := by decide +kernel
theorem dX12_bringsOf_143 : decode cX12_bringsOf 143 = .ok (.invokestatic 232, 3) := by decide +kernel
theorem dX12_bringsOf_146 : decode cX12_bringsOf 146 = .ok (.ifCond .ne 6, 3) := by decide +kernel
theorem dX12_bringsOf_149 : decode cX12_bringsOf 149 = .ok (.goto 75, 3) := by decide +kernel
theorem dX12_bringsOf_152 : decode cX12_bringsOf 152 = .ok (.aload_n 0, 1) := by decide +kernel
theorem dX12_bringsOf_153 : decode cX12_bringsOf 153 = .ok (.getfield 9, 3) := by decide +kernel
theorem dX12_bringsOf_156 : decode cX12_bringsOf 156 = .ok (.sipush 672, 3) := by decide +kernel
theorem dX12_bringsOf_159 : decode cX12_bringsOf 159 = .ok (.iload 6, 2) := by decide +kernel
theorem dX12_bringsOf_161 : decode cX12_bringsOf 161 = .ok (.iadd, 1) := by decide +kernel
theorem dX12_bringsOf_162 : decode cX12_bringsOf 162 = .ok (.iaload, 1) := by decide +kernel
theorem dX12_bringsOf_163 : decode cX12_bringsOf 163 = .ok (.iload_n 2, 1) := by decide +kernel
theorem dX12_bringsOf_164 : decode cX12_bringsOf 164 = .ok (.if_icmp .le 7, 3) := by decide +kernel
theorem dX12_bringsOf_167 : decode cX12_bringsOf 167 = .ok (.iconst 1, 1) := by decide +kernel
theorem dX12_bringsOf_168 : decode cX12_bringsOf 168 = .ok (.goto 4, 3) := by decide +kernel
theorem dX12_bringsOf_171 : decode cX12_bringsOf 171 = .ok (.iconst 0, 1) := by decide +kernel
theorem dX12_bringsOf_172 : decode cX12_bringsOf 172 = .ok (.aload_n 0, 1) := by decide +kernel
theorem dX12_bringsOf_173 : decode cX12_bringsOf 173 = .ok (.getfield 9, 3) := by decide +kernel
theorem dX12_bringsOf_176 : decode cX12_bringsOf 176 = .ok (.sipush 480, 3) := by decide +kernel
theorem dX12_bringsOf_179 : decode cX12_bringsOf 179 = .ok (.iload 6, 2) := by decide +kernel
theorem dX12_bringsOf_181 : decode cX12_bringsOf 181 = .ok (.iadd, 1) := by decide +kernel
theorem dX12_bringsOf_182 : decode cX12_bringsOf 182 = .ok (.iaload, 1) := by decide +kernel
theorem dX12_bringsOf_183 : decode cX12_bringsOf 183 = .ok (.iload_n 3, 1) := by decide +kernel
theorem dX12_bringsOf_184 : decode cX12_bringsOf 184 = .ok (.if_icmp .le 7, 3) := by decide +kernel
theorem dX12_bringsOf_187 : decode cX12_bringsOf 187 = .ok (.iconst 1, 1) := by decide +kernel
theorem dX12_bringsOf_188 : decode cX12_bringsOf 188 = .ok (.goto 4, 3) := by decide +kernel
theorem dX12_bringsOf_191 : decode cX12_bringsOf 191 = .ok (.iconst 0, 1) := by decide +kernel
theorem dX12_bringsOf_192 : decode cX12_bringsOf 192 = .ok (.iadd, 1) := by decide +kernel
theorem dX12_bringsOf_193 : decode cX12_bringsOf 193 = .ok (.istore 7, 2) := by decide +kernel
theorem dX12_bringsOf_195 : decode cX12_bringsOf 195 = .ok (.iload 5, 2) := by decide +kernel
theorem dX12_bringsOf_197 : decode cX12_bringsOf 197 = .ok (.iload 7, 2) := by decide +kernel
theorem dX12_bringsOf_199 : decode cX12_bringsOf 199 = .ok (.ifCond .ne 8, 3) := by decide +kernel
theorem dX12_bringsOf_202 : decode cX12_bringsOf 202 = .ok (.iload 4, 2) := by decide +kernel
theorem dX12_bringsOf_204 : decode cX12_bringsOf 204 = .ok (.goto 17, 3) := by decide +kernel
theorem dX12_bringsOf_207 : decode cX12_bringsOf 207 = .ok (.iload 7, 2) := by decide +kernel
theorem dX12_bringsOf_209 : decode cX12_bringsOf 209 = .ok (.iconst 1, 1) := by decide +kernel
theorem dX12_bringsOf_210 : decode cX12_bringsOf 210 = .ok (.if_icmp .ne 10, 3) := by decide +kernel
theorem dX12_bringsOf_213 : decode cX12_bringsOf 213 = .ok (.iload 4, 2) := by decide +kernel
theorem dX12_bringsOf_215 : decode cX12_bringsOf 215 = .ok (.iconst 2, 1) := by decide +kernel
theorem dX12_bringsOf_216 : decode cX12_bringsOf 216 = .ok (.idiv, 1) := by decide +kernel
theorem dX12_bringsOf_217 : decode cX12_bringsOf 217 = .ok (.goto 4, 3) := by decide +kernel
theorem dX12_bringsOf_220 : decode cX12_bringsOf 220 = .ok (.iconst 0, 1) := by decide +kernel
theorem dX12_bringsOf_221 : decode cX12_bringsOf 221 = .ok (.iadd, 1) := by decide +kernel
theorem dX12_bringsOf_222 : decode cX12_bringsOf 222 = .ok (.istore 5, 2) := by decide +kernel
theorem dX12_bringsOf_224 : decode cX12_bringsOf 224 = .ok (.iinc 6 1, 3) := by decide +kernel
theorem dX12_bringsOf_227 : decode cX12_bringsOf 227 = .ok (.goto (-105), 3) := by decide +kernel
theorem dX12_bringsOf_230 : decode cX12_bringsOf 230 = .ok (.iload 5, 2) := by decide +kernel
theorem dX12_bringsOf_232 : decode cX12_bringsOf 232 = .ok (.ireturn, 1) := by decide +kernel
theorem dX12_close_0 : decode cX12_close 0 = .ok (.aload_n 0, 1) := by decide +kernel
theorem dX12_close_1 : decode cX12_close 1 = .ok (.iconst 0, 1) := by decide +kernel
theorem dX12_close_2 : decode cX12_close 2 = .ok (.putfield 194, 3) := by decide +kernel
theorem dX12_close_5 : decode cX12_close 5 = .ok (.aload_n 0, 1) := by decide +kernel
theorem dX12_close_6 : decode cX12_close 6 = .ok (.aload_n 0, 1) := by decide +kernel
theorem dX12_close_7 : decode cX12_close 7 = .ok (.getfield 523, 3) := by decide +kernel
theorem dX12_close_10 : decode cX12_close 10 = .ok (.ifCond .ne 7, 3) := by decide +kernel
theorem dX12_close_13 : decode cX12_close 13 = .ok (.iconst 1, 1) := by decide +kernel
theorem dX12_close_14 : decode cX12_close 14 = .ok (.goto 4, 3) := by decide +kernel
theorem dX12_close_17 : decode cX12_close 17 = .ok (.iconst 0, 1) := by decide +kernel
theorem dX12_close_18 : decode cX12_close 18 = .ok (.iconst 1, 1) := by decide +kernel
theorem dX12_close_19 : decode cX12_close 19 = .ok (.invokevirtual 224, 3) := by decide +kernel
theorem dX12_close_22 : decode cX12_close 22 = .ok (.ifCond .eq 5, 3) := by decide +kernel
theorem dX12_close_25 : decode cX12_close 25 = .ok (.iconst 0, 1) := by decide +kernel
theorem dX12_close_26 : decode cX12_close 26 = .ok (.ireturn, 1) := by decide +kernel
theorem dX12_close_27 : decode cX12_close 27 = .ok (.aload_n 0, 1) := by decide +kernel
theorem dX12_close_28 : decode cX12_close 28 = .ok (.iconst 0, 1) := by decide +kernel
theorem dX12_close_29 : decode cX12_close 29 = .ok (.putfield 523, 3) := by decide +kernel
theorem dX12_close_32 : decode cX12_close 32 = .ok (.aload_n 0, 1) := by decide +kernel
theorem dX12_close_33 : decode cX12_close 33 = .ok (.getfield 526, 3) := by decide +kernel
theorem dX12_close_36 : decode cX12_close 36 = .ok (.ldc2_w 484, 3) := by decide +kernel
theorem dX12_close_39 : decode cX12_close 39 = .ok (.lmul, 1) := by decide +kernel
theorem dX12_close_40 : decode cX12_close 40 = .ok (.aload_n 0, 1) := by decide +kernel
theorem dX12_close_41 : decode cX12_close 41 = .ok (.bipush 8, 2) := by decide +kernel
theorem dX12_close_43 : decode cX12_close 43 = .ok (.bipush 50, 2) := by decide +kernel
theorem dX12_close_45 : decode cX12_close 45 = .ok (.invokevirtual 492, 3) := by decide +kernel
theorem dX12_close_48 : decode cX12_close 48 = .ok (.i2l, 1) := by decide +kernel
theorem dX12_close_49 : decode cX12_close 49 = .ok (.aload_n 0, 1) := by decide +kernel
theorem dX12_close_50 : decode cX12_close 50 = .ok (.getfield 530, 3) := by decide +kernel
theorem dX12_close_53 : decode cX12_close 53 = .ok (.lmul, 1) := by decide +kernel
theorem dX12_close_54 : decode cX12_close 54 = .ok (.lcmp, 1) := by decide +kernel
theorem dX12_close_55 : decode cX12_close 55 = .ok (.ifCond .gt 5, 3) := by decide +kernel
theorem dX12_close_58 : decode cX12_close 58 = .ok (.iconst 0, 1) := by decide +kernel
theorem dX12_close_59 : decode cX12_close 59 = .ok (.ireturn, 1) := by decide +kernel
theorem dX12_close_60 : decode cX12_close 60 = .ok (.aload_n 0, 1) := by decide +kernel
theorem dX12_close_61 : decode cX12_close 61 = .ok (.iconst 1, 1) := by decide +kernel
theorem dX12_close_62 : decode cX12_close 62 = .ok (.iconst 0, 1) := by decide +kernel
theorem dX12_close_63 : decode cX12_close 63 = .ok (.invokevirtual 457, 3) := by decide +kernel
theorem dX12_close_66 : decode cX12_close 66 = .ok (.iconst 1, 1) := by decide +kernel
theorem dX12_close_67 : decode cX12_close 67 = .ok (.ireturn, 1) := by decide +kernel
theorem dX12_come_0 : decode cX12_come 0 = .ok (.aload_n 0, 1) := by decide +kernel
theorem dX12_come_1 : decode cX12_come 1 = .ok (.iconst 0, 1) := by decide +kernel
theorem dX12_come_2 : decode cX12_come 2 = .ok (.putfield 194, 3) := by decide +kernel
theorem dX12_come_5 : decode cX12_come 5 = .ok (.aload_n 0, 1) := by decide +kernel
theorem dX12_come_6 : decode cX12_come 6 = .ok (.aload_n 0, 1) := by decide +kernel
theorem dX12_come_7 : decode cX12_come 7 = .ok (.iload_n 1, 1) := by decide +kernel
theorem dX12_come_8 : decode cX12_come 8 = .ok (.invokevirtual 486, 3) := by decide +kernel
theorem dX12_come_11 : decode cX12_come 11 = .ok (.iconst 1, 1) := by decide +kernel
theorem dX12_come_12 : decode cX12_come 12 = .ok (.invokevirtual 224, 3) := by decide +kernel
theorem dX12_come_15 : decode cX12_come 15 = .ok (.ifCond .ne 21, 3) := by decide +kernel
theorem dX12_come_18 : decode cX12_come 18 = .ok (.aload_n 0, 1) := by decide +kernel
theorem dX12_come_19 : decode cX12_come 19 = .ok (.getfield 101, 3) := by decide +kernel
theorem dX12_come_22 : decode cX12_come 22 = .ok (.iload_n 1, 1) := by decide +kernel
theorem dX12_come_23 : decode cX12_come 23 = .ok (.iaload, 1) := by decide +kernel
theorem dX12_come_24 : decode cX12_come 24 = .ok (.ifCond .lt 12, 3) := by decide +kernel
theorem dX12_come_27 : decode cX12_come 27 = .ok (.aload_n 0, 1) := by decide +kernel
theorem dX12_come_28 : decode cX12_come 28 = .ok (.getfield 110, 3) := by decide +kernel
theorem dX12_come_31 : decode cX12_come 31 = .ok (.iload_n 1, 1) := by decide +kernel
theorem dX12_come_32 : decode cX12_come 32 = .ok (.baload, 1) := by decide +kernel
theorem dX12_come_33 : decode cX12_come 33 = .ok (.ifCond .eq 5, 3) := by decide +kernel
theorem dX12_come_36 : decode cX12_come 36 = .ok (.iconst 0, 1) := by decide +kernel
theorem dX12_come_37 : decode cX12_come 37 = .ok (.ireturn, 1) := by decide +kernel
theorem dX12_come_38 : decode cX12_come 38 = .ok (.aload_n 0, 1) := by decide +kernel
theorem dX12_come_39 : decode cX12_come 39 = .ok (.getfield 110, 3) := by decide +kernel
theorem dX12_come_42 : decode cX12_come 42 = .ok (.iload_n 1, 1) := by decide +kernel
theorem dX12_come_43 : decode cX12_come 43 = .ok (.iconst 1, 1) := by decide +kernel
theorem dX12_come_44 : decode cX12_come 44 = .ok (.bastore, 1) := by decide +kernel
theorem dX12_come_45 : decode cX12_come 45 = .ok (.iconst 1, 1) := by decide +kernel
theorem dX12_come_46 : decode cX12_come 46 = .ok (.ireturn, 1) := by decide +kernel
theorem dX12_copies_0 : decode cX12_copies 0 = .ok (.aload_n 0, 1) := by decide +kernel
theorem dX12_copies_1 : decode cX12_copies 1 = .ok (.getfield 42, 3) := by decide +kernel
theorem dX12_copies_4 : decode cX12_copies 4 = .ok (.iload_n 2, 1) := by decide +kernel
theorem dX12_copies_5 : decode cX12_copies 5 = .ok (.aload_n 0, 1) := by decide +kernel
theorem dX12_copies_6 : decode cX12_copies 6 = .ok (.getfield 42, 3) := by decide +kernel
theorem dX12_copies_9 : decode cX12_copies 9 = .ok (.iload_n 1, 1) := by decide +kernel
theorem dX12_copies_10 : decode cX12_copies 10 = .ok (.iaload, 1) := by decide +kernel
theorem dX12_copies_11 : decode cX12_copies 11 = .ok (.iastore, 1) := by decide +kernel
theorem dX12_copies_12 : decode cX12_copies 12 = .ok (.iconst 0, 1) := by decide +kernel
theorem dX12_copies_13 : decode cX12_copies 13 = .ok (.istore_n 3, 1) := by decide +kernel
theorem dX12_copies_14 : decode cX12_copies 14 = .ok (.iload_n 3, 1) := by decide +kernel
theorem dX12_copies_15 : decode cX12_copies 15 = .ok (.bipush 20, 2) := by decide +kernel
theorem dX12_copies_17 : decode cX12_copies 17 = .ok (.if_icmp .ge 163, 3) := by decide +kernel
theorem dX12_copies_20 : decode cX12_copies 20 = .ok (.aload_n 0, 1) := by decide +kernel
theorem dX12_copies_21 : decode cX12_copies 21 = .ok (.getfield 45, 3) := by decide +kernel
theorem dX12_copies_24 : decode cX12_copies 24 = .ok (.bipush 20, 2) := by decide +kernel
theorem dX12_copies_26 : decode cX12_copies 26 = .ok (.iload_n 2, 1) := by decide +kernel
theorem dX12_copies_27 : decode cX12_copies 27 = .ok (.imul, 1) := by decide +kernel
theorem dX12_copies_28 : decode cX12_copies 28 = .ok (.iload_n 3, 1) := by decide +kernel
theorem dX12_copies_29 : decode cX12_copies 29 = .ok (.iadd, 1) := by decide +kernel
theorem dX12_copies_30 : decode cX12_copies 30 = .ok (.aload_n 0, 1) := by decide +kernel
theorem dX12_copies_31 : decode cX12_copies 31 = .ok (.getfield 45, 3) := by decide +kernel
theorem dX12_copies_34 : decode cX12_copies 34 = .ok (.bipush 20, 2) := by decide +kernel
theorem dX12_copies_36 : decode cX12_copies 36 = .ok (.iload_n 1, 1) := by decide +kernel
theorem dX12_copies_37 : decode cX12_copies 37 = .ok (.imul, 1) := by decide +kernel
theorem dX12_copies_38 : decode cX12_copies 38 = .ok (.iload_n 3, 1) := by decide +kernel
theorem dX12_copies_39 : decode cX12_copies 39 = .ok (.iadd, 1) := by decide +kernel
theorem dX12_copies_40 : decode cX12_copies 40 = .ok (.iaload, 1) := by decide +kernel
theorem dX12_copies_41 : decode cX12_copies 41 = .ok (.iastore, 1) := by decide +kernel
theorem dX12_copies_42 : decode cX12_copies 42 = .ok (.aload_n 0, 1) := by decide +kernel
theorem dX12_copies_43 : decode cX12_copies 43 = .ok (.getfield 48, 3) := by decide +kernel
theorem dX12_copies_46 : decode cX12_copies 46 = .ok (.bipush 20, 2) := by decide +kernel
theorem dX12_copies_48 : decode cX12_copies 48 = .ok (.iload_n 2, 1) := by decide +kernel
theorem dX12_copies_49 : decode cX12_copies 49 = .ok (.imul, 1) := by decide +kernel
theorem dX12_copies_50 : decode cX12_copies 50 = .ok (.iload_n 3, 1) := by decide +kernel
theorem dX12_copies_51 : decode cX12_copies 51 = .ok (.iadd, 1) := by decide +kernel
theorem dX12_copies_52 : decode cX12_copies 52 = .ok (.aload_n 0, 1) := by decide +kernel
theorem dX12_copies_53 : decode cX12_copies 53 = .ok (.getfield 48, 3) := by decide +kernel
theorem dX12_copies_56 : decode cX12_copies 56 = .ok (.bipush 20, 2) := by decide +kernel
theorem dX12_copies_58 : decode cX12_copies 58 = .ok (.iload_n 1, 1) := by decide +kernel
theorem dX12_copies_59 : decode cX12_copies 59 = .ok (.imul, 1) := by decide +kernel
theorem dX12_copies_60 : decode cX12_copies 60 = .ok (.iload_n 3, 1) := by decide +kernel
theorem dX12_copies_61 : decode cX12_copies 61 = .ok (.iadd, 1) := by decide +kernel
theorem dX12_copies_62 : decode cX12_copies 62 = .ok (.iaload, 1) := by decide +kernel
theorem dX12_copies_63 : decode cX12_copies 63 = .ok (.iastore, 1) := by decide +kernel
theorem dX12_copies_64 : decode cX12_copies 64 = .ok (.aload_n 0, 1) := by decide +kernel
theorem dX12_copies_65 : decode cX12_copies 65 = .ok (.getfield 51, 3) := by decide +kernel
theorem dX12_copies_68 : decode cX12_copies 68 = .ok (.bipush 20, 2) := by decide +kernel
theorem dX12_copies_70 : decode cX12_copies 70 = .ok (.iload_n 2, 1) := by decide +kernel
theorem dX12_copies_71 : decode cX12_copies 71 = .ok (.imul, 1) := by decide +kernel
theorem dX12_copies_72 : decode cX12_copies 72 = .ok (.iload_n 3, 1) := by decide +kernel
theorem dX12_copies_73 : decode cX12_copies 73 = .ok (.iadd, 1) := by decide +kernel
theorem dX12_copies_74 : decode cX12_copies 74 = .ok (.aload_n 0, 1) := by decide +kernel
theorem dX12_copies_75 : decode cX12_copies 75 = .ok (.getfield 51, 3) := by decide +kernel
theorem dX12_copies_78 : decode cX12_copies 78 = .ok (.bipush 20, 2) := by decide +kernel
theorem dX12_copies_80 : decode cX12_copies 80 = .ok (.iload_n 1, 1) := by decide +kernel
theorem dX12_copies_81 : decode cX12_copies 81 = .ok (.imul, 1) := by decide +kernel
theorem dX12_copies_82 : decode cX12_copies 82 = .ok (.iload_n 3, 1) := by decide +kernel
theorem dX12_copies_83 : decode cX12_copies 83 = .ok (.iadd, 1) := by decide +kernel
theorem dX12_copies_84 : decode cX12_copies 84 = .ok (.iaload, 1) := by decide +kernel
theorem dX12_copies_85 : decode cX12_copies 85 = .ok (.iastore, 1) := by decide +kernel
theorem dX12_copies_86 : decode cX12_copies 86 = .ok (.aload_n 0, 1) := by decide +kernel
theorem dX12_copies_87 : decode cX12_copies 87 = .ok (.getfield 54, 3) := by decide +kernel
theorem dX12_copies_90 : decode cX12_copies 90 = .ok (.bipush 20, 2) := by decide +kernel
theorem dX12_copies_92 : decode cX12_copies 92 = .ok (.iload_n 2, 1) := by decide +kernel
theorem dX12_copies_93 : decode cX12_copies 93 = .ok (.imul, 1) := by decide +kernel
theorem dX12_copies_94 : decode cX12_copies 94 = .ok (.iload_n 3, 1) := by decide +kernel
theorem dX12_copies_95 : decode cX12_copies 95 = .ok (.iadd, 1) := by decide +kernel
theorem dX12_copies_96 : decode cX12_copies 96 = .ok (.aload_n 0, 1) := by decide +kernel
theorem dX12_copies_97 : decode cX12_copies 97 = .ok (.getfield 54, 3) := by decide +kernel
theorem dX12_copies_100 : decode cX12_copies 100 = .ok (.bipush 20, 2) := by decide +kernel
theorem dX12_copies_102 : decode cX12_copies 102 = .ok (.iload_n 1, 1) := by decide +kernel
theorem dX12_copies_103 : decode cX12_copies 103 = .ok (.imul, 1) := by decide +kernel
theorem dX12_copies_104 : decode cX12_copies 104 = .ok (.iload_n 3, 1) := by decide +kernel
theorem dX12_copies_105 : decode cX12_copies 105 = .ok (.iadd, 1) := by decide +kernel
theorem dX12_copies_106 : decode cX12_copies 106 = .ok (.iaload, 1) := by decide +kernel
theorem dX12_copies_107 : decode cX12_copies 107 = .ok (.iastore, 1) := by decide +kernel
theorem dX12_copies_108 : decode cX12_copies 108 = .ok (.aload_n 0, 1) := by decide +kernel
theorem dX12_copies_109 : decode cX12_copies 109 = .ok (.getfield 57, 3) := by decide +kernel
theorem dX12_copies_112 : decode cX12_copies 112 = .ok (.bipush 20, 2) := by decide +kernel
theorem dX12_copies_114 : decode cX12_copies 114 = .ok (.iload_n 2, 1) := by decide +kernel
theorem dX12_copies_115 : decode cX12_copies 115 = .ok (.imul, 1) := by decide +kernel
theorem dX12_copies_116 : decode cX12_copies 116 = .ok (.iload_n 3, 1) := by decide +kernel
theorem dX12_copies_117 : decode cX12_copies 117 = .ok (.iadd, 1) := by decide +kernel
theorem dX12_copies_118 : decode cX12_copies 118 = .ok (.aload_n 0, 1) := by decide +kernel
theorem dX12_copies_119 : decode cX12_copies 119 = .ok (.getfield 57, 3) := by decide +kernel
theorem dX12_copies_122 : decode cX12_copies 122 = .ok (.bipush 20, 2) := by decide +kernel
theorem dX12_copies_124 : decode cX12_copies 124 = .ok (.iload_n 1, 1) := by decide +kernel
theorem dX12_copies_125 : decode cX12_copies 125 = .ok (.imul, 1) := by decide +kernel
theorem dX12_copies_126 : decode cX12_copies 126 = .ok (.iload_n 3, 1) := by decide +kernel
theorem dX12_copies_127 : decode cX12_copies 127 = .ok (.iadd, 1) := by decide +kernel
theorem dX12_copies_128 : decode cX12_copies 128 = .ok (.iaload, 1) := by decide +kernel
theorem dX12_copies_129 : decode cX12_copies 129 = .ok (.iastore, 1) := by decide +kernel
theorem dX12_copies_130 : decode cX12_copies 130 = .ok (.aload_n 0, 1) := by decide +kernel
theorem dX12_copies_131 : decode cX12_copies 131 = .ok (.getfield 60, 3) := by decide +kernel
theorem dX12_copies_134 : decode cX12_copies 134 = .ok (.bipush 20, 2) := by decide +kernel
theorem dX12_copies_136 : decode cX12_copies 136 = .ok (.iload_n 2, 1) := by decide +kernel
theorem dX12_copies_137 : decode cX12_copies 137 = .ok (.imul, 1) := by decide +kernel
theorem dX12_copies_138 : decode cX12_copies 138 = .ok (.iload_n 3, 1) := by decide +kernel
theorem dX12_copies_139 : decode cX12_copies 139 = .ok (.iadd, 1) := by decide +kernel
theorem dX12_copies_140 : decode cX12_copies 140 = .ok (.aload_n 0, 1) := by decide +kernel
theorem dX12_copies_141 : decode cX12_copies 141 = .ok (.getfield 60, 3) := by decide +kernel
theorem dX12_copies_144 : decode cX12_copies 144 = .ok (.bipush 20, 2) := by decide +kernel
theorem dX12_copies_146 : decode cX12_copies 146 = .ok (.iload_n 1, 1) := by decide +kernel
theorem dX12_copies_147 : decode cX12_copies 147 = .ok (.imul, 1) := by decide +kernel
theorem dX12_copies_148 : decode cX12_copies 148 = .ok (.iload_n 3, 1) := by decide +kernel
theorem dX12_copies_149 : decode cX12_copies 149 = .ok (.iadd, 1) := by decide +kernel
theorem dX12_copies_150 : decode cX12_copies 150 = .ok (.iaload, 1) := by decide +kernel
theorem dX12_copies_151 : decode cX12_copies 151 = .ok (.iastore, 1) := by decide +kernel
theorem dX12_copies_152 : decode cX12_copies 152 = .ok (.aload_n 0, 1) := by decide +kernel
theorem dX12_copies_153 : decode cX12_copies 153 = .ok (.getfield 63, 3) := by decide +kernel
theorem dX12_copies_156 : decode cX12_copies 156 = .ok (.bipush 20, 2) := by decide +kernel
theorem dX12_copies_158 : decode cX12_copies 158 = .ok (.iload_n 2, 1) := by decide +kernel
theorem dX12_copies_159 : decode cX12_copies 159 = .ok (.imul, 1) := by decide +kernel
theorem dX12_copies_160 : decode cX12_copies 160 = .ok (.iload_n 3, 1) := by decide +kernel
theorem dX12_copies_161 : decode cX12_copies 161 = .ok (.iadd, 1) := by decide +kernel
theorem dX12_copies_162 : decode cX12_copies 162 = .ok (.aload_n 0, 1) := by decide +kernel
theorem dX12_copies_163 : decode cX12_copies 163 = .ok (.getfield 63, 3) := by decide +kernel
theorem dX12_copies_166 : decode cX12_copies 166 = .ok (.bipush 20, 2) := by decide +kernel
theorem dX12_copies_168 : decode cX12_copies 168 = .ok (.iload_n 1, 1) := by decide +kernel
theorem dX12_copies_169 : decode cX12_copies 169 = .ok (.imul, 1) := by decide +kernel
theorem dX12_copies_170 : decode cX12_copies 170 = .ok (.iload_n 3, 1) := by decide +kernel
theorem dX12_copies_171 : decode cX12_copies 171 = .ok (.iadd, 1) := by decide +kernel
theorem dX12_copies_172 : decode cX12_copies 172 = .ok (.iaload, 1) := by decide +kernel
theorem dX12_copies_173 : decode cX12_copies 173 = .ok (.iastore, 1) := by decide +kernel
theorem dX12_copies_174 : decode cX12_copies 174 = .ok (.iinc 3 1, 3) := by decide +kernel
theorem dX12_copies_177 : decode cX12_copies 177 = .ok (.goto (-163), 3) := by decide +kernel
theorem dX12_copies_180 : decode cX12_copies 180 = .ok (.iconst 0, 1) := by decide +kernel
theorem dX12_copies_181 : decode cX12_copies 181 = .ok (.istore_n 3, 1) := by decide +kernel
theorem dX12_copies_182 : decode cX12_copies 182 = .ok (.iload_n 3, 1) := by decide +kernel
theorem dX12_copies_183 : decode cX12_copies 183 = .ok (.sipush 400, 3) := by decide +kernel
theorem dX12_copies_186 : decode cX12_copies 186 = .ok (.if_icmp .ge 57, 3) := by decide +kernel
theorem dX12_copies_189 : decode cX12_copies 189 = .ok (.aload_n 0, 1) := by decide +kernel
theorem dX12_copies_190 : decode cX12_copies 190 = .ok (.getfield 66, 3) := by decide +kernel
theorem dX12_copies_193 : decode cX12_copies 193 = .ok (.sipush 400, 3) := by decide +kernel
theorem dX12_copies_196 : decode cX12_copies 196 = .ok (.iload_n 2, 1) := by decide +kernel
theorem dX12_copies_197 : decode cX12_copies 197 = .ok (.imul, 1) := by decide +kernel
theorem dX12_copies_198 : decode cX12_copies 198 = .ok (.iload_n 3, 1) := by decide +kernel
theorem dX12_copies_199 : decode cX12_copies 199 = .ok (.iadd, 1) := by decide +kernel
theorem dX12_copies_200 : decode cX12_copies 200 = .ok (.aload_n 0, 1) := by decide +kernel
theorem dX12_copies_201 : decode cX12_copies 201 = .ok (.getfield 66, 3) := by decide +kernel
theorem dX12_copies_204 : decode cX12_copies 204 = .ok (.sipush 400, 3) := by decide +kernel
theorem dX12_copies_207 : decode cX12_copies 207 = .ok (.iload_n 1, 1) := by decide +kernel
theorem dX12_copies_208 : decode cX12_copies 208 = .ok (.imul, 1) := by decide +kernel
theorem dX12_copies_209 : decode cX12_copies 209 = .ok (.iload_n 3, 1) := by decide +kernel
theorem dX12_copies_210 : decode cX12_copies 210 = .ok (.iadd, 1) := by decide +kernel
theorem dX12_copies_211 : decode cX12_copies 211 = .ok (.iaload, 1) := by decide +kernel
theorem dX12_copies_212 : decode cX12_copies 212 = .ok (.iastore, 1) := by decide +kernel
theorem dX12_copies_213 : decode cX12_copies 213 = .ok (.aload_n 0, 1) := by decide +kernel
theorem dX12_copies_214 : decode cX12_copies 214 = .ok (.getfield 69, 3) := by decide +kernel
theorem dX12_copies_217 : decode cX12_copies 217 = .ok (.sipush 400, 3) := by decide +kernel
theorem dX12_copies_220 : decode cX12_copies 220 = .ok (.iload_n 2, 1) := by decide +kernel
theorem dX12_copies_221 : decode cX12_copies 221 = .ok (.imul, 1) := by decide +kernel
theorem dX12_copies_222 : decode cX12_copies 222 = .ok (.iload_n 3, 1) := by decide +kernel
theorem dX12_copies_223 : decode cX12_copies 223 = .ok (.iadd, 1) := by decide +kernel
theorem dX12_copies_224 : decode cX12_copies 224 = .ok (.aload_n 0, 1) := by decide +kernel
theorem dX12_copies_225 : decode cX12_copies 225 = .ok (.getfield 69, 3) := by decide +kernel
theorem dX12_copies_228 : decode cX12_copies 228 = .ok (.sipush 400, 3) := by decide +kernel
theorem dX12_copies_231 : decode cX12_copies 231 = .ok (.iload_n 1, 1) := by decide +kernel
theorem dX12_copies_232 : decode cX12_copies 232 = .ok (.imul, 1) := by decide +kernel
theorem dX12_copies_233 : decode cX12_copies 233 = .ok (.iload_n 3, 1) := by decide +kernel
theorem dX12_copies_234 : decode cX12_copies 234 = .ok (.iadd, 1) := by decide +kernel
theorem dX12_copies_235 : decode cX12_copies 235 = .ok (.iaload, 1) := by decide +kernel
theorem dX12_copies_236 : decode cX12_copies 236 = .ok (.iastore, 1) := by decide +kernel
theorem dX12_copies_237 : decode cX12_copies 237 = .ok (.iinc 3 1, 3) := by decide +kernel
theorem dX12_copies_240 : decode cX12_copies 240 = .ok (.goto (-58), 3) := by decide +kernel
theorem dX12_copies_243 : decode cX12_copies 243 = .ok (.return_, 1) := by decide +kernel
theorem dX12_fault_0 : decode cX12_fault 0 = .ok (.aload_n 0, 1) := by decide +kernel
theorem dX12_fault_1 : decode cX12_fault 1 = .ok (.iconst 0, 1) := by decide +kernel
theorem dX12_fault_2 : decode cX12_fault 2 = .ok (.putfield 194, 3) := by decide +kernel
theorem dX12_fault_5 : decode cX12_fault 5 = .ok (.aload_n 0, 1) := by decide +kernel
theorem dX12_fault_6 : decode cX12_fault 6 = .ok (.getfield 35, 3) := by decide +kernel
theorem dX12_fault_9 : decode cX12_fault 9 = .ok (.ireturn, 1) := by decide +kernel
theorem dX12_found_0 : decode cX12_found 0 = .ok (.aload_n 0, 1) := by decide +kernel
theorem dX12_found_1 : decode cX12_found 1 = .ok (.iconst 0, 1) := by decide +kernel
theorem dX12_found_2 : decode cX12_found 2 = .ok (.putfield 194, 3) := by decide +kernel
theorem dX12_found_5 : decode cX12_found 5 = .ok (.aload_n 0, 1) := by decide +kernel
theorem dX12_found_6 : decode cX12_found 6 = .ok (.iconst 0, 1) := by decide +kernel
theorem dX12_found_7 : decode cX12_found 7 = .ok (.aload_n 0, 1) := by decide +kernel
theorem dX12_found_8 : decode cX12_found 8 = .ok (.invokevirtual 460, 3) := by decide +kernel
theorem dX12_found_11 : decode cX12_found 11 = .ok (.ifCond .le 7, 3) := by decide +kernel
theorem dX12_found_14 : decode cX12_found 14 = .ok (.iconst 1, 1) := by decide +kernel
theorem dX12_found_15 : decode cX12_found 15 = .ok (.goto 4, 3) := by decide +kernel
theorem dX12_found_18 : decode cX12_found 18 = .ok (.iconst 0, 1) := by decide +kernel
theorem dX12_found_19 : decode cX12_found 19 = .ok (.invokevirtual 463, 3) := by decide +kernel
theorem dX12_found_22 : decode cX12_found 22 = .ok (.ireturn, 1) := by decide +kernel
theorem dX12_hasDitch_0 : decode cX12_hasDitch 0 = .ok (.aload_n 0, 1) := by decide +kernel
theorem dX12_hasDitch_1 : decode cX12_hasDitch 1 = .ok (.iload_n 1, 1) := by decide +kernel
theorem dX12_hasDitch_2 : decode cX12_hasDitch 2 = .ok (.invokevirtual 235, 3) := by decide +kernel
theorem dX12_hasDitch_5 : decode cX12_hasDitch 5 = .ok (.ifCond .eq 20, 3) := by decide +kernel
theorem dX12_hasDitch_8 : decode cX12_hasDitch 8 = .ok (.aload_n 0, 1) := by decide +kernel
theorem dX12_hasDitch_9 : decode cX12_hasDitch 9 = .ok (.getfield 9, 3) := by decide +kernel
theorem dX12_hasDitch_12 : decode cX12_hasDitch 12 = .ok (.sipush 288, 3) := by decide +kernel
theorem dX12_hasDitch_15 : decode cX12_hasDitch 15 = .ok (.iload_n 1, 1) := by decide +kernel
theorem dX12_hasDitch_16 : decode cX12_hasDitch 16 = .ok (.iadd, 1) := by decide +kernel
theorem dX12_hasDitch_17 : decode cX12_hasDitch 17 = .ok (.iaload, 1) := by decide +kernel
theorem dX12_hasDitch_18 : decode cX12_hasDitch 18 = .ok (.ifCond .le 7, 3) := by decide +kernel
theorem dX12_hasDitch_21 : decode cX12_hasDitch 21 = .ok (.iconst 1, 1) := by decide +kernel
theorem dX12_hasDitch_22 : decode cX12_hasDitch 22 = .ok (.goto 4, 3) := by decide +kernel
theorem dX12_hasDitch_25 : decode cX12_hasDitch 25 = .ok (.iconst 0, 1) := by decide +kernel
theorem dX12_hasDitch_26 : decode cX12_hasDitch 26 = .ok (.ireturn, 1) := by decide +kernel
theorem dX12_hasSpan_0 : decode cX12_hasSpan 0 = .ok (.aload_n 0, 1) := by decide +kernel
theorem dX12_hasSpan_1 : decode cX12_hasSpan 1 = .ok (.getfield 155, 3) := by decide +kernel
theorem dX12_hasSpan_4 : decode cX12_hasSpan 4 = .ok (.iload_n 1, 1) := by decide +kernel
theorem dX12_hasSpan_5 : decode cX12_hasSpan 5 = .ok (.baload, 1) := by decide +kernel
theorem dX12_hasSpan_6 : decode cX12_hasSpan 6 = .ok (.ifCond .eq 22, 3) := by decide +kernel
theorem dX12_hasSpan_9 : decode cX12_hasSpan 9 = .ok (.aload_n 0, 1) := by decide +kernel
theorem dX12_hasSpan_10 : decode cX12_hasSpan 10 = .ok (.getfield 149, 3) := by decide +kernel
theorem dX12_hasSpan_13 : decode cX12_hasSpan 13 = .ok (.iload_n 1, 1) := by decide +kernel
theorem dX12_hasSpan_14 : decode cX12_hasSpan 14 = .ok (.iaload, 1) := by decide +kernel
theorem dX12_hasSpan_15 : decode cX12_hasSpan 15 = .ok (.aload_n 0, 1) := by decide +kernel
theorem dX12_hasSpan_16 : decode cX12_hasSpan 16 = .ok (.getfield 152, 3) := by decide +kernel
theorem dX12_hasSpan_19 : decode cX12_hasSpan 19 = .ok (.iload_n 1, 1) := by decide +kernel
theorem dX12_hasSpan_20 : decode cX12_hasSpan 20 = .ok (.iaload, 1) := by decide +kernel
theorem dX12_hasSpan_21 : decode cX12_hasSpan 21 = .ok (.if_icmp .gt 7, 3) := by decide +kernel
theorem dX12_hasSpan_24 : decode cX12_hasSpan 24 = .ok (.iconst 1, 1) := by decide +kernel
theorem dX12_hasSpan_25 : decode cX12_hasSpan 25 = .ok (.goto 4, 3) := by decide +kernel
theorem dX12_hasSpan_28 : decode cX12_hasSpan 28 = .ok (.iconst 0, 1) := by decide +kernel
theorem dX12_hasSpan_29 : decode cX12_hasSpan 29 = .ok (.ireturn, 1) := by decide +kernel
theorem dX12_holders_0 : decode cX12_holders 0 = .ok (.iconst 0, 1) := by decide +kernel
theorem dX12_holders_1 : decode cX12_holders 1 = .ok (.istore_n 1, 1) := by decide +kernel
theorem dX12_holders_2 : decode cX12_holders 2 = .ok (.iconst 0, 1) := by decide +kernel
theorem dX12_holders_3 : decode cX12_holders 3 = .ok (.istore_n 2, 1) := by decide +kernel
theorem dX12_holders_4 : decode cX12_holders 4 = .ok (.iload_n 2, 1) := by decide +kernel
theorem dX12_holders_5 : decode cX12_holders 5 = .ok (.aload_n 0, 1) := by decide +kernel
theorem dX12_holders_6 : decode cX12_holders 6 = .ok (.getfield 495, 3) := by decide +kernel
theorem dX12_holders_9 : decode cX12_holders 9 = .ok (.if_icmp .ge 26, 3) := by decide +kernel
theorem dX12_holders_12 : decode cX12_holders 12 = .ok (.iload_n 1, 1) := by decide +kernel
theorem dX12_holders_13 : decode cX12_holders 13 = .ok (.aload_n 0, 1) := by decide +kernel
theorem dX12_holders_14 : decode cX12_holders 14 = .ok (.getfield 101, 3) := by decide +kernel
theorem dX12_holders_17 : decode cX12_holders 17 = .ok (.iload_n 2, 1) := by decide +kernel
theorem dX12_holders_18 : decode cX12_holders 18 = .ok (.iaload, 1) := by decide +kernel
theorem dX12_holders_19 : decode cX12_holders 19 = .ok (.ifCond .lt 7, 3) := by decide +kernel
theorem dX12_holders_22 : decode cX12_holders 22 = .ok (.iconst 1, 1) := by decide +kernel
theorem dX12_holders_23 : decode cX12_holders 23 = .ok (.goto 4, 3) := by decide +kernel
theorem dX12_holders_26 : decode cX12_holders 26 = .ok (.iconst 0, 1) := by decide +kernel
theorem dX12_holders_27 : decode cX12_holders 27 = .ok (.iadd, 1) := by decide +kernel
theorem dX12_holders_28 : decode cX12_holders 28 = .ok (.istore_n 1, 1) := by decide +kernel
theorem dX12_holders_29 : decode cX12_holders 29 = .ok (.iinc 2 1, 3) := by decide +kernel
theorem dX12_holders_32 : decode cX12_holders 32 = .ok (.goto (-28), 3) := by decide +kernel
theorem dX12_holders_35 : decode cX12_holders 35 = .ok (.iload_n 1, 1) := by decide +kernel
theorem dX12_holders_36 : decode cX12_holders 36 = .ok (.ireturn, 1) := by decide +kernel
theorem dX12_holds_0 : decode cX12_holds 0 = .ok (.iconst 0, 1) := by decide +kernel
theorem dX12_holds_1 : decode cX12_holds 1 = .ok (.istore_n 2, 1) := by decide +kernel
theorem dX12_holds_2 : decode cX12_holds 2 = .ok (.aload_n 0, 1) := by decide +kernel
theorem dX12_holds_3 : decode cX12_holds 3 = .ok (.getfield 60, 3) := by decide +kernel
theorem dX12_holds_6 : decode cX12_holds 6 = .ok (.iload_n 1, 1) := by decide +kernel
theorem dX12_holds_7 : decode cX12_holds 7 = .ok (.iaload, 1) := by decide +kernel
theorem dX12_holds_8 : decode cX12_holds 8 = .ok (.istore_n 3, 1) := by decide +kernel
theorem dX12_holds_9 : decode cX12_holds 9 = .ok (.iload_n 3, 1) := by decide +kernel
theorem dX12_holds_10 : decode cX12_holds 10 = .ok (.aload_n 0, 1) := by decide +kernel
theorem dX12_holds_11 : decode cX12_holds 11 = .ok (.getfield 63, 3) := by decide +kernel
theorem dX12_holds_14 : decode cX12_holds 14 = .ok (.iload_n 1, 1) := by decide +kernel
theorem dX12_holds_15 : decode cX12_holds 15 = .ok (.iaload, 1) := by decide +kernel
theorem dX12_holds_16 : decode cX12_holds 16 = .ok (.if_icmp .ge 209, 3) := by decide +kernel
theorem dX12_holds_19 : decode cX12_holds 19 = .ok (.aload_n 0, 1) := by decide +kernel
theorem dX12_holds_20 : decode cX12_holds 20 = .ok (.getfield 66, 3) := by decide +kernel
theorem dX12_holds_23 : decode cX12_holds 23 = .ok (.iload_n 3, 1) := by decide +kernel
theorem dX12_holds_24 : decode cX12_holds 24 = .ok (.iaload, 1) := by decide +kernel
theorem dX12_holds_25 : decode cX12_holds 25 = .ok (.istore 4, 2) := by decide +kernel
theorem dX12_holds_27 : decode cX12_holds 27 = .ok (.iload 4, 2) := by decide +kernel
theorem dX12_holds_29 : decode cX12_holds 29 = .ok (.bipush 100, 2) := by decide +kernel
theorem dX12_holds_31 : decode cX12_holds 31 = .ok (.if_icmp .ge 22, 3) := by decide +kernel
theorem dX12_holds_34 : decode cX12_holds 34 = .ok (.aload_n 0, 1) := by decide +kernel
theorem dX12_holds_35 : decode cX12_holds 35 = .ok (.getfield 72, 3) := by decide +kernel
theorem dX12_holds_38 : decode cX12_holds 38 = .ok (.iload_n 2, 1) := by decide +kernel
theorem dX12_holds_39 : decode cX12_holds 39 = .ok (.iinc 2 1, 3) := by decide +kernel
theorem dX12_holds_42 : decode cX12_holds 42 = .ok (.aload_n 0, 1) := by decide +kernel
theorem dX12_holds_43 : decode cX12_holds 43 = .ok (.getfield 76, 3) := by decide +kernel
theorem dX12_holds_46 : decode cX12_holds 46 = .ok (.iload 4, 2) := by decide +kernel
theorem dX12_holds_48 : decode cX12_holds 48 = .ok (.laload, 1) := by decide +kernel
theorem dX12_holds_49 : decode cX12_holds 49 = .ok (.lastore, 1) := by decide +kernel
theorem dX12_holds_50 : decode cX12_holds 50 = .ok (.goto 169, 3) := by decide +kernel
theorem dX12_holds_53 : decode cX12_holds 53 = .ok (.iload 4, 2) := by decide +kernel
theorem dX12_holds_55 : decode cX12_holds 55 = .ok (.bipush 100, 2) := by decide +kernel
theorem dX12_holds_57 : decode cX12_holds 57 = .ok (.if_icmp .ne 22, 3) := by decide +kernel
theorem dX12_holds_60 : decode cX12_holds 60 = .ok (.aload_n 0, 1) := by decide +kernel
theorem dX12_holds_61 : decode cX12_holds 61 = .ok (.getfield 72, 3) := by decide +kernel
theorem dX12_holds_64 : decode cX12_holds 64 = .ok (.iload_n 2, 1) := by decide +kernel
theorem dX12_holds_65 : decode cX12_holds 65 = .ok (.iinc 2 1, 3) := by decide +kernel
theorem dX12_holds_68 : decode cX12_holds 68 = .ok (.aload_n 0, 1) := by decide +kernel
theorem dX12_holds_69 : decode cX12_holds 69 = .ok (.getfield 69, 3) := by decide +kernel
theorem dX12_holds_72 : decode cX12_holds 72 = .ok (.iload_n 3, 1) := by decide +kernel
theorem dX12_holds_73 : decode cX12_holds 73 = .ok (.iaload, 1) := by decide +kernel
theorem dX12_holds_74 : decode cX12_holds 74 = .ok (.i2l, 1) := by decide +kernel
theorem dX12_holds_75 : decode cX12_holds 75 = .ok (.lastore, 1) := by decide +kernel
theorem dX12_holds_76 : decode cX12_holds 76 = .ok (.goto 143, 3) := by decide +kernel
theorem dX12_holds_79 : decode cX12_holds 79 = .ok (.iload 4, 2) := by decide +kernel
theorem dX12_holds_81 : decode cX12_holds 81 = .ok (.bipush 104, 2) := by decide +kernel
theorem dX12_holds_83 : decode cX12_holds 83 = .ok (.if_icmp .ne 24, 3) := by decide +kernel
theorem dX12_holds_86 : decode cX12_holds 86 = .ok (.aload_n 0, 1) := by decide +kernel
theorem dX12_holds_87 : decode cX12_holds 87 = .ok (.getfield 72, 3) := by decide +kernel
theorem dX12_holds_90 : decode cX12_holds 90 = .ok (.iload_n 2, 1) := by decide +kernel
theorem dX12_holds_91 : decode cX12_holds 91 = .ok (.iconst 1, 1) := by decide +kernel
theorem dX12_holds_92 : decode cX12_holds 92 = .ok (.isub, 1) := by decide +kernel
theorem dX12_holds_93 : decode cX12_holds 93 = .ok (.lconst 1, 1) := by decide +kernel
theorem dX12_holds_94 : decode cX12_holds 94 = .ok (.aload_n 0, 1) := by decide +kernel
theorem dX12_holds_95 : decode cX12_holds 95 = .ok (.getfield 72, 3) := by decide +kernel
theorem dX12_holds_98 : decode cX12_holds 98 = .ok (.iload_n 2, 1) := by decide +kernel
theorem dX12_holds_99 : decode cX12_holds 99 = .ok (.iconst 1, 1) := by decide +kernel
theorem dX12_holds_100 : decode cX12_holds 100 = .ok (.isub, 1) := by decide +kernel
theorem dX12_holds_101 : decode cX12_holds 101 = .ok (.laload, 1) := by decide +kernel
theorem dX12_holds_102 : decode cX12_holds 102 = .ok (.lsub, 1) := by decide +kernel
theorem dX12_holds_103 : decode cX12_holds 103 = .ok (.lastore, 1) := by decide +kernel
theorem dX12_holds_104 : decode cX12_holds 104 = .ok (.goto 115, 3) := by decide +kernel
theorem dX12_holds_107 : decode cX12_holds 107 = .ok (.iinc 2 (-1), 3) := by decide +kernel
theorem dX12_holds_110 : decode cX12_holds 110 = .ok (.aload_n 0, 1) := by decide +kernel
theorem dX12_holds_111 : decode cX12_holds 111 = .ok (.getfield 72, 3) := by decide +kernel
theorem dX12_holds_114 : decode cX12_holds 114 = .ok (.iload_n 2, 1) := by decide +kernel
theorem dX12_holds_115 : decode cX12_holds 115 = .ok (.iconst 1, 1) := by decide +kernel
theorem dX12_holds_116 : decode cX12_holds 116 = .ok (.isub, 1) := by decide +kernel
theorem dX12_holds_117 : decode cX12_holds 117 = .ok (.laload, 1) := by decide +kernel
theorem dX12_holds_118 : decode cX12_holds 118 = .ok (.lstore 5, 2) := by decide +kernel
theorem dX12_holds_120 : decode cX12_holds 120 = .ok (.aload_n 0, 1) := by decide +kernel
theorem dX12_holds_121 : decode cX12_holds 121 = .ok (.getfield 72, 3) := by decide +kernel
theorem dX12_holds_124 : decode cX12_holds 124 = .ok (.iload_n 2, 1) := by decide +kernel
theorem dX12_holds_125 : decode cX12_holds 125 = .ok (.laload, 1) := by decide +kernel
theorem dX12_holds_126 : decode cX12_holds 126 = .ok (.lstore 7, 2) := by decide +kernel
theorem dX12_holds_128 : decode cX12_holds 128 = .ok (.aload_n 0, 1) := by decide +kernel
theorem dX12_holds_129 : decode cX12_holds 129 = .ok (.getfield 72, 3) := by decide +kernel
theorem dX12_holds_132 : decode cX12_holds 132 = .ok (.iload_n 2, 1) := by decide +kernel
theorem dX12_holds_133 : decode cX12_holds 133 = .ok (.iconst 1, 1) := by decide +kernel
theorem dX12_holds_134 : decode cX12_holds 134 = .ok (.isub, 1) := by decide +kernel
theorem dX12_holds_135 : decode cX12_holds 135 = .ok (.iload 4, 2) := by decide +kernel
theorem dX12_holds_137 : decode cX12_holds 137 = .ok (.bipush 101, 2) := by decide +kernel
theorem dX12_holds_139 : decode cX12_holds 139 = .ok (.if_icmp .ne 11, 3) := by decide +kernel
theorem dX12_holds_142 : decode cX12_holds 142 = .ok (.lload 5, 2) := by decide +kernel
theorem dX12_holds_144 : decode cX12_holds 144 = .ok (.lload 7, 2) := by decide +kernel
theorem dX12_holds_146 : decode cX12_holds 146 = .ok (.ladd, 1) := by decide +kernel
theorem dX12_holds_147 : decode cX12_holds 147 = .ok (.goto 71, 3) := by decide +kernel
theorem dX12_holds_150 : decode cX12_holds 150 = .ok (.iload 4, 2) := by decide +kernel
theorem dX12_holds_152 : decode cX12_holds 152 = .ok (.bipush 102, 2) := by decide +kernel
theorem dX12_holds_154 : decode cX12_holds 154 = .ok (.if_icmp .ne 19, 3) := by decide +kernel
theorem dX12_holds_157 : decode cX12_holds 157 = .ok (.lload 5, 2) := by decide +kernel
theorem dX12_holds_159 : decode cX12_holds 159 = .ok (.lload 7, 2) := by decide +kernel
theorem dX12_holds_161 : decode cX12_holds 161 = .ok (.lcmp, 1) := by decide +kernel
theorem dX12_holds_162 : decode cX12_holds 162 = .ok (.ifCond .ge 7, 3) := by decide +kernel
theorem dX12_holds_165 : decode cX12_holds 165 = .ok (.lconst 1, 1) := by decide +kernel
theorem dX12_holds_166 : decode cX12_holds 166 = .ok (.goto 52, 3) := by decide +kernel
theorem dX12_holds_169 : decode cX12_holds 169 = .ok (.lconst 0, 1) := by decide +kernel
theorem dX12_holds_170 : decode cX12_holds 170 = .ok (.goto 48, 3) := by decide +kernel
theorem dX12_holds_173 : decode cX12_holds 173 = .ok (.iload 4, 2) := by decide +kernel
theorem dX12_holds_175 : decode cX12_holds 175 = .ok (.bipush 103, 2) := by decide +kernel
theorem dX12_holds_177 : decode cX12_holds 177 = .ok (.if_icmp .ne 19, 3) := by decide +kernel
theorem dX12_holds_180 : decode cX12_holds 180 = .ok (.lload 5, 2) := by decide +kernel
theorem dX12_holds_182 : decode cX12_holds 182 = .ok (.lload 7, 2) := by decide +kernel
theorem dX12_holds_184 : decode cX12_holds 184 = .ok (.lcmp, 1) := by decide +kernel
theorem dX12_holds_185 : decode cX12_holds 185 = .ok (.ifCond .le 7, 3) := by decide +kernel
theorem dX12_holds_188 : decode cX12_holds 188 = .ok (.lconst 1, 1) := by decide +kernel
theorem dX12_holds_189 : decode cX12_holds 189 = .ok (.goto 29, 3) := by decide +kernel
theorem dX12_holds_192 : decode cX12_holds 192 = .ok (.lconst 0, 1) := by decide +kernel
theorem dX12_holds_193 : decode cX12_holds 193 = .ok (.goto 25, 3) := by decide +kernel
theorem dX12_holds_196 : decode cX12_holds 196 = .ok (.iload 4, 2) := by decide +kernel
theorem dX12_holds_198 : decode cX12_holds 198 = .ok (.bipush 105, 2) := by decide +kernel
theorem dX12_holds_200 : decode cX12_holds 200 = .ok (.if_icmp .ne 11, 3) := by decide +kernel
theorem dX12_holds_203 : decode cX12_holds 203 = .ok (.lload 5, 2) := by decide +kernel
theorem dX12_holds_205 : decode cX12_holds 205 = .ok (.lload 7, 2) := by decide +kernel
theorem dX12_holds_207 : decode cX12_holds 207 = .ok (.lmul, 1) := by decide +kernel
theorem dX12_holds_208 : decode cX12_holds 208 = .ok (.goto 10, 3) := by decide +kernel
theorem dX12_holds_211 : decode cX12_holds 211 = .ok (.lload 5, 2) := by decide +kernel
theorem dX12_holds_213 : decode cX12_holds 213 = .ok (.lload 7, 2) := by decide +kernel
theorem dX12_holds_215 : decode cX12_holds 215 = .ok (.invokestatic 471, 3) := by decide +kernel
theorem dX12_holds_218 : decode cX12_holds 218 = .ok (.lastore, 1) := by decide +kernel
theorem dX12_holds_219 : decode cX12_holds 219 = .ok (.iinc 3 1, 3) := by decide +kernel
theorem dX12_holds_222 : decode cX12_holds 222 = .ok (.goto (-213), 3) := by decide +kernel
theorem dX12_holds_225 : decode cX12_holds 225 = .ok (.iload_n 2, 1) := by decide +kernel
theorem dX12_holds_226 : decode cX12_holds 226 = .ok (.ifCond .eq 14, 3) := by decide +kernel
theorem dX12_holds_229 : decode cX12_holds 229 = .ok (.aload_n 0, 1) := by decide +kernel
theorem dX12_holds_230 : decode cX12_holds 230 = .ok (.getfield 72, 3) := by decide +kernel
theorem dX12_holds_233 : decode cX12_holds 233 = .ok (.iconst 0, 1) := by decide +kernel
theorem dX12_holds_234 : decode cX12_holds 234 = .ok (.laload, 1) := by decide +kernel
theorem dX12_holds_235 : decode cX12_holds 235 = .ok (.lconst 1, 1) := by decide +kernel
theorem dX12_holds_236 : decode cX12_holds 236 = .ok (.lcmp, 1) := by decide +kernel
theorem dX12_holds_237 : decode cX12_holds 237 = .ok (.ifCond .ne 7, 3) := by decide +kernel
theorem dX12_holds_240 : decode cX12_holds 240 = .ok (.iconst 1, 1) := by decide +kernel
theorem dX12_holds_241 : decode cX12_holds 241 = .ok (.goto 4, 3) := by decide +kernel
theorem dX12_holds_244 : decode cX12_holds 244 = .ok (.iconst 0, 1) := by decide +kernel
theorem dX12_holds_245 : decode cX12_holds 245 = .ok (.ireturn, 1) := by decide +kernel
theorem dX12_in_0 : decode cX12_in 0 = .ok (.iload_n 0, 1) := by decide +kernel
theorem dX12_in_1 : decode cX12_in 1 = .ok (.iload_n 1, 1) := by decide +kernel
theorem dX12_in_2 : decode cX12_in 2 = .ok (.if_icmp .lt 12, 3) := by decide +kernel
theorem dX12_in_5 : decode cX12_in 5 = .ok (.iload_n 0, 1) := by decide +kernel
theorem dX12_in_6 : decode cX12_in 6 = .ok (.iload_n 2, 1) := by decide +kernel
theorem dX12_in_7 : decode cX12_in 7 = .ok (.if_icmp .gt 7, 3) := by decide +kernel
theorem dX12_in_10 : decode cX12_in 10 = .ok (.iconst 1, 1) := by decide +kernel
theorem dX12_in_11 : decode cX12_in 11 = .ok (.goto 4, 3) := by decide +kernel
theorem dX12_in_14 : decode cX12_in 14 = .ok (.iconst 0, 1) := by decide +kernel
theorem dX12_in_15 : decode cX12_in 15 = .ok (.ireturn, 1) := by decide +kernel
theorem dX12_layer_0 : decode cX12_layer 0 = .ok (.aload_n 0, 1) := by decide +kernel
theorem dX12_layer_1 : decode cX12_layer 1 = .ok (.iconst 0, 1) := by decide +kernel
theorem dX12_layer_2 : decode cX12_layer 2 = .ok (.putfield 194, 3) := by decide +kernel
theorem dX12_layer_5 : decode cX12_layer 5 = .ok (.aload_n 0, 1) := by decide +kernel
theorem dX12_layer_6 : decode cX12_layer 6 = .ok (.aload_n 0, 1) := by decide +kernel
theorem dX12_layer_7 : decode cX12_layer 7 = .ok (.iload_n 1, 1) := by decide +kernel
theorem dX12_layer_8 : decode cX12_layer 8 = .ok (.invokevirtual 269, 3) := by decide +kernel
theorem dX12_layer_11 : decode cX12_layer 11 = .ok (.iconst 1, 1) := by decide +kernel
theorem dX12_layer_12 : decode cX12_layer 12 = .ok (.invokevirtual 224, 3) := by decide +kernel
theorem dX12_layer_15 : decode cX12_layer 15 = .ok (.ifCond .ne 58, 3) := by decide +kernel
theorem dX12_layer_18 : decode cX12_layer 18 = .ok (.aload_n 0, 1) := by decide +kernel
theorem dX12_layer_19 : decode cX12_layer 19 = .ok (.iload_n 2, 1) := by decide +kernel
theorem dX12_layer_20 : decode cX12_layer 20 = .ok (.iconst 1, 1) := by decide +kernel
theorem dX12_layer_21 : decode cX12_layer 21 = .ok (.sipush 300, 3) := by decide +kernel
theorem dX12_layer_24 : decode cX12_layer 24 = .ok (.invokestatic 197, 3) := by decide +kernel
theorem dX12_layer_27 : decode cX12_layer 27 = .ok (.ifCond .eq 13, 3) := by decide +kernel
theorem dX12_layer_30 : decode cX12_layer 30 = .ok (.iload_n 3, 1) := by decide +kernel
theorem dX12_layer_31 : decode cX12_layer 31 = .ok (.iconst 0, 1) := by decide +kernel
theorem dX12_layer_32 : decode cX12_layer 32 = .ok (.bipush 9, 2) := by decide +kernel
theorem dX12_layer_34 : decode cX12_layer 34 = .ok (.invokestatic 197, 3) := by decide +kernel
theorem dX12_layer_37 : decode cX12_layer 37 = .ok (.ifCond .ne 7, 3) := by decide +kernel
theorem dX12_layer_40 : decode cX12_layer 40 = .ok (.iconst 1, 1) := by decide +kernel
theorem dX12_layer_41 : decode cX12_layer 41 = .ok (.goto 4, 3) := by decide +kernel
theorem dX12_layer_44 : decode cX12_layer 44 = .ok (.iconst 0, 1) := by decide +kernel
theorem dX12_layer_45 : decode cX12_layer 45 = .ok (.iconst 2, 1) := by decide +kernel
theorem dX12_layer_46 : decode cX12_layer 46 = .ok (.invokevirtual 224, 3) := by decide +kernel
theorem dX12_layer_49 : decode cX12_layer 49 = .ok (.ifCond .ne 24, 3) := by decide +kernel
theorem dX12_layer_52 : decode cX12_layer 52 = .ok (.aload_n 0, 1) := by decide +kernel
theorem dX12_layer_53 : decode cX12_layer 53 = .ok (.aload_n 0, 1) := by decide +kernel
theorem dX12_layer_54 : decode cX12_layer 54 = .ok (.iload_n 1, 1) := by decide +kernel
theorem dX12_layer_55 : decode cX12_layer 55 = .ok (.invokevirtual 272, 3) := by decide +kernel
theorem dX12_layer_58 : decode cX12_layer 58 = .ok (.ifCond .ne 7, 3) := by decide +kernel
theorem dX12_layer_61 : decode cX12_layer 61 = .ok (.iconst 1, 1) := by decide +kernel
theorem dX12_layer_62 : decode cX12_layer 62 = .ok (.goto 4, 3) := by decide +kernel
theorem dX12_layer_65 : decode cX12_layer 65 = .ok (.iconst 0, 1) := by decide +kernel
theorem dX12_layer_66 : decode cX12_layer 66 = .ok (.iconst 3, 1) := by decide +kernel
theorem dX12_layer_67 : decode cX12_layer 67 = .ok (.invokevirtual 224, 3) := by decide +kernel
theorem dX12_layer_70 : decode cX12_layer 70 = .ok (.ifCond .eq 5, 3) := by decide +kernel
theorem dX12_layer_73 : decode cX12_layer 73 = .ok (.iconst 0, 1) := by decide +kernel
theorem dX12_layer_74 : decode cX12_layer 74 = .ok (.ireturn, 1) := by decide +kernel
theorem dX12_layer_75 : decode cX12_layer 75 = .ok (.aload_n 0, 1) := by decide +kernel
theorem dX12_layer_76 : decode cX12_layer 76 = .ok (.iload_n 1, 1) := by decide +kernel
theorem dX12_layer_77 : decode cX12_layer 77 = .ok (.iconst 4, 1) := by decide +kernel
theorem dX12_layer_78 : decode cX12_layer 78 = .ok (.invokevirtual 217, 3) := by decide +kernel
theorem dX12_layer_81 : decode cX12_layer 81 = .ok (.bipush 6, 2) := by decide +kernel
theorem dX12_layer_83 : decode cX12_layer 83 = .ok (.if_icmp .eq 13, 3) := by decide +kernel
theorem dX12_layer_86 : decode cX12_layer 86 = .ok (.aload_n 0, 1) := by decide +kernel
theorem dX12_layer_87 : decode cX12_layer 87 = .ok (.iload_n 1, 1) := by decide +kernel
theorem dX12_layer_88 : decode cX12_layer 88 = .ok (.iconst 0, 1) := by decide +kernel
theorem dX12_layer_89 : decode cX12_layer 89 = .ok (.invokevirtual 217, 3) := by decide +kernel
theorem dX12_layer_92 : decode cX12_layer 92 = .ok (.iconst 1, 1) := by decide +kernel
theorem dX12_layer_93 : decode cX12_layer 93 = .ok (.if_icmp .ne 5, 3) := by decide +kernel
theorem dX12_layer_96 : decode cX12_layer 96 = .ok (.iconst (-1), 1) := by decide +kernel
theorem dX12_layer_97 : decode cX12_layer 97 = .ok (.ireturn, 1) := by decide +kernel
theorem dX12_layer_98 : decode cX12_layer 98 = .ok (.aload_n 0, 1) := by decide +kernel
theorem dX12_layer_99 : decode cX12_layer 99 = .ok (.iload_n 1, 1) := by decide +kernel
theorem dX12_layer_100 : decode cX12_layer 100 = .ok (.iload_n 2, 1) := by decide +kernel
theorem dX12_layer_101 : decode cX12_layer 101 = .ok (.iload_n 3, 1) := by decide +kernel
theorem dX12_layer_102 : decode cX12_layer 102 = .ok (.invokevirtual 275, 3) := by decide +kernel
theorem dX12_layer_105 : decode cX12_layer 105 = .ok (.aload_n 0, 1) := by decide +kernel
theorem dX12_layer_106 : decode cX12_layer 106 = .ok (.iload_n 1, 1) := by decide +kernel
theorem dX12_layer_107 : decode cX12_layer 107 = .ok (.iconst 4, 1) := by decide +kernel
theorem dX12_layer_108 : decode cX12_layer 108 = .ok (.invokevirtual 217, 3) := by decide +kernel
theorem dX12_layer_111 : decode cX12_layer 111 = .ok (.ireturn, 1) := by decide +kernel
theorem dX12_near_0 : decode cX12_near 0 = .ok (.bipush 99, 2) := by decide +kernel
theorem dX12_near_2 : decode cX12_near 2 = .ok (.istore_n 2, 1) := by decide +kernel
theorem dX12_near_3 : decode cX12_near 3 = .ok (.iconst 0, 1) := by decide +kernel
theorem dX12_near_4 : decode cX12_near 4 = .ok (.istore_n 3, 1) := by decide +kernel
theorem dX12_near_5 : decode cX12_near 5 = .ok (.iload_n 3, 1) := by decide +kernel
theorem dX12_near_6 : decode cX12_near 6 = .ok (.bipush 96, 2) := by decide +kernel
theorem dX12_near_8 : decode cX12_near 8 = .ok (.if_icmp .ge 97, 3) := by decide +kernel
theorem dX12_near_11 : decode cX12_near 11 = .ok (.aload_n 0, 1) := by decide +kernel
theorem dX12_near_12 : decode cX12_near 12 = .ok (.getfield 101, 3) := by decide +kernel
theorem dX12_near_15 : decode cX12_near 15 = .ok (.iload_n 1, 1) := by decide +kernel
theorem dX12_near_16 : decode cX12_near 16 = .ok (.iaload, 1) := by decide +kernel
theorem dX12_near_17 : decode cX12_near 17 = .ok (.ifCond .lt 88, 3) := by decide +kernel
theorem dX12_near_20 : decode cX12_near 20 = .ok (.iload_n 3, 1) := by decide +kernel
theorem dX12_near_21 : decode cX12_near 21 = .ok (.aload_n 0, 1) := by decide +kernel
theorem dX12_near_22 : decode cX12_near 22 = .ok (.getfield 113, 3) := by decide +kernel
theorem dX12_near_25 : decode cX12_near 25 = .ok (.aload_n 0, 1) := by decide +kernel
theorem dX12_near_26 : decode cX12_near 26 = .ok (.getfield 101, 3) := by decide +kernel
theorem dX12_near_29 : decode cX12_near 29 = .ok (.iload_n 1, 1) := by decide +kernel
theorem dX12_near_30 : decode cX12_near 30 = .ok (.iaload, 1) := by decide +kernel
theorem dX12_near_31 : decode cX12_near 31 = .ok (.iaload, 1) := by decide +kernel
theorem dX12_near_32 : decode cX12_near 32 = .ok (.aload_n 0, 1) := by decide +kernel
theorem dX12_near_33 : decode cX12_near 33 = .ok (.getfield 116, 3) := by decide +kernel
theorem dX12_near_36 : decode cX12_near 36 = .ok (.aload_n 0, 1) := by decide +kernel
theorem dX12_near_37 : decode cX12_near 37 = .ok (.getfield 101, 3) := by decide +kernel
theorem dX12_near_40 : decode cX12_near 40 = .ok (.iload_n 1, 1) := by decide +kernel
theorem dX12_near_41 : decode cX12_near 41 = .ok (.iaload, 1) := by decide +kernel
theorem dX12_near_42 : decode cX12_near 42 = .ok (.iaload, 1) := by decide +kernel
theorem dX12_near_43 : decode cX12_near 43 = .ok (.invokestatic 232, 3) := by decide +kernel
theorem dX12_near_46 : decode cX12_near 46 = .ok (.ifCond .ne 6, 3) := by decide +kernel
theorem dX12_near_49 : decode cX12_near 49 = .ok (.goto 50, 3) := by decide +kernel
theorem dX12_near_52 : decode cX12_near 52 = .ok (.iconst 0, 1) := by decide +kernel
theorem dX12_near_53 : decode cX12_near 53 = .ok (.istore 4, 2) := by decide +kernel
theorem dX12_near_55 : decode cX12_near 55 = .ok (.iload 4, 2) := by decide +kernel
theorem dX12_near_57 : decode cX12_near 57 = .ok (.aload_n 0, 1) := by decide +kernel
theorem dX12_near_58 : decode cX12_near 58 = .ok (.getfield 9, 3) := by decide +kernel
theorem dX12_near_61 : decode cX12_near 61 = .ok (.sipush 1428, 3) := by decide +kernel
theorem dX12_near_64 : decode cX12_near 64 = .ok (.iaload, 1) := by decide +kernel
theorem dX12_near_65 : decode cX12_near 65 = .ok (.if_icmp .ge 34, 3) := by decide +kernel
theorem dX12_near_68 : decode cX12_near 68 = .ok (.aload_n 0, 1) := by decide +kernel
theorem dX12_near_69 : decode cX12_near 69 = .ok (.iload 4, 2) := by decide +kernel
theorem dX12_near_71 : decode cX12_near 71 = .ok (.invokevirtual 272, 3) := by decide +kernel
theorem dX12_near_74 : decode cX12_near 74 = .ok (.ifCond .eq 19, 3) := by decide +kernel
theorem dX12_near_77 : decode cX12_near 77 = .ok (.iload_n 2, 1) := by decide +kernel
theorem dX12_near_78 : decode cX12_near 78 = .ok (.iload_n 3, 1) := by decide +kernel
theorem dX12_near_79 : decode cX12_near 79 = .ok (.aload_n 0, 1) := by decide +kernel
theorem dX12_near_80 : decode cX12_near 80 = .ok (.iload 4, 2) := by decide +kernel
theorem dX12_near_82 : decode cX12_near 82 = .ok (.iconst 1, 1) := by decide +kernel
theorem dX12_near_83 : decode cX12_near 83 = .ok (.invokevirtual 217, 3) := by decide +kernel
theorem dX12_near_86 : decode cX12_near 86 = .ok (.invokestatic 262, 3) := by decide +kernel
theorem dX12_near_89 : decode cX12_near 89 = .ok (.invokestatic 207, 3) := by decide +kernel
theorem dX12_near_92 : decode cX12_near 92 = .ok (.istore_n 2, 1) := by decide +kernel
theorem dX12_near_93 : decode cX12_near 93 = .ok (.iinc 4 1, 3) := by decide +kernel
theorem dX12_near_96 : decode cX12_near 96 = .ok (.goto (-41), 3) := by decide +kernel
theorem dX12_near_99 : decode cX12_near 99 = .ok (.iinc 3 1, 3) := by decide +kernel
theorem dX12_near_102 : decode cX12_near 102 = .ok (.goto (-97), 3) := by decide +kernel
theorem dX12_near_105 : decode cX12_near 105 = .ok (.iload_n 2, 1) := by decide +kernel
theorem dX12_near_106 : decode cX12_near 106 = .ok (.ireturn, 1) := by decide +kernel
theorem dX12_nextOne_0 : decode cX12_nextOne 0 = .ok (.iconst (-1), 1) := by decide +kernel
theorem dX12_nextOne_1 : decode cX12_nextOne 1 = .ok (.istore_n 1, 1) := by decide +kernel
theorem dX12_nextOne_2 : decode cX12_nextOne 2 = .ok (.iconst 0, 1) := by decide +kernel
theorem dX12_nextOne_3 : decode cX12_nextOne 3 = .ok (.istore_n 2, 1) := by decide +kernel
theorem dX12_nextOne_4 : decode cX12_nextOne 4 = .ok (.iload_n 2, 1) := by decide +kernel
theorem dX12_nextOne_5 : decode cX12_nextOne 5 = .ok (.aload_n 0, 1) := by decide +kernel
theorem dX12_nextOne_6 : decode cX12_nextOne 6 = .ok (.getfield 495, 3) := by decide +kernel
theorem dX12_nextOne_9 : decode cX12_nextOne 9 = .ok (.if_icmp .ge 74, 3) := by decide +kernel
theorem dX12_nextOne_12 : decode cX12_nextOne 12 = .ok (.aload_n 0, 1) := by decide +kernel
theorem dX12_nextOne_13 : decode cX12_nextOne 13 = .ok (.getfield 131, 3) := by decide +kernel
theorem dX12_nextOne_16 : decode cX12_nextOne 16 = .ok (.iload_n 2, 1) := by decide +kernel
theorem dX12_nextOne_17 : decode cX12_nextOne 17 = .ok (.baload, 1) := by decide +kernel
theorem dX12_nextOne_18 : decode cX12_nextOne 18 = .ok (.ifCond .ne 6, 3) := by decide +kernel
theorem dX12_nextOne_21 : decode cX12_nextOne 21 = .ok (.goto 56, 3) := by decide +kernel
theorem dX12_nextOne_24 : decode cX12_nextOne 24 = .ok (.iload_n 1, 1) := by decide +kernel
theorem dX12_nextOne_25 : decode cX12_nextOne 25 = .ok (.ifCond .lt 50, 3) := by decide +kernel
theorem dX12_nextOne_28 : decode cX12_nextOne 28 = .ok (.aload_n 0, 1) := by decide +kernel
theorem dX12_nextOne_29 : decode cX12_nextOne 29 = .ok (.getfield 128, 3) := by decide +kernel
theorem dX12_nextOne_32 : decode cX12_nextOne 32 = .ok (.iload_n 2, 1) := by decide +kernel
theorem dX12_nextOne_33 : decode cX12_nextOne 33 = .ok (.laload, 1) := by decide +kernel
theorem dX12_nextOne_34 : decode cX12_nextOne 34 = .ok (.aload_n 0, 1) := by decide +kernel
theorem dX12_nextOne_35 : decode cX12_nextOne 35 = .ok (.getfield 128, 3) := by decide +kernel
theorem dX12_nextOne_38 : decode cX12_nextOne 38 = .ok (.iload_n 1, 1) := by decide +kernel
theorem dX12_nextOne_39 : decode cX12_nextOne 39 = .ok (.laload, 1) := by decide +kernel
theorem dX12_nextOne_40 : decode cX12_nextOne 40 = .ok (.lcmp, 1) := by decide +kernel
theorem dX12_nextOne_41 : decode cX12_nextOne 41 = .ok (.ifCond .gt 34, 3) := by decide +kernel
theorem dX12_nextOne_44 : decode cX12_nextOne 44 = .ok (.aload_n 0, 1) := by decide +kernel
theorem dX12_nextOne_45 : decode cX12_nextOne 45 = .ok (.getfield 128, 3) := by decide +kernel
theorem dX12_nextOne_48 : decode cX12_nextOne 48 = .ok (.iload_n 2, 1) := by decide +kernel
theorem dX12_nextOne_49 : decode cX12_nextOne 49 = .ok (.laload, 1) := by decide +kernel
theorem dX12_nextOne_50 : decode cX12_nextOne 50 = .ok (.aload_n 0, 1) := by decide +kernel
theorem dX12_nextOne_51 : decode cX12_nextOne 51 = .ok (.getfield 128, 3) := by decide +kernel
theorem dX12_nextOne_54 : decode cX12_nextOne 54 = .ok (.iload_n 1, 1) := by decide +kernel
theorem dX12_nextOne_55 : decode cX12_nextOne 55 = .ok (.laload, 1) := by decide +kernel
theorem dX12_nextOne_56 : decode cX12_nextOne 56 = .ok (.lcmp, 1) := by decide +kernel
theorem dX12_nextOne_57 : decode cX12_nextOne 57 = .ok (.ifCond .ne 20, 3) := by decide +kernel
theorem dX12_nextOne_60 : decode cX12_nextOne 60 = .ok (.aload_n 0, 1) := by decide +kernel
theorem dX12_nextOne_61 : decode cX12_nextOne 61 = .ok (.getfield 98, 3) := by decide +kernel
theorem dX12_nextOne_64 : decode cX12_nextOne 64 = .ok (.iload_n 2, 1) := by decide +kernel
theorem dX12_nextOne_65 : decode cX12_nextOne 65 = .ok (.iaload, 1) := by decide +kernel
theorem dX12_nextOne_66 : decode cX12_nextOne 66 = .ok (.aload_n 0, 1) := by decide +kernel
theorem dX12_nextOne_67 : decode cX12_nextOne 67 = .ok (.getfield 98, 3) := by decide +kernel
theorem dX12_nextOne_70 : decode cX12_nextOne 70 = .ok (.iload_n 1, 1) := by decide +kernel
theorem dX12_nextOne_71 : decode cX12_nextOne 71 = .ok (.iaload, 1) := by decide +kernel
theorem dX12_nextOne_72 : decode cX12_nextOne 72 = .ok (.if_icmp .ge 5, 3) := by decide +kernel
theorem dX12_nextOne_75 : decode cX12_nextOne 75 = .ok (.iload_n 2, 1) := by decide +kernel
theorem dX12_nextOne_76 : decode cX12_nextOne 76 = .ok (.istore_n 1, 1) := by decide +kernel
theorem dX12_nextOne_77 : decode cX12_nextOne 77 = .ok (.iinc 2 1, 3) := by decide +kernel
theorem dX12_nextOne_80 : decode cX12_nextOne 80 = .ok (.goto (-76), 3) := by decide +kernel
theorem dX12_nextOne_83 : decode cX12_nextOne 83 = .ok (.iload_n 1, 1) := by decide +kernel
theorem dX12_nextOne_84 : decode cX12_nextOne 84 = .ok (.ireturn, 1) := by decide +kernel
theorem dX12_propose_0 : decode cX12_propose 0 = .ok (.aload_n 0, 1) := by decide +kernel
theorem dX12_propose_1 : decode cX12_propose 1 = .ok (.iconst 0, 1) := by decide +kernel
theorem dX12_propose_2 : decode cX12_propose 2 = .ok (.putfield 194, 3) := by decide +kernel
theorem dX12_propose_5 : decode cX12_propose 5 = .ok (.aload_n 0, 1) := by decide +kernel
theorem dX12_propose_6 : decode cX12_propose 6 = .ok (.iconst 1, 1) := by decide +kernel
theorem dX12_propose_7 : decode cX12_propose 7 = .ok (.aload_n 0, 1) := by decide +kernel
theorem dX12_propose_8 : decode cX12_propose 8 = .ok (.getfield 523, 3) := by decide +kernel
theorem dX12_propose_11 : decode cX12_propose 11 = .ok (.invokevirtual 463, 3) := by decide +kernel
theorem dX12_propose_14 : decode cX12_propose 14 = .ok (.istore_n 1, 1) := by decide +kernel
theorem dX12_propose_15 : decode cX12_propose 15 = .ok (.aload_n 0, 1) := by decide +kernel
theorem dX12_propose_16 : decode cX12_propose 16 = .ok (.getfield 194, 3) := by decide +kernel
theorem dX12_propose_19 : decode cX12_propose 19 = .ok (.ifCond .eq 5, 3) := by decide +kernel
theorem dX12_propose_22 : decode cX12_propose 22 = .ok (.iconst 0, 1) := by decide +kernel
theorem dX12_propose_23 : decode cX12_propose 23 = .ok (.ireturn, 1) := by decide +kernel
theorem dX12_propose_24 : decode cX12_propose 24 = .ok (.aload_n 0, 1) := by decide +kernel
theorem dX12_propose_25 : decode cX12_propose 25 = .ok (.iconst 1, 1) := by decide +kernel
theorem dX12_propose_26 : decode cX12_propose 26 = .ok (.putfield 523, 3) := by decide +kernel
theorem dX12_propose_29 : decode cX12_propose 29 = .ok (.aload_n 0, 1) := by decide +kernel
theorem dX12_propose_30 : decode cX12_propose 30 = .ok (.lconst 0, 1) := by decide +kernel
theorem dX12_propose_31 : decode cX12_propose 31 = .ok (.putfield 526, 3) := by decide +kernel
theorem dX12_propose_34 : decode cX12_propose 34 = .ok (.aload_n 0, 1) := by decide +kernel
theorem dX12_propose_35 : decode cX12_propose 35 = .ok (.lconst 0, 1) := by decide +kernel
theorem dX12_propose_36 : decode cX12_propose 36 = .ok (.putfield 530, 3) := by decide +kernel
theorem dX12_propose_39 : decode cX12_propose 39 = .ok (.iconst 0, 1) := by decide +kernel
theorem dX12_propose_40 : decode cX12_propose 40 = .ok (.istore_n 2, 1) := by decide +kernel
theorem dX12_propose_41 : decode cX12_propose 41 = .ok (.iload_n 2, 1) := by decide +kernel
theorem dX12_propose_42 : decode cX12_propose 42 = .ok (.bipush 60, 2) := by decide +kernel
theorem dX12_propose_44 : decode cX12_propose 44 = .ok (.if_icmp .ge 16, 3) := by decide +kernel
theorem dX12_propose_47 : decode cX12_propose 47 = .ok (.aload_n 0, 1) := by decide +kernel
theorem dX12_propose_48 : decode cX12_propose 48 = .ok (.getfield 134, 3) := by decide +kernel
theorem dX12_propose_51 : decode cX12_propose 51 = .ok (.iload_n 2, 1) := by decide +kernel
theorem dX12_propose_52 : decode cX12_propose 52 = .ok (.iconst 0, 1) := by decide +kernel
theorem dX12_propose_53 : decode cX12_propose 53 = .ok (.bastore, 1) := by decide +kernel
theorem dX12_propose_54 : decode cX12_propose 54 = .ok (.iinc 2 1, 3) := by decide +kernel
theorem dX12_propose_57 : decode cX12_propose 57 = .ok (.goto (-16), 3) := by decide +kernel
theorem dX12_propose_60 : decode cX12_propose 60 = .ok (.iload_n 1, 1) := by decide +kernel
theorem dX12_propose_61 : decode cX12_propose 61 = .ok (.ireturn, 1) := by decide +kernel
theorem dX12_readPart_0 : decode cX12_readPart 0 = .ok (.aload_n 0, 1) := by decide +kernel
theorem dX12_readPart_1 : decode cX12_readPart 1 = .ok (.invokevirtual 360, 3) := by decide +kernel
theorem dX12_readPart_4 : decode cX12_readPart 4 = .ok (.aload_n 0, 1) := by decide +kernel
theorem dX12_readPart_5 : decode cX12_readPart 5 = .ok (.getfield 335, 3) := by decide +kernel
theorem dX12_readPart_8 : decode cX12_readPart 8 = .ok (.aload_n 0, 1) := by decide +kernel
theorem dX12_readPart_9 : decode cX12_readPart 9 = .ok (.getfield 345, 3) := by decide +kernel
theorem dX12_readPart_12 : decode cX12_readPart 12 = .ok (.if_icmp .le 44, 3) := by decide +kernel
theorem dX12_readPart_15 : decode cX12_readPart 15 = .ok (.iconst 0, 1) := by decide +kernel
theorem dX12_readPart_16 : decode cX12_readPart 16 = .ok (.istore_n 1, 1) := by decide +kernel
theorem dX12_readPart_17 : decode cX12_readPart 17 = .ok (.iload_n 1, 1) := by decide +kernel
theorem dX12_readPart_18 : decode cX12_readPart 18 = .ok (.bipush 10, 2) := by decide +kernel
theorem dX12_readPart_20 : decode cX12_readPart 20 = .ok (.if_icmp .ge 20, 3) := by decide +kernel
theorem dX12_readPart_23 : decode cX12_readPart 23 = .ok (.aload_n 0, 1) := by decide +kernel
theorem dX12_readPart_24 : decode cX12_readPart 24 = .ok (.iload_n 1, 1) := by decide +kernel
theorem dX12_readPart_25 : decode cX12_readPart 25 = .ok (.invokestatic 383, 3) := by decide +kernel
theorem dX12_readPart_28 : decode cX12_readPart 28 = .ok (.invokevirtual 363, 3) := by decide +kernel
theorem dX12_readPart_31 : decode cX12_readPart 31 = .ok (.ifCond .ne 9, 3) := by decide +kernel
theorem dX12_readPart_34 : decode cX12_readPart 34 = .ok (.iinc 1 1, 3) := by decide +kernel
theorem dX12_readPart_37 : decode cX12_readPart 37 = .ok (.goto (-20), 3) := by decide +kernel
theorem dX12_readPart_40 : decode cX12_readPart 40 = .ok (.iload_n 1, 1) := by decide +kernel
theorem dX12_readPart_41 : decode cX12_readPart 41 = .ok (.bipush 10, 2) := by decide +kernel
theorem dX12_readPart_43 : decode cX12_readPart 43 = .ok (.if_icmp .ne 5, 3) := by decide +kernel
theorem dX12_readPart_46 : decode cX12_readPart 46 = .ok (.iconst 0, 1) := by decide +kernel
theorem dX12_readPart_47 : decode cX12_readPart 47 = .ok (.ireturn, 1) := by decide +kernel
theorem dX12_readPart_48 : decode cX12_readPart 48 = .ok (.aload_n 0, 1) := by decide +kernel
theorem dX12_readPart_49 : decode cX12_readPart 49 = .ok (.iload_n 1, 1) := by decide +kernel
theorem dX12_readPart_50 : decode cX12_readPart 50 = .ok (.iconst 0, 1) := by decide +kernel
theorem dX12_readPart_51 : decode cX12_readPart 51 = .ok (.invokevirtual 387, 3) := by decide +kernel
theorem dX12_readPart_54 : decode cX12_readPart 54 = .ok (.iconst 1, 1) := by decide +kernel
theorem dX12_readPart_55 : decode cX12_readPart 55 = .ok (.ireturn, 1) := by decide +kernel
theorem dX12_readPart_56 : decode cX12_readPart 56 = .ok (.aload_n 0, 1) := by decide +kernel
theorem dX12_readPart_57 : decode cX12_readPart 57 = .ok (.ldc_w 390, 3) := by decide +kernel
theorem dX12_readPart_60 : decode cX12_readPart 60 = .ok (.invokevirtual 391, 3) := by decide +kernel
theorem dX12_readPart_63 : decode cX12_readPart 63 = .ok (.istore_n 1, 1) := by decide +kernel
theorem dX12_readPart_64 : decode cX12_readPart 64 = .ok (.iload_n 1, 1) := by decide +kernel
theorem dX12_readPart_65 : decode cX12_readPart 65 = .ok (.ifCond .ge 5, 3) := by decide +kernel
theorem dX12_readPart_68 : decode cX12_readPart 68 = .ok (.iconst 0, 1) := by decide +kernel
theorem dX12_readPart_69 : decode cX12_readPart 69 = .ok (.ireturn, 1) := by decide +kernel
theorem dX12_readPart_70 : decode cX12_readPart 70 = .ok (.aload_n 0, 1) := by decide +kernel
theorem dX12_readPart_71 : decode cX12_readPart 71 = .ok (.bipush 100, 2) := by decide +kernel
theorem dX12_readPart_73 : decode cX12_readPart 73 = .ok (.iload_n 1, 1) := by decide +kernel
theorem dX12_readPart_74 : decode cX12_readPart 74 = .ok (.invokevirtual 387, 3) := by decide +kernel
theorem dX12_readPart_77 : decode cX12_readPart 77 = .ok (.iconst 1, 1) := by decide +kernel
theorem dX12_readPart_78 : decode cX12_readPart 78 = .ok (.ireturn, 1) := by decide +kernel
theorem dX12_rules_0 : decode cX12_rules 0 = .ok (.aload_n 0, 1) := by decide +kernel
theorem dX12_rules_1 : decode cX12_rules 1 = .ok (.iconst 0, 1) := by decide +kernel
theorem dX12_rules_2 : decode cX12_rules 2 = .ok (.putfield 194, 3) := by decide +kernel
theorem dX12_rules_5 : decode cX12_rules 5 = .ok (.aload_n 0, 1) := by decide +kernel
theorem dX12_rules_6 : decode cX12_rules 6 = .ok (.aload_n 0, 1) := by decide +kernel
theorem dX12_rules_7 : decode cX12_rules 7 = .ok (.iload_n 1, 1) := by decide +kernel
theorem dX12_rules_8 : decode cX12_rules 8 = .ok (.invokevirtual 486, 3) := by decide +kernel
theorem dX12_rules_11 : decode cX12_rules 11 = .ok (.iconst 1, 1) := by decide +kernel
theorem dX12_rules_12 : decode cX12_rules 12 = .ok (.invokevirtual 224, 3) := by decide +kernel
theorem dX12_rules_15 : decode cX12_rules 15 = .ok (.ifCond .ne 25, 3) := by decide +kernel
theorem dX12_rules_18 : decode cX12_rules 18 = .ok (.aload_n 0, 1) := by decide +kernel
theorem dX12_rules_19 : decode cX12_rules 19 = .ok (.iload_n 2, 1) := by decide +kernel
theorem dX12_rules_20 : decode cX12_rules 20 = .ok (.iconst 0, 1) := by decide +kernel
theorem dX12_rules_21 : decode cX12_rules 21 = .ok (.iconst 5, 1) := by decide +kernel
theorem dX12_rules_22 : decode cX12_rules 22 = .ok (.invokestatic 197, 3) := by decide +kernel
theorem dX12_rules_25 : decode cX12_rules 25 = .ok (.ifCond .ne 7, 3) := by decide +kernel
theorem dX12_rules_28 : decode cX12_rules 28 = .ok (.iconst 1, 1) := by decide +kernel
theorem dX12_rules_29 : decode cX12_rules 29 = .ok (.goto 4, 3) := by decide +kernel
theorem dX12_rules_32 : decode cX12_rules 32 = .ok (.iconst 0, 1) := by decide +kernel
theorem dX12_rules_33 : decode cX12_rules 33 = .ok (.iconst 2, 1) := by decide +kernel
theorem dX12_rules_34 : decode cX12_rules 34 = .ok (.invokevirtual 224, 3) := by decide +kernel
theorem dX12_rules_37 : decode cX12_rules 37 = .ok (.ifCond .eq 5, 3) := by decide +kernel
theorem dX12_rules_40 : decode cX12_rules 40 = .ok (.iconst 0, 1) := by decide +kernel
theorem dX12_rules_41 : decode cX12_rules 41 = .ok (.ireturn, 1) := by decide +kernel
theorem dX12_rules_42 : decode cX12_rules 42 = .ok (.iload_n 2, 1) := by decide +kernel
theorem dX12_rules_43 : decode cX12_rules 43 = .ok (.tableswitch 80 0 4 #[33, 39, 47, 55, 63], 33) := by decide +kernel
theorem dX12_rules_76 : decode cX12_rules 76 = .ok (.aload_n 0, 1) := by decide +kernel
theorem dX12_rules_77 : decode cX12_rules 77 = .ok (.iload_n 1, 1) := by decide +kernel
theorem dX12_rules_78 : decode cX12_rules 78 = .ok (.invokevirtual 489, 3) := by decide +kernel
theorem dX12_rules_81 : decode cX12_rules 81 = .ok (.ireturn, 1) := by decide +kernel
theorem dX12_rules_82 : decode cX12_rules 82 = .ok (.aload_n 0, 1) := by decide +kernel
theorem dX12_rules_83 : decode cX12_rules 83 = .ok (.iload_n 1, 1) := by decide +kernel
theorem dX12_rules_84 : decode cX12_rules 84 = .ok (.iconst 2, 1) := by decide +kernel
theorem dX12_rules_85 : decode cX12_rules 85 = .ok (.invokevirtual 480, 3) := by decide +kernel
theorem dX12_rules_88 : decode cX12_rules 88 = .ok (.l2i, 1) := by decide +kernel
theorem dX12_rules_89 : decode cX12_rules 89 = .ok (.ireturn, 1) := by decide +kernel
theorem dX12_rules_90 : decode cX12_rules 90 = .ok (.aload_n 0, 1) := by decide +kernel
theorem dX12_rules_91 : decode cX12_rules 91 = .ok (.iload_n 1, 1) := by decide +kernel
theorem dX12_rules_92 : decode cX12_rules 92 = .ok (.iconst 3, 1) := by decide +kernel
theorem dX12_rules_93 : decode cX12_rules 93 = .ok (.invokevirtual 480, 3) := by decide +kernel
theorem dX12_rules_96 : decode cX12_rules 96 = .ok (.l2i, 1) := by decide +kernel
theorem dX12_rules_97 : decode cX12_rules 97 = .ok (.ireturn, 1) := by decide +kernel
theorem dX12_rules_98 : decode cX12_rules 98 = .ok (.aload_n 0, 1) := by decide +kernel
theorem dX12_rules_99 : decode cX12_rules 99 = .ok (.iload_n 1, 1) := by decide +kernel
theorem dX12_rules_100 : decode cX12_rules 100 = .ok (.iconst 4, 1) := by decide +kernel
theorem dX12_rules_101 : decode cX12_rules 101 = .ok (.invokevirtual 480, 3) := by decide +kernel
theorem dX12_rules_104 : decode cX12_rules 104 = .ok (.l2i, 1) := by decide +kernel
theorem dX12_rules_105 : decode cX12_rules 105 = .ok (.ireturn, 1) := by decide +kernel
theorem dX12_rules_106 : decode cX12_rules 106 = .ok (.aload_n 0, 1) := by decide +kernel
theorem dX12_rules_107 : decode cX12_rules 107 = .ok (.iload_n 1, 1) := by decide +kernel
theorem dX12_rules_108 : decode cX12_rules 108 = .ok (.iconst 5, 1) := by decide +kernel
theorem dX12_rules_109 : decode cX12_rules 109 = .ok (.invokevirtual 480, 3) := by decide +kernel
theorem dX12_rules_112 : decode cX12_rules 112 = .ok (.lconst 0, 1) := by decide +kernel
theorem dX12_rules_113 : decode cX12_rules 113 = .ok (.lcmp, 1) := by decide +kernel
theorem dX12_rules_114 : decode cX12_rules 114 = .ok (.ifCond .le 7, 3) := by decide +kernel
theorem dX12_rules_117 : decode cX12_rules 117 = .ok (.iconst 1, 1) := by decide +kernel
theorem dX12_rules_118 : decode cX12_rules 118 = .ok (.goto 4, 3) := by decide +kernel
theorem dX12_rules_121 : decode cX12_rules 121 = .ok (.iconst 0, 1) := by decide +kernel
theorem dX12_rules_122 : decode cX12_rules 122 = .ok (.ireturn, 1) := by decide +kernel
theorem dX12_rules_123 : decode cX12_rules 123 = .ok (.aload_n 0, 1) := by decide +kernel
theorem dX12_rules_124 : decode cX12_rules 124 = .ok (.iload_n 1, 1) := by decide +kernel
theorem dX12_rules_125 : decode cX12_rules 125 = .ok (.bipush 6, 2) := by decide +kernel
theorem dX12_rules_127 : decode cX12_rules 127 = .ok (.invokevirtual 480, 3) := by decide +kernel
theorem dX12_rules_130 : decode cX12_rules 130 = .ok (.lconst 0, 1) := by decide +kernel
theorem dX12_rules_131 : decode cX12_rules 131 = .ok (.lcmp, 1) := by decide +kernel
theorem dX12_rules_132 : decode cX12_rules 132 = .ok (.ifCond .le 7, 3) := by decide +kernel
theorem dX12_rules_135 : decode cX12_rules 135 = .ok (.iconst 1, 1) := by decide +kernel
theorem dX12_rules_136 : decode cX12_rules 136 = .ok (.goto 4, 3) := by decide +kernel
theorem dX12_rules_139 : decode cX12_rules 139 = .ok (.iconst 0, 1) := by decide +kernel
theorem dX12_rules_140 : decode cX12_rules 140 = .ok (.ireturn, 1) := by decide +kernel
theorem dX12_seepOf_0 : decode cX12_seepOf 0 = .ok (.aload_n 0, 1) := by decide +kernel
theorem dX12_seepOf_1 : decode cX12_seepOf 1 = .ok (.iload_n 1, 1) := by decide +kernel
theorem dX12_seepOf_2 : decode cX12_seepOf 2 = .ok (.iconst 2, 1) := by decide +kernel
theorem dX12_seepOf_3 : decode cX12_seepOf 3 = .ok (.invokevirtual 217, 3) := by decide +kernel
theorem dX12_seepOf_6 : decode cX12_seepOf 6 = .ok (.istore_n 3, 1) := by decide +kernel
theorem dX12_seepOf_7 : decode cX12_seepOf 7 = .ok (.iconst 0, 1) := by decide +kernel
theorem dX12_seepOf_8 : decode cX12_seepOf 8 = .ok (.iload_n 2, 1) := by decide +kernel
theorem dX12_seepOf_9 : decode cX12_seepOf 9 = .ok (.aload_n 0, 1) := by decide +kernel
theorem dX12_seepOf_10 : decode cX12_seepOf 10 = .ok (.iload_n 3, 1) := by decide +kernel
theorem dX12_seepOf_11 : decode cX12_seepOf 11 = .ok (.invokevirtual 285, 3) := by decide +kernel
theorem dX12_seepOf_14 : decode cX12_seepOf 14 = .ok (.aload_n 0, 1) := by decide +kernel
theorem dX12_seepOf_15 : decode cX12_seepOf 15 = .ok (.getfield 9, 3) := by decide +kernel
theorem dX12_seepOf_18 : decode cX12_seepOf 18 = .ok (.bipush 96, 2) := by decide +kernel
theorem dX12_seepOf_20 : decode cX12_seepOf 20 = .ok (.aload_n 0, 1) := by decide +kernel
theorem dX12_seepOf_21 : decode cX12_seepOf 21 = .ok (.iload_n 1, 1) := by decide +kernel
theorem dX12_seepOf_22 : decode cX12_seepOf 22 = .ok (.iconst 1, 1) := by decide +kernel
theorem dX12_seepOf_23 : decode cX12_seepOf 23 = .ok (.invokevirtual 217, 3) := by decide +kernel
theorem dX12_seepOf_26 : decode cX12_seepOf 26 = .ok (.iadd, 1) := by decide +kernel
theorem dX12_seepOf_27 : decode cX12_seepOf 27 = .ok (.iaload, 1) := by decide +kernel
theorem dX12_seepOf_28 : decode cX12_seepOf 28 = .ok (.invokestatic 211, 3) := by decide +kernel
theorem dX12_seepOf_31 : decode cX12_seepOf 31 = .ok (.isub, 1) := by decide +kernel
theorem dX12_seepOf_32 : decode cX12_seepOf 32 = .ok (.invokestatic 211, 3) := by decide +kernel
theorem dX12_seepOf_35 : decode cX12_seepOf 35 = .ok (.istore 4, 2) := by decide +kernel
theorem dX12_seepOf_37 : decode cX12_seepOf 37 = .ok (.aload_n 0, 1) := by decide +kernel
theorem dX12_seepOf_38 : decode cX12_seepOf 38 = .ok (.getfield 9, 3) := by decide +kernel
theorem dX12_seepOf_41 : decode cX12_seepOf 41 = .ok (.bipush 96, 2) := by decide +kernel
theorem dX12_seepOf_43 : decode cX12_seepOf 43 = .ok (.aload_n 0, 1) := by decide +kernel
theorem dX12_seepOf_44 : decode cX12_seepOf 44 = .ok (.iload_n 1, 1) := by decide +kernel
theorem dX12_seepOf_45 : decode cX12_seepOf 45 = .ok (.iconst 1, 1) := by decide +kernel
theorem dX12_seepOf_46 : decode cX12_seepOf 46 = .ok (.invokevirtual 217, 3) := by decide +kernel
theorem dX12_seepOf_49 : decode cX12_seepOf 49 = .ok (.iadd, 1) := by decide +kernel
theorem dX12_seepOf_50 : decode cX12_seepOf 50 = .ok (.iaload, 1) := by decide +kernel
theorem dX12_seepOf_51 : decode cX12_seepOf 51 = .ok (.istore 5, 2) := by decide +kernel
theorem dX12_seepOf_53 : decode cX12_seepOf 53 = .ok (.iconst 0, 1) := by decide +kernel
theorem dX12_seepOf_54 : decode cX12_seepOf 54 = .ok (.istore 6, 2) := by decide +kernel
theorem dX12_seepOf_56 : decode cX12_seepOf 56 = .ok (.iconst 0, 1) := by decide +kernel
theorem dX12_seepOf_57 : decode cX12_seepOf 57 = .ok (.istore 7, 2) := by decide +kernel
theorem dX12_seepOf_59 : decode cX12_seepOf 59 = .ok (.iload 7, 2) := by decide +kernel
theorem dX12_seepOf_61 : decode cX12_seepOf 61 = .ok (.aload_n 0, 1) := by decide +kernel
theorem dX12_seepOf_62 : decode cX12_seepOf 62 = .ok (.iload_n 1, 1) := by decide +kernel
theorem dX12_seepOf_63 : decode cX12_seepOf 63 = .ok (.iconst 4, 1) := by decide +kernel
theorem dX12_seepOf_64 : decode cX12_seepOf 64 = .ok (.invokevirtual 217, 3) := by decide +kernel
theorem dX12_seepOf_67 : decode cX12_seepOf 67 = .ok (.if_icmp .ge 51, 3) := by decide +kernel
theorem dX12_seepOf_70 : decode cX12_seepOf 70 = .ok (.iload 6, 2) := by decide +kernel
theorem dX12_seepOf_72 : decode cX12_seepOf 72 = .ok (.iload 5, 2) := by decide +kernel
theorem dX12_seepOf_74 : decode cX12_seepOf 74 = .ok (.iload_n 2, 1) := by decide +kernel
theorem dX12_seepOf_75 : decode cX12_seepOf 75 = .ok (.if_icmp .ge 19, 3) := by decide +kernel
theorem dX12_seepOf_78 : decode cX12_seepOf 78 = .ok (.bipush 10, 2) := by decide +kernel
theorem dX12_seepOf_80 : decode cX12_seepOf 80 = .ok (.aload_n 0, 1) := by decide +kernel
theorem dX12_seepOf_81 : decode cX12_seepOf 81 = .ok (.iload_n 1, 1) := by decide +kernel
theorem dX12_seepOf_82 : decode cX12_seepOf 82 = .ok (.bipush 11, 2) := by decide +kernel
theorem dX12_seepOf_84 : decode cX12_seepOf 84 = .ok (.iload 7, 2) := by decide +kernel
theorem dX12_seepOf_86 : decode cX12_seepOf 86 = .ok (.iadd, 1) := by decide +kernel
theorem dX12_seepOf_87 : decode cX12_seepOf 87 = .ok (.invokevirtual 217, 3) := by decide +kernel
theorem dX12_seepOf_90 : decode cX12_seepOf 90 = .ok (.isub, 1) := by decide +kernel
theorem dX12_seepOf_91 : decode cX12_seepOf 91 = .ok (.goto 4, 3) := by decide +kernel
theorem dX12_seepOf_94 : decode cX12_seepOf 94 = .ok (.iconst 0, 1) := by decide +kernel
theorem dX12_seepOf_95 : decode cX12_seepOf 95 = .ok (.iadd, 1) := by decide +kernel
theorem dX12_seepOf_96 : decode cX12_seepOf 96 = .ok (.istore 6, 2) := by decide +kernel
theorem dX12_seepOf_98 : decode cX12_seepOf 98 = .ok (.iload 5, 2) := by decide +kernel
theorem dX12_seepOf_100 : decode cX12_seepOf 100 = .ok (.aload_n 0, 1) := by decide +kernel
theorem dX12_seepOf_101 : decode cX12_seepOf 101 = .ok (.iload_n 1, 1) := by decide +kernel
theorem dX12_seepOf_102 : decode cX12_seepOf 102 = .ok (.iconst 5, 1) := by decide +kernel
theorem dX12_seepOf_103 : decode cX12_seepOf 103 = .ok (.iload 7, 2) := by decide +kernel
theorem dX12_seepOf_105 : decode cX12_seepOf 105 = .ok (.iadd, 1) := by decide +kernel
theorem dX12_seepOf_106 : decode cX12_seepOf 106 = .ok (.invokevirtual 217, 3) := by decide +kernel
theorem dX12_seepOf_109 : decode cX12_seepOf 109 = .ok (.iadd, 1) := by decide +kernel
theorem dX12_seepOf_110 : decode cX12_seepOf 110 = .ok (.istore 5, 2) := by decide +kernel
theorem dX12_seepOf_112 : decode cX12_seepOf 112 = .ok (.iinc 7 1, 3) := by decide +kernel
theorem dX12_seepOf_115 : decode cX12_seepOf 115 = .ok (.goto (-56), 3) := by decide +kernel
theorem dX12_seepOf_118 : decode cX12_seepOf 118 = .ok (.iload 4, 2) := by decide +kernel
theorem dX12_seepOf_120 : decode cX12_seepOf 120 = .ok (.iload 6, 2) := by decide +kernel
theorem dX12_seepOf_122 : decode cX12_seepOf 122 = .ok (.imul, 1) := by decide +kernel
theorem dX12_seepOf_123 : decode cX12_seepOf 123 = .ok (.bipush 100, 2) := by decide +kernel
theorem dX12_seepOf_125 : decode cX12_seepOf 125 = .ok (.idiv, 1) := by decide +kernel
theorem dX12_seepOf_126 : decode cX12_seepOf 126 = .ok (.ireturn, 1) := by decide +kernel
theorem dX12_settler_0 : decode cX12_settler 0 = .ok (.aload_n 0, 1) := by decide +kernel
theorem dX12_settler_1 : decode cX12_settler 1 = .ok (.iconst 0, 1) := by decide +kernel
theorem dX12_settler_2 : decode cX12_settler 2 = .ok (.putfield 194, 3) := by decide +kernel
theorem dX12_settler_5 : decode cX12_settler 5 = .ok (.aload_n 0, 1) := by decide +kernel
theorem dX12_settler_6 : decode cX12_settler 6 = .ok (.iload_n 1, 1) := by decide +kernel
theorem dX12_settler_7 : decode cX12_settler 7 = .ok (.iconst 0, 1) := by decide +kernel
theorem dX12_settler_8 : decode cX12_settler 8 = .ok (.bipush 99, 2) := by decide +kernel
theorem dX12_settler_10 : decode cX12_settler 10 = .ok (.invokestatic 197, 3) := by decide +kernel
theorem dX12_settler_13 : decode cX12_settler 13 = .ok (.ifCond .eq 46, 3) := by decide +kernel
theorem dX12_settler_16 : decode cX12_settler 16 = .ok (.iload_n 2, 1) := by decide +kernel
theorem dX12_settler_17 : decode cX12_settler 17 = .ok (.iconst 0, 1) := by decide +kernel
theorem dX12_settler_18 : decode cX12_settler 18 = .ok (.bipush 20, 2) := by decide +kernel
theorem dX12_settler_20 : decode cX12_settler 20 = .ok (.invokestatic 197, 3) := by decide +kernel
theorem dX12_settler_23 : decode cX12_settler 23 = .ok (.ifCond .eq 36, 3) := by decide +kernel
theorem dX12_settler_26 : decode cX12_settler 26 = .ok (.iload_n 3, 1) := by decide +kernel
theorem dX12_settler_27 : decode cX12_settler 27 = .ok (.iconst 0, 1) := by decide +kernel
theorem dX12_settler_28 : decode cX12_settler 28 = .ok (.ldc 241, 2) := by decide +kernel
theorem dX12_settler_30 : decode cX12_settler 30 = .ok (.invokestatic 197, 3) := by decide +kernel
theorem dX12_settler_33 : decode cX12_settler 33 = .ok (.ifCond .eq 26, 3) := by decide +kernel
theorem dX12_settler_36 : decode cX12_settler 36 = .ok (.iload 4, 2) := by decide +kernel
theorem dX12_settler_38 : decode cX12_settler 38 = .ok (.iconst 0, 1) := by decide +kernel
theorem dX12_settler_39 : decode cX12_settler 39 = .ok (.bipush 100, 2) := by decide +kernel
theorem dX12_settler_41 : decode cX12_settler 41 = .ok (.invokestatic 197, 3) := by decide +kernel
theorem dX12_settler_44 : decode cX12_settler 44 = .ok (.ifCond .eq 15, 3) := by decide +kernel
theorem dX12_settler_47 : decode cX12_settler 47 = .ok (.iload 7, 2) := by decide +kernel
theorem dX12_settler_49 : decode cX12_settler 49 = .ok (.iconst 0, 1) := by decide +kernel
theorem dX12_settler_50 : decode cX12_settler 50 = .ok (.ldc_w 501, 3) := by decide +kernel
theorem dX12_settler_53 : decode cX12_settler 53 = .ok (.invokestatic 197, 3) := by decide +kernel
theorem dX12_settler_56 : decode cX12_settler 56 = .ok (.ifCond .ne 7, 3) := by decide +kernel
theorem dX12_settler_59 : decode cX12_settler 59 = .ok (.iconst 1, 1) := by decide +kernel
theorem dX12_settler_60 : decode cX12_settler 60 = .ok (.goto 4, 3) := by decide +kernel
theorem dX12_settler_63 : decode cX12_settler 63 = .ok (.iconst 0, 1) := by decide +kernel
theorem dX12_settler_64 : decode cX12_settler 64 = .ok (.iconst 1, 1) := by decide +kernel
theorem dX12_settler_65 : decode cX12_settler 65 = .ok (.invokevirtual 224, 3) := by decide +kernel
theorem dX12_settler_68 : decode cX12_settler 68 = .ok (.ifCond .ne 25, 3) := by decide +kernel
theorem dX12_settler_71 : decode cX12_settler 71 = .ok (.aload_n 0, 1) := by decide +kernel
theorem dX12_settler_72 : decode cX12_settler 72 = .ok (.aload_n 0, 1) := by decide +kernel
theorem dX12_settler_73 : decode cX12_settler 73 = .ok (.getfield 495, 3) := by decide +kernel
theorem dX12_settler_76 : decode cX12_settler 76 = .ok (.bipush 60, 2) := by decide +kernel
theorem dX12_settler_78 : decode cX12_settler 78 = .ok (.if_icmp .ne 7, 3) := by decide +kernel
theorem dX12_settler_81 : decode cX12_settler 81 = .ok (.iconst 1, 1) := by decide +kernel
theorem dX12_settler_82 : decode cX12_settler 82 = .ok (.goto 4, 3) := by decide +kernel
theorem dX12_settler_85 : decode cX12_settler 85 = .ok (.iconst 0, 1) := by decide +kernel
theorem dX12_settler_86 : decode cX12_settler 86 = .ok (.iconst 2, 1) := by decide +kernel
theorem dX12_settler_87 : decode cX12_settler 87 = .ok (.invokevirtual 224, 3) := by decide +kernel
theorem dX12_settler_90 : decode cX12_settler 90 = .ok (.ifCond .eq 5, 3) := by decide +kernel
theorem dX12_settler_93 : decode cX12_settler 93 = .ok (.iconst 0, 1) := by decide +kernel
theorem dX12_settler_94 : decode cX12_settler 94 = .ok (.ireturn, 1) := by decide +kernel
theorem dX12_settler_95 : decode cX12_settler 95 = .ok (.aload_n 0, 1) := by decide +kernel
theorem dX12_settler_96 : decode cX12_settler 96 = .ok (.getfield 495, 3) := by decide +kernel
theorem dX12_settler_99 : decode cX12_settler 99 = .ok (.istore 8, 2) := by decide +kernel
theorem dX12_settler_101 : decode cX12_settler 101 = .ok (.aload_n 0, 1) := by decide +kernel
theorem dX12_settler_102 : decode cX12_settler 102 = .ok (.dup, 1) := by decide +kernel
theorem dX12_settler_103 : decode cX12_settler 103 = .ok (.getfield 495, 3) := by decide +kernel
theorem dX12_settler_106 : decode cX12_settler 106 = .ok (.iconst 1, 1) := by decide +kernel
theorem dX12_settler_107 : decode cX12_settler 107 = .ok (.iadd, 1) := by decide +kernel
theorem dX12_settler_108 : decode cX12_settler 108 = .ok (.putfield 495, 3) := by decide +kernel
theorem dX12_settler_111 : decode cX12_settler 111 = .ok (.aload_n 0, 1) := by decide +kernel
theorem dX12_settler_112 : decode cX12_settler 112 = .ok (.getfield 79, 3) := by decide +kernel
theorem dX12_settler_115 : decode cX12_settler 115 = .ok (.iload 8, 2) := by decide +kernel
theorem dX12_settler_117 : decode cX12_settler 117 = .ok (.iload_n 1, 1) := by decide +kernel
theorem dX12_settler_118 : decode cX12_settler 118 = .ok (.iastore, 1) := by decide +kernel
theorem dX12_settler_119 : decode cX12_settler 119 = .ok (.aload_n 0, 1) := by decide +kernel
theorem dX12_settler_120 : decode cX12_settler 120 = .ok (.getfield 82, 3) := by decide +kernel
theorem dX12_settler_123 : decode cX12_settler 123 = .ok (.iload 8, 2) := by decide +kernel
theorem dX12_settler_125 : decode cX12_settler 125 = .ok (.iload_n 2, 1) := by decide +kernel
theorem dX12_settler_126 : decode cX12_settler 126 = .ok (.iastore, 1) := by decide +kernel
theorem dX12_settler_127 : decode cX12_settler 127 = .ok (.aload_n 0, 1) := by decide +kernel
theorem dX12_settler_128 : decode cX12_settler 128 = .ok (.getfield 85, 3) := by decide +kernel
theorem dX12_settler_131 : decode cX12_settler 131 = .ok (.iload 8, 2) := by decide +kernel
theorem dX12_settler_133 : decode cX12_settler 133 = .ok (.iload_n 3, 1) := by decide +kernel
theorem dX12_settler_134 : decode cX12_settler 134 = .ok (.iastore, 1) := by decide +kernel
theorem dX12_settler_135 : decode cX12_settler 135 = .ok (.aload_n 0, 1) := by decide +kernel
theorem dX12_settler_136 : decode cX12_settler 136 = .ok (.getfield 88, 3) := by decide +kernel
theorem dX12_settler_139 : decode cX12_settler 139 = .ok (.iload 8, 2) := by decide +kernel
theorem dX12_settler_141 : decode cX12_settler 141 = .ok (.iload 4, 2) := by decide +kernel
theorem dX12_settler_143 : decode cX12_settler 143 = .ok (.iastore, 1) := by decide +kernel
theorem dX12_settler_144 : decode cX12_settler 144 = .ok (.aload_n 0, 1) := by decide +kernel
theorem dX12_settler_145 : decode cX12_settler 145 = .ok (.getfield 91, 3) := by decide +kernel
theorem dX12_settler_148 : decode cX12_settler 148 = .ok (.iload 8, 2) := by decide +kernel
theorem dX12_settler_150 : decode cX12_settler 150 = .ok (.iload 5, 2) := by decide +kernel
theorem dX12_settler_152 : decode cX12_settler 152 = .ok (.bastore, 1) := by decide +kernel
theorem dX12_settler_153 : decode cX12_settler 153 = .ok (.aload_n 0, 1) := by decide +kernel
theorem dX12_settler_154 : decode cX12_settler 154 = .ok (.getfield 95, 3) := by decide +kernel
theorem dX12_settler_157 : decode cX12_settler 157 = .ok (.iload 8, 2) := by decide +kernel
theorem dX12_settler_159 : decode cX12_settler 159 = .ok (.iload 6, 2) := by decide +kernel
theorem dX12_settler_161 : decode cX12_settler 161 = .ok (.bastore, 1) := by decide +kernel
theorem dX12_settler_162 : decode cX12_settler 162 = .ok (.aload_n 0, 1) := by decide +kernel
theorem dX12_settler_163 : decode cX12_settler 163 = .ok (.getfield 98, 3) := by decide +kernel
theorem dX12_settler_166 : decode cX12_settler 166 = .ok (.iload 8, 2) := by decide +kernel
theorem dX12_settler_168 : decode cX12_settler 168 = .ok (.iload 7, 2) := by decide +kernel
theorem dX12_settler_170 : decode cX12_settler 170 = .ok (.iastore, 1) := by decide +kernel
theorem dX12_settler_171 : decode cX12_settler 171 = .ok (.aload_n 0, 1) := by decide +kernel
theorem dX12_settler_172 : decode cX12_settler 172 = .ok (.getfield 101, 3) := by decide +kernel
theorem dX12_settler_175 : decode cX12_settler 175 = .ok (.iload 8, 2) := by decide +kernel
theorem dX12_settler_177 : decode cX12_settler 177 = .ok (.iconst (-1), 1) := by decide +kernel
theorem dX12_settler_178 : decode cX12_settler 178 = .ok (.iastore, 1) := by decide +kernel
theorem dX12_settler_179 : decode cX12_settler 179 = .ok (.iload 8, 2) := by decide +kernel
theorem dX12_settler_181 : decode cX12_settler 181 = .ok (.ireturn, 1) := by decide +kernel
theorem dX12_sumLand_0 : decode cX12_sumLand 0 = .ok (.iconst 0, 1) := by decide +kernel
theorem dX12_sumLand_1 : decode cX12_sumLand 1 = .ok (.istore_n 2, 1) := by decide +kernel
theorem dX12_sumLand_2 : decode cX12_sumLand 2 = .ok (.iconst 0, 1) := by decide +kernel
theorem dX12_sumLand_3 : decode cX12_sumLand 3 = .ok (.istore_n 3, 1) := by decide +kernel
theorem dX12_sumLand_4 : decode cX12_sumLand 4 = .ok (.iload_n 3, 1) := by decide +kernel
theorem dX12_sumLand_5 : decode cX12_sumLand 5 = .ok (.bipush 96, 2) := by decide +kernel
theorem dX12_sumLand_7 : decode cX12_sumLand 7 = .ok (.if_icmp .ge 20, 3) := by decide +kernel
theorem dX12_sumLand_10 : decode cX12_sumLand 10 = .ok (.iload_n 2, 1) := by decide +kernel
theorem dX12_sumLand_11 : decode cX12_sumLand 11 = .ok (.aload_n 0, 1) := by decide +kernel
theorem dX12_sumLand_12 : decode cX12_sumLand 12 = .ok (.getfield 9, 3) := by decide +kernel
theorem dX12_sumLand_15 : decode cX12_sumLand 15 = .ok (.iload_n 1, 1) := by decide +kernel
theorem dX12_sumLand_16 : decode cX12_sumLand 16 = .ok (.iload_n 3, 1) := by decide +kernel
theorem dX12_sumLand_17 : decode cX12_sumLand 17 = .ok (.iadd, 1) := by decide +kernel
theorem dX12_sumLand_18 : decode cX12_sumLand 18 = .ok (.iaload, 1) := by decide +kernel
theorem dX12_sumLand_19 : decode cX12_sumLand 19 = .ok (.iadd, 1) := by decide +kernel
theorem dX12_sumLand_20 : decode cX12_sumLand 20 = .ok (.istore_n 2, 1) := by decide +kernel
theorem dX12_sumLand_21 : decode cX12_sumLand 21 = .ok (.iinc 3 1, 3) := by decide +kernel
theorem dX12_sumLand_24 : decode cX12_sumLand 24 = .ok (.goto (-20), 3) := by decide +kernel
theorem dX12_sumLand_27 : decode cX12_sumLand 27 = .ok (.iload_n 2, 1) := by decide +kernel
theorem dX12_sumLand_28 : decode cX12_sumLand 28 = .ok (.ireturn, 1) := by decide +kernel
theorem dX12_tide_0 : decode cX12_tide 0 = .ok (.aload_n 0, 1) := by decide +kernel
theorem dX12_tide_1 : decode cX12_tide 1 = .ok (.iconst 0, 1) := by decide +kernel
theorem dX12_tide_2 : decode cX12_tide 2 = .ok (.putfield 194, 3) := by decide +kernel
theorem dX12_tide_5 : decode cX12_tide 5 = .ok (.aload_n 0, 1) := by decide +kernel
theorem dX12_tide_6 : decode cX12_tide 6 = .ok (.iload_n 1, 1) := by decide +kernel
theorem dX12_tide_7 : decode cX12_tide 7 = .ok (.iconst 0, 1) := by decide +kernel
theorem dX12_tide_8 : decode cX12_tide 8 = .ok (.bipush 11, 2) := by decide +kernel
theorem dX12_tide_10 : decode cX12_tide 10 = .ok (.invokestatic 197, 3) := by decide +kernel
theorem dX12_tide_13 : decode cX12_tide 13 = .ok (.ifCond .eq 16, 3) := by decide +kernel
theorem dX12_tide_16 : decode cX12_tide 16 = .ok (.iload_n 2, 1) := by decide +kernel
theorem dX12_tide_17 : decode cX12_tide 17 = .ok (.sipush (-400), 3) := by decide +kernel
theorem dX12_tide_20 : decode cX12_tide 20 = .ok (.sipush 400, 3) := by decide +kernel
theorem dX12_tide_23 : decode cX12_tide 23 = .ok (.invokestatic 197, 3) := by decide +kernel
theorem dX12_tide_26 : decode cX12_tide 26 = .ok (.ifCond .ne 7, 3) := by decide +kernel
theorem dX12_tide_29 : decode cX12_tide 29 = .ok (.iconst 1, 1) := by decide +kernel
theorem dX12_tide_30 : decode cX12_tide 30 = .ok (.goto 4, 3) := by decide +kernel
theorem dX12_tide_33 : decode cX12_tide 33 = .ok (.iconst 0, 1) := by decide +kernel
theorem dX12_tide_34 : decode cX12_tide 34 = .ok (.iconst 1, 1) := by decide +kernel
theorem dX12_tide_35 : decode cX12_tide 35 = .ok (.invokevirtual 224, 3) := by decide +kernel
theorem dX12_tide_38 : decode cX12_tide 38 = .ok (.ifCond .eq 4, 3) := by decide +kernel
theorem dX12_tide_41 : decode cX12_tide 41 = .ok (.return_, 1) := by decide +kernel
theorem dX12_tide_42 : decode cX12_tide 42 = .ok (.aload_n 0, 1) := by decide +kernel
theorem dX12_tide_43 : decode cX12_tide 43 = .ok (.getfield 9, 3) := by decide +kernel
theorem dX12_tide_46 : decode cX12_tide 46 = .ok (.sipush 1430, 3) := by decide +kernel
theorem dX12_tide_49 : decode cX12_tide 49 = .ok (.iload_n 1, 1) := by decide +kernel
theorem dX12_tide_50 : decode cX12_tide 50 = .ok (.iadd, 1) := by decide +kernel
theorem dX12_tide_51 : decode cX12_tide 51 = .ok (.iload_n 2, 1) := by decide +kernel
theorem dX12_tide_52 : decode cX12_tide 52 = .ok (.iastore, 1) := by decide +kernel
theorem dX12_tide_53 : decode cX12_tide 53 = .ok (.aload_n 0, 1) := by decide +kernel
theorem dX12_tide_54 : decode cX12_tide 54 = .ok (.iconst 0, 1) := by decide +kernel
theorem dX12_tide_55 : decode cX12_tide 55 = .ok (.putfield 238, 3) := by decide +kernel
theorem dX12_tide_58 : decode cX12_tide 58 = .ok (.return_, 1) := by decide +kernel
theorem dX12_weather_0 : decode cX12_weather 0 = .ok (.aload_n 0, 1) := by decide +kernel
theorem dX12_weather_1 : decode cX12_weather 1 = .ok (.iconst 0, 1) := by decide +kernel
theorem dX12_weather_2 : decode cX12_weather 2 = .ok (.putfield 194, 3) := by decide +kernel
theorem dX12_weather_5 : decode cX12_weather 5 = .ok (.aload_n 0, 1) := by decide +kernel
theorem dX12_weather_6 : decode cX12_weather 6 = .ok (.iload_n 2, 1) := by decide +kernel
theorem dX12_weather_7 : decode cX12_weather 7 = .ok (.iconst 0, 1) := by decide +kernel
theorem dX12_weather_8 : decode cX12_weather 8 = .ok (.ldc 242, 2) := by decide +kernel
theorem dX12_weather_10 : decode cX12_weather 10 = .ok (.invokestatic 197, 3) := by decide +kernel
theorem dX12_weather_13 : decode cX12_weather 13 = .ok (.ifCond .eq 30, 3) := by decide +kernel
theorem dX12_weather_16 : decode cX12_weather 16 = .ok (.iload_n 1, 1) := by decide +kernel
theorem dX12_weather_17 : decode cX12_weather 17 = .ok (.ifCond .eq 16, 3) := by decide +kernel
theorem dX12_weather_20 : decode cX12_weather 20 = .ok (.iload_n 3, 1) := by decide +kernel
theorem dX12_weather_21 : decode cX12_weather 21 = .ok (.iconst 0, 1) := by decide +kernel
theorem dX12_weather_22 : decode cX12_weather 22 = .ok (.bipush 20, 2) := by decide +kernel
theorem dX12_weather_24 : decode cX12_weather 24 = .ok (.invokestatic 197, 3) := by decide +kernel
theorem dX12_weather_27 : decode cX12_weather 27 = .ok (.ifCond .ne 20, 3) := by decide +kernel
theorem dX12_weather_30 : decode cX12_weather 30 = .ok (.goto 13, 3) := by decide +kernel
theorem dX12_weather_33 : decode cX12_weather 33 = .ok (.iload_n 3, 1) := by decide +kernel
theorem dX12_weather_34 : decode cX12_weather 34 = .ok (.iconst (-1), 1) := by decide +kernel
theorem dX12_weather_35 : decode cX12_weather 35 = .ok (.bipush 9, 2) := by decide +kernel
theorem dX12_weather_37 : decode cX12_weather 37 = .ok (.invokestatic 197, 3) := by decide +kernel
theorem dX12_weather_40 : decode cX12_weather 40 = .ok (.ifCond .ne 7, 3) := by decide +kernel
theorem dX12_weather_43 : decode cX12_weather 43 = .ok (.iconst 1, 1) := by decide +kernel
theorem dX12_weather_44 : decode cX12_weather 44 = .ok (.goto 4, 3) := by decide +kernel
theorem dX12_weather_47 : decode cX12_weather 47 = .ok (.iconst 0, 1) := by decide +kernel
theorem dX12_weather_48 : decode cX12_weather 48 = .ok (.iconst 1, 1) := by decide +kernel
theorem dX12_weather_49 : decode cX12_weather 49 = .ok (.invokevirtual 224, 3) := by decide +kernel
theorem dX12_weather_52 : decode cX12_weather 52 = .ok (.ifCond .eq 5, 3) := by decide +kernel
theorem dX12_weather_55 : decode cX12_weather 55 = .ok (.iconst 0, 1) := by decide +kernel
theorem dX12_weather_56 : decode cX12_weather 56 = .ok (.ireturn, 1) := by decide +kernel
theorem dX12_weather_57 : decode cX12_weather 57 = .ok (.iload_n 1, 1) := by decide +kernel
theorem dX12_weather_58 : decode cX12_weather 58 = .ok (.ifCond .eq 9, 3) := by decide +kernel
theorem dX12_weather_61 : decode cX12_weather 61 = .ok (.sipush 1624, 3) := by decide +kernel
theorem dX12_weather_64 : decode cX12_weather 64 = .ok (.goto 6, 3) := by decide +kernel
theorem dX12_weather_67 : decode cX12_weather 67 = .ok (.sipush 1503, 3) := by decide +kernel
theorem dX12_weather_70 : decode cX12_weather 70 = .ok (.istore 4, 2) := by decide +kernel
theorem dX12_weather_72 : decode cX12_weather 72 = .ok (.iload_n 1, 1) := by decide +kernel
theorem dX12_weather_73 : decode cX12_weather 73 = .ok (.ifCond .eq 9, 3) := by decide +kernel
theorem dX12_weather_76 : decode cX12_weather 76 = .ok (.sipush 1625, 3) := by decide +kernel
theorem dX12_weather_79 : decode cX12_weather 79 = .ok (.goto 6, 3) := by decide +kernel
theorem dX12_weather_82 : decode cX12_weather 82 = .ok (.sipush 1504, 3) := by decide +kernel
theorem dX12_weather_85 : decode cX12_weather 85 = .ok (.iconst 2, 1) := by decide +kernel
theorem dX12_weather_86 : decode cX12_weather 86 = .ok (.aload_n 0, 1) := by decide +kernel
theorem dX12_weather_87 : decode cX12_weather 87 = .ok (.getfield 9, 3) := by decide +kernel
theorem dX12_weather_90 : decode cX12_weather 90 = .ok (.iload 4, 2) := by decide +kernel
theorem dX12_weather_92 : decode cX12_weather 92 = .ok (.iaload, 1) := by decide +kernel
theorem dX12_weather_93 : decode cX12_weather 93 = .ok (.imul, 1) := by decide +kernel
theorem dX12_weather_94 : decode cX12_weather 94 = .ok (.iadd, 1) := by decide +kernel
theorem dX12_weather_95 : decode cX12_weather 95 = .ok (.istore 5, 2) := by decide +kernel
theorem dX12_weather_97 : decode cX12_weather 97 = .ok (.aload_n 0, 1) := by decide +kernel
theorem dX12_weather_98 : decode cX12_weather 98 = .ok (.getfield 9, 3) := by decide +kernel
theorem dX12_weather_101 : decode cX12_weather 101 = .ok (.iload 4, 2) := by decide +kernel
theorem dX12_weather_103 : decode cX12_weather 103 = .ok (.iaload, 1) := by decide +kernel
theorem dX12_weather_104 : decode cX12_weather 104 = .ok (.bipush 60, 2) := by decide +kernel
theorem dX12_weather_106 : decode cX12_weather 106 = .ok (.if_icmp .ne 5, 3) := by decide +kernel
theorem dX12_weather_109 : decode cX12_weather 109 = .ok (.iconst (-1), 1) := by decide +kernel
theorem dX12_weather_110 : decode cX12_weather 110 = .ok (.ireturn, 1) := by decide +kernel
theorem dX12_weather_111 : decode cX12_weather 111 = .ok (.aload_n 0, 1) := by decide +kernel
theorem dX12_weather_112 : decode cX12_weather 112 = .ok (.getfield 9, 3) := by decide +kernel
theorem dX12_weather_115 : decode cX12_weather 115 = .ok (.iload 5, 2) := by decide +kernel
theorem dX12_weather_117 : decode cX12_weather 117 = .ok (.iload_n 2, 1) := by decide +kernel
theorem dX12_weather_118 : decode cX12_weather 118 = .ok (.iastore, 1) := by decide +kernel
theorem dX12_weather_119 : decode cX12_weather 119 = .ok (.aload_n 0, 1) := by decide +kernel
theorem dX12_weather_120 : decode cX12_weather 120 = .ok (.getfield 9, 3) := by decide +kernel
theorem dX12_weather_123 : decode cX12_weather 123 = .ok (.iload 5, 2) := by decide +kernel
theorem dX12_weather_125 : decode cX12_weather 125 = .ok (.iconst 1, 1) := by decide +kernel
theorem dX12_weather_126 : decode cX12_weather 126 = .ok (.iadd, 1) := by decide +kernel
theorem dX12_weather_127 : decode cX12_weather 127 = .ok (.iload_n 3, 1) := by decide +kernel
theorem dX12_weather_128 : decode cX12_weather 128 = .ok (.iastore, 1) := by decide +kernel
theorem dX12_weather_129 : decode cX12_weather 129 = .ok (.aload_n 0, 1) := by decide +kernel
theorem dX12_weather_130 : decode cX12_weather 130 = .ok (.getfield 9, 3) := by decide +kernel
theorem dX12_weather_133 : decode cX12_weather 133 = .ok (.iload 4, 2) := by decide +kernel
theorem dX12_weather_135 : decode cX12_weather 135 = .ok (.dup2, 1) := by decide +kernel
theorem dX12_weather_136 : decode cX12_weather 136 = .ok (.iaload, 1) := by decide +kernel
theorem dX12_weather_137 : decode cX12_weather 137 = .ok (.iconst 1, 1) := by decide +kernel
theorem dX12_weather_138 : decode cX12_weather 138 = .ok (.iadd, 1) := by decide +kernel
theorem dX12_weather_139 : decode cX12_weather 139 = .ok (.iastore, 1) := by decide +kernel
theorem dX12_weather_140 : decode cX12_weather 140 = .ok (.aload_n 0, 1) := by decide +kernel
theorem dX12_weather_141 : decode cX12_weather 141 = .ok (.iconst 0, 1) := by decide +kernel
theorem dX12_weather_142 : decode cX12_weather 142 = .ok (.putfield 238, 3) := by decide +kernel
theorem dX12_weather_145 : decode cX12_weather 145 = .ok (.aload_n 0, 1) := by decide +kernel
theorem dX12_weather_146 : decode cX12_weather 146 = .ok (.getfield 9, 3) := by decide +kernel
theorem dX12_weather_149 : decode cX12_weather 149 = .ok (.iload 4, 2) := by decide +kernel
theorem dX12_weather_151 : decode cX12_weather 151 = .ok (.iaload, 1) := by decide +kernel
theorem dX12_weather_152 : decode cX12_weather 152 = .ok (.ireturn, 1) := by decide +kernel
