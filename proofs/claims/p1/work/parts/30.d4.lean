theorem dX12_hour_0 : decode cX12_hour 0 = .ok (.aload_n 0, 1) := by decide +kernel
theorem dX12_hour_1 : decode cX12_hour 1 = .ok (.getfield 9, 3) := by decide +kernel
theorem dX12_hour_4 : decode cX12_hour 4 = .ok (.sipush 1429, 3) := by decide +kernel
theorem dX12_hour_7 : decode cX12_hour 7 = .ok (.iaload, 1) := by decide +kernel
theorem dX12_hour_8 : decode cX12_hour 8 = .ok (.ireturn, 1) := by decide +kernel
theorem dX12_isLand_0 : decode cX12_isLand 0 = .ok (.aload_n 0, 1) := by decide +kernel
theorem dX12_isLand_1 : decode cX12_isLand 1 = .ok (.getfield 9, 3) := by decide +kernel
theorem dX12_isLand_4 : decode cX12_isLand 4 = .ok (.iconst 0, 1) := by decide +kernel
theorem dX12_isLand_5 : decode cX12_isLand 5 = .ok (.iload_n 1, 1) := by decide +kernel
theorem dX12_isLand_6 : decode cX12_isLand 6 = .ok (.iadd, 1) := by decide +kernel
theorem dX12_isLand_7 : decode cX12_isLand 7 = .ok (.iaload, 1) := by decide +kernel
theorem dX12_isLand_8 : decode cX12_isLand 8 = .ok (.iconst 1, 1) := by decide +kernel
theorem dX12_isLand_9 : decode cX12_isLand 9 = .ok (.if_icmp .ne 7, 3) := by decide +kernel
theorem dX12_isLand_12 : decode cX12_isLand 12 = .ok (.iconst 1, 1) := by decide +kernel
theorem dX12_isLand_13 : decode cX12_isLand 13 = .ok (.goto 4, 3) := by decide +kernel
theorem dX12_isLand_16 : decode cX12_isLand 16 = .ok (.iconst 0, 1) := by decide +kernel
theorem dX12_isLand_17 : decode cX12_isLand 17 = .ok (.ireturn, 1) := by decide +kernel
theorem dX12_noWork_0 : decode cX12_noWork 0 = .ok (.iload_n 1, 1) := by decide +kernel
theorem dX12_noWork_1 : decode cX12_noWork 1 = .ok (.iconst 0, 1) := by decide +kernel
theorem dX12_noWork_2 : decode cX12_noWork 2 = .ok (.aload_n 0, 1) := by decide +kernel
theorem dX12_noWork_3 : decode cX12_noWork 3 = .ok (.getfield 9, 3) := by decide +kernel
theorem dX12_noWork_6 : decode cX12_noWork 6 = .ok (.sipush 1428, 3) := by decide +kernel
theorem dX12_noWork_9 : decode cX12_noWork 9 = .ok (.iaload, 1) := by decide +kernel
theorem dX12_noWork_10 : decode cX12_noWork 10 = .ok (.iconst 1, 1) := by decide +kernel
theorem dX12_noWork_11 : decode cX12_noWork 11 = .ok (.isub, 1) := by decide +kernel
theorem dX12_noWork_12 : decode cX12_noWork 12 = .ok (.invokestatic 197, 3) := by decide +kernel
theorem dX12_noWork_15 : decode cX12_noWork 15 = .ok (.ifCond .ne 7, 3) := by decide +kernel
theorem dX12_noWork_18 : decode cX12_noWork 18 = .ok (.iconst 1, 1) := by decide +kernel
theorem dX12_noWork_19 : decode cX12_noWork 19 = .ok (.goto 4, 3) := by decide +kernel
theorem dX12_noWork_22 : decode cX12_noWork 22 = .ok (.iconst 0, 1) := by decide +kernel
theorem dX12_noWork_23 : decode cX12_noWork 23 = .ok (.ireturn, 1) := by decide +kernel
theorem dX12_nobody_0 : decode cX12_nobody 0 = .ok (.iload_n 1, 1) := by decide +kernel
theorem dX12_nobody_1 : decode cX12_nobody 1 = .ok (.iconst 0, 1) := by decide +kernel
theorem dX12_nobody_2 : decode cX12_nobody 2 = .ok (.aload_n 0, 1) := by decide +kernel
theorem dX12_nobody_3 : decode cX12_nobody 3 = .ok (.getfield 495, 3) := by decide +kernel
theorem dX12_nobody_6 : decode cX12_nobody 6 = .ok (.iconst 1, 1) := by decide +kernel
theorem dX12_nobody_7 : decode cX12_nobody 7 = .ok (.isub, 1) := by decide +kernel
theorem dX12_nobody_8 : decode cX12_nobody 8 = .ok (.invokestatic 197, 3) := by decide +kernel
theorem dX12_nobody_11 : decode cX12_nobody 11 = .ok (.ifCond .ne 7, 3) := by decide +kernel
theorem dX12_nobody_14 : decode cX12_nobody 14 = .ok (.iconst 1, 1) := by decide +kernel
theorem dX12_nobody_15 : decode cX12_nobody 15 = .ok (.goto 4, 3) := by decide +kernel
theorem dX12_nobody_18 : decode cX12_nobody 18 = .ok (.iconst 0, 1) := by decide +kernel
theorem dX12_nobody_19 : decode cX12_nobody 19 = .ok (.ireturn, 1) := by decide +kernel
theorem dX12_noFarm_0 : decode cX12_noFarm 0 = .ok (.iload_n 1, 1) := by decide +kernel
theorem dX12_noFarm_1 : decode cX12_noFarm 1 = .ok (.iconst 0, 1) := by decide +kernel
theorem dX12_noFarm_2 : decode cX12_noFarm 2 = .ok (.aload_n 0, 1) := by decide +kernel
theorem dX12_noFarm_3 : decode cX12_noFarm 3 = .ok (.getfield 498, 3) := by decide +kernel
theorem dX12_noFarm_6 : decode cX12_noFarm 6 = .ok (.iconst 1, 1) := by decide +kernel
theorem dX12_noFarm_7 : decode cX12_noFarm 7 = .ok (.isub, 1) := by decide +kernel
theorem dX12_noFarm_8 : decode cX12_noFarm 8 = .ok (.invokestatic 197, 3) := by decide +kernel
theorem dX12_noFarm_11 : decode cX12_noFarm 11 = .ok (.ifCond .ne 7, 3) := by decide +kernel
theorem dX12_noFarm_14 : decode cX12_noFarm 14 = .ok (.iconst 1, 1) := by decide +kernel
theorem dX12_noFarm_15 : decode cX12_noFarm 15 = .ok (.goto 4, 3) := by decide +kernel
theorem dX12_noFarm_18 : decode cX12_noFarm 18 = .ok (.iconst 0, 1) := by decide +kernel
theorem dX12_noFarm_19 : decode cX12_noFarm 19 = .ok (.ireturn, 1) := by decide +kernel
theorem dX12_noContract_0 : decode cX12_noContract 0 = .ok (.iload_n 1, 1) := by decide +kernel
theorem dX12_noContract_1 : decode cX12_noContract 1 = .ok (.iconst 0, 1) := by decide +kernel
theorem dX12_noContract_2 : decode cX12_noContract 2 = .ok (.aload_n 0, 1) := by decide +kernel
theorem dX12_noContract_3 : decode cX12_noContract 3 = .ok (.getfield 533, 3) := by decide +kernel
theorem dX12_noContract_6 : decode cX12_noContract 6 = .ok (.iconst 1, 1) := by decide +kernel
theorem dX12_noContract_7 : decode cX12_noContract 7 = .ok (.isub, 1) := by decide +kernel
theorem dX12_noContract_8 : decode cX12_noContract 8 = .ok (.invokestatic 197, 3) := by decide +kernel
theorem dX12_noContract_11 : decode cX12_noContract 11 = .ok (.ifCond .ne 7, 3) := by decide +kernel
theorem dX12_noContract_14 : decode cX12_noContract 14 = .ok (.iconst 1, 1) := by decide +kernel
theorem dX12_noContract_15 : decode cX12_noContract 15 = .ok (.goto 4, 3) := by decide +kernel
theorem dX12_noContract_18 : decode cX12_noContract 18 = .ok (.iconst 0, 1) := by decide +kernel
theorem dX12_noContract_19 : decode cX12_noContract 19 = .ok (.ireturn, 1) := by decide +kernel
theorem dX12_telling_0 : decode cX12_telling 0 = .ok (.iconst (-1), 1) := by decide +kernel
theorem dX12_telling_1 : decode cX12_telling 1 = .ok (.istore 4, 2) := by decide +kernel
theorem dX12_telling_3 : decode cX12_telling 3 = .ok (.iload_n 2, 1) := by decide +kernel
theorem dX12_telling_4 : decode cX12_telling 4 = .ok (.istore 5, 2) := by decide +kernel
theorem dX12_telling_6 : decode cX12_telling 6 = .ok (.iload 5, 2) := by decide +kernel
theorem dX12_telling_8 : decode cX12_telling 8 = .ok (.iload_n 2, 1) := by decide +kernel
theorem dX12_telling_9 : decode cX12_telling 9 = .ok (.iconst 2, 1) := by decide +kernel
theorem dX12_telling_10 : decode cX12_telling 10 = .ok (.aload_n 0, 1) := by decide +kernel
theorem dX12_telling_11 : decode cX12_telling 11 = .ok (.getfield 9, 3) := by decide +kernel
theorem dX12_telling_14 : decode cX12_telling 14 = .ok (.iload_n 1, 1) := by decide +kernel
theorem dX12_telling_15 : decode cX12_telling 15 = .ok (.iaload, 1) := by decide +kernel
theorem dX12_telling_16 : decode cX12_telling 16 = .ok (.imul, 1) := by decide +kernel
theorem dX12_telling_17 : decode cX12_telling 17 = .ok (.iadd, 1) := by decide +kernel
theorem dX12_telling_18 : decode cX12_telling 18 = .ok (.if_icmp .ge 46, 3) := by decide +kernel
theorem dX12_telling_21 : decode cX12_telling 21 = .ok (.aload_n 0, 1) := by decide +kernel
theorem dX12_telling_22 : decode cX12_telling 22 = .ok (.getfield 9, 3) := by decide +kernel
theorem dX12_telling_25 : decode cX12_telling 25 = .ok (.iload 5, 2) := by decide +kernel
theorem dX12_telling_27 : decode cX12_telling 27 = .ok (.iaload, 1) := by decide +kernel
theorem dX12_telling_28 : decode cX12_telling 28 = .ok (.iload_n 3, 1) := by decide +kernel
theorem dX12_telling_29 : decode cX12_telling 29 = .ok (.if_icmp .gt 29, 3) := by decide +kernel
theorem dX12_telling_32 : decode cX12_telling 32 = .ok (.iload 4, 2) := by decide +kernel
theorem dX12_telling_34 : decode cX12_telling 34 = .ok (.ifCond .lt 20, 3) := by decide +kernel
theorem dX12_telling_37 : decode cX12_telling 37 = .ok (.aload_n 0, 1) := by decide +kernel
theorem dX12_telling_38 : decode cX12_telling 38 = .ok (.getfield 9, 3) := by decide +kernel
theorem dX12_telling_41 : decode cX12_telling 41 = .ok (.iload 5, 2) := by decide +kernel
theorem dX12_telling_43 : decode cX12_telling 43 = .ok (.iaload, 1) := by decide +kernel
theorem dX12_telling_44 : decode cX12_telling 44 = .ok (.aload_n 0, 1) := by decide +kernel
theorem dX12_telling_45 : decode cX12_telling 45 = .ok (.getfield 9, 3) := by decide +kernel
theorem dX12_telling_48 : decode cX12_telling 48 = .ok (.iload 4, 2) := by decide +kernel
theorem dX12_telling_50 : decode cX12_telling 50 = .ok (.iaload, 1) := by decide +kernel
theorem dX12_telling_51 : decode cX12_telling 51 = .ok (.if_icmp .lt 7, 3) := by decide +kernel
theorem dX12_telling_54 : decode cX12_telling 54 = .ok (.iload 5, 2) := by decide +kernel
theorem dX12_telling_56 : decode cX12_telling 56 = .ok (.istore 4, 2) := by decide +kernel
theorem dX12_telling_58 : decode cX12_telling 58 = .ok (.iinc 5 2, 3) := by decide +kernel
theorem dX12_telling_61 : decode cX12_telling 61 = .ok (.goto (-55), 3) := by decide +kernel
theorem dX12_telling_64 : decode cX12_telling 64 = .ok (.iload 4, 2) := by decide +kernel
theorem dX12_telling_66 : decode cX12_telling 66 = .ok (.ireturn, 1) := by decide +kernel
theorem dX12_wind_0 : decode cX12_wind 0 = .ok (.aload_n 0, 1) := by decide +kernel
theorem dX12_wind_1 : decode cX12_wind 1 = .ok (.sipush 1503, 3) := by decide +kernel
theorem dX12_wind_4 : decode cX12_wind 4 = .ok (.sipush 1504, 3) := by decide +kernel
theorem dX12_wind_7 : decode cX12_wind 7 = .ok (.iload_n 1, 1) := by decide +kernel
theorem dX12_wind_8 : decode cX12_wind 8 = .ok (.invokevirtual 243, 3) := by decide +kernel
theorem dX12_wind_11 : decode cX12_wind 11 = .ok (.istore_n 2, 1) := by decide +kernel
theorem dX12_wind_12 : decode cX12_wind 12 = .ok (.iload_n 2, 1) := by decide +kernel
theorem dX12_wind_13 : decode cX12_wind 13 = .ok (.ifCond .ge 5, 3) := by decide +kernel
theorem dX12_wind_16 : decode cX12_wind 16 = .ok (.iconst 0, 1) := by decide +kernel
theorem dX12_wind_17 : decode cX12_wind 17 = .ok (.ireturn, 1) := by decide +kernel
theorem dX12_wind_18 : decode cX12_wind 18 = .ok (.aload_n 0, 1) := by decide +kernel
theorem dX12_wind_19 : decode cX12_wind 19 = .ok (.getfield 9, 3) := by decide +kernel
theorem dX12_wind_22 : decode cX12_wind 22 = .ok (.iload_n 2, 1) := by decide +kernel
theorem dX12_wind_23 : decode cX12_wind 23 = .ok (.iconst 1, 1) := by decide +kernel
theorem dX12_wind_24 : decode cX12_wind 24 = .ok (.iadd, 1) := by decide +kernel
theorem dX12_wind_25 : decode cX12_wind 25 = .ok (.iaload, 1) := by decide +kernel
theorem dX12_wind_26 : decode cX12_wind 26 = .ok (.ifCond .lt 12, 3) := by decide +kernel
theorem dX12_wind_29 : decode cX12_wind 29 = .ok (.aload_n 0, 1) := by decide +kernel
theorem dX12_wind_30 : decode cX12_wind 30 = .ok (.getfield 9, 3) := by decide +kernel
theorem dX12_wind_33 : decode cX12_wind 33 = .ok (.iload_n 2, 1) := by decide +kernel
theorem dX12_wind_34 : decode cX12_wind 34 = .ok (.iconst 1, 1) := by decide +kernel
theorem dX12_wind_35 : decode cX12_wind 35 = .ok (.iadd, 1) := by decide +kernel
theorem dX12_wind_36 : decode cX12_wind 36 = .ok (.iaload, 1) := by decide +kernel
theorem dX12_wind_37 : decode cX12_wind 37 = .ok (.ireturn, 1) := by decide +kernel
theorem dX12_wind_38 : decode cX12_wind 38 = .ok (.aload_n 0, 1) := by decide +kernel
theorem dX12_wind_39 : decode cX12_wind 39 = .ok (.getfield 9, 3) := by decide +kernel
theorem dX12_wind_42 : decode cX12_wind 42 = .ok (.iload_n 2, 1) := by decide +kernel
theorem dX12_wind_43 : decode cX12_wind 43 = .ok (.iaload, 1) := by decide +kernel
theorem dX12_wind_44 : decode cX12_wind 44 = .ok (.istore_n 3, 1) := by decide +kernel
theorem dX12_wind_45 : decode cX12_wind 45 = .ok (.iconst (-1), 1) := by decide +kernel
theorem dX12_wind_46 : decode cX12_wind 46 = .ok (.istore 4, 2) := by decide +kernel
theorem dX12_wind_48 : decode cX12_wind 48 = .ok (.iconst (-1), 1) := by decide +kernel
theorem dX12_wind_49 : decode cX12_wind 49 = .ok (.istore 5, 2) := by decide +kernel
theorem dX12_wind_51 : decode cX12_wind 51 = .ok (.sipush 1504, 3) := by decide +kernel
theorem dX12_wind_54 : decode cX12_wind 54 = .ok (.istore 6, 2) := by decide +kernel
theorem dX12_wind_56 : decode cX12_wind 56 = .ok (.iload 6, 2) := by decide +kernel
theorem dX12_wind_58 : decode cX12_wind 58 = .ok (.sipush 1504, 3) := by decide +kernel
theorem dX12_wind_61 : decode cX12_wind 61 = .ok (.iconst 2, 1) := by decide +kernel
theorem dX12_wind_62 : decode cX12_wind 62 = .ok (.aload_n 0, 1) := by decide +kernel
theorem dX12_wind_63 : decode cX12_wind 63 = .ok (.getfield 9, 3) := by decide +kernel
theorem dX12_wind_66 : decode cX12_wind 66 = .ok (.sipush 1503, 3) := by decide +kernel
theorem dX12_wind_69 : decode cX12_wind 69 = .ok (.iaload, 1) := by decide +kernel
theorem dX12_wind_70 : decode cX12_wind 70 = .ok (.imul, 1) := by decide +kernel
theorem dX12_wind_71 : decode cX12_wind 71 = .ok (.iadd, 1) := by decide +kernel
theorem dX12_wind_72 : decode cX12_wind 72 = .ok (.if_icmp .ge 120, 3) := by decide +kernel
theorem dX12_wind_75 : decode cX12_wind 75 = .ok (.aload_n 0, 1) := by decide +kernel
theorem dX12_wind_76 : decode cX12_wind 76 = .ok (.getfield 9, 3) := by decide +kernel
theorem dX12_wind_79 : decode cX12_wind 79 = .ok (.iload 6, 2) := by decide +kernel
theorem dX12_wind_81 : decode cX12_wind 81 = .ok (.iconst 1, 1) := by decide +kernel
theorem dX12_wind_82 : decode cX12_wind 82 = .ok (.iadd, 1) := by decide +kernel
theorem dX12_wind_83 : decode cX12_wind 83 = .ok (.iaload, 1) := by decide +kernel
theorem dX12_wind_84 : decode cX12_wind 84 = .ok (.ifCond .lt 102, 3) := by decide +kernel
theorem dX12_wind_87 : decode cX12_wind 87 = .ok (.aload_n 0, 1) := by decide +kernel
theorem dX12_wind_88 : decode cX12_wind 88 = .ok (.sipush 1503, 3) := by decide +kernel
theorem dX12_wind_91 : decode cX12_wind 91 = .ok (.sipush 1504, 3) := by decide +kernel
theorem dX12_wind_94 : decode cX12_wind 94 = .ok (.aload_n 0, 1) := by decide +kernel
theorem dX12_wind_95 : decode cX12_wind 95 = .ok (.getfield 9, 3) := by decide +kernel
theorem dX12_wind_98 : decode cX12_wind 98 = .ok (.iload 6, 2) := by decide +kernel
theorem dX12_wind_100 : decode cX12_wind 100 = .ok (.iaload, 1) := by decide +kernel
theorem dX12_wind_101 : decode cX12_wind 101 = .ok (.invokevirtual 243, 3) := by decide +kernel
theorem dX12_wind_104 : decode cX12_wind 104 = .ok (.iload 6, 2) := by decide +kernel
theorem dX12_wind_106 : decode cX12_wind 106 = .ok (.if_icmp .eq 6, 3) := by decide +kernel
theorem dX12_wind_109 : decode cX12_wind 109 = .ok (.goto 77, 3) := by decide +kernel
theorem dX12_wind_112 : decode cX12_wind 112 = .ok (.aload_n 0, 1) := by decide +kernel
theorem dX12_wind_113 : decode cX12_wind 113 = .ok (.getfield 9, 3) := by decide +kernel
theorem dX12_wind_116 : decode cX12_wind 116 = .ok (.iload 6, 2) := by decide +kernel
theorem dX12_wind_118 : decode cX12_wind 118 = .ok (.iaload, 1) := by decide +kernel
theorem dX12_wind_119 : decode cX12_wind 119 = .ok (.iload_n 3, 1) := by decide +kernel
theorem dX12_wind_120 : decode cX12_wind 120 = .ok (.if_icmp .ge 29, 3) := by decide +kernel
theorem dX12_wind_123 : decode cX12_wind 123 = .ok (.iload 4, 2) := by decide +kernel
theorem dX12_wind_125 : decode cX12_wind 125 = .ok (.ifCond .lt 20, 3) := by decide +kernel
theorem dX12_wind_128 : decode cX12_wind 128 = .ok (.aload_n 0, 1) := by decide +kernel
theorem dX12_wind_129 : decode cX12_wind 129 = .ok (.getfield 9, 3) := by decide +kernel
theorem dX12_wind_132 : decode cX12_wind 132 = .ok (.iload 6, 2) := by decide +kernel
theorem dX12_wind_134 : decode cX12_wind 134 = .ok (.iaload, 1) := by decide +kernel
theorem dX12_wind_135 : decode cX12_wind 135 = .ok (.aload_n 0, 1) := by decide +kernel
theorem dX12_wind_136 : decode cX12_wind 136 = .ok (.getfield 9, 3) := by decide +kernel
theorem dX12_wind_139 : decode cX12_wind 139 = .ok (.iload 4, 2) := by decide +kernel
theorem dX12_wind_141 : decode cX12_wind 141 = .ok (.iaload, 1) := by decide +kernel
theorem dX12_wind_142 : decode cX12_wind 142 = .ok (.if_icmp .le 7, 3) := by decide +kernel
theorem dX12_wind_145 : decode cX12_wind 145 = .ok (.iload 6, 2) := by decide +kernel
theorem dX12_wind_147 : decode cX12_wind 147 = .ok (.istore 4, 2) := by decide +kernel
theorem dX12_wind_149 : decode cX12_wind 149 = .ok (.aload_n 0, 1) := by decide +kernel
theorem dX12_wind_150 : decode cX12_wind 150 = .ok (.getfield 9, 3) := by decide +kernel
theorem dX12_wind_153 : decode cX12_wind 153 = .ok (.iload 6, 2) := by decide +kernel
theorem dX12_wind_155 : decode cX12_wind 155 = .ok (.iaload, 1) := by decide +kernel
theorem dX12_wind_156 : decode cX12_wind 156 = .ok (.iload_n 3, 1) := by decide +kernel
theorem dX12_wind_157 : decode cX12_wind 157 = .ok (.if_icmp .le 29, 3) := by decide +kernel
theorem dX12_wind_160 : decode cX12_wind 160 = .ok (.iload 5, 2) := by decide +kernel
theorem dX12_wind_162 : decode cX12_wind 162 = .ok (.ifCond .lt 20, 3) := by decide +kernel
theorem dX12_wind_165 : decode cX12_wind 165 = .ok (.aload_n 0, 1) := by decide +kernel
theorem dX12_wind_166 : decode cX12_wind 166 = .ok (.getfield 9, 3) := by decide +kernel
theorem dX12_wind_169 : decode cX12_wind 169 = .ok (.iload 6, 2) := by decide +kernel
theorem dX12_wind_171 : decode cX12_wind 171 = .ok (.iaload, 1) := by decide +kernel
theorem dX12_wind_172 : decode cX12_wind 172 = .ok (.aload_n 0, 1) := by decide +kernel
theorem dX12_wind_173 : decode cX12_wind 173 = .ok (.getfield 9, 3) := by decide +kernel
theorem dX12_wind_176 : decode cX12_wind 176 = .ok (.iload 5, 2) := by decide +kernel
theorem dX12_wind_178 : decode cX12_wind 178 = .ok (.iaload, 1) := by decide +kernel
theorem dX12_wind_179 : decode cX12_wind 179 = .ok (.if_icmp .ge 7, 3) := by decide +kernel
theorem dX12_wind_182 : decode cX12_wind 182 = .ok (.iload 6, 2) := by decide +kernel
theorem dX12_wind_184 : decode cX12_wind 184 = .ok (.istore 5, 2) := by decide +kernel
theorem dX12_wind_186 : decode cX12_wind 186 = .ok (.iinc 6 2, 3) := by decide +kernel
theorem dX12_wind_189 : decode cX12_wind 189 = .ok (.goto (-133), 3) := by decide +kernel
theorem dX12_wind_192 : decode cX12_wind 192 = .ok (.iload 4, 2) := by decide +kernel
theorem dX12_wind_194 : decode cX12_wind 194 = .ok (.ifCond .ge 7, 3) := by decide +kernel
theorem dX12_wind_197 : decode cX12_wind 197 = .ok (.iconst 0, 1) := by decide +kernel
theorem dX12_wind_198 : decode cX12_wind 198 = .ok (.goto 12, 3) := by decide +kernel
theorem dX12_wind_201 : decode cX12_wind 201 = .ok (.aload_n 0, 1) := by decide +kernel
theorem dX12_wind_202 : decode cX12_wind 202 = .ok (.getfield 9, 3) := by decide +kernel
theorem dX12_wind_205 : decode cX12_wind 205 = .ok (.iload 4, 2) := by decide +kernel
theorem dX12_wind_207 : decode cX12_wind 207 = .ok (.iconst 1, 1) := by decide +kernel
theorem dX12_wind_208 : decode cX12_wind 208 = .ok (.iadd, 1) := by decide +kernel
theorem dX12_wind_209 : decode cX12_wind 209 = .ok (.iaload, 1) := by decide +kernel
theorem dX12_wind_210 : decode cX12_wind 210 = .ok (.iload 5, 2) := by decide +kernel
theorem dX12_wind_212 : decode cX12_wind 212 = .ok (.ifCond .ge 7, 3) := by decide +kernel
theorem dX12_wind_215 : decode cX12_wind 215 = .ok (.iconst 0, 1) := by decide +kernel
theorem dX12_wind_216 : decode cX12_wind 216 = .ok (.goto 12, 3) := by decide +kernel
theorem dX12_wind_219 : decode cX12_wind 219 = .ok (.aload_n 0, 1) := by decide +kernel
theorem dX12_wind_220 : decode cX12_wind 220 = .ok (.getfield 9, 3) := by decide +kernel
theorem dX12_wind_223 : decode cX12_wind 223 = .ok (.iload 5, 2) := by decide +kernel
theorem dX12_wind_225 : decode cX12_wind 225 = .ok (.iconst 1, 1) := by decide +kernel
theorem dX12_wind_226 : decode cX12_wind 226 = .ok (.iadd, 1) := by decide +kernel
theorem dX12_wind_227 : decode cX12_wind 227 = .ok (.iaload, 1) := by decide +kernel
theorem dX12_wind_228 : decode cX12_wind 228 = .ok (.invokestatic 211, 3) := by decide +kernel
theorem dX12_wind_231 : decode cX12_wind 231 = .ok (.ireturn, 1) := by decide +kernel
theorem dX12_rain_0 : decode cX12_rain 0 = .ok (.aload_n 0, 1) := by decide +kernel
theorem dX12_rain_1 : decode cX12_rain 1 = .ok (.sipush 1624, 3) := by decide +kernel
theorem dX12_rain_4 : decode cX12_rain 4 = .ok (.sipush 1625, 3) := by decide +kernel
theorem dX12_rain_7 : decode cX12_rain 7 = .ok (.iload_n 1, 1) := by decide +kernel
theorem dX12_rain_8 : decode cX12_rain 8 = .ok (.invokevirtual 243, 3) := by decide +kernel
theorem dX12_rain_11 : decode cX12_rain 11 = .ok (.istore_n 2, 1) := by decide +kernel
theorem dX12_rain_12 : decode cX12_rain 12 = .ok (.iload_n 2, 1) := by decide +kernel
theorem dX12_rain_13 : decode cX12_rain 13 = .ok (.ifCond .ge 7, 3) := by decide +kernel
theorem dX12_rain_16 : decode cX12_rain 16 = .ok (.iconst 0, 1) := by decide +kernel
theorem dX12_rain_17 : decode cX12_rain 17 = .ok (.goto 11, 3) := by decide +kernel
theorem dX12_rain_20 : decode cX12_rain 20 = .ok (.aload_n 0, 1) := by decide +kernel
theorem dX12_rain_21 : decode cX12_rain 21 = .ok (.getfield 9, 3) := by decide +kernel
theorem dX12_rain_24 : decode cX12_rain 24 = .ok (.iload_n 2, 1) := by decide +kernel
theorem dX12_rain_25 : decode cX12_rain 25 = .ok (.iconst 1, 1) := by decide +kernel
theorem dX12_rain_26 : decode cX12_rain 26 = .ok (.iadd, 1) := by decide +kernel
theorem dX12_rain_27 : decode cX12_rain 27 = .ok (.iaload, 1) := by decide +kernel
theorem dX12_rain_28 : decode cX12_rain 28 = .ok (.ireturn, 1) := by decide +kernel
theorem dX12_outside_0 : decode cX12_outside 0 = .ok (.aload_n 0, 1) := by decide +kernel
theorem dX12_outside_1 : decode cX12_outside 1 = .ok (.getfield 9, 3) := by decide +kernel
theorem dX12_outside_4 : decode cX12_outside 4 = .ok (.sipush 1430, 3) := by decide +kernel
theorem dX12_outside_7 : decode cX12_outside 7 = .ok (.iload_n 1, 1) := by decide +kernel
theorem dX12_outside_8 : decode cX12_outside 8 = .ok (.bipush 12, 2) := by decide +kernel
theorem dX12_outside_10 : decode cX12_outside 10 = .ok (.irem, 1) := by decide +kernel
theorem dX12_outside_11 : decode cX12_outside 11 = .ok (.iadd, 1) := by decide +kernel
theorem dX12_outside_12 : decode cX12_outside 12 = .ok (.iaload, 1) := by decide +kernel
theorem dX12_outside_13 : decode cX12_outside 13 = .ok (.istore_n 2, 1) := by decide +kernel
theorem dX12_outside_14 : decode cX12_outside 14 = .ok (.sipush 1443, 3) := by decide +kernel
theorem dX12_outside_17 : decode cX12_outside 17 = .ok (.istore_n 3, 1) := by decide +kernel
theorem dX12_outside_18 : decode cX12_outside 18 = .ok (.iload_n 3, 1) := by decide +kernel
theorem dX12_outside_19 : decode cX12_outside 19 = .ok (.sipush 1443, 3) := by decide +kernel
theorem dX12_outside_22 : decode cX12_outside 22 = .ok (.iconst 3, 1) := by decide +kernel
theorem dX12_outside_23 : decode cX12_outside 23 = .ok (.aload_n 0, 1) := by decide +kernel
theorem dX12_outside_24 : decode cX12_outside 24 = .ok (.getfield 9, 3) := by decide +kernel
theorem dX12_outside_27 : decode cX12_outside 27 = .ok (.sipush 1442, 3) := by decide +kernel
theorem dX12_outside_30 : decode cX12_outside 30 = .ok (.iaload, 1) := by decide +kernel
theorem dX12_outside_31 : decode cX12_outside 31 = .ok (.imul, 1) := by decide +kernel
theorem dX12_outside_32 : decode cX12_outside 32 = .ok (.iadd, 1) := by decide +kernel
theorem dX12_outside_33 : decode cX12_outside 33 = .ok (.if_icmp .ge 45, 3) := by decide +kernel
theorem dX12_outside_36 : decode cX12_outside 36 = .ok (.iload_n 2, 1) := by decide +kernel
theorem dX12_outside_37 : decode cX12_outside 37 = .ok (.iload_n 1, 1) := by decide +kernel
theorem dX12_outside_38 : decode cX12_outside 38 = .ok (.aload_n 0, 1) := by decide +kernel
theorem dX12_outside_39 : decode cX12_outside 39 = .ok (.getfield 9, 3) := by decide +kernel
theorem dX12_outside_42 : decode cX12_outside 42 = .ok (.iload_n 3, 1) := by decide +kernel
theorem dX12_outside_43 : decode cX12_outside 43 = .ok (.iaload, 1) := by decide +kernel
theorem dX12_outside_44 : decode cX12_outside 44 = .ok (.aload_n 0, 1) := by decide +kernel
theorem dX12_outside_45 : decode cX12_outside 45 = .ok (.getfield 9, 3) := by decide +kernel
theorem dX12_outside_48 : decode cX12_outside 48 = .ok (.iload_n 3, 1) := by decide +kernel
theorem dX12_outside_49 : decode cX12_outside 49 = .ok (.iconst 1, 1) := by decide +kernel
theorem dX12_outside_50 : decode cX12_outside 50 = .ok (.iadd, 1) := by decide +kernel
theorem dX12_outside_51 : decode cX12_outside 51 = .ok (.iaload, 1) := by decide +kernel
theorem dX12_outside_52 : decode cX12_outside 52 = .ok (.invokestatic 197, 3) := by decide +kernel
theorem dX12_outside_55 : decode cX12_outside 55 = .ok (.ifCond .eq 14, 3) := by decide +kernel
theorem dX12_outside_58 : decode cX12_outside 58 = .ok (.aload_n 0, 1) := by decide +kernel
theorem dX12_outside_59 : decode cX12_outside 59 = .ok (.getfield 9, 3) := by decide +kernel
theorem dX12_outside_62 : decode cX12_outside 62 = .ok (.iload_n 3, 1) := by decide +kernel
theorem dX12_outside_63 : decode cX12_outside 63 = .ok (.iconst 2, 1) := by decide +kernel
theorem dX12_outside_64 : decode cX12_outside 64 = .ok (.iadd, 1) := by decide +kernel
theorem dX12_outside_65 : decode cX12_outside 65 = .ok (.iaload, 1) := by decide +kernel
theorem dX12_outside_66 : decode cX12_outside 66 = .ok (.goto 4, 3) := by decide +kernel
theorem dX12_outside_69 : decode cX12_outside 69 = .ok (.iconst 0, 1) := by decide +kernel
theorem dX12_outside_70 : decode cX12_outside 70 = .ok (.iadd, 1) := by decide +kernel
theorem dX12_outside_71 : decode cX12_outside 71 = .ok (.istore_n 2, 1) := by decide +kernel
theorem dX12_outside_72 : decode cX12_outside 72 = .ok (.iinc 3 3, 3) := by decide +kernel
theorem dX12_outside_75 : decode cX12_outside 75 = .ok (.goto (-57), 3) := by decide +kernel
theorem dX12_outside_78 : decode cX12_outside 78 = .ok (.iload_n 2, 1) := by decide +kernel
theorem dX12_outside_79 : decode cX12_outside 79 = .ok (.ireturn, 1) := by decide +kernel
theorem dX12_lastOf_0 : decode cX12_lastOf 0 = .ok (.iload_n 2, 1) := by decide +kernel
theorem dX12_lastOf_1 : decode cX12_lastOf 1 = .ok (.istore_n 3, 1) := by decide +kernel
theorem dX12_lastOf_2 : decode cX12_lastOf 2 = .ok (.iconst 0, 1) := by decide +kernel
theorem dX12_lastOf_3 : decode cX12_lastOf 3 = .ok (.istore 4, 2) := by decide +kernel
theorem dX12_lastOf_5 : decode cX12_lastOf 5 = .ok (.iload 4, 2) := by decide +kernel
theorem dX12_lastOf_7 : decode cX12_lastOf 7 = .ok (.aload_n 0, 1) := by decide +kernel
theorem dX12_lastOf_8 : decode cX12_lastOf 8 = .ok (.getfield 42, 3) := by decide +kernel
theorem dX12_lastOf_11 : decode cX12_lastOf 11 = .ok (.iconst 0, 1) := by decide +kernel
theorem dX12_lastOf_12 : decode cX12_lastOf 12 = .ok (.iaload, 1) := by decide +kernel
theorem dX12_lastOf_13 : decode cX12_lastOf 13 = .ok (.if_icmp .ge 28, 3) := by decide +kernel
theorem dX12_lastOf_16 : decode cX12_lastOf 16 = .ok (.aload_n 0, 1) := by decide +kernel
theorem dX12_lastOf_17 : decode cX12_lastOf 17 = .ok (.getfield 45, 3) := by decide +kernel
theorem dX12_lastOf_20 : decode cX12_lastOf 20 = .ok (.iload 4, 2) := by decide +kernel
theorem dX12_lastOf_22 : decode cX12_lastOf 22 = .ok (.iaload, 1) := by decide +kernel
theorem dX12_lastOf_23 : decode cX12_lastOf 23 = .ok (.iload_n 1, 1) := by decide +kernel
theorem dX12_lastOf_24 : decode cX12_lastOf 24 = .ok (.if_icmp .ne 11, 3) := by decide +kernel
theorem dX12_lastOf_27 : decode cX12_lastOf 27 = .ok (.aload_n 0, 1) := by decide +kernel
theorem dX12_lastOf_28 : decode cX12_lastOf 28 = .ok (.getfield 48, 3) := by decide +kernel
theorem dX12_lastOf_31 : decode cX12_lastOf 31 = .ok (.iload 4, 2) := by decide +kernel
theorem dX12_lastOf_33 : decode cX12_lastOf 33 = .ok (.iaload, 1) := by decide +kernel
theorem dX12_lastOf_34 : decode cX12_lastOf 34 = .ok (.istore_n 3, 1) := by decide +kernel
theorem dX12_lastOf_35 : decode cX12_lastOf 35 = .ok (.iinc 4 1, 3) := by decide +kernel
theorem dX12_lastOf_38 : decode cX12_lastOf 38 = .ok (.goto (-33), 3) := by decide +kernel
theorem dX12_lastOf_41 : decode cX12_lastOf 41 = .ok (.iload_n 3, 1) := by decide +kernel
theorem dX12_lastOf_42 : decode cX12_lastOf 42 = .ok (.ireturn, 1) := by decide +kernel
theorem dX12_mayBuildOn_0 : decode cX12_mayBuildOn 0 = .ok (.aload_n 0, 1) := by decide +kernel
theorem dX12_mayBuildOn_1 : decode cX12_mayBuildOn 1 = .ok (.bipush 9, 2) := by decide +kernel
theorem dX12_mayBuildOn_3 : decode cX12_mayBuildOn 3 = .ok (.iconst 0, 1) := by decide +kernel
theorem dX12_mayBuildOn_4 : decode cX12_mayBuildOn 4 = .ok (.invokevirtual 492, 3) := by decide +kernel
theorem dX12_mayBuildOn_7 : decode cX12_mayBuildOn 7 = .ok (.istore_n 2, 1) := by decide +kernel
theorem dX12_mayBuildOn_8 : decode cX12_mayBuildOn 8 = .ok (.iconst 1, 1) := by decide +kernel
theorem dX12_mayBuildOn_9 : decode cX12_mayBuildOn 9 = .ok (.istore_n 3, 1) := by decide +kernel
theorem dX12_mayBuildOn_10 : decode cX12_mayBuildOn 10 = .ok (.iconst 0, 1) := by decide +kernel
theorem dX12_mayBuildOn_11 : decode cX12_mayBuildOn 11 = .ok (.istore 4, 2) := by decide +kernel
theorem dX12_mayBuildOn_13 : decode cX12_mayBuildOn 13 = .ok (.iload 4, 2) := by decide +kernel
theorem dX12_mayBuildOn_15 : decode cX12_mayBuildOn 15 = .ok (.aload_n 0, 1) := by decide +kernel
theorem dX12_mayBuildOn_16 : decode cX12_mayBuildOn 16 = .ok (.getfield 9, 3) := by decide +kernel
theorem dX12_mayBuildOn_19 : decode cX12_mayBuildOn 19 = .ok (.sipush 1428, 3) := by decide +kernel
theorem dX12_mayBuildOn_22 : decode cX12_mayBuildOn 22 = .ok (.iaload, 1) := by decide +kernel
theorem dX12_mayBuildOn_23 : decode cX12_mayBuildOn 23 = .ok (.if_icmp .ge 43, 3) := by decide +kernel
theorem dX12_mayBuildOn_26 : decode cX12_mayBuildOn 26 = .ok (.iload_n 3, 1) := by decide +kernel
theorem dX12_mayBuildOn_27 : decode cX12_mayBuildOn 27 = .ok (.ifCond .eq 31, 3) := by decide +kernel
theorem dX12_mayBuildOn_30 : decode cX12_mayBuildOn 30 = .ok (.aload_n 0, 1) := by decide +kernel
theorem dX12_mayBuildOn_31 : decode cX12_mayBuildOn 31 = .ok (.iload 4, 2) := by decide +kernel
theorem dX12_mayBuildOn_33 : decode cX12_mayBuildOn 33 = .ok (.invokevirtual 272, 3) := by decide +kernel
theorem dX12_mayBuildOn_36 : decode cX12_mayBuildOn 36 = .ok (.ifCond .eq 18, 3) := by decide +kernel
theorem dX12_mayBuildOn_39 : decode cX12_mayBuildOn 39 = .ok (.iload_n 1, 1) := by decide +kernel
theorem dX12_mayBuildOn_40 : decode cX12_mayBuildOn 40 = .ok (.aload_n 0, 1) := by decide +kernel
theorem dX12_mayBuildOn_41 : decode cX12_mayBuildOn 41 = .ok (.iload 4, 2) := by decide +kernel
theorem dX12_mayBuildOn_43 : decode cX12_mayBuildOn 43 = .ok (.iconst 1, 1) := by decide +kernel
theorem dX12_mayBuildOn_44 : decode cX12_mayBuildOn 44 = .ok (.invokevirtual 217, 3) := by decide +kernel
theorem dX12_mayBuildOn_47 : decode cX12_mayBuildOn 47 = .ok (.invokestatic 262, 3) := by decide +kernel
theorem dX12_mayBuildOn_50 : decode cX12_mayBuildOn 50 = .ok (.iload_n 2, 1) := by decide +kernel
theorem dX12_mayBuildOn_51 : decode cX12_mayBuildOn 51 = .ok (.if_icmp .lt 7, 3) := by decide +kernel
theorem dX12_mayBuildOn_54 : decode cX12_mayBuildOn 54 = .ok (.iconst 1, 1) := by decide +kernel
theorem dX12_mayBuildOn_55 : decode cX12_mayBuildOn 55 = .ok (.goto 4, 3) := by decide +kernel
theorem dX12_mayBuildOn_58 : decode cX12_mayBuildOn 58 = .ok (.iconst 0, 1) := by decide +kernel
theorem dX12_mayBuildOn_59 : decode cX12_mayBuildOn 59 = .ok (.istore_n 3, 1) := by decide +kernel
theorem dX12_mayBuildOn_60 : decode cX12_mayBuildOn 60 = .ok (.iinc 4 1, 3) := by decide +kernel
theorem dX12_mayBuildOn_63 : decode cX12_mayBuildOn 63 = .ok (.goto (-50), 3) := by decide +kernel
theorem dX12_mayBuildOn_66 : decode cX12_mayBuildOn 66 = .ok (.iload_n 3, 1) := by decide +kernel
theorem dX12_mayBuildOn_67 : decode cX12_mayBuildOn 67 = .ok (.ireturn, 1) := by decide +kernel
theorem dX12_workOn_0 : decode cX12_workOn 0 = .ok (.iconst 0, 1) := by decide +kernel
theorem dX12_workOn_1 : decode cX12_workOn 1 = .ok (.istore_n 2, 1) := by decide +kernel
theorem dX12_workOn_2 : decode cX12_workOn 2 = .ok (.iload_n 2, 1) := by decide +kernel
theorem dX12_workOn_3 : decode cX12_workOn 3 = .ok (.aload_n 0, 1) := by decide +kernel
theorem dX12_workOn_4 : decode cX12_workOn 4 = .ok (.getfield 9, 3) := by decide +kernel
theorem dX12_workOn_7 : decode cX12_workOn 7 = .ok (.sipush 1428, 3) := by decide +kernel
theorem dX12_workOn_10 : decode cX12_workOn 10 = .ok (.iaload, 1) := by decide +kernel
theorem dX12_workOn_11 : decode cX12_workOn 11 = .ok (.if_icmp .ge 21, 3) := by decide +kernel
theorem dX12_workOn_14 : decode cX12_workOn 14 = .ok (.aload_n 0, 1) := by decide +kernel
theorem dX12_workOn_15 : decode cX12_workOn 15 = .ok (.iload_n 2, 1) := by decide +kernel
theorem dX12_workOn_16 : decode cX12_workOn 16 = .ok (.iconst 1, 1) := by decide +kernel
theorem dX12_workOn_17 : decode cX12_workOn 17 = .ok (.invokevirtual 217, 3) := by decide +kernel
theorem dX12_workOn_20 : decode cX12_workOn 20 = .ok (.iload_n 1, 1) := by decide +kernel
theorem dX12_workOn_21 : decode cX12_workOn 21 = .ok (.if_icmp .ne 5, 3) := by decide +kernel
theorem dX12_workOn_24 : decode cX12_workOn 24 = .ok (.iload_n 2, 1) := by decide +kernel
theorem dX12_workOn_25 : decode cX12_workOn 25 = .ok (.ireturn, 1) := by decide +kernel
theorem dX12_workOn_26 : decode cX12_workOn 26 = .ok (.iinc 2 1, 3) := by decide +kernel
theorem dX12_workOn_29 : decode cX12_workOn 29 = .ok (.goto (-27), 3) := by decide +kernel
theorem dX12_workOn_32 : decode cX12_workOn 32 = .ok (.iconst (-1), 1) := by decide +kernel
theorem dX12_workOn_33 : decode cX12_workOn 33 = .ok (.ireturn, 1) := by decide +kernel
theorem dX12_farmOf_0 : decode cX12_farmOf 0 = .ok (.iconst 0, 1) := by decide +kernel
theorem dX12_farmOf_1 : decode cX12_farmOf 1 = .ok (.istore_n 2, 1) := by decide +kernel
theorem dX12_farmOf_2 : decode cX12_farmOf 2 = .ok (.iload_n 2, 1) := by decide +kernel
theorem dX12_farmOf_3 : decode cX12_farmOf 3 = .ok (.aload_n 0, 1) := by decide +kernel
theorem dX12_farmOf_4 : decode cX12_farmOf 4 = .ok (.getfield 498, 3) := by decide +kernel
theorem dX12_farmOf_7 : decode cX12_farmOf 7 = .ok (.if_icmp .ge 30, 3) := by decide +kernel
theorem dX12_farmOf_10 : decode cX12_farmOf 10 = .ok (.iload_n 1, 1) := by decide +kernel
theorem dX12_farmOf_11 : decode cX12_farmOf 11 = .ok (.aload_n 0, 1) := by decide +kernel
theorem dX12_farmOf_12 : decode cX12_farmOf 12 = .ok (.getfield 113, 3) := by decide +kernel
theorem dX12_farmOf_15 : decode cX12_farmOf 15 = .ok (.iload_n 2, 1) := by decide +kernel
theorem dX12_farmOf_16 : decode cX12_farmOf 16 = .ok (.iaload, 1) := by decide +kernel
theorem dX12_farmOf_17 : decode cX12_farmOf 17 = .ok (.aload_n 0, 1) := by decide +kernel
theorem dX12_farmOf_18 : decode cX12_farmOf 18 = .ok (.getfield 116, 3) := by decide +kernel
theorem dX12_farmOf_21 : decode cX12_farmOf 21 = .ok (.iload_n 2, 1) := by decide +kernel
theorem dX12_farmOf_22 : decode cX12_farmOf 22 = .ok (.iaload, 1) := by decide +kernel
theorem dX12_farmOf_23 : decode cX12_farmOf 23 = .ok (.invokestatic 232, 3) := by decide +kernel
theorem dX12_farmOf_26 : decode cX12_farmOf 26 = .ok (.ifCond .eq 5, 3) := by decide +kernel
theorem dX12_farmOf_29 : decode cX12_farmOf 29 = .ok (.iload_n 2, 1) := by decide +kernel
theorem dX12_farmOf_30 : decode cX12_farmOf 30 = .ok (.ireturn, 1) := by decide +kernel
theorem dX12_farmOf_31 : decode cX12_farmOf 31 = .ok (.iinc 2 1, 3) := by decide +kernel
theorem dX12_farmOf_34 : decode cX12_farmOf 34 = .ok (.goto (-32), 3) := by decide +kernel
theorem dX12_farmOf_37 : decode cX12_farmOf 37 = .ok (.iconst (-1), 1) := by decide +kernel
theorem dX12_farmOf_38 : decode cX12_farmOf 38 = .ok (.ireturn, 1) := by decide +kernel
theorem dX12_holders_0 : decode cX12_holders 0 = .ok (.iconst 0, 1) := by decide +kernel
theorem dX12_holders_1 : decode cX12_holders 1 = .ok (.istore_n 1, 1) := by decide +kernel
theorem dX12_holders_2 : decode cX12_holders 2 = .ok (.iconst 0, 1) := by decide +kernel
theorem dX12_holders_3 : decode cX12_holders 3 = .ok (.istore_n 2, 1) := by decide +kernel
theorem dX12_holders_4 : decode cX12_holders 4 = .ok (.iload_n 2, 1) := by decide +kernel
theorem dX12_holders_5 : decode cX12_holders 5 = .ok (.aload_n 0, 1) := by decide +kernel
theorem dX12_holders_6 : decode cX12_holders 6 = .ok (.getfield 495, 3) := by decide +kernel
theorem dX12_holders_9 : decode cX12_holders 9 = .ok (.if_icmp .ge 26, 3) := by decide +kernel
theorem dX12_holders_12 : decode cX12_holders 12 = .ok (.iload_n 1, 1) := by decide +kernel
theorem dX12_holders_13 : decode cX12_holders 13 = .ok (.aload_n 0, 1) := by decide +kernel
theorem dX12_holders_14 : decode cX12_holders 14 = .ok (.getfield 101, 3) := by decide +kernel
theorem dX12_holders_17 : decode cX12_holders 17 = .ok (.iload_n 2, 1) := by decide +kernel
theorem dX12_holders_18 : decode cX12_holders 18 = .ok (.iaload, 1) := by decide +kernel
theorem dX12_holders_19 : decode cX12_holders 19 = .ok (.ifCond .lt 7, 3) := by decide +kernel
theorem dX12_holders_22 : decode cX12_holders 22 = .ok (.iconst 1, 1) := by decide +kernel
theorem dX12_holders_23 : decode cX12_holders 23 = .ok (.goto 4, 3) := by decide +kernel
theorem dX12_holders_26 : decode cX12_holders 26 = .ok (.iconst 0, 1) := by decide +kernel
theorem dX12_holders_27 : decode cX12_holders 27 = .ok (.iadd, 1) := by decide +kernel
theorem dX12_holders_28 : decode cX12_holders 28 = .ok (.istore_n 1, 1) := by decide +kernel
theorem dX12_holders_29 : decode cX12_holders 29 = .ok (.iinc 2 1, 3) := by decide +kernel
theorem dX12_holders_32 : decode cX12_holders 32 = .ok (.goto (-28), 3) := by decide +kernel
theorem dX12_holders_35 : decode cX12_holders 35 = .ok (.iload_n 1, 1) := by decide +kernel
theorem dX12_holders_36 : decode cX12_holders 36 = .ok (.ireturn, 1) := by decide +kernel
theorem dX12_level_0 : decode cX12_level 0 = .ok (.aload_n 0, 1) := by decide +kernel
theorem dX12_level_1 : decode cX12_level 1 = .ok (.iload_n 1, 1) := by decide +kernel
theorem dX12_level_2 : decode cX12_level 2 = .ok (.invokevirtual 235, 3) := by decide +kernel
theorem dX12_level_5 : decode cX12_level 5 = .ok (.ifCond .eq 26, 3) := by decide +kernel
theorem dX12_level_8 : decode cX12_level 8 = .ok (.aload_n 0, 1) := by decide +kernel
theorem dX12_level_9 : decode cX12_level 9 = .ok (.getfield 9, 3) := by decide +kernel
theorem dX12_level_12 : decode cX12_level 12 = .ok (.bipush 96, 2) := by decide +kernel
theorem dX12_level_14 : decode cX12_level 14 = .ok (.iload_n 1, 1) := by decide +kernel
theorem dX12_level_15 : decode cX12_level 15 = .ok (.iadd, 1) := by decide +kernel
theorem dX12_level_16 : decode cX12_level 16 = .ok (.iaload, 1) := by decide +kernel
theorem dX12_level_17 : decode cX12_level 17 = .ok (.aload_n 0, 1) := by decide +kernel
theorem dX12_level_18 : decode cX12_level 18 = .ok (.getfield 9, 3) := by decide +kernel
theorem dX12_level_21 : decode cX12_level 21 = .ok (.sipush 384, 3) := by decide +kernel
theorem dX12_level_24 : decode cX12_level 24 = .ok (.iload_n 1, 1) := by decide +kernel
theorem dX12_level_25 : decode cX12_level 25 = .ok (.iadd, 1) := by decide +kernel
theorem dX12_level_26 : decode cX12_level 26 = .ok (.iaload, 1) := by decide +kernel
theorem dX12_level_27 : decode cX12_level 27 = .ok (.iadd, 1) := by decide +kernel
theorem dX12_level_28 : decode cX12_level 28 = .ok (.goto 11, 3) := by decide +kernel
theorem dX12_level_31 : decode cX12_level 31 = .ok (.aload_n 0, 1) := by decide +kernel
theorem dX12_level_32 : decode cX12_level 32 = .ok (.aload_n 0, 1) := by decide +kernel
theorem dX12_level_33 : decode cX12_level 33 = .ok (.invokevirtual 228, 3) := by decide +kernel
theorem dX12_level_36 : decode cX12_level 36 = .ok (.invokevirtual 247, 3) := by decide +kernel
theorem dX12_level_39 : decode cX12_level 39 = .ok (.ireturn, 1) := by decide +kernel
theorem dX12_noPlace_0 : decode cX12_noPlace 0 = .ok (.aload_n 0, 1) := by decide +kernel
theorem dX12_noPlace_1 : decode cX12_noPlace 1 = .ok (.iload_n 1, 1) := by decide +kernel
theorem dX12_noPlace_2 : decode cX12_noPlace 2 = .ok (.invokevirtual 235, 3) := by decide +kernel
theorem dX12_noPlace_5 : decode cX12_noPlace 5 = .ok (.ifCond .eq 11, 3) := by decide +kernel
theorem dX12_noPlace_8 : decode cX12_noPlace 8 = .ok (.aload_n 0, 1) := by decide +kernel
theorem dX12_noPlace_9 : decode cX12_noPlace 9 = .ok (.iload_n 1, 1) := by decide +kernel
theorem dX12_noPlace_10 : decode cX12_noPlace 10 = .ok (.invokevirtual 256, 3) := by decide +kernel
theorem dX12_noPlace_13 : decode cX12_noPlace 13 = .ok (.ifCond .lt 7, 3) := by decide +kernel
theorem dX12_noPlace_16 : decode cX12_noPlace 16 = .ok (.iconst 1, 1) := by decide +kernel
theorem dX12_noPlace_17 : decode cX12_noPlace 17 = .ok (.goto 4, 3) := by decide +kernel
theorem dX12_noPlace_20 : decode cX12_noPlace 20 = .ok (.iconst 0, 1) := by decide +kernel
theorem dX12_noPlace_21 : decode cX12_noPlace 21 = .ok (.ireturn, 1) := by decide +kernel
theorem dX12_nextOne_0 : decode cX12_nextOne 0 = .ok (.iconst (-1), 1) := by decide +kernel
theorem dX12_nextOne_1 : decode cX12_nextOne 1 = .ok (.istore_n 1, 1) := by decide +kernel
theorem dX12_nextOne_2 : decode cX12_nextOne 2 = .ok (.iconst 0, 1) := by decide +kernel
theorem dX12_nextOne_3 : decode cX12_nextOne 3 = .ok (.istore_n 2, 1) := by decide +kernel
theorem dX12_nextOne_4 : decode cX12_nextOne 4 = .ok (.iload_n 2, 1) := by decide +kernel
theorem dX12_nextOne_5 : decode cX12_nextOne 5 = .ok (.aload_n 0, 1) := by decide +kernel
theorem dX12_nextOne_6 : decode cX12_nextOne 6 = .ok (.getfield 495, 3) := by decide +kernel
theorem dX12_nextOne_9 : decode cX12_nextOne 9 = .ok (.if_icmp .ge 74, 3) := by decide +kernel
theorem dX12_nextOne_12 : decode cX12_nextOne 12 = .ok (.aload_n 0, 1) := by decide +kernel
theorem dX12_nextOne_13 : decode cX12_nextOne 13 = .ok (.getfield 131, 3) := by decide +kernel
theorem dX12_nextOne_16 : decode cX12_nextOne 16 = .ok (.iload_n 2, 1) := by decide +kernel
theorem dX12_nextOne_17 : decode cX12_nextOne 17 = .ok (.baload, 1) := by decide +kernel
theorem dX12_nextOne_18 : decode cX12_nextOne 18 = .ok (.ifCond .ne 6, 3) := by decide +kernel
theorem dX12_nextOne_21 : decode cX12_nextOne 21 = .ok (.goto 56, 3) := by decide +kernel
theorem dX12_nextOne_24 : decode cX12_nextOne 24 = .ok (.iload_n 1, 1) := by decide +kernel
theorem dX12_nextOne_25 : decode cX12_nextOne 25 = .ok (.ifCond .lt 50, 3) := by decide +kernel
theorem dX12_nextOne_28 : decode cX12_nextOne 28 = .ok (.aload_n 0, 1) := by decide +kernel
theorem dX12_nextOne_29 : decode cX12_nextOne 29 = .ok (.getfield 128, 3) := by decide +kernel
theorem dX12_nextOne_32 : decode cX12_nextOne 32 = .ok (.iload_n 2, 1) := by decide +kernel
theorem dX12_nextOne_33 : decode cX12_nextOne 33 = .ok (.laload, 1) := by decide +kernel
theorem dX12_nextOne_34 : decode cX12_nextOne 34 = .ok (.aload_n 0, 1) := by decide +kernel
theorem dX12_nextOne_35 : decode cX12_nextOne 35 = .ok (.getfield 128, 3) := by decide +kernel
theorem dX12_nextOne_38 : decode cX12_nextOne 38 = .ok (.iload_n 1, 1) := by decide +kernel
theorem dX12_nextOne_39 : decode cX12_nextOne 39 = .ok (.laload, 1) := by decide +kernel
theorem dX12_nextOne_40 : decode cX12_nextOne 40 = .ok (.lcmp, 1) := by decide +kernel
theorem dX12_nextOne_41 : decode cX12_nextOne 41 = .ok (.ifCond .gt 34, 3) := by decide +kernel
theorem dX12_nextOne_44 : decode cX12_nextOne 44 = .ok (.aload_n 0, 1) := by decide +kernel
theorem dX12_nextOne_45 : decode cX12_nextOne 45 = .ok (.getfield 128, 3) := by decide +kernel
theorem dX12_nextOne_48 : decode cX12_nextOne 48 = .ok (.iload_n 2, 1) := by decide +kernel
theorem dX12_nextOne_49 : decode cX12_nextOne 49 = .ok (.laload, 1) := by decide +kernel
theorem dX12_nextOne_50 : decode cX12_nextOne 50 = .ok (.aload_n 0, 1) := by decide +kernel
theorem dX12_nextOne_51 : decode cX12_nextOne 51 = .ok (.getfield 128, 3) := by decide +kernel
theorem dX12_nextOne_54 : decode cX12_nextOne 54 = .ok (.iload_n 1, 1) := by decide +kernel
theorem dX12_nextOne_55 : decode cX12_nextOne 55 = .ok (.laload, 1) := by decide +kernel
theorem dX12_nextOne_56 : decode cX12_nextOne 56 = .ok (.lcmp, 1) := by decide +kernel
theorem dX12_nextOne_57 : decode cX12_nextOne 57 = .ok (.ifCond .ne 20, 3) := by decide +kernel
theorem dX12_nextOne_60 : decode cX12_nextOne 60 = .ok (.aload_n 0, 1) := by decide +kernel
theorem dX12_nextOne_61 : decode cX12_nextOne 61 = .ok (.getfield 98, 3) := by decide +kernel
theorem dX12_nextOne_64 : decode cX12_nextOne 64 = .ok (.iload_n 2, 1) := by decide +kernel
theorem dX12_nextOne_65 : decode cX12_nextOne 65 = .ok (.iaload, 1) := by decide +kernel
theorem dX12_nextOne_66 : decode cX12_nextOne 66 = .ok (.aload_n 0, 1) := by decide +kernel
theorem dX12_nextOne_67 : decode cX12_nextOne 67 = .ok (.getfield 98, 3) := by decide +kernel
theorem dX12_nextOne_70 : decode cX12_nextOne 70 = .ok (.iload_n 1, 1) := by decide +kernel
theorem dX12_nextOne_71 : decode cX12_nextOne 71 = .ok (.iaload, 1) := by decide +kernel
theorem dX12_nextOne_72 : decode cX12_nextOne 72 = .ok (.if_icmp .ge 5, 3) := by decide +kernel
theorem dX12_nextOne_75 : decode cX12_nextOne 75 = .ok (.iload_n 2, 1) := by decide +kernel
theorem dX12_nextOne_76 : decode cX12_nextOne 76 = .ok (.istore_n 1, 1) := by decide +kernel
theorem dX12_nextOne_77 : decode cX12_nextOne 77 = .ok (.iinc 2 1, 3) := by decide +kernel
theorem dX12_nextOne_80 : decode cX12_nextOne 80 = .ok (.goto (-76), 3) := by decide +kernel
theorem dX12_nextOne_83 : decode cX12_nextOne 83 = .ok (.iload_n 1, 1) := by decide +kernel
theorem dX12_nextOne_84 : decode cX12_nextOne 84 = .ok (.ireturn, 1) := by decide +kernel
theorem dX12_bestFarm_0 : decode cX12_bestFarm 0 = .ok (.iconst (-1), 1) := by decide +kernel
theorem dX12_bestFarm_1 : decode cX12_bestFarm 1 = .ok (.istore_n 1, 1) := by decide +kernel
theorem dX12_bestFarm_2 : decode cX12_bestFarm 2 = .ok (.iconst 0, 1) := by decide +kernel
theorem dX12_bestFarm_3 : decode cX12_bestFarm 3 = .ok (.istore_n 2, 1) := by decide +kernel
theorem dX12_bestFarm_4 : decode cX12_bestFarm 4 = .ok (.iload_n 2, 1) := by decide +kernel
theorem dX12_bestFarm_5 : decode cX12_bestFarm 5 = .ok (.aload_n 0, 1) := by decide +kernel
theorem dX12_bestFarm_6 : decode cX12_bestFarm 6 = .ok (.getfield 498, 3) := by decide +kernel
theorem dX12_bestFarm_9 : decode cX12_bestFarm 9 = .ok (.if_icmp .ge 37, 3) := by decide +kernel
theorem dX12_bestFarm_12 : decode cX12_bestFarm 12 = .ok (.aload_n 0, 1) := by decide +kernel
theorem dX12_bestFarm_13 : decode cX12_bestFarm 13 = .ok (.getfield 122, 3) := by decide +kernel
theorem dX12_bestFarm_16 : decode cX12_bestFarm 16 = .ok (.iload_n 2, 1) := by decide +kernel
theorem dX12_bestFarm_17 : decode cX12_bestFarm 17 = .ok (.iaload, 1) := by decide +kernel
theorem dX12_bestFarm_18 : decode cX12_bestFarm 18 = .ok (.ifCond .ge 22, 3) := by decide +kernel
theorem dX12_bestFarm_21 : decode cX12_bestFarm 21 = .ok (.iload_n 1, 1) := by decide +kernel
theorem dX12_bestFarm_22 : decode cX12_bestFarm 22 = .ok (.ifCond .lt 16, 3) := by decide +kernel
theorem dX12_bestFarm_25 : decode cX12_bestFarm 25 = .ok (.aload_n 0, 1) := by decide +kernel
theorem dX12_bestFarm_26 : decode cX12_bestFarm 26 = .ok (.iload_n 2, 1) := by decide +kernel
theorem dX12_bestFarm_27 : decode cX12_bestFarm 27 = .ok (.invokevirtual 505, 3) := by decide +kernel
theorem dX12_bestFarm_30 : decode cX12_bestFarm 30 = .ok (.aload_n 0, 1) := by decide +kernel
theorem dX12_bestFarm_31 : decode cX12_bestFarm 31 = .ok (.iload_n 1, 1) := by decide +kernel
theorem dX12_bestFarm_32 : decode cX12_bestFarm 32 = .ok (.invokevirtual 505, 3) := by decide +kernel
theorem dX12_bestFarm_35 : decode cX12_bestFarm 35 = .ok (.if_icmp .le 5, 3) := by decide +kernel
theorem dX12_bestFarm_38 : decode cX12_bestFarm 38 = .ok (.iload_n 2, 1) := by decide +kernel
theorem dX12_bestFarm_39 : decode cX12_bestFarm 39 = .ok (.istore_n 1, 1) := by decide +kernel
theorem dX12_bestFarm_40 : decode cX12_bestFarm 40 = .ok (.iinc 2 1, 3) := by decide +kernel
theorem dX12_bestFarm_43 : decode cX12_bestFarm 43 = .ok (.goto (-39), 3) := by decide +kernel
theorem dX12_bestFarm_46 : decode cX12_bestFarm 46 = .ok (.iload_n 1, 1) := by decide +kernel
theorem dX12_bestFarm_47 : decode cX12_bestFarm 47 = .ok (.ireturn, 1) := by decide +kernel
theorem dX12_fill_0 : decode cX12_fill 0 = .ok (.aload_n 0, 1) := by decide +kernel
theorem dX12_fill_1 : decode cX12_fill 1 = .ok (.iconst 0, 1) := by decide +kernel
theorem dX12_fill_2 : decode cX12_fill 2 = .ok (.putfield 194, 3) := by decide +kernel
theorem dX12_fill_5 : decode cX12_fill 5 = .ok (.aload_n 0, 1) := by decide +kernel
theorem dX12_fill_6 : decode cX12_fill 6 = .ok (.iload_n 1, 1) := by decide +kernel
theorem dX12_fill_7 : decode cX12_fill 7 = .ok (.invokestatic 220, 3) := by decide +kernel
theorem dX12_fill_10 : decode cX12_fill 10 = .ok (.iconst 1, 1) := by decide +kernel
theorem dX12_fill_11 : decode cX12_fill 11 = .ok (.invokevirtual 224, 3) := by decide +kernel
theorem dX12_fill_14 : decode cX12_fill 14 = .ok (.ifCond .ne 45, 3) := by decide +kernel
theorem dX12_fill_17 : decode cX12_fill 17 = .ok (.aload_n 0, 1) := by decide +kernel
theorem dX12_fill_18 : decode cX12_fill 18 = .ok (.iload_n 2, 1) := by decide +kernel
theorem dX12_fill_19 : decode cX12_fill 19 = .ok (.iconst 0, 1) := by decide +kernel
theorem dX12_fill_20 : decode cX12_fill 20 = .ok (.sipush 900, 3) := by decide +kernel
theorem dX12_fill_23 : decode cX12_fill 23 = .ok (.invokestatic 197, 3) := by decide +kernel
theorem dX12_fill_26 : decode cX12_fill 26 = .ok (.ifCond .eq 13, 3) := by decide +kernel
theorem dX12_fill_29 : decode cX12_fill 29 = .ok (.iload_n 3, 1) := by decide +kernel
theorem dX12_fill_30 : decode cX12_fill 30 = .ok (.iconst 0, 1) := by decide +kernel
theorem dX12_fill_31 : decode cX12_fill 31 = .ok (.ldc 241, 2) := by decide +kernel
theorem dX12_fill_33 : decode cX12_fill 33 = .ok (.invokestatic 197, 3) := by decide +kernel
theorem dX12_fill_36 : decode cX12_fill 36 = .ok (.ifCond .ne 7, 3) := by decide +kernel
theorem dX12_fill_39 : decode cX12_fill 39 = .ok (.iconst 1, 1) := by decide +kernel
theorem dX12_fill_40 : decode cX12_fill 40 = .ok (.goto 4, 3) := by decide +kernel
theorem dX12_fill_43 : decode cX12_fill 43 = .ok (.iconst 0, 1) := by decide +kernel
theorem dX12_fill_44 : decode cX12_fill 44 = .ok (.iconst 2, 1) := by decide +kernel
theorem dX12_fill_45 : decode cX12_fill 45 = .ok (.invokevirtual 224, 3) := by decide +kernel
theorem dX12_fill_48 : decode cX12_fill 48 = .ok (.ifCond .ne 11, 3) := by decide +kernel
theorem dX12_fill_51 : decode cX12_fill 51 = .ok (.aload_n 0, 1) := by decide +kernel
theorem dX12_fill_52 : decode cX12_fill 52 = .ok (.iload_n 1, 1) := by decide +kernel
theorem dX12_fill_53 : decode cX12_fill 53 = .ok (.invokevirtual 235, 3) := by decide +kernel
theorem dX12_fill_56 : decode cX12_fill 56 = .ok (.ifCond .ne 5, 3) := by decide +kernel
theorem dX12_fill_59 : decode cX12_fill 59 = .ok (.iconst 0, 1) := by decide +kernel
theorem dX12_fill_60 : decode cX12_fill 60 = .ok (.ireturn, 1) := by decide +kernel
theorem dX12_fill_61 : decode cX12_fill 61 = .ok (.aload_n 0, 1) := by decide +kernel
theorem dX12_fill_62 : decode cX12_fill 62 = .ok (.getfield 9, 3) := by decide +kernel
theorem dX12_fill_65 : decode cX12_fill 65 = .ok (.sipush 1748, 3) := by decide +kernel
theorem dX12_fill_68 : decode cX12_fill 68 = .ok (.dup2, 1) := by decide +kernel
theorem dX12_fill_69 : decode cX12_fill 69 = .ok (.iaload, 1) := by decide +kernel
theorem dX12_fill_70 : decode cX12_fill 70 = .ok (.iload_n 2, 1) := by decide +kernel
theorem dX12_fill_71 : decode cX12_fill 71 = .ok (.aload_n 0, 1) := by decide +kernel
theorem dX12_fill_72 : decode cX12_fill 72 = .ok (.getfield 9, 3) := by decide +kernel
theorem dX12_fill_75 : decode cX12_fill 75 = .ok (.sipush 384, 3) := by decide +kernel
theorem dX12_fill_78 : decode cX12_fill 78 = .ok (.iload_n 1, 1) := by decide +kernel
theorem dX12_fill_79 : decode cX12_fill 79 = .ok (.iadd, 1) := by decide +kernel
theorem dX12_fill_80 : decode cX12_fill 80 = .ok (.iaload, 1) := by decide +kernel
theorem dX12_fill_81 : decode cX12_fill 81 = .ok (.isub, 1) := by decide +kernel
theorem dX12_fill_82 : decode cX12_fill 82 = .ok (.iadd, 1) := by decide +kernel
theorem dX12_fill_83 : decode cX12_fill 83 = .ok (.iastore, 1) := by decide +kernel
theorem dX12_fill_84 : decode cX12_fill 84 = .ok (.aload_n 0, 1) := by decide +kernel
theorem dX12_fill_85 : decode cX12_fill 85 = .ok (.getfield 9, 3) := by decide +kernel
theorem dX12_fill_88 : decode cX12_fill 88 = .ok (.sipush 384, 3) := by decide +kernel
theorem dX12_fill_91 : decode cX12_fill 91 = .ok (.iload_n 1, 1) := by decide +kernel
theorem dX12_fill_92 : decode cX12_fill 92 = .ok (.iadd, 1) := by decide +kernel
theorem dX12_fill_93 : decode cX12_fill 93 = .ok (.iload_n 2, 1) := by decide +kernel
theorem dX12_fill_94 : decode cX12_fill 94 = .ok (.iastore, 1) := by decide +kernel
theorem dX12_fill_95 : decode cX12_fill 95 = .ok (.aload_n 0, 1) := by decide +kernel
theorem dX12_fill_96 : decode cX12_fill 96 = .ok (.getfield 9, 3) := by decide +kernel
theorem dX12_fill_99 : decode cX12_fill 99 = .ok (.sipush 480, 3) := by decide +kernel
theorem dX12_fill_102 : decode cX12_fill 102 = .ok (.iload_n 1, 1) := by decide +kernel
theorem dX12_fill_103 : decode cX12_fill 103 = .ok (.iadd, 1) := by decide +kernel
theorem dX12_fill_104 : decode cX12_fill 104 = .ok (.iload_n 3, 1) := by decide +kernel
theorem dX12_fill_105 : decode cX12_fill 105 = .ok (.iastore, 1) := by decide +kernel
theorem dX12_fill_106 : decode cX12_fill 106 = .ok (.aload_n 0, 1) := by decide +kernel
theorem dX12_fill_107 : decode cX12_fill 107 = .ok (.iconst 0, 1) := by decide +kernel
theorem dX12_fill_108 : decode cX12_fill 108 = .ok (.putfield 238, 3) := by decide +kernel
theorem dX12_fill_111 : decode cX12_fill 111 = .ok (.iconst 1, 1) := by decide +kernel
theorem dX12_fill_112 : decode cX12_fill 112 = .ok (.ireturn, 1) := by decide +kernel
theorem dX12_tide_0 : decode cX12_tide 0 = .ok (.aload_n 0, 1) := by decide +kernel
theorem dX12_tide_1 : decode cX12_tide 1 = .ok (.iconst 0, 1) := by decide +kernel
theorem dX12_tide_2 : decode cX12_tide 2 = .ok (.putfield 194, 3) := by decide +kernel
theorem dX12_tide_5 : decode cX12_tide 5 = .ok (.aload_n 0, 1) := by decide +kernel
theorem dX12_tide_6 : decode cX12_tide 6 = .ok (.iload_n 1, 1) := by decide +kernel
theorem dX12_tide_7 : decode cX12_tide 7 = .ok (.iconst 0, 1) := by decide +kernel
theorem dX12_tide_8 : decode cX12_tide 8 = .ok (.bipush 11, 2) := by decide +kernel
theorem dX12_tide_10 : decode cX12_tide 10 = .ok (.invokestatic 197, 3) := by decide +kernel
theorem dX12_tide_13 : decode cX12_tide 13 = .ok (.ifCond .eq 16, 3) := by decide +kernel
theorem dX12_tide_16 : decode cX12_tide 16 = .ok (.iload_n 2, 1) := by decide +kernel
theorem dX12_tide_17 : decode cX12_tide 17 = .ok (.sipush (-400), 3) := by decide +kernel
theorem dX12_tide_20 : decode cX12_tide 20 = .ok (.sipush 400, 3) := by decide +kernel
theorem dX12_tide_23 : decode cX12_tide 23 = .ok (.invokestatic 197, 3) := by decide +kernel
theorem dX12_tide_26 : decode cX12_tide 26 = .ok (.ifCond .ne 7, 3) := by decide +kernel
theorem dX12_tide_29 : decode cX12_tide 29 = .ok (.iconst 1, 1) := by decide +kernel
theorem dX12_tide_30 : decode cX12_tide 30 = .ok (.goto 4, 3) := by decide +kernel
theorem dX12_tide_33 : decode cX12_tide 33 = .ok (.iconst 0, 1) := by decide +kernel
theorem dX12_tide_34 : decode cX12_tide 34 = .ok (.iconst 1, 1) := by decide +kernel
theorem dX12_tide_35 : decode cX12_tide 35 = .ok (.invokevirtual 224, 3) := by decide +kernel
theorem dX12_tide_38 : decode cX12_tide 38 = .ok (.ifCond .eq 4, 3) := by decide +kernel
theorem dX12_tide_41 : decode cX12_tide 41 = .ok (.return_, 1) := by decide +kernel
theorem dX12_tide_42 : decode cX12_tide 42 = .ok (.aload_n 0, 1) := by decide +kernel
theorem dX12_tide_43 : decode cX12_tide 43 = .ok (.getfield 9, 3) := by decide +kernel
theorem dX12_tide_46 : decode cX12_tide 46 = .ok (.sipush 1430, 3) := by decide +kernel
theorem dX12_tide_49 : decode cX12_tide 49 = .ok (.iload_n 1, 1) := by decide +kernel
theorem dX12_tide_50 : decode cX12_tide 50 = .ok (.iadd, 1) := by decide +kernel
theorem dX12_tide_51 : decode cX12_tide 51 = .ok (.iload_n 2, 1) := by decide +kernel
theorem dX12_tide_52 : decode cX12_tide 52 = .ok (.iastore, 1) := by decide +kernel
theorem dX12_tide_53 : decode cX12_tide 53 = .ok (.aload_n 0, 1) := by decide +kernel
theorem dX12_tide_54 : decode cX12_tide 54 = .ok (.iconst 0, 1) := by decide +kernel
theorem dX12_tide_55 : decode cX12_tide 55 = .ok (.putfield 238, 3) := by decide +kernel
theorem dX12_tide_58 : decode cX12_tide 58 = .ok (.return_, 1) := by decide +kernel
theorem dX12_storm_0 : decode cX12_storm 0 = .ok (.aload_n 0, 1) := by decide +kernel
theorem dX12_storm_1 : decode cX12_storm 1 = .ok (.iconst 0, 1) := by decide +kernel
theorem dX12_storm_2 : decode cX12_storm 2 = .ok (.putfield 194, 3) := by decide +kernel
theorem dX12_storm_5 : decode cX12_storm 5 = .ok (.aload_n 0, 1) := by decide +kernel
theorem dX12_storm_6 : decode cX12_storm 6 = .ok (.iload_n 1, 1) := by decide +kernel
theorem dX12_storm_7 : decode cX12_storm 7 = .ok (.ifCond .lt 25, 3) := by decide +kernel
theorem dX12_storm_10 : decode cX12_storm 10 = .ok (.iload_n 2, 1) := by decide +kernel
theorem dX12_storm_11 : decode cX12_storm 11 = .ok (.iload_n 1, 1) := by decide +kernel
theorem dX12_storm_12 : decode cX12_storm 12 = .ok (.if_icmp .lt 20, 3) := by decide +kernel
theorem dX12_storm_15 : decode cX12_storm 15 = .ok (.iload_n 2, 1) := by decide +kernel
theorem dX12_storm_16 : decode cX12_storm 16 = .ok (.ldc 242, 2) := by decide +kernel
theorem dX12_storm_18 : decode cX12_storm 18 = .ok (.if_icmp .gt 14, 3) := by decide +kernel
theorem dX12_storm_21 : decode cX12_storm 21 = .ok (.iload_n 3, 1) := by decide +kernel
theorem dX12_storm_22 : decode cX12_storm 22 = .ok (.iconst 1, 1) := by decide +kernel
theorem dX12_storm_23 : decode cX12_storm 23 = .ok (.sipush 500, 3) := by decide +kernel
theorem dX12_storm_26 : decode cX12_storm 26 = .ok (.invokestatic 197, 3) := by decide +kernel
theorem dX12_storm_29 : decode cX12_storm 29 = .ok (.ifCond .ne 7, 3) := by decide +kernel
theorem dX12_storm_32 : decode cX12_storm 32 = .ok (.iconst 1, 1) := by decide +kernel
theorem dX12_storm_33 : decode cX12_storm 33 = .ok (.goto 4, 3) := by decide +kernel
theorem dX12_storm_36 : decode cX12_storm 36 = .ok (.iconst 0, 1) := by decide +kernel
theorem dX12_storm_37 : decode cX12_storm 37 = .ok (.iconst 1, 1) := by decide +kernel
theorem dX12_storm_38 : decode cX12_storm 38 = .ok (.invokevirtual 224, 3) := by decide +kernel
theorem dX12_storm_41 : decode cX12_storm 41 = .ok (.ifCond .eq 5, 3) := by decide +kernel
theorem dX12_storm_44 : decode cX12_storm 44 = .ok (.iconst 0, 1) := by decide +kernel
theorem dX12_storm_45 : decode cX12_storm 45 = .ok (.ireturn, 1) := by decide +kernel
theorem dX12_storm_46 : decode cX12_storm 46 = .ok (.aload_n 0, 1) := by decide +kernel
theorem dX12_storm_47 : decode cX12_storm 47 = .ok (.getfield 9, 3) := by decide +kernel
theorem dX12_storm_50 : decode cX12_storm 50 = .ok (.sipush 1442, 3) := by decide +kernel
theorem dX12_storm_53 : decode cX12_storm 53 = .ok (.iaload, 1) := by decide +kernel
theorem dX12_storm_54 : decode cX12_storm 54 = .ok (.istore 4, 2) := by decide +kernel
theorem dX12_storm_56 : decode cX12_storm 56 = .ok (.iload 4, 2) := by decide +kernel
theorem dX12_storm_58 : decode cX12_storm 58 = .ok (.bipush 20, 2) := by decide +kernel
theorem dX12_storm_60 : decode cX12_storm 60 = .ok (.if_icmp .ne 5, 3) := by decide +kernel
theorem dX12_storm_63 : decode cX12_storm 63 = .ok (.iconst (-1), 1) := by decide +kernel
theorem dX12_storm_64 : decode cX12_storm 64 = .ok (.ireturn, 1) := by decide +kernel
theorem dX12_storm_65 : decode cX12_storm 65 = .ok (.aload_n 0, 1) := by decide +kernel
theorem dX12_storm_66 : decode cX12_storm 66 = .ok (.getfield 9, 3) := by decide +kernel
theorem dX12_storm_69 : decode cX12_storm 69 = .ok (.sipush 1443, 3) := by decide +kernel
theorem dX12_storm_72 : decode cX12_storm 72 = .ok (.iconst 3, 1) := by decide +kernel
theorem dX12_storm_73 : decode cX12_storm 73 = .ok (.iload 4, 2) := by decide +kernel
theorem dX12_storm_75 : decode cX12_storm 75 = .ok (.imul, 1) := by decide +kernel
theorem dX12_storm_76 : decode cX12_storm 76 = .ok (.iadd, 1) := by decide +kernel
theorem dX12_storm_77 : decode cX12_storm 77 = .ok (.iload_n 1, 1) := by decide +kernel
theorem dX12_storm_78 : decode cX12_storm 78 = .ok (.iastore, 1) := by decide +kernel
theorem dX12_storm_79 : decode cX12_storm 79 = .ok (.aload_n 0, 1) := by decide +kernel
theorem dX12_storm_80 : decode cX12_storm 80 = .ok (.getfield 9, 3) := by decide +kernel
theorem dX12_storm_83 : decode cX12_storm 83 = .ok (.sipush 1443, 3) := by decide +kernel
theorem dX12_storm_86 : decode cX12_storm 86 = .ok (.iconst 3, 1) := by decide +kernel
theorem dX12_storm_87 : decode cX12_storm 87 = .ok (.iload 4, 2) := by decide +kernel
theorem dX12_storm_89 : decode cX12_storm 89 = .ok (.imul, 1) := by decide +kernel
theorem dX12_storm_90 : decode cX12_storm 90 = .ok (.iadd, 1) := by decide +kernel
theorem dX12_storm_91 : decode cX12_storm 91 = .ok (.iconst 1, 1) := by decide +kernel
theorem dX12_storm_92 : decode cX12_storm 92 = .ok (.iadd, 1) := by decide +kernel
theorem dX12_storm_93 : decode cX12_storm 93 = .ok (.iload_n 2, 1) := by decide +kernel
theorem dX12_storm_94 : decode cX12_storm 94 = .ok (.iastore, 1) := by decide +kernel
theorem dX12_storm_95 : decode cX12_storm 95 = .ok (.aload_n 0, 1) := by decide +kernel
theorem dX12_storm_96 : decode cX12_storm 96 = .ok (.getfield 9, 3) := by decide +kernel
theorem dX12_storm_99 : decode cX12_storm 99 = .ok (.sipush 1443, 3) := by decide +kernel
theorem dX12_storm_102 : decode cX12_storm 102 = .ok (.iconst 3, 1) := by decide +kernel
theorem dX12_storm_103 : decode cX12_storm 103 = .ok (.iload 4, 2) := by decide +kernel
theorem dX12_storm_105 : decode cX12_storm 105 = .ok (.imul, 1) := by decide +kernel
theorem dX12_storm_106 : decode cX12_storm 106 = .ok (.iadd, 1) := by decide +kernel
theorem dX12_storm_107 : decode cX12_storm 107 = .ok (.iconst 2, 1) := by decide +kernel
theorem dX12_storm_108 : decode cX12_storm 108 = .ok (.iadd, 1) := by decide +kernel
theorem dX12_storm_109 : decode cX12_storm 109 = .ok (.iload_n 3, 1) := by decide +kernel
theorem dX12_storm_110 : decode cX12_storm 110 = .ok (.iastore, 1) := by decide +kernel
theorem dX12_storm_111 : decode cX12_storm 111 = .ok (.aload_n 0, 1) := by decide +kernel
theorem dX12_storm_112 : decode cX12_storm 112 = .ok (.getfield 9, 3) := by decide +kernel
theorem dX12_storm_115 : decode cX12_storm 115 = .ok (.sipush 1442, 3) := by decide +kernel
theorem dX12_storm_118 : decode cX12_storm 118 = .ok (.dup2, 1) := by decide +kernel
theorem dX12_storm_119 : decode cX12_storm 119 = .ok (.iaload, 1) := by decide +kernel
theorem dX12_storm_120 : decode cX12_storm 120 = .ok (.iconst 1, 1) := by decide +kernel
theorem dX12_storm_121 : decode cX12_storm 121 = .ok (.iadd, 1) := by decide +kernel
theorem dX12_storm_122 : decode cX12_storm 122 = .ok (.iastore, 1) := by decide +kernel
theorem dX12_storm_123 : decode cX12_storm 123 = .ok (.aload_n 0, 1) := by decide +kernel
theorem dX12_storm_124 : decode cX12_storm 124 = .ok (.iconst 0, 1) := by decide +kernel
theorem dX12_storm_125 : decode cX12_storm 125 = .ok (.putfield 238, 3) := by decide +kernel
theorem dX12_storm_128 : decode cX12_storm 128 = .ok (.iload 4, 2) := by decide +kernel
theorem dX12_storm_130 : decode cX12_storm 130 = .ok (.iconst 1, 1) := by decide +kernel
theorem dX12_storm_131 : decode cX12_storm 131 = .ok (.iadd, 1) := by decide +kernel
theorem dX12_storm_132 : decode cX12_storm 132 = .ok (.ireturn, 1) := by decide +kernel
theorem dX12_weather_0 : decode cX12_weather 0 = .ok (.aload_n 0, 1) := by decide +kernel
theorem dX12_weather_1 : decode cX12_weather 1 = .ok (.iconst 0, 1) := by decide +kernel
theorem dX12_weather_2 : decode cX12_weather 2 = .ok (.putfield 194, 3) := by decide +kernel
theorem dX12_weather_5 : decode cX12_weather 5 = .ok (.aload_n 0, 1) := by decide +kernel
theorem dX12_weather_6 : decode cX12_weather 6 = .ok (.iload_n 2, 1) := by decide +kernel
theorem dX12_weather_7 : decode cX12_weather 7 = .ok (.iconst 0, 1) := by decide +kernel
theorem dX12_weather_8 : decode cX12_weather 8 = .ok (.ldc 242, 2) := by decide +kernel
theorem dX12_weather_10 : decode cX12_weather 10 = .ok (.invokestatic 197, 3) := by decide +kernel
theorem dX12_weather_13 : decode cX12_weather 13 = .ok (.ifCond .eq 30, 3) := by decide +kernel
theorem dX12_weather_16 : decode cX12_weather 16 = .ok (.iload_n 1, 1) := by decide +kernel
theorem dX12_weather_17 : decode cX12_weather 17 = .ok (.ifCond .eq 16, 3) := by decide +kernel
theorem dX12_weather_20 : decode cX12_weather 20 = .ok (.iload_n 3, 1) := by decide +kernel
theorem dX12_weather_21 : decode cX12_weather 21 = .ok (.iconst 0, 1) := by decide +kernel
theorem dX12_weather_22 : decode cX12_weather 22 = .ok (.bipush 20, 2) := by decide +kernel
theorem dX12_weather_24 : decode cX12_weather 24 = .ok (.invokestatic 197, 3) := by decide +kernel
theorem dX12_weather_27 : decode cX12_weather 27 = .ok (.ifCond .ne 20, 3) := by decide +kernel
theorem dX12_weather_30 : decode cX12_weather 30 = .ok (.goto 13, 3) := by decide +kernel
theorem dX12_weather_33 : decode cX12_weather 33 = .ok (.iload_n 3, 1) := by decide +kernel
theorem dX12_weather_34 : decode cX12_weather 34 = .ok (.iconst (-1), 1) := by decide +kernel
theorem dX12_weather_35 : decode cX12_weather 35 = .ok (.bipush 9, 2) := by decide +kernel
theorem dX12_weather_37 : decode cX12_weather 37 = .ok (.invokestatic 197, 3) := by decide +kernel
theorem dX12_weather_40 : decode cX12_weather 40 = .ok (.ifCond .ne 7, 3) := by decide +kernel
theorem dX12_weather_43 : decode cX12_weather 43 = .ok (.iconst 1, 1) := by decide +kernel
theorem dX12_weather_44 : decode cX12_weather 44 = .ok (.goto 4, 3) := by decide +kernel
theorem dX12_weather_47 : decode cX12_weather 47 = .ok (.iconst 0, 1) := by decide +kernel
theorem dX12_weather_48 : decode cX12_weather 48 = .ok (.iconst 1, 1) := by decide +kernel
theorem dX12_weather_49 : decode cX12_weather 49 = .ok (.invokevirtual 224, 3) := by decide +kernel
theorem dX12_weather_52 : decode cX12_weather 52 = .ok (.ifCond .eq 5, 3) := by decide +kernel
theorem dX12_weather_55 : decode cX12_weather 55 = .ok (.iconst 0, 1) := by decide +kernel
theorem dX12_weather_56 : decode cX12_weather 56 = .ok (.ireturn, 1) := by decide +kernel
theorem dX12_weather_57 : decode cX12_weather 57 = .ok (.iload_n 1, 1) := by decide +kernel
theorem dX12_weather_58 : decode cX12_weather 58 = .ok (.ifCond .eq 9, 3) := by decide +kernel
theorem dX12_weather_61 : decode cX12_weather 61 = .ok (.sipush 1624, 3) := by decide +kernel
theorem dX12_weather_64 : decode cX12_weather 64 = .ok (.goto 6, 3) := by decide +kernel
theorem dX12_weather_67 : decode cX12_weather 67 = .ok (.sipush 1503, 3) := by decide +kernel
theorem dX12_weather_70 : decode cX12_weather 70 = .ok (.istore 4, 2) := by decide +kernel
theorem dX12_weather_72 : decode cX12_weather 72 = .ok (.iload_n 1, 1) := by decide +kernel
theorem dX12_weather_73 : decode cX12_weather 73 = .ok (.ifCond .eq 9, 3) := by decide +kernel
theorem dX12_weather_76 : decode cX12_weather 76 = .ok (.sipush 1625, 3) := by decide +kernel
theorem dX12_weather_79 : decode cX12_weather 79 = .ok (.goto 6, 3) := by decide +kernel
theorem dX12_weather_82 : decode cX12_weather 82 = .ok (.sipush 1504, 3) := by decide +kernel
theorem dX12_weather_85 : decode cX12_weather 85 = .ok (.iconst 2, 1) := by decide +kernel
theorem dX12_weather_86 : decode cX12_weather 86 = .ok (.aload_n 0, 1) := by decide +kernel
theorem dX12_weather_87 : decode cX12_weather 87 = .ok (.getfield 9, 3) := by decide +kernel
theorem dX12_weather_90 : decode cX12_weather 90 = .ok (.iload 4, 2) := by decide +kernel
theorem dX12_weather_92 : decode cX12_weather 92 = .ok (.iaload, 1) := by decide +kernel
theorem dX12_weather_93 : decode cX12_weather 93 = .ok (.imul, 1) := by decide +kernel
theorem dX12_weather_94 : decode cX12_weather 94 = .ok (.iadd, 1) := by decide +kernel
theorem dX12_weather_95 : decode cX12_weather 95 = .ok (.istore 5, 2) := by decide +kernel
theorem dX12_weather_97 : decode cX12_weather 97 = .ok (.aload_n 0, 1) := by decide +kernel
theorem dX12_weather_98 : decode cX12_weather 98 = .ok (.getfield 9, 3) := by decide +kernel
theorem dX12_weather_101 : decode cX12_weather 101 = .ok (.iload 4, 2) := by decide +kernel
theorem dX12_weather_103 : decode cX12_weather 103 = .ok (.iaload, 1) := by decide +kernel
theorem dX12_weather_104 : decode cX12_weather 104 = .ok (.bipush 60, 2) := by decide +kernel
theorem dX12_weather_106 : decode cX12_weather 106 = .ok (.if_icmp .ne 5, 3) := by decide +kernel
theorem dX12_weather_109 : decode cX12_weather 109 = .ok (.iconst (-1), 1) := by decide +kernel
theorem dX12_weather_110 : decode cX12_weather 110 = .ok (.ireturn, 1) := by decide +kernel
theorem dX12_weather_111 : decode cX12_weather 111 = .ok (.aload_n 0, 1) := by decide +kernel
theorem dX12_weather_112 : decode cX12_weather 112 = .ok (.getfield 9, 3) := by decide +kernel
theorem dX12_weather_115 : decode cX12_weather 115 = .ok (.iload 5, 2) := by decide +kernel
theorem dX12_weather_117 : decode cX12_weather 117 = .ok (.iload_n 2, 1) := by decide +kernel
theorem dX12_weather_118 : decode cX12_weather 118 = .ok (.iastore, 1) := by decide +kernel
theorem dX12_weather_119 : decode cX12_weather 119 = .ok (.aload_n 0, 1) := by decide +kernel
theorem dX12_weather_120 : decode cX12_weather 120 = .ok (.getfield 9, 3) := by decide +kernel
theorem dX12_weather_123 : decode cX12_weather 123 = .ok (.iload 5, 2) := by decide +kernel
theorem dX12_weather_125 : decode cX12_weather 125 = .ok (.iconst 1, 1) := by decide +kernel
theorem dX12_weather_126 : decode cX12_weather 126 = .ok (.iadd, 1) := by decide +kernel
theorem dX12_weather_127 : decode cX12_weather 127 = .ok (.iload_n 3, 1) := by decide +kernel
theorem dX12_weather_128 : decode cX12_weather 128 = .ok (.iastore, 1) := by decide +kernel
theorem dX12_weather_129 : decode cX12_weather 129 = .ok (.aload_n 0, 1) := by decide +kernel
theorem dX12_weather_130 : decode cX12_weather 130 = .ok (.getfield 9, 3) := by decide +kernel
theorem dX12_weather_133 : decode cX12_weather 133 = .ok (.iload 4, 2) := by decide +kernel
theorem dX12_weather_135 : decode cX12_weather 135 = .ok (.dup2, 1) := by decide +kernel
theorem dX12_weather_136 : decode cX12_weather 136 = .ok (.iaload, 1) := by decide +kernel
theorem dX12_weather_137 : decode cX12_weather 137 = .ok (.iconst 1, 1) := by decide +kernel
theorem dX12_weather_138 : decode cX12_weather 138 = .ok (.iadd, 1) := by decide +kernel
theorem dX12_weather_139 : decode cX12_weather 139 = .ok (.iastore, 1) := by decide +kernel
theorem dX12_weather_140 : decode cX12_weather 140 = .ok (.aload_n 0, 1) := by decide +kernel
theorem dX12_weather_141 : decode cX12_weather 141 = .ok (.iconst 0, 1) := by decide +kernel
theorem dX12_weather_142 : decode cX12_weather 142 = .ok (.putfield 238, 3) := by decide +kernel
theorem dX12_weather_145 : decode cX12_weather 145 = .ok (.aload_n 0, 1) := by decide +kernel
theorem dX12_weather_146 : decode cX12_weather 146 = .ok (.getfield 9, 3) := by decide +kernel
theorem dX12_weather_149 : decode cX12_weather 149 = .ok (.iload 4, 2) := by decide +kernel
theorem dX12_weather_151 : decode cX12_weather 151 = .ok (.iaload, 1) := by decide +kernel
theorem dX12_weather_152 : decode cX12_weather 152 = .ok (.ireturn, 1) := by decide +kernel
theorem dX12_sky_0 : decode cX12_sky 0 = .ok (.aload_n 0, 1) := by decide +kernel
theorem dX12_sky_1 : decode cX12_sky 1 = .ok (.iconst 0, 1) := by decide +kernel
theorem dX12_sky_2 : decode cX12_sky 2 = .ok (.putfield 194, 3) := by decide +kernel
theorem dX12_sky_5 : decode cX12_sky 5 = .ok (.aload_n 0, 1) := by decide +kernel
theorem dX12_sky_6 : decode cX12_sky 6 = .ok (.iload_n 1, 1) := by decide +kernel
theorem dX12_sky_7 : decode cX12_sky 7 = .ok (.iconst 0, 1) := by decide +kernel
theorem dX12_sky_8 : decode cX12_sky 8 = .ok (.ldc 242, 2) := by decide +kernel
theorem dX12_sky_10 : decode cX12_sky 10 = .ok (.invokestatic 197, 3) := by decide +kernel
theorem dX12_sky_13 : decode cX12_sky 13 = .ok (.ifCond .eq 12, 3) := by decide +kernel
theorem dX12_sky_16 : decode cX12_sky 16 = .ok (.iload_n 2, 1) := by decide +kernel
theorem dX12_sky_17 : decode cX12_sky 17 = .ok (.iconst 0, 1) := by decide +kernel
theorem dX12_sky_18 : decode cX12_sky 18 = .ok (.iconst 2, 1) := by decide +kernel
theorem dX12_sky_19 : decode cX12_sky 19 = .ok (.invokestatic 197, 3) := by decide +kernel
theorem dX12_sky_22 : decode cX12_sky 22 = .ok (.ifCond .ne 7, 3) := by decide +kernel
theorem dX12_sky_25 : decode cX12_sky 25 = .ok (.iconst 1, 1) := by decide +kernel
theorem dX12_sky_26 : decode cX12_sky 26 = .ok (.goto 4, 3) := by decide +kernel
theorem dX12_sky_29 : decode cX12_sky 29 = .ok (.iconst 0, 1) := by decide +kernel
theorem dX12_sky_30 : decode cX12_sky 30 = .ok (.iconst 1, 1) := by decide +kernel
theorem dX12_sky_31 : decode cX12_sky 31 = .ok (.invokevirtual 224, 3) := by decide +kernel
theorem dX12_sky_34 : decode cX12_sky 34 = .ok (.ifCond .eq 5, 3) := by decide +kernel
theorem dX12_sky_37 : decode cX12_sky 37 = .ok (.iconst 0, 1) := by decide +kernel
theorem dX12_sky_38 : decode cX12_sky 38 = .ok (.ireturn, 1) := by decide +kernel
theorem dX12_sky_39 : decode cX12_sky 39 = .ok (.iload_n 2, 1) := by decide +kernel
theorem dX12_sky_40 : decode cX12_sky 40 = .ok (.ifCond .ne 11, 3) := by decide +kernel
theorem dX12_sky_43 : decode cX12_sky 43 = .ok (.aload_n 0, 1) := by decide +kernel
theorem dX12_sky_44 : decode cX12_sky 44 = .ok (.iload_n 1, 1) := by decide +kernel
theorem dX12_sky_45 : decode cX12_sky 45 = .ok (.invokevirtual 247, 3) := by decide +kernel
theorem dX12_sky_48 : decode cX12_sky 48 = .ok (.goto 21, 3) := by decide +kernel
theorem dX12_sky_51 : decode cX12_sky 51 = .ok (.iload_n 2, 1) := by decide +kernel
theorem dX12_sky_52 : decode cX12_sky 52 = .ok (.iconst 1, 1) := by decide +kernel
theorem dX12_sky_53 : decode cX12_sky 53 = .ok (.if_icmp .ne 11, 3) := by decide +kernel
theorem dX12_sky_56 : decode cX12_sky 56 = .ok (.aload_n 0, 1) := by decide +kernel
theorem dX12_sky_57 : decode cX12_sky 57 = .ok (.iload_n 1, 1) := by decide +kernel
theorem dX12_sky_58 : decode cX12_sky 58 = .ok (.invokevirtual 250, 3) := by decide +kernel
theorem dX12_sky_61 : decode cX12_sky 61 = .ok (.goto 8, 3) := by decide +kernel
theorem dX12_sky_64 : decode cX12_sky 64 = .ok (.aload_n 0, 1) := by decide +kernel
theorem dX12_sky_65 : decode cX12_sky 65 = .ok (.iload_n 1, 1) := by decide +kernel
theorem dX12_sky_66 : decode cX12_sky 66 = .ok (.invokevirtual 253, 3) := by decide +kernel
theorem dX12_sky_69 : decode cX12_sky 69 = .ok (.ireturn, 1) := by decide +kernel
theorem dX12_dike_0 : decode cX12_dike 0 = .ok (.aload_n 0, 1) := by decide +kernel
theorem dX12_dike_1 : decode cX12_dike 1 = .ok (.iconst 0, 1) := by decide +kernel
theorem dX12_dike_2 : decode cX12_dike 2 = .ok (.putfield 194, 3) := by decide +kernel
theorem dX12_dike_5 : decode cX12_dike 5 = .ok (.aload_n 0, 1) := by decide +kernel
theorem dX12_dike_6 : decode cX12_dike 6 = .ok (.iload_n 1, 1) := by decide +kernel
theorem dX12_dike_7 : decode cX12_dike 7 = .ok (.invokestatic 220, 3) := by decide +kernel
theorem dX12_dike_10 : decode cX12_dike 10 = .ok (.ifCond .ne 17, 3) := by decide +kernel
theorem dX12_dike_13 : decode cX12_dike 13 = .ok (.iload_n 2, 1) := by decide +kernel
theorem dX12_dike_14 : decode cX12_dike 14 = .ok (.invokestatic 220, 3) := by decide +kernel
theorem dX12_dike_17 : decode cX12_dike 17 = .ok (.ifCond .ne 10, 3) := by decide +kernel
theorem dX12_dike_20 : decode cX12_dike 20 = .ok (.iload_n 3, 1) := by decide +kernel
theorem dX12_dike_21 : decode cX12_dike 21 = .ok (.invokestatic 220, 3) := by decide +kernel
theorem dX12_dike_24 : decode cX12_dike 24 = .ok (.ifCond .eq 7, 3) := by decide +kernel
theorem dX12_dike_27 : decode cX12_dike 27 = .ok (.iconst 1, 1) := by decide +kernel
theorem dX12_dike_28 : decode cX12_dike 28 = .ok (.goto 4, 3) := by decide +kernel
theorem dX12_dike_31 : decode cX12_dike 31 = .ok (.iconst 0, 1) := by decide +kernel
theorem dX12_dike_32 : decode cX12_dike 32 = .ok (.iconst 1, 1) := by decide +kernel
theorem dX12_dike_33 : decode cX12_dike 33 = .ok (.invokevirtual 224, 3) := by decide +kernel
theorem dX12_dike_36 : decode cX12_dike 36 = .ok (.ifCond .ne 54, 3) := by decide +kernel
theorem dX12_dike_39 : decode cX12_dike 39 = .ok (.aload_n 0, 1) := by decide +kernel
theorem dX12_dike_40 : decode cX12_dike 40 = .ok (.iload 4, 2) := by decide +kernel
theorem dX12_dike_42 : decode cX12_dike 42 = .ok (.iconst 1, 1) := by decide +kernel
theorem dX12_dike_43 : decode cX12_dike 43 = .ok (.sipush 1000, 3) := by decide +kernel
theorem dX12_dike_46 : decode cX12_dike 46 = .ok (.invokestatic 197, 3) := by decide +kernel
theorem dX12_dike_49 : decode cX12_dike 49 = .ok (.ifCond .ne 7, 3) := by decide +kernel
theorem dX12_dike_52 : decode cX12_dike 52 = .ok (.iconst 1, 1) := by decide +kernel
theorem dX12_dike_53 : decode cX12_dike 53 = .ok (.goto 4, 3) := by decide +kernel
theorem dX12_dike_56 : decode cX12_dike 56 = .ok (.iconst 0, 1) := by decide +kernel
theorem dX12_dike_57 : decode cX12_dike 57 = .ok (.iconst 2, 1) := by decide +kernel
theorem dX12_dike_58 : decode cX12_dike 58 = .ok (.invokevirtual 224, 3) := by decide +kernel
theorem dX12_dike_61 : decode cX12_dike 61 = .ok (.ifCond .ne 29, 3) := by decide +kernel
theorem dX12_dike_64 : decode cX12_dike 64 = .ok (.aload_n 0, 1) := by decide +kernel
theorem dX12_dike_65 : decode cX12_dike 65 = .ok (.aload_n 0, 1) := by decide +kernel
theorem dX12_dike_66 : decode cX12_dike 66 = .ok (.getfield 9, 3) := by decide +kernel
theorem dX12_dike_69 : decode cX12_dike 69 = .ok (.sipush 1428, 3) := by decide +kernel
theorem dX12_dike_72 : decode cX12_dike 72 = .ok (.iaload, 1) := by decide +kernel
theorem dX12_dike_73 : decode cX12_dike 73 = .ok (.bipush 30, 2) := by decide +kernel
theorem dX12_dike_75 : decode cX12_dike 75 = .ok (.if_icmp .ne 7, 3) := by decide +kernel
theorem dX12_dike_78 : decode cX12_dike 78 = .ok (.iconst 1, 1) := by decide +kernel
theorem dX12_dike_79 : decode cX12_dike 79 = .ok (.goto 4, 3) := by decide +kernel
theorem dX12_dike_82 : decode cX12_dike 82 = .ok (.iconst 0, 1) := by decide +kernel
theorem dX12_dike_83 : decode cX12_dike 83 = .ok (.iconst 3, 1) := by decide +kernel
theorem dX12_dike_84 : decode cX12_dike 84 = .ok (.invokevirtual 224, 3) := by decide +kernel
theorem dX12_dike_87 : decode cX12_dike 87 = .ok (.ifCond .eq 5, 3) := by decide +kernel
theorem dX12_dike_90 : decode cX12_dike 90 = .ok (.iconst 0, 1) := by decide +kernel
theorem dX12_dike_91 : decode cX12_dike 91 = .ok (.ireturn, 1) := by decide +kernel
theorem dX12_dike_92 : decode cX12_dike 92 = .ok (.aload_n 0, 1) := by decide +kernel
theorem dX12_dike_93 : decode cX12_dike 93 = .ok (.iload_n 1, 1) := by decide +kernel
theorem dX12_dike_94 : decode cX12_dike 94 = .ok (.invokevirtual 259, 3) := by decide +kernel
theorem dX12_dike_97 : decode cX12_dike 97 = .ok (.ifCond .ne 37, 3) := by decide +kernel
theorem dX12_dike_100 : decode cX12_dike 100 = .ok (.aload_n 0, 1) := by decide +kernel
theorem dX12_dike_101 : decode cX12_dike 101 = .ok (.iload_n 2, 1) := by decide +kernel
theorem dX12_dike_102 : decode cX12_dike 102 = .ok (.invokevirtual 235, 3) := by decide +kernel
theorem dX12_dike_105 : decode cX12_dike 105 = .ok (.ifCond .ne 29, 3) := by decide +kernel
theorem dX12_dike_108 : decode cX12_dike 108 = .ok (.aload_n 0, 1) := by decide +kernel
theorem dX12_dike_109 : decode cX12_dike 109 = .ok (.iload_n 3, 1) := by decide +kernel
theorem dX12_dike_110 : decode cX12_dike 110 = .ok (.invokevirtual 235, 3) := by decide +kernel
theorem dX12_dike_113 : decode cX12_dike 113 = .ok (.ifCond .eq 21, 3) := by decide +kernel
theorem dX12_dike_116 : decode cX12_dike 116 = .ok (.iload_n 1, 1) := by decide +kernel
theorem dX12_dike_117 : decode cX12_dike 117 = .ok (.iload_n 2, 1) := by decide +kernel
theorem dX12_dike_118 : decode cX12_dike 118 = .ok (.invokestatic 262, 3) := by decide +kernel
theorem dX12_dike_121 : decode cX12_dike 121 = .ok (.iconst 1, 1) := by decide +kernel
theorem dX12_dike_122 : decode cX12_dike 122 = .ok (.if_icmp .ne 12, 3) := by decide +kernel
theorem dX12_dike_125 : decode cX12_dike 125 = .ok (.iload_n 1, 1) := by decide +kernel
theorem dX12_dike_126 : decode cX12_dike 126 = .ok (.iload_n 3, 1) := by decide +kernel
theorem dX12_dike_127 : decode cX12_dike 127 = .ok (.invokestatic 262, 3) := by decide +kernel
theorem dX12_dike_130 : decode cX12_dike 130 = .ok (.iconst 1, 1) := by decide +kernel
theorem dX12_dike_131 : decode cX12_dike 131 = .ok (.if_icmp .eq 5, 3) := by decide +kernel
theorem dX12_dike_134 : decode cX12_dike 134 = .ok (.iconst (-1), 1) := by decide +kernel
theorem dX12_dike_135 : decode cX12_dike 135 = .ok (.ireturn, 1) := by decide +kernel
theorem dX12_dike_136 : decode cX12_dike 136 = .ok (.aload_n 0, 1) := by decide +kernel
theorem dX12_dike_137 : decode cX12_dike 137 = .ok (.iconst 0, 1) := by decide +kernel
theorem dX12_dike_138 : decode cX12_dike 138 = .ok (.iload_n 1, 1) := by decide +kernel
theorem dX12_dike_139 : decode cX12_dike 139 = .ok (.iload_n 3, 1) := by decide +kernel
theorem dX12_dike_140 : decode cX12_dike 140 = .ok (.iload 4, 2) := by decide +kernel
theorem dX12_dike_142 : decode cX12_dike 142 = .ok (.iconst 0, 1) := by decide +kernel
theorem dX12_dike_143 : decode cX12_dike 143 = .ok (.invokevirtual 265, 3) := by decide +kernel
theorem dX12_dike_146 : decode cX12_dike 146 = .ok (.ireturn, 1) := by decide +kernel
theorem dX12_layer_0 : decode cX12_layer 0 = .ok (.aload_n 0, 1) := by decide +kernel
theorem dX12_layer_1 : decode cX12_layer 1 = .ok (.iconst 0, 1) := by decide +kernel
theorem dX12_layer_2 : decode cX12_layer 2 = .ok (.putfield 194, 3) := by decide +kernel
theorem dX12_layer_5 : decode cX12_layer 5 = .ok (.aload_n 0, 1) := by decide +kernel
theorem dX12_layer_6 : decode cX12_layer 6 = .ok (.aload_n 0, 1) := by decide +kernel
theorem dX12_layer_7 : decode cX12_layer 7 = .ok (.iload_n 1, 1) := by decide +kernel
theorem dX12_layer_8 : decode cX12_layer 8 = .ok (.invokevirtual 269, 3) := by decide +kernel
theorem dX12_layer_11 : decode cX12_layer 11 = .ok (.iconst 1, 1) := by decide +kernel
theorem dX12_layer_12 : decode cX12_layer 12 = .ok (.invokevirtual 224, 3) := by decide +kernel
theorem dX12_layer_15 : decode cX12_layer 15 = .ok (.ifCond .ne 58, 3) := by decide +kernel
theorem dX12_layer_18 : decode cX12_layer 18 = .ok (.aload_n 0, 1) := by decide +kernel
theorem dX12_layer_19 : decode cX12_layer 19 = .ok (.iload_n 2, 1) := by decide +kernel
theorem dX12_layer_20 : decode cX12_layer 20 = .ok (.iconst 1, 1) := by decide +kernel
theorem dX12_layer_21 : decode cX12_layer 21 = .ok (.sipush 300, 3) := by decide +kernel
theorem dX12_layer_24 : decode cX12_layer 24 = .ok (.invokestatic 197, 3) := by decide +kernel
theorem dX12_layer_27 : decode cX12_layer 27 = .ok (.ifCond .eq 13, 3) := by decide +kernel
theorem dX12_layer_30 : decode cX12_layer 30 = .ok (.iload_n 3, 1) := by decide +kernel
theorem dX12_layer_31 : decode cX12_layer 31 = .ok (.iconst 0, 1) := by decide +kernel
theorem dX12_layer_32 : decode cX12_layer 32 = .ok (.bipush 9, 2) := by decide +kernel
theorem dX12_layer_34 : decode cX12_layer 34 = .ok (.invokestatic 197, 3) := by decide +kernel
theorem dX12_layer_37 : decode cX12_layer 37 = .ok (.ifCond .ne 7, 3) := by decide +kernel
theorem dX12_layer_40 : decode cX12_layer 40 = .ok (.iconst 1, 1) := by decide +kernel
theorem dX12_layer_41 : decode cX12_layer 41 = .ok (.goto 4, 3) := by decide +kernel
theorem dX12_layer_44 : decode cX12_layer 44 = .ok (.iconst 0, 1) := by decide +kernel
theorem dX12_layer_45 : decode cX12_layer 45 = .ok (.iconst 2, 1) := by decide +kernel
theorem dX12_layer_46 : decode cX12_layer 46 = .ok (.invokevirtual 224, 3) := by decide +kernel
theorem dX12_layer_49 : decode cX12_layer 49 = .ok (.ifCond .ne 24, 3) := by decide +kernel
theorem dX12_layer_52 : decode cX12_layer 52 = .ok (.aload_n 0, 1) := by decide +kernel
theorem dX12_layer_53 : decode cX12_layer 53 = .ok (.aload_n 0, 1) := by decide +kernel
theorem dX12_layer_54 : decode cX12_layer 54 = .ok (.iload_n 1, 1) := by decide +kernel
theorem dX12_layer_55 : decode cX12_layer 55 = .ok (.invokevirtual 272, 3) := by decide +kernel
theorem dX12_layer_58 : decode cX12_layer 58 = .ok (.ifCond .ne 7, 3) := by decide +kernel
theorem dX12_layer_61 : decode cX12_layer 61 = .ok (.iconst 1, 1) := by decide +kernel
theorem dX12_layer_62 : decode cX12_layer 62 = .ok (.goto 4, 3) := by decide +kernel
theorem dX12_layer_65 : decode cX12_layer 65 = .ok (.iconst 0, 1) := by decide +kernel
theorem dX12_layer_66 : decode cX12_layer 66 = .ok (.iconst 3, 1) := by decide +kernel
theorem dX12_layer_67 : decode cX12_layer 67 = .ok (.invokevirtual 224, 3) := by decide +kernel
theorem dX12_layer_70 : decode cX12_layer 70 = .ok (.ifCond .eq 5, 3) := by decide +kernel
theorem dX12_layer_73 : decode cX12_layer 73 = .ok (.iconst 0, 1) := by decide +kernel
theorem dX12_layer_74 : decode cX12_layer 74 = .ok (.ireturn, 1) := by decide +kernel
theorem dX12_layer_75 : decode cX12_layer 75 = .ok (.aload_n 0, 1) := by decide +kernel
theorem dX12_layer_76 : decode cX12_layer 76 = .ok (.iload_n 1, 1) := by decide +kernel
theorem dX12_layer_77 : decode cX12_layer 77 = .ok (.iconst 4, 1) := by decide +kernel
theorem dX12_layer_78 : decode cX12_layer 78 = .ok (.invokevirtual 217, 3) := by decide +kernel
theorem dX12_layer_81 : decode cX12_layer 81 = .ok (.bipush 6, 2) := by decide +kernel
theorem dX12_layer_83 : decode cX12_layer 83 = .ok (.if_icmp .eq 13, 3) := by decide +kernel
theorem dX12_layer_86 : decode cX12_layer 86 = .ok (.aload_n 0, 1) := by decide +kernel
theorem dX12_layer_87 : decode cX12_layer 87 = .ok (.iload_n 1, 1) := by decide +kernel
theorem dX12_layer_88 : decode cX12_layer 88 = .ok (.iconst 0, 1) := by decide +kernel
theorem dX12_layer_89 : decode cX12_layer 89 = .ok (.invokevirtual 217, 3) := by decide +kernel
theorem dX12_layer_92 : decode cX12_layer 92 = .ok (.iconst 1, 1) := by decide +kernel
theorem dX12_layer_93 : decode cX12_layer 93 = .ok (.if_icmp .ne 5, 3) := by decide +kernel
theorem dX12_layer_96 : decode cX12_layer 96 = .ok (.iconst (-1), 1) := by decide +kernel
theorem dX12_layer_97 : decode cX12_layer 97 = .ok (.ireturn, 1) := by decide +kernel
theorem dX12_layer_98 : decode cX12_layer 98 = .ok (.aload_n 0, 1) := by decide +kernel
theorem dX12_layer_99 : decode cX12_layer 99 = .ok (.iload_n 1, 1) := by decide +kernel
theorem dX12_layer_100 : decode cX12_layer 100 = .ok (.iload_n 2, 1) := by decide +kernel
theorem dX12_layer_101 : decode cX12_layer 101 = .ok (.iload_n 3, 1) := by decide +kernel
theorem dX12_layer_102 : decode cX12_layer 102 = .ok (.invokevirtual 275, 3) := by decide +kernel
theorem dX12_layer_105 : decode cX12_layer 105 = .ok (.aload_n 0, 1) := by decide +kernel
theorem dX12_layer_106 : decode cX12_layer 106 = .ok (.iload_n 1, 1) := by decide +kernel
theorem dX12_layer_107 : decode cX12_layer 107 = .ok (.iconst 4, 1) := by decide +kernel
theorem dX12_layer_108 : decode cX12_layer 108 = .ok (.invokevirtual 217, 3) := by decide +kernel
theorem dX12_layer_111 : decode cX12_layer 111 = .ok (.ireturn, 1) := by decide +kernel
theorem dX12_mill_0 : decode cX12_mill 0 = .ok (.aload_n 0, 1) := by decide +kernel
theorem dX12_mill_1 : decode cX12_mill 1 = .ok (.iconst 0, 1) := by decide +kernel
theorem dX12_mill_2 : decode cX12_mill 2 = .ok (.putfield 194, 3) := by decide +kernel
theorem dX12_mill_5 : decode cX12_mill 5 = .ok (.aload_n 0, 1) := by decide +kernel
theorem dX12_mill_6 : decode cX12_mill 6 = .ok (.iload_n 1, 1) := by decide +kernel
theorem dX12_mill_7 : decode cX12_mill 7 = .ok (.invokestatic 220, 3) := by decide +kernel
theorem dX12_mill_10 : decode cX12_mill 10 = .ok (.ifCond .ne 10, 3) := by decide +kernel
theorem dX12_mill_13 : decode cX12_mill 13 = .ok (.iload_n 2, 1) := by decide +kernel
theorem dX12_mill_14 : decode cX12_mill 14 = .ok (.invokestatic 220, 3) := by decide +kernel
theorem dX12_mill_17 : decode cX12_mill 17 = .ok (.ifCond .eq 7, 3) := by decide +kernel
theorem dX12_mill_20 : decode cX12_mill 20 = .ok (.iconst 1, 1) := by decide +kernel
theorem dX12_mill_21 : decode cX12_mill 21 = .ok (.goto 4, 3) := by decide +kernel
theorem dX12_mill_24 : decode cX12_mill 24 = .ok (.iconst 0, 1) := by decide +kernel
theorem dX12_mill_25 : decode cX12_mill 25 = .ok (.iconst 1, 1) := by decide +kernel
theorem dX12_mill_26 : decode cX12_mill 26 = .ok (.invokevirtual 224, 3) := by decide +kernel
theorem dX12_mill_29 : decode cX12_mill 29 = .ok (.ifCond .ne 52, 3) := by decide +kernel
theorem dX12_mill_32 : decode cX12_mill 32 = .ok (.aload_n 0, 1) := by decide +kernel
theorem dX12_mill_33 : decode cX12_mill 33 = .ok (.iload_n 3, 1) := by decide +kernel
theorem dX12_mill_34 : decode cX12_mill 34 = .ok (.iconst 1, 1) := by decide +kernel
theorem dX12_mill_35 : decode cX12_mill 35 = .ok (.bipush 60, 2) := by decide +kernel
theorem dX12_mill_37 : decode cX12_mill 37 = .ok (.invokestatic 197, 3) := by decide +kernel
theorem dX12_mill_40 : decode cX12_mill 40 = .ok (.ifCond .ne 7, 3) := by decide +kernel
theorem dX12_mill_43 : decode cX12_mill 43 = .ok (.iconst 1, 1) := by decide +kernel
theorem dX12_mill_44 : decode cX12_mill 44 = .ok (.goto 4, 3) := by decide +kernel
theorem dX12_mill_47 : decode cX12_mill 47 = .ok (.iconst 0, 1) := by decide +kernel
theorem dX12_mill_48 : decode cX12_mill 48 = .ok (.iconst 2, 1) := by decide +kernel
theorem dX12_mill_49 : decode cX12_mill 49 = .ok (.invokevirtual 224, 3) := by decide +kernel
theorem dX12_mill_52 : decode cX12_mill 52 = .ok (.ifCond .ne 29, 3) := by decide +kernel
theorem dX12_mill_55 : decode cX12_mill 55 = .ok (.aload_n 0, 1) := by decide +kernel
theorem dX12_mill_56 : decode cX12_mill 56 = .ok (.aload_n 0, 1) := by decide +kernel
theorem dX12_mill_57 : decode cX12_mill 57 = .ok (.getfield 9, 3) := by decide +kernel
theorem dX12_mill_60 : decode cX12_mill 60 = .ok (.sipush 1428, 3) := by decide +kernel
theorem dX12_mill_63 : decode cX12_mill 63 = .ok (.iaload, 1) := by decide +kernel
theorem dX12_mill_64 : decode cX12_mill 64 = .ok (.bipush 30, 2) := by decide +kernel
theorem dX12_mill_66 : decode cX12_mill 66 = .ok (.if_icmp .ne 7, 3) := by decide +kernel
theorem dX12_mill_69 : decode cX12_mill 69 = .ok (.iconst 1, 1) := by decide +kernel
theorem dX12_mill_70 : decode cX12_mill 70 = .ok (.goto 4, 3) := by decide +kernel
theorem dX12_mill_73 : decode cX12_mill 73 = .ok (.iconst 0, 1) := by decide +kernel
theorem dX12_mill_74 : decode cX12_mill 74 = .ok (.iconst 3, 1) := by decide +kernel
theorem dX12_mill_75 : decode cX12_mill 75 = .ok (.invokevirtual 224, 3) := by decide +kernel
theorem dX12_mill_78 : decode cX12_mill 78 = .ok (.ifCond .eq 5, 3) := by decide +kernel
theorem dX12_mill_81 : decode cX12_mill 81 = .ok (.iconst 0, 1) := by decide +kernel
theorem dX12_mill_82 : decode cX12_mill 82 = .ok (.ireturn, 1) := by decide +kernel
theorem dX12_mill_83 : decode cX12_mill 83 = .ok (.aload_n 0, 1) := by decide +kernel
theorem dX12_mill_84 : decode cX12_mill 84 = .ok (.iload_n 1, 1) := by decide +kernel
theorem dX12_mill_85 : decode cX12_mill 85 = .ok (.invokevirtual 259, 3) := by decide +kernel
theorem dX12_mill_88 : decode cX12_mill 88 = .ok (.ifCond .ne 20, 3) := by decide +kernel
theorem dX12_mill_91 : decode cX12_mill 91 = .ok (.iload_n 1, 1) := by decide +kernel
theorem dX12_mill_92 : decode cX12_mill 92 = .ok (.iload_n 2, 1) := by decide +kernel
theorem dX12_mill_93 : decode cX12_mill 93 = .ok (.invokestatic 262, 3) := by decide +kernel
theorem dX12_mill_96 : decode cX12_mill 96 = .ok (.iconst 1, 1) := by decide +kernel
theorem dX12_mill_97 : decode cX12_mill 97 = .ok (.if_icmp .ne 11, 3) := by decide +kernel
theorem dX12_mill_100 : decode cX12_mill 100 = .ok (.aload_n 0, 1) := by decide +kernel
theorem dX12_mill_101 : decode cX12_mill 101 = .ok (.iload_n 1, 1) := by decide +kernel
theorem dX12_mill_102 : decode cX12_mill 102 = .ok (.invokevirtual 279, 3) := by decide +kernel
theorem dX12_mill_105 : decode cX12_mill 105 = .ok (.ifCond .ne 5, 3) := by decide +kernel
theorem dX12_mill_108 : decode cX12_mill 108 = .ok (.iconst (-1), 1) := by decide +kernel
theorem dX12_mill_109 : decode cX12_mill 109 = .ok (.ireturn, 1) := by decide +kernel
theorem dX12_mill_110 : decode cX12_mill 110 = .ok (.aload_n 0, 1) := by decide +kernel
theorem dX12_mill_111 : decode cX12_mill 111 = .ok (.iload 4, 2) := by decide +kernel
theorem dX12_mill_113 : decode cX12_mill 113 = .ok (.ifCond .eq 7, 3) := by decide +kernel
theorem dX12_mill_116 : decode cX12_mill 116 = .ok (.iconst 3, 1) := by decide +kernel
theorem dX12_mill_117 : decode cX12_mill 117 = .ok (.goto 4, 3) := by decide +kernel
theorem dX12_mill_120 : decode cX12_mill 120 = .ok (.iconst 2, 1) := by decide +kernel
theorem dX12_mill_121 : decode cX12_mill 121 = .ok (.iload_n 1, 1) := by decide +kernel
theorem dX12_mill_122 : decode cX12_mill 122 = .ok (.iload_n 2, 1) := by decide +kernel
theorem dX12_mill_123 : decode cX12_mill 123 = .ok (.iconst 0, 1) := by decide +kernel
theorem dX12_mill_124 : decode cX12_mill 124 = .ok (.iload_n 3, 1) := by decide +kernel
theorem dX12_mill_125 : decode cX12_mill 125 = .ok (.invokevirtual 265, 3) := by decide +kernel
theorem dX12_mill_128 : decode cX12_mill 128 = .ok (.ireturn, 1) := by decide +kernel
theorem dX12_sluice_0 : decode cX12_sluice 0 = .ok (.aload_n 0, 1) := by decide +kernel
theorem dX12_sluice_1 : decode cX12_sluice 1 = .ok (.iconst 0, 1) := by decide +kernel
theorem dX12_sluice_2 : decode cX12_sluice 2 = .ok (.putfield 194, 3) := by decide +kernel
theorem dX12_sluice_5 : decode cX12_sluice 5 = .ok (.aload_n 0, 1) := by decide +kernel
theorem dX12_sluice_6 : decode cX12_sluice 6 = .ok (.iload_n 1, 1) := by decide +kernel
theorem dX12_sluice_7 : decode cX12_sluice 7 = .ok (.invokestatic 220, 3) := by decide +kernel
theorem dX12_sluice_10 : decode cX12_sluice 10 = .ok (.ifCond .ne 10, 3) := by decide +kernel
theorem dX12_sluice_13 : decode cX12_sluice 13 = .ok (.iload_n 2, 1) := by decide +kernel
theorem dX12_sluice_14 : decode cX12_sluice 14 = .ok (.invokestatic 220, 3) := by decide +kernel
theorem dX12_sluice_17 : decode cX12_sluice 17 = .ok (.ifCond .eq 7, 3) := by decide +kernel
theorem dX12_sluice_20 : decode cX12_sluice 20 = .ok (.iconst 1, 1) := by decide +kernel
theorem dX12_sluice_21 : decode cX12_sluice 21 = .ok (.goto 4, 3) := by decide +kernel
theorem dX12_sluice_24 : decode cX12_sluice 24 = .ok (.iconst 0, 1) := by decide +kernel
theorem dX12_sluice_25 : decode cX12_sluice 25 = .ok (.iconst 1, 1) := by decide +kernel
theorem dX12_sluice_26 : decode cX12_sluice 26 = .ok (.invokevirtual 224, 3) := by decide +kernel
theorem dX12_sluice_29 : decode cX12_sluice 29 = .ok (.ifCond .ne 52, 3) := by decide +kernel
theorem dX12_sluice_32 : decode cX12_sluice 32 = .ok (.aload_n 0, 1) := by decide +kernel
theorem dX12_sluice_33 : decode cX12_sluice 33 = .ok (.iload_n 3, 1) := by decide +kernel
theorem dX12_sluice_34 : decode cX12_sluice 34 = .ok (.iconst 1, 1) := by decide +kernel
theorem dX12_sluice_35 : decode cX12_sluice 35 = .ok (.bipush 60, 2) := by decide +kernel
theorem dX12_sluice_37 : decode cX12_sluice 37 = .ok (.invokestatic 197, 3) := by decide +kernel
theorem dX12_sluice_40 : decode cX12_sluice 40 = .ok (.ifCond .ne 7, 3) := by decide +kernel
theorem dX12_sluice_43 : decode cX12_sluice 43 = .ok (.iconst 1, 1) := by decide +kernel
theorem dX12_sluice_44 : decode cX12_sluice 44 = .ok (.goto 4, 3) := by decide +kernel
theorem dX12_sluice_47 : decode cX12_sluice 47 = .ok (.iconst 0, 1) := by decide +kernel
theorem dX12_sluice_48 : decode cX12_sluice 48 = .ok (.iconst 2, 1) := by decide +kernel
theorem dX12_sluice_49 : decode cX12_sluice 49 = .ok (.invokevirtual 224, 3) := by decide +kernel
theorem dX12_sluice_52 : decode cX12_sluice 52 = .ok (.ifCond .ne 29, 3) := by decide +kernel
theorem dX12_sluice_55 : decode cX12_sluice 55 = .ok (.aload_n 0, 1) := by decide +kernel
theorem dX12_sluice_56 : decode cX12_sluice 56 = .ok (.aload_n 0, 1) := by decide +kernel
theorem dX12_sluice_57 : decode cX12_sluice 57 = .ok (.getfield 9, 3) := by decide +kernel
theorem dX12_sluice_60 : decode cX12_sluice 60 = .ok (.sipush 1428, 3) := by decide +kernel
theorem dX12_sluice_63 : decode cX12_sluice 63 = .ok (.iaload, 1) := by decide +kernel
theorem dX12_sluice_64 : decode cX12_sluice 64 = .ok (.bipush 30, 2) := by decide +kernel
theorem dX12_sluice_66 : decode cX12_sluice 66 = .ok (.if_icmp .ne 7, 3) := by decide +kernel
theorem dX12_sluice_69 : decode cX12_sluice 69 = .ok (.iconst 1, 1) := by decide +kernel
theorem dX12_sluice_70 : decode cX12_sluice 70 = .ok (.goto 4, 3) := by decide +kernel
theorem dX12_sluice_73 : decode cX12_sluice 73 = .ok (.iconst 0, 1) := by decide +kernel
theorem dX12_sluice_74 : decode cX12_sluice 74 = .ok (.iconst 3, 1) := by decide +kernel
theorem dX12_sluice_75 : decode cX12_sluice 75 = .ok (.invokevirtual 224, 3) := by decide +kernel
theorem dX12_sluice_78 : decode cX12_sluice 78 = .ok (.ifCond .eq 5, 3) := by decide +kernel
theorem dX12_sluice_81 : decode cX12_sluice 81 = .ok (.iconst 0, 1) := by decide +kernel
theorem dX12_sluice_82 : decode cX12_sluice 82 = .ok (.ireturn, 1) := by decide +kernel
theorem dX12_sluice_83 : decode cX12_sluice 83 = .ok (.aload_n 0, 1) := by decide +kernel
theorem dX12_sluice_84 : decode cX12_sluice 84 = .ok (.iload_n 1, 1) := by decide +kernel
theorem dX12_sluice_85 : decode cX12_sluice 85 = .ok (.invokevirtual 259, 3) := by decide +kernel
theorem dX12_sluice_88 : decode cX12_sluice 88 = .ok (.ifCond .ne 20, 3) := by decide +kernel
theorem dX12_sluice_91 : decode cX12_sluice 91 = .ok (.aload_n 0, 1) := by decide +kernel
theorem dX12_sluice_92 : decode cX12_sluice 92 = .ok (.iload_n 2, 1) := by decide +kernel
theorem dX12_sluice_93 : decode cX12_sluice 93 = .ok (.invokevirtual 235, 3) := by decide +kernel
theorem dX12_sluice_96 : decode cX12_sluice 96 = .ok (.ifCond .ne 12, 3) := by decide +kernel
theorem dX12_sluice_99 : decode cX12_sluice 99 = .ok (.iload_n 1, 1) := by decide +kernel
theorem dX12_sluice_100 : decode cX12_sluice 100 = .ok (.iload_n 2, 1) := by decide +kernel
theorem dX12_sluice_101 : decode cX12_sluice 101 = .ok (.invokestatic 262, 3) := by decide +kernel
theorem dX12_sluice_104 : decode cX12_sluice 104 = .ok (.iconst 1, 1) := by decide +kernel
theorem dX12_sluice_105 : decode cX12_sluice 105 = .ok (.if_icmp .eq 5, 3) := by decide +kernel
theorem dX12_sluice_108 : decode cX12_sluice 108 = .ok (.iconst (-1), 1) := by decide +kernel
theorem dX12_sluice_109 : decode cX12_sluice 109 = .ok (.ireturn, 1) := by decide +kernel
theorem dX12_sluice_110 : decode cX12_sluice 110 = .ok (.aload_n 0, 1) := by decide +kernel
theorem dX12_sluice_111 : decode cX12_sluice 111 = .ok (.iconst 4, 1) := by decide +kernel
theorem dX12_sluice_112 : decode cX12_sluice 112 = .ok (.iload_n 1, 1) := by decide +kernel
theorem dX12_sluice_113 : decode cX12_sluice 113 = .ok (.iload_n 2, 1) := by decide +kernel
theorem dX12_sluice_114 : decode cX12_sluice 114 = .ok (.iconst 0, 1) := by decide +kernel
theorem dX12_sluice_115 : decode cX12_sluice 115 = .ok (.iload_n 3, 1) := by decide +kernel
theorem dX12_sluice_116 : decode cX12_sluice 116 = .ok (.invokevirtual 265, 3) := by decide +kernel
theorem dX12_sluice_119 : decode cX12_sluice 119 = .ok (.ireturn, 1) := by decide +kernel
theorem dX12_turn_0 : decode cX12_turn 0 = .ok (.aload_n 0, 1) := by decide +kernel
theorem dX12_turn_1 : decode cX12_turn 1 = .ok (.iconst 0, 1) := by decide +kernel
theorem dX12_turn_2 : decode cX12_turn 2 = .ok (.putfield 194, 3) := by decide +kernel
theorem dX12_turn_5 : decode cX12_turn 5 = .ok (.aload_n 0, 1) := by decide +kernel
theorem dX12_turn_6 : decode cX12_turn 6 = .ok (.aload_n 0, 1) := by decide +kernel
theorem dX12_turn_7 : decode cX12_turn 7 = .ok (.iload_n 1, 1) := by decide +kernel
theorem dX12_turn_8 : decode cX12_turn 8 = .ok (.invokevirtual 269, 3) := by decide +kernel
theorem dX12_turn_11 : decode cX12_turn 11 = .ok (.iconst 1, 1) := by decide +kernel
theorem dX12_turn_12 : decode cX12_turn 12 = .ok (.invokevirtual 224, 3) := by decide +kernel
theorem dX12_turn_15 : decode cX12_turn 15 = .ok (.ifCond .ne 26, 3) := by decide +kernel
theorem dX12_turn_18 : decode cX12_turn 18 = .ok (.aload_n 0, 1) := by decide +kernel
theorem dX12_turn_19 : decode cX12_turn 19 = .ok (.aload_n 0, 1) := by decide +kernel
theorem dX12_turn_20 : decode cX12_turn 20 = .ok (.iload_n 1, 1) := by decide +kernel
theorem dX12_turn_21 : decode cX12_turn 21 = .ok (.iconst 0, 1) := by decide +kernel
theorem dX12_turn_22 : decode cX12_turn 22 = .ok (.invokevirtual 217, 3) := by decide +kernel
theorem dX12_turn_25 : decode cX12_turn 25 = .ok (.iconst 3, 1) := by decide +kernel
theorem dX12_turn_26 : decode cX12_turn 26 = .ok (.if_icmp .ge 7, 3) := by decide +kernel
theorem dX12_turn_29 : decode cX12_turn 29 = .ok (.iconst 1, 1) := by decide +kernel
theorem dX12_turn_30 : decode cX12_turn 30 = .ok (.goto 4, 3) := by decide +kernel
theorem dX12_turn_33 : decode cX12_turn 33 = .ok (.iconst 0, 1) := by decide +kernel
theorem dX12_turn_34 : decode cX12_turn 34 = .ok (.iconst 2, 1) := by decide +kernel
theorem dX12_turn_35 : decode cX12_turn 35 = .ok (.invokevirtual 224, 3) := by decide +kernel
theorem dX12_turn_38 : decode cX12_turn 38 = .ok (.ifCond .eq 5, 3) := by decide +kernel
theorem dX12_turn_41 : decode cX12_turn 41 = .ok (.iconst 0, 1) := by decide +kernel
theorem dX12_turn_42 : decode cX12_turn 42 = .ok (.ireturn, 1) := by decide +kernel
theorem dX12_turn_43 : decode cX12_turn 43 = .ok (.aload_n 0, 1) := by decide +kernel
theorem dX12_turn_44 : decode cX12_turn 44 = .ok (.iload_n 1, 1) := by decide +kernel
theorem dX12_turn_45 : decode cX12_turn 45 = .ok (.bipush 19, 2) := by decide +kernel
theorem dX12_turn_47 : decode cX12_turn 47 = .ok (.invokevirtual 217, 3) := by decide +kernel
theorem dX12_turn_50 : decode cX12_turn 50 = .ok (.iconst 1, 1) := by decide +kernel
theorem dX12_turn_51 : decode cX12_turn 51 = .ok (.if_icmp .ne 7, 3) := by decide +kernel
theorem dX12_turn_54 : decode cX12_turn 54 = .ok (.iconst 1, 1) := by decide +kernel
theorem dX12_turn_55 : decode cX12_turn 55 = .ok (.goto 4, 3) := by decide +kernel
theorem dX12_turn_58 : decode cX12_turn 58 = .ok (.iconst 0, 1) := by decide +kernel
theorem dX12_turn_59 : decode cX12_turn 59 = .ok (.istore_n 3, 1) := by decide +kernel
theorem dX12_turn_60 : decode cX12_turn 60 = .ok (.aload_n 0, 1) := by decide +kernel
theorem dX12_turn_61 : decode cX12_turn 61 = .ok (.getfield 9, 3) := by decide +kernel
theorem dX12_turn_64 : decode cX12_turn 64 = .ok (.iload_n 1, 1) := by decide +kernel
theorem dX12_turn_65 : decode cX12_turn 65 = .ok (.bipush 19, 2) := by decide +kernel
theorem dX12_turn_67 : decode cX12_turn 67 = .ok (.invokestatic 214, 3) := by decide +kernel
theorem dX12_turn_70 : decode cX12_turn 70 = .ok (.iload_n 2, 1) := by decide +kernel
theorem dX12_turn_71 : decode cX12_turn 71 = .ok (.ifCond .eq 7, 3) := by decide +kernel
theorem dX12_turn_74 : decode cX12_turn 74 = .ok (.iconst 1, 1) := by decide +kernel
theorem dX12_turn_75 : decode cX12_turn 75 = .ok (.goto 4, 3) := by decide +kernel
theorem dX12_turn_78 : decode cX12_turn 78 = .ok (.iconst 0, 1) := by decide +kernel
theorem dX12_turn_79 : decode cX12_turn 79 = .ok (.iastore, 1) := by decide +kernel
theorem dX12_turn_80 : decode cX12_turn 80 = .ok (.aload_n 0, 1) := by decide +kernel
theorem dX12_turn_81 : decode cX12_turn 81 = .ok (.iconst 0, 1) := by decide +kernel
theorem dX12_turn_82 : decode cX12_turn 82 = .ok (.putfield 238, 3) := by decide +kernel
theorem dX12_turn_85 : decode cX12_turn 85 = .ok (.iload_n 3, 1) := by decide +kernel
theorem dX12_turn_86 : decode cX12_turn 86 = .ok (.iload_n 2, 1) := by decide +kernel
theorem dX12_turn_87 : decode cX12_turn 87 = .ok (.if_icmp .eq 7, 3) := by decide +kernel
theorem dX12_turn_90 : decode cX12_turn 90 = .ok (.iconst 1, 1) := by decide +kernel
theorem dX12_turn_91 : decode cX12_turn 91 = .ok (.goto 4, 3) := by decide +kernel
theorem dX12_turn_94 : decode cX12_turn 94 = .ok (.iconst 0, 1) := by decide +kernel
theorem dX12_turn_95 : decode cX12_turn 95 = .ok (.ireturn, 1) := by decide +kernel
theorem dX12_coal_0 : decode cX12_coal 0 = .ok (.aload_n 0, 1) := by decide +kernel
theorem dX12_coal_1 : decode cX12_coal 1 = .ok (.iconst 0, 1) := by decide +kernel
theorem dX12_coal_2 : decode cX12_coal 2 = .ok (.putfield 194, 3) := by decide +kernel
theorem dX12_coal_5 : decode cX12_coal 5 = .ok (.aload_n 0, 1) := by decide +kernel
theorem dX12_coal_6 : decode cX12_coal 6 = .ok (.aload_n 0, 1) := by decide +kernel
theorem dX12_coal_7 : decode cX12_coal 7 = .ok (.iload_n 1, 1) := by decide +kernel
theorem dX12_coal_8 : decode cX12_coal 8 = .ok (.invokevirtual 269, 3) := by decide +kernel
theorem dX12_coal_11 : decode cX12_coal 11 = .ok (.iconst 1, 1) := by decide +kernel
theorem dX12_coal_12 : decode cX12_coal 12 = .ok (.invokevirtual 224, 3) := by decide +kernel
theorem dX12_coal_15 : decode cX12_coal 15 = .ok (.ifCond .ne 74, 3) := by decide +kernel
theorem dX12_coal_18 : decode cX12_coal 18 = .ok (.aload_n 0, 1) := by decide +kernel
theorem dX12_coal_19 : decode cX12_coal 19 = .ok (.iload_n 2, 1) := by decide +kernel
theorem dX12_coal_20 : decode cX12_coal 20 = .ok (.iconst 0, 1) := by decide +kernel
theorem dX12_coal_21 : decode cX12_coal 21 = .ok (.sipush 10000, 3) := by decide +kernel
theorem dX12_coal_24 : decode cX12_coal 24 = .ok (.invokestatic 197, 3) := by decide +kernel
theorem dX12_coal_27 : decode cX12_coal 27 = .ok (.ifCond .eq 27, 3) := by decide +kernel
theorem dX12_coal_30 : decode cX12_coal 30 = .ok (.aload_n 0, 1) := by decide +kernel
theorem dX12_coal_31 : decode cX12_coal 31 = .ok (.iload_n 1, 1) := by decide +kernel
theorem dX12_coal_32 : decode cX12_coal 32 = .ok (.iconst 0, 1) := by decide +kernel
theorem dX12_coal_33 : decode cX12_coal 33 = .ok (.invokevirtual 217, 3) := by decide +kernel
theorem dX12_coal_36 : decode cX12_coal 36 = .ok (.iconst 3, 1) := by decide +kernel
theorem dX12_coal_37 : decode cX12_coal 37 = .ok (.if_icmp .ne 21, 3) := by decide +kernel
theorem dX12_coal_40 : decode cX12_coal 40 = .ok (.aload_n 0, 1) := by decide +kernel
theorem dX12_coal_41 : decode cX12_coal 41 = .ok (.iload_n 1, 1) := by decide +kernel
theorem dX12_coal_42 : decode cX12_coal 42 = .ok (.bipush 18, 2) := by decide +kernel
theorem dX12_coal_44 : decode cX12_coal 44 = .ok (.invokevirtual 217, 3) := by decide +kernel
theorem dX12_coal_47 : decode cX12_coal 47 = .ok (.iload_n 2, 1) := by decide +kernel
theorem dX12_coal_48 : decode cX12_coal 48 = .ok (.iadd, 1) := by decide +kernel
theorem dX12_coal_49 : decode cX12_coal 49 = .ok (.ldc 241, 2) := by decide +kernel
theorem dX12_coal_51 : decode cX12_coal 51 = .ok (.if_icmp .le 7, 3) := by decide +kernel
theorem dX12_coal_54 : decode cX12_coal 54 = .ok (.iconst 1, 1) := by decide +kernel
theorem dX12_coal_55 : decode cX12_coal 55 = .ok (.goto 4, 3) := by decide +kernel
theorem dX12_coal_58 : decode cX12_coal 58 = .ok (.iconst 0, 1) := by decide +kernel
theorem dX12_coal_59 : decode cX12_coal 59 = .ok (.iconst 2, 1) := by decide +kernel
theorem dX12_coal_60 : decode cX12_coal 60 = .ok (.invokevirtual 224, 3) := by decide +kernel
theorem dX12_coal_63 : decode cX12_coal 63 = .ok (.ifCond .ne 26, 3) := by decide +kernel
theorem dX12_coal_66 : decode cX12_coal 66 = .ok (.aload_n 0, 1) := by decide +kernel
theorem dX12_coal_67 : decode cX12_coal 67 = .ok (.aload_n 0, 1) := by decide +kernel
theorem dX12_coal_68 : decode cX12_coal 68 = .ok (.iload_n 1, 1) := by decide +kernel
theorem dX12_coal_69 : decode cX12_coal 69 = .ok (.iconst 0, 1) := by decide +kernel
theorem dX12_coal_70 : decode cX12_coal 70 = .ok (.invokevirtual 217, 3) := by decide +kernel
theorem dX12_coal_73 : decode cX12_coal 73 = .ok (.iconst 3, 1) := by decide +kernel
theorem dX12_coal_74 : decode cX12_coal 74 = .ok (.if_icmp .eq 7, 3) := by decide +kernel
theorem dX12_coal_77 : decode cX12_coal 77 = .ok (.iconst 1, 1) := by decide +kernel
theorem dX12_coal_78 : decode cX12_coal 78 = .ok (.goto 4, 3) := by decide +kernel
theorem dX12_coal_81 : decode cX12_coal 81 = .ok (.iconst 0, 1) := by decide +kernel
theorem dX12_coal_82 : decode cX12_coal 82 = .ok (.iconst 3, 1) := by decide +kernel
theorem dX12_coal_83 : decode cX12_coal 83 = .ok (.invokevirtual 224, 3) := by decide +kernel
theorem dX12_coal_86 : decode cX12_coal 86 = .ok (.ifCond .eq 5, 3) := by decide +kernel
theorem dX12_coal_89 : decode cX12_coal 89 = .ok (.iconst 0, 1) := by decide +kernel
theorem dX12_coal_90 : decode cX12_coal 90 = .ok (.ireturn, 1) := by decide +kernel
theorem dX12_coal_91 : decode cX12_coal 91 = .ok (.aload_n 0, 1) := by decide +kernel
theorem dX12_coal_92 : decode cX12_coal 92 = .ok (.getfield 9, 3) := by decide +kernel
theorem dX12_coal_95 : decode cX12_coal 95 = .ok (.iload_n 1, 1) := by decide +kernel
theorem dX12_coal_96 : decode cX12_coal 96 = .ok (.bipush 18, 2) := by decide +kernel
theorem dX12_coal_98 : decode cX12_coal 98 = .ok (.invokestatic 214, 3) := by decide +kernel
theorem dX12_coal_101 : decode cX12_coal 101 = .ok (.dup2, 1) := by decide +kernel
theorem dX12_coal_102 : decode cX12_coal 102 = .ok (.iaload, 1) := by decide +kernel
theorem dX12_coal_103 : decode cX12_coal 103 = .ok (.iload_n 2, 1) := by decide +kernel
theorem dX12_coal_104 : decode cX12_coal 104 = .ok (.iadd, 1) := by decide +kernel
theorem dX12_coal_105 : decode cX12_coal 105 = .ok (.iastore, 1) := by decide +kernel
theorem dX12_coal_106 : decode cX12_coal 106 = .ok (.aload_n 0, 1) := by decide +kernel
theorem dX12_coal_107 : decode cX12_coal 107 = .ok (.iconst 0, 1) := by decide +kernel
theorem dX12_coal_108 : decode cX12_coal 108 = .ok (.putfield 238, 3) := by decide +kernel
theorem dX12_coal_111 : decode cX12_coal 111 = .ok (.aload_n 0, 1) := by decide +kernel
theorem dX12_coal_112 : decode cX12_coal 112 = .ok (.iload_n 1, 1) := by decide +kernel
theorem dX12_coal_113 : decode cX12_coal 113 = .ok (.bipush 18, 2) := by decide +kernel
theorem dX12_coal_115 : decode cX12_coal 115 = .ok (.invokevirtual 217, 3) := by decide +kernel
theorem dX12_coal_118 : decode cX12_coal 118 = .ok (.ireturn, 1) := by decide +kernel
theorem dX12_work_0 : decode cX12_work 0 = .ok (.aload_n 0, 1) := by decide +kernel
theorem dX12_work_1 : decode cX12_work 1 = .ok (.iconst 0, 1) := by decide +kernel
theorem dX12_work_2 : decode cX12_work 2 = .ok (.putfield 194, 3) := by decide +kernel
theorem dX12_work_5 : decode cX12_work 5 = .ok (.aload_n 0, 1) := by decide +kernel
theorem dX12_work_6 : decode cX12_work 6 = .ok (.aload_n 0, 1) := by decide +kernel
theorem dX12_work_7 : decode cX12_work 7 = .ok (.iload_n 1, 1) := by decide +kernel
theorem dX12_work_8 : decode cX12_work 8 = .ok (.invokevirtual 269, 3) := by decide +kernel
theorem dX12_work_11 : decode cX12_work 11 = .ok (.iconst 1, 1) := by decide +kernel
theorem dX12_work_12 : decode cX12_work 12 = .ok (.invokevirtual 224, 3) := by decide +kernel
theorem dX12_work_15 : decode cX12_work 15 = .ok (.ifCond .eq 5, 3) := by decide +kernel
theorem dX12_work_18 : decode cX12_work 18 = .ok (.iconst 0, 1) := by decide +kernel
theorem dX12_work_19 : decode cX12_work 19 = .ok (.ireturn, 1) := by decide +kernel
theorem dX12_work_20 : decode cX12_work 20 = .ok (.aload_n 0, 1) := by decide +kernel
theorem dX12_work_21 : decode cX12_work 21 = .ok (.iload_n 1, 1) := by decide +kernel
theorem dX12_work_22 : decode cX12_work 22 = .ok (.iconst 0, 1) := by decide +kernel
theorem dX12_work_23 : decode cX12_work 23 = .ok (.invokevirtual 217, 3) := by decide +kernel
theorem dX12_work_26 : decode cX12_work 26 = .ok (.istore_n 3, 1) := by decide +kernel
theorem dX12_work_27 : decode cX12_work 27 = .ok (.iload_n 2, 1) := by decide +kernel
theorem dX12_work_28 : decode cX12_work 28 = .ok (.tableswitch 136 0 7 #[48, 50, 57, 67, 75, 83, 103, 128], 48) := by decide +kernel
theorem dX12_work_76 : decode cX12_work 76 = .ok (.iload_n 3, 1) := by decide +kernel
theorem dX12_work_77 : decode cX12_work 77 = .ok (.ireturn, 1) := by decide +kernel
theorem dX12_work_78 : decode cX12_work 78 = .ok (.aload_n 0, 1) := by decide +kernel
theorem dX12_work_79 : decode cX12_work 79 = .ok (.iload_n 1, 1) := by decide +kernel
theorem dX12_work_80 : decode cX12_work 80 = .ok (.iconst 1, 1) := by decide +kernel
theorem dX12_work_81 : decode cX12_work 81 = .ok (.invokevirtual 217, 3) := by decide +kernel
theorem dX12_work_84 : decode cX12_work 84 = .ok (.ireturn, 1) := by decide +kernel
theorem dX12_work_85 : decode cX12_work 85 = .ok (.iload_n 3, 1) := by decide +kernel
theorem dX12_work_86 : decode cX12_work 86 = .ok (.ifCond .ne 7, 3) := by decide +kernel
theorem dX12_work_89 : decode cX12_work 89 = .ok (.iconst 1, 1) := by decide +kernel
theorem dX12_work_90 : decode cX12_work 90 = .ok (.goto 4, 3) := by decide +kernel
theorem dX12_work_93 : decode cX12_work 93 = .ok (.iconst 0, 1) := by decide +kernel
theorem dX12_work_94 : decode cX12_work 94 = .ok (.ireturn, 1) := by decide +kernel
theorem dX12_work_95 : decode cX12_work 95 = .ok (.aload_n 0, 1) := by decide +kernel
theorem dX12_work_96 : decode cX12_work 96 = .ok (.iload_n 1, 1) := by decide +kernel
theorem dX12_work_97 : decode cX12_work 97 = .ok (.bipush 20, 2) := by decide +kernel
theorem dX12_work_99 : decode cX12_work 99 = .ok (.invokevirtual 217, 3) := by decide +kernel
theorem dX12_work_102 : decode cX12_work 102 = .ok (.ireturn, 1) := by decide +kernel
theorem dX12_work_103 : decode cX12_work 103 = .ok (.aload_n 0, 1) := by decide +kernel
theorem dX12_work_104 : decode cX12_work 104 = .ok (.iload_n 1, 1) := by decide +kernel
theorem dX12_work_105 : decode cX12_work 105 = .ok (.bipush 21, 2) := by decide +kernel
theorem dX12_work_107 : decode cX12_work 107 = .ok (.invokevirtual 217, 3) := by decide +kernel
theorem dX12_work_110 : decode cX12_work 110 = .ok (.ireturn, 1) := by decide +kernel
theorem dX12_work_111 : decode cX12_work 111 = .ok (.iload_n 3, 1) := by decide +kernel
theorem dX12_work_112 : decode cX12_work 112 = .ok (.ifCond .ne 11, 3) := by decide +kernel
theorem dX12_work_115 : decode cX12_work 115 = .ok (.aload_n 0, 1) := by decide +kernel
theorem dX12_work_116 : decode cX12_work 116 = .ok (.iload_n 1, 1) := by decide +kernel
theorem dX12_work_117 : decode cX12_work 117 = .ok (.invokevirtual 282, 3) := by decide +kernel
theorem dX12_work_120 : decode cX12_work 120 = .ok (.goto 10, 3) := by decide +kernel
theorem dX12_work_123 : decode cX12_work 123 = .ok (.aload_n 0, 1) := by decide +kernel
theorem dX12_work_124 : decode cX12_work 124 = .ok (.iload_n 1, 1) := by decide +kernel
theorem dX12_work_125 : decode cX12_work 125 = .ok (.bipush 17, 2) := by decide +kernel
theorem dX12_work_127 : decode cX12_work 127 = .ok (.invokevirtual 217, 3) := by decide +kernel
theorem dX12_work_130 : decode cX12_work 130 = .ok (.ireturn, 1) := by decide +kernel
theorem dX12_work_131 : decode cX12_work 131 = .ok (.aload_n 0, 1) := by decide +kernel
theorem dX12_work_132 : decode cX12_work 132 = .ok (.iload_n 1, 1) := by decide +kernel
theorem dX12_work_133 : decode cX12_work 133 = .ok (.invokevirtual 272, 3) := by decide +kernel
theorem dX12_work_136 : decode cX12_work 136 = .ok (.ifCond .eq 12, 3) := by decide +kernel
theorem dX12_work_139 : decode cX12_work 139 = .ok (.aload_n 0, 1) := by decide +kernel
theorem dX12_work_140 : decode cX12_work 140 = .ok (.iload_n 1, 1) := by decide +kernel
theorem dX12_work_141 : decode cX12_work 141 = .ok (.iconst 4, 1) := by decide +kernel
theorem dX12_work_142 : decode cX12_work 142 = .ok (.invokevirtual 217, 3) := by decide +kernel
theorem dX12_work_145 : decode cX12_work 145 = .ok (.goto 10, 3) := by decide +kernel
theorem dX12_work_148 : decode cX12_work 148 = .ok (.aload_n 0, 1) := by decide +kernel
theorem dX12_work_149 : decode cX12_work 149 = .ok (.iload_n 1, 1) := by decide +kernel
theorem dX12_work_150 : decode cX12_work 150 = .ok (.bipush 18, 2) := by decide +kernel
theorem dX12_work_152 : decode cX12_work 152 = .ok (.invokevirtual 217, 3) := by decide +kernel
theorem dX12_work_155 : decode cX12_work 155 = .ok (.ireturn, 1) := by decide +kernel
theorem dX12_work_156 : decode cX12_work 156 = .ok (.aload_n 0, 1) := by decide +kernel
theorem dX12_work_157 : decode cX12_work 157 = .ok (.iload_n 1, 1) := by decide +kernel
theorem dX12_work_158 : decode cX12_work 158 = .ok (.bipush 19, 2) := by decide +kernel
theorem dX12_work_160 : decode cX12_work 160 = .ok (.invokevirtual 217, 3) := by decide +kernel
theorem dX12_work_163 : decode cX12_work 163 = .ok (.ireturn, 1) := by decide +kernel
theorem dX12_work_164 : decode cX12_work 164 = .ok (.aload_n 0, 1) := by decide +kernel
theorem dX12_work_165 : decode cX12_work 165 = .ok (.iconst 2, 1) := by decide +kernel
theorem dX12_work_166 : decode cX12_work 166 = .ok (.putfield 194, 3) := by decide +kernel
theorem dX12_work_169 : decode cX12_work 169 = .ok (.iconst 0, 1) := by decide +kernel
theorem dX12_work_170 : decode cX12_work 170 = .ok (.ireturn, 1) := by decide +kernel
theorem dX12_seep_0 : decode cX12_seep 0 = .ok (.aload_n 0, 1) := by decide +kernel
theorem dX12_seep_1 : decode cX12_seep 1 = .ok (.iconst 0, 1) := by decide +kernel
theorem dX12_seep_2 : decode cX12_seep 2 = .ok (.putfield 194, 3) := by decide +kernel
theorem dX12_seep_5 : decode cX12_seep 5 = .ok (.aload_n 0, 1) := by decide +kernel
theorem dX12_seep_6 : decode cX12_seep 6 = .ok (.aload_n 0, 1) := by decide +kernel
theorem dX12_seep_7 : decode cX12_seep 7 = .ok (.iload_n 1, 1) := by decide +kernel
theorem dX12_seep_8 : decode cX12_seep 8 = .ok (.invokevirtual 269, 3) := by decide +kernel
theorem dX12_seep_11 : decode cX12_seep 11 = .ok (.iconst 1, 1) := by decide +kernel
theorem dX12_seep_12 : decode cX12_seep 12 = .ok (.invokevirtual 224, 3) := by decide +kernel
theorem dX12_seep_15 : decode cX12_seep 15 = .ok (.ifCond .ne 50, 3) := by decide +kernel
theorem dX12_seep_18 : decode cX12_seep 18 = .ok (.aload_n 0, 1) := by decide +kernel
theorem dX12_seep_19 : decode cX12_seep 19 = .ok (.iload_n 2, 1) := by decide +kernel
theorem dX12_seep_20 : decode cX12_seep 20 = .ok (.sipush (-1000), 3) := by decide +kernel
theorem dX12_seep_23 : decode cX12_seep 23 = .ok (.sipush 1000, 3) := by decide +kernel
theorem dX12_seep_26 : decode cX12_seep 26 = .ok (.invokestatic 197, 3) := by decide +kernel
theorem dX12_seep_29 : decode cX12_seep 29 = .ok (.ifCond .ne 7, 3) := by decide +kernel
theorem dX12_seep_32 : decode cX12_seep 32 = .ok (.iconst 1, 1) := by decide +kernel
theorem dX12_seep_33 : decode cX12_seep 33 = .ok (.goto 4, 3) := by decide +kernel
theorem dX12_seep_36 : decode cX12_seep 36 = .ok (.iconst 0, 1) := by decide +kernel
theorem dX12_seep_37 : decode cX12_seep 37 = .ok (.iconst 2, 1) := by decide +kernel
theorem dX12_seep_38 : decode cX12_seep 38 = .ok (.invokevirtual 224, 3) := by decide +kernel
theorem dX12_seep_41 : decode cX12_seep 41 = .ok (.ifCond .ne 24, 3) := by decide +kernel
theorem dX12_seep_44 : decode cX12_seep 44 = .ok (.aload_n 0, 1) := by decide +kernel
theorem dX12_seep_45 : decode cX12_seep 45 = .ok (.aload_n 0, 1) := by decide +kernel
theorem dX12_seep_46 : decode cX12_seep 46 = .ok (.iload_n 1, 1) := by decide +kernel
theorem dX12_seep_47 : decode cX12_seep 47 = .ok (.invokevirtual 272, 3) := by decide +kernel
theorem dX12_seep_50 : decode cX12_seep 50 = .ok (.ifCond .ne 7, 3) := by decide +kernel
theorem dX12_seep_53 : decode cX12_seep 53 = .ok (.iconst 1, 1) := by decide +kernel
theorem dX12_seep_54 : decode cX12_seep 54 = .ok (.goto 4, 3) := by decide +kernel
theorem dX12_seep_57 : decode cX12_seep 57 = .ok (.iconst 0, 1) := by decide +kernel
theorem dX12_seep_58 : decode cX12_seep 58 = .ok (.iconst 3, 1) := by decide +kernel
theorem dX12_seep_59 : decode cX12_seep 59 = .ok (.invokevirtual 224, 3) := by decide +kernel
theorem dX12_seep_62 : decode cX12_seep 62 = .ok (.ifCond .eq 5, 3) := by decide +kernel
theorem dX12_seep_65 : decode cX12_seep 65 = .ok (.iconst 0, 1) := by decide +kernel
theorem dX12_seep_66 : decode cX12_seep 66 = .ok (.ireturn, 1) := by decide +kernel
theorem dX12_seep_67 : decode cX12_seep 67 = .ok (.aload_n 0, 1) := by decide +kernel
theorem dX12_seep_68 : decode cX12_seep 68 = .ok (.iload_n 1, 1) := by decide +kernel
theorem dX12_seep_69 : decode cX12_seep 69 = .ok (.iconst 0, 1) := by decide +kernel
theorem dX12_seep_70 : decode cX12_seep 70 = .ok (.invokevirtual 217, 3) := by decide +kernel
theorem dX12_seep_73 : decode cX12_seep 73 = .ok (.iconst 1, 1) := by decide +kernel
theorem dX12_seep_74 : decode cX12_seep 74 = .ok (.if_icmp .ne 7, 3) := by decide +kernel
theorem dX12_seep_77 : decode cX12_seep 77 = .ok (.iconst 0, 1) := by decide +kernel
theorem dX12_seep_78 : decode cX12_seep 78 = .ok (.goto 9, 3) := by decide +kernel
theorem dX12_seep_81 : decode cX12_seep 81 = .ok (.aload_n 0, 1) := by decide +kernel
theorem dX12_seep_82 : decode cX12_seep 82 = .ok (.iload_n 1, 1) := by decide +kernel
theorem dX12_seep_83 : decode cX12_seep 83 = .ok (.iload_n 2, 1) := by decide +kernel
theorem dX12_seep_84 : decode cX12_seep 84 = .ok (.invokevirtual 288, 3) := by decide +kernel
theorem dX12_seep_87 : decode cX12_seep 87 = .ok (.ireturn, 1) := by decide +kernel
theorem dX12_shut_0 : decode cX12_shut 0 = .ok (.aload_n 0, 1) := by decide +kernel
theorem dX12_shut_1 : decode cX12_shut 1 = .ok (.iconst 0, 1) := by decide +kernel
theorem dX12_shut_2 : decode cX12_shut 2 = .ok (.putfield 194, 3) := by decide +kernel
theorem dX12_shut_5 : decode cX12_shut 5 = .ok (.aload_n 0, 1) := by decide +kernel
theorem dX12_shut_6 : decode cX12_shut 6 = .ok (.aload_n 0, 1) := by decide +kernel
theorem dX12_shut_7 : decode cX12_shut 7 = .ok (.iload_n 1, 1) := by decide +kernel
theorem dX12_shut_8 : decode cX12_shut 8 = .ok (.invokevirtual 269, 3) := by decide +kernel
theorem dX12_shut_11 : decode cX12_shut 11 = .ok (.iconst 1, 1) := by decide +kernel
theorem dX12_shut_12 : decode cX12_shut 12 = .ok (.invokevirtual 224, 3) := by decide +kernel
theorem dX12_shut_15 : decode cX12_shut 15 = .ok (.ifCond .ne 26, 3) := by decide +kernel
theorem dX12_shut_18 : decode cX12_shut 18 = .ok (.aload_n 0, 1) := by decide +kernel
theorem dX12_shut_19 : decode cX12_shut 19 = .ok (.aload_n 0, 1) := by decide +kernel
theorem dX12_shut_20 : decode cX12_shut 20 = .ok (.iload_n 1, 1) := by decide +kernel
theorem dX12_shut_21 : decode cX12_shut 21 = .ok (.iconst 0, 1) := by decide +kernel
theorem dX12_shut_22 : decode cX12_shut 22 = .ok (.invokevirtual 217, 3) := by decide +kernel
theorem dX12_shut_25 : decode cX12_shut 25 = .ok (.iconst 1, 1) := by decide +kernel
theorem dX12_shut_26 : decode cX12_shut 26 = .ok (.if_icmp .eq 7, 3) := by decide +kernel
theorem dX12_shut_29 : decode cX12_shut 29 = .ok (.iconst 1, 1) := by decide +kernel
theorem dX12_shut_30 : decode cX12_shut 30 = .ok (.goto 4, 3) := by decide +kernel
theorem dX12_shut_33 : decode cX12_shut 33 = .ok (.iconst 0, 1) := by decide +kernel
theorem dX12_shut_34 : decode cX12_shut 34 = .ok (.iconst 2, 1) := by decide +kernel
theorem dX12_shut_35 : decode cX12_shut 35 = .ok (.invokevirtual 224, 3) := by decide +kernel
theorem dX12_shut_38 : decode cX12_shut 38 = .ok (.ifCond .eq 5, 3) := by decide +kernel
theorem dX12_shut_41 : decode cX12_shut 41 = .ok (.iconst 0, 1) := by decide +kernel
theorem dX12_shut_42 : decode cX12_shut 42 = .ok (.ireturn, 1) := by decide +kernel
theorem dX12_shut_43 : decode cX12_shut 43 = .ok (.aload_n 0, 1) := by decide +kernel
theorem dX12_shut_44 : decode cX12_shut 44 = .ok (.getfield 9, 3) := by decide +kernel
theorem dX12_shut_47 : decode cX12_shut 47 = .ok (.iload_n 1, 1) := by decide +kernel
theorem dX12_shut_48 : decode cX12_shut 48 = .ok (.iconst 0, 1) := by decide +kernel
theorem dX12_shut_49 : decode cX12_shut 49 = .ok (.invokestatic 214, 3) := by decide +kernel
theorem dX12_shut_52 : decode cX12_shut 52 = .ok (.iconst 0, 1) := by decide +kernel
theorem dX12_shut_53 : decode cX12_shut 53 = .ok (.iastore, 1) := by decide +kernel
theorem dX12_shut_54 : decode cX12_shut 54 = .ok (.aload_n 0, 1) := by decide +kernel
theorem dX12_shut_55 : decode cX12_shut 55 = .ok (.getfield 9, 3) := by decide +kernel
theorem dX12_shut_58 : decode cX12_shut 58 = .ok (.iload_n 1, 1) := by decide +kernel
theorem dX12_shut_59 : decode cX12_shut 59 = .ok (.bipush 17, 2) := by decide +kernel
theorem dX12_shut_61 : decode cX12_shut 61 = .ok (.invokestatic 214, 3) := by decide +kernel
theorem dX12_shut_64 : decode cX12_shut 64 = .ok (.iconst 0, 1) := by decide +kernel
theorem dX12_shut_65 : decode cX12_shut 65 = .ok (.iastore, 1) := by decide +kernel
theorem dX12_shut_66 : decode cX12_shut 66 = .ok (.aload_n 0, 1) := by decide +kernel
theorem dX12_shut_67 : decode cX12_shut 67 = .ok (.iconst 0, 1) := by decide +kernel
theorem dX12_shut_68 : decode cX12_shut 68 = .ok (.putfield 238, 3) := by decide +kernel
theorem dX12_shut_71 : decode cX12_shut 71 = .ok (.iconst 1, 1) := by decide +kernel
theorem dX12_shut_72 : decode cX12_shut 72 = .ok (.ireturn, 1) := by decide +kernel
theorem dX12_square_0 : decode cX12_square 0 = .ok (.aload_n 0, 1) := by decide +kernel
theorem dX12_square_1 : decode cX12_square 1 = .ok (.iconst 0, 1) := by decide +kernel
theorem dX12_square_2 : decode cX12_square 2 = .ok (.putfield 194, 3) := by decide +kernel
theorem dX12_square_5 : decode cX12_square 5 = .ok (.aload_n 0, 1) := by decide +kernel
theorem dX12_square_6 : decode cX12_square 6 = .ok (.iload_n 1, 1) := by decide +kernel
theorem dX12_square_7 : decode cX12_square 7 = .ok (.invokestatic 220, 3) := by decide +kernel
theorem dX12_square_10 : decode cX12_square 10 = .ok (.iconst 1, 1) := by decide +kernel
theorem dX12_square_11 : decode cX12_square 11 = .ok (.invokevirtual 224, 3) := by decide +kernel
theorem dX12_square_14 : decode cX12_square 14 = .ok (.ifCond .eq 5, 3) := by decide +kernel
theorem dX12_square_17 : decode cX12_square 17 = .ok (.iconst 0, 1) := by decide +kernel
theorem dX12_square_18 : decode cX12_square 18 = .ok (.ireturn, 1) := by decide +kernel
theorem dX12_square_19 : decode cX12_square 19 = .ok (.iload_n 2, 1) := by decide +kernel
theorem dX12_square_20 : decode cX12_square 20 = .ok (.tableswitch 163 0 10 #[60, 69, 79, 90, 101, 112, 123, 129, 140, 151, 157], 60) := by decide +kernel
theorem dX12_square_80 : decode cX12_square 80 = .ok (.aload_n 0, 1) := by decide +kernel
theorem dX12_square_81 : decode cX12_square 81 = .ok (.getfield 9, 3) := by decide +kernel
theorem dX12_square_84 : decode cX12_square 84 = .ok (.iconst 0, 1) := by decide +kernel
theorem dX12_square_85 : decode cX12_square 85 = .ok (.iload_n 1, 1) := by decide +kernel
theorem dX12_square_86 : decode cX12_square 86 = .ok (.iadd, 1) := by decide +kernel
theorem dX12_square_87 : decode cX12_square 87 = .ok (.iaload, 1) := by decide +kernel
theorem dX12_square_88 : decode cX12_square 88 = .ok (.ireturn, 1) := by decide +kernel
theorem dX12_square_89 : decode cX12_square 89 = .ok (.aload_n 0, 1) := by decide +kernel
theorem dX12_square_90 : decode cX12_square 90 = .ok (.getfield 9, 3) := by decide +kernel
theorem dX12_square_93 : decode cX12_square 93 = .ok (.bipush 96, 2) := by decide +kernel
theorem dX12_square_95 : decode cX12_square 95 = .ok (.iload_n 1, 1) := by decide +kernel
theorem dX12_square_96 : decode cX12_square 96 = .ok (.iadd, 1) := by decide +kernel
theorem dX12_square_97 : decode cX12_square 97 = .ok (.iaload, 1) := by decide +kernel
theorem dX12_square_98 : decode cX12_square 98 = .ok (.ireturn, 1) := by decide +kernel
theorem dX12_square_99 : decode cX12_square 99 = .ok (.aload_n 0, 1) := by decide +kernel
theorem dX12_square_100 : decode cX12_square 100 = .ok (.getfield 9, 3) := by decide +kernel
theorem dX12_square_103 : decode cX12_square 103 = .ok (.sipush 192, 3) := by decide +kernel
theorem dX12_square_106 : decode cX12_square 106 = .ok (.iload_n 1, 1) := by decide +kernel
theorem dX12_square_107 : decode cX12_square 107 = .ok (.iadd, 1) := by decide +kernel
theorem dX12_square_108 : decode cX12_square 108 = .ok (.iaload, 1) := by decide +kernel
theorem dX12_square_109 : decode cX12_square 109 = .ok (.ireturn, 1) := by decide +kernel
theorem dX12_square_110 : decode cX12_square 110 = .ok (.aload_n 0, 1) := by decide +kernel
theorem dX12_square_111 : decode cX12_square 111 = .ok (.getfield 9, 3) := by decide +kernel
theorem dX12_square_114 : decode cX12_square 114 = .ok (.sipush 288, 3) := by decide +kernel
theorem dX12_square_117 : decode cX12_square 117 = .ok (.iload_n 1, 1) := by decide +kernel
theorem dX12_square_118 : decode cX12_square 118 = .ok (.iadd, 1) := by decide +kernel
theorem dX12_square_119 : decode cX12_square 119 = .ok (.iaload, 1) := by decide +kernel
theorem dX12_square_120 : decode cX12_square 120 = .ok (.ireturn, 1) := by decide +kernel
theorem dX12_square_121 : decode cX12_square 121 = .ok (.aload_n 0, 1) := by decide +kernel
theorem dX12_square_122 : decode cX12_square 122 = .ok (.getfield 9, 3) := by decide +kernel
theorem dX12_square_125 : decode cX12_square 125 = .ok (.sipush 384, 3) := by decide +kernel
theorem dX12_square_128 : decode cX12_square 128 = .ok (.iload_n 1, 1) := by decide +kernel
theorem dX12_square_129 : decode cX12_square 129 = .ok (.iadd, 1) := by decide +kernel
theorem dX12_square_130 : decode cX12_square 130 = .ok (.iaload, 1) := by decide +kernel
theorem dX12_square_131 : decode cX12_square 131 = .ok (.ireturn, 1) := by decide +kernel
theorem dX12_square_132 : decode cX12_square 132 = .ok (.aload_n 0, 1) := by decide +kernel
theorem dX12_square_133 : decode cX12_square 133 = .ok (.getfield 9, 3) := by decide +kernel
theorem dX12_square_136 : decode cX12_square 136 = .ok (.sipush 480, 3) := by decide +kernel
theorem dX12_square_139 : decode cX12_square 139 = .ok (.iload_n 1, 1) := by decide +kernel
theorem dX12_square_140 : decode cX12_square 140 = .ok (.iadd, 1) := by decide +kernel
theorem dX12_square_141 : decode cX12_square 141 = .ok (.iaload, 1) := by decide +kernel
theorem dX12_square_142 : decode cX12_square 142 = .ok (.ireturn, 1) := by decide +kernel
theorem dX12_square_143 : decode cX12_square 143 = .ok (.aload_n 0, 1) := by decide +kernel
theorem dX12_square_144 : decode cX12_square 144 = .ok (.iload_n 1, 1) := by decide +kernel
theorem dX12_square_145 : decode cX12_square 145 = .ok (.invokevirtual 285, 3) := by decide +kernel
theorem dX12_square_148 : decode cX12_square 148 = .ok (.ireturn, 1) := by decide +kernel
theorem dX12_square_149 : decode cX12_square 149 = .ok (.aload_n 0, 1) := by decide +kernel
theorem dX12_square_150 : decode cX12_square 150 = .ok (.getfield 9, 3) := by decide +kernel
theorem dX12_square_153 : decode cX12_square 153 = .ok (.sipush 576, 3) := by decide +kernel
theorem dX12_square_156 : decode cX12_square 156 = .ok (.iload_n 1, 1) := by decide +kernel
theorem dX12_square_157 : decode cX12_square 157 = .ok (.iadd, 1) := by decide +kernel
theorem dX12_square_158 : decode cX12_square 158 = .ok (.iaload, 1) := by decide +kernel
theorem dX12_square_159 : decode cX12_square 159 = .ok (.ireturn, 1) := by decide +kernel
theorem dX12_square_160 : decode cX12_square 160 = .ok (.aload_n 0, 1) := by decide +kernel
theorem dX12_square_161 : decode cX12_square 161 = .ok (.getfield 9, 3) := by decide +kernel
theorem dX12_square_164 : decode cX12_square 164 = .ok (.sipush 672, 3) := by decide +kernel
theorem dX12_square_167 : decode cX12_square 167 = .ok (.iload_n 1, 1) := by decide +kernel
theorem dX12_square_168 : decode cX12_square 168 = .ok (.iadd, 1) := by decide +kernel
theorem dX12_square_169 : decode cX12_square 169 = .ok (.iaload, 1) := by decide +kernel
theorem dX12_square_170 : decode cX12_square 170 = .ok (.ireturn, 1) := by decide +kernel
theorem dX12_square_171 : decode cX12_square 171 = .ok (.aload_n 0, 1) := by decide +kernel
theorem dX12_square_172 : decode cX12_square 172 = .ok (.iload_n 1, 1) := by decide +kernel
theorem dX12_square_173 : decode cX12_square 173 = .ok (.invokevirtual 329, 3) := by decide +kernel
theorem dX12_square_176 : decode cX12_square 176 = .ok (.ireturn, 1) := by decide +kernel
theorem dX12_square_177 : decode cX12_square 177 = .ok (.aload_n 0, 1) := by decide +kernel
theorem dX12_square_178 : decode cX12_square 178 = .ok (.iload_n 1, 1) := by decide +kernel
theorem dX12_square_179 : decode cX12_square 179 = .ok (.invokevirtual 256, 3) := by decide +kernel
theorem dX12_square_182 : decode cX12_square 182 = .ok (.ireturn, 1) := by decide +kernel
theorem dX12_square_183 : decode cX12_square 183 = .ok (.aload_n 0, 1) := by decide +kernel
theorem dX12_square_184 : decode cX12_square 184 = .ok (.iconst 2, 1) := by decide +kernel
theorem dX12_square_185 : decode cX12_square 185 = .ok (.putfield 194, 3) := by decide +kernel
theorem dX12_square_188 : decode cX12_square 188 = .ok (.iconst 0, 1) := by decide +kernel
theorem dX12_square_189 : decode cX12_square 189 = .ok (.ireturn, 1) := by decide +kernel
theorem dX12_fault_0 : decode cX12_fault 0 = .ok (.aload_n 0, 1) := by decide +kernel
theorem dX12_fault_1 : decode cX12_fault 1 = .ok (.iconst 0, 1) := by decide +kernel
theorem dX12_fault_2 : decode cX12_fault 2 = .ok (.putfield 194, 3) := by decide +kernel
theorem dX12_fault_5 : decode cX12_fault 5 = .ok (.aload_n 0, 1) := by decide +kernel
theorem dX12_fault_6 : decode cX12_fault 6 = .ok (.getfield 35, 3) := by decide +kernel
theorem dX12_fault_9 : decode cX12_fault 9 = .ok (.ireturn, 1) := by decide +kernel
theorem dX12_vote_0 : decode cX12_vote 0 = .ok (.aload_n 0, 1) := by decide +kernel
theorem dX12_vote_1 : decode cX12_vote 1 = .ok (.iconst 0, 1) := by decide +kernel
theorem dX12_vote_2 : decode cX12_vote 2 = .ok (.putfield 194, 3) := by decide +kernel
theorem dX12_vote_5 : decode cX12_vote 5 = .ok (.aload_n 0, 1) := by decide +kernel
theorem dX12_vote_6 : decode cX12_vote 6 = .ok (.aload_n 0, 1) := by decide +kernel
theorem dX12_vote_7 : decode cX12_vote 7 = .ok (.iload_n 1, 1) := by decide +kernel
theorem dX12_vote_8 : decode cX12_vote 8 = .ok (.invokevirtual 486, 3) := by decide +kernel
theorem dX12_vote_11 : decode cX12_vote 11 = .ok (.iconst 1, 1) := by decide +kernel
theorem dX12_vote_12 : decode cX12_vote 12 = .ok (.invokevirtual 224, 3) := by decide +kernel
theorem dX12_vote_15 : decode cX12_vote 15 = .ok (.ifCond .ne 41, 3) := by decide +kernel
theorem dX12_vote_18 : decode cX12_vote 18 = .ok (.aload_n 0, 1) := by decide +kernel
theorem dX12_vote_19 : decode cX12_vote 19 = .ok (.aload_n 0, 1) := by decide +kernel
theorem dX12_vote_20 : decode cX12_vote 20 = .ok (.getfield 523, 3) := by decide +kernel
theorem dX12_vote_23 : decode cX12_vote 23 = .ok (.ifCond .ne 7, 3) := by decide +kernel
theorem dX12_vote_26 : decode cX12_vote 26 = .ok (.iconst 1, 1) := by decide +kernel
theorem dX12_vote_27 : decode cX12_vote 27 = .ok (.goto 4, 3) := by decide +kernel
theorem dX12_vote_30 : decode cX12_vote 30 = .ok (.iconst 0, 1) := by decide +kernel
theorem dX12_vote_31 : decode cX12_vote 31 = .ok (.iconst 2, 1) := by decide +kernel
theorem dX12_vote_32 : decode cX12_vote 32 = .ok (.invokevirtual 224, 3) := by decide +kernel
theorem dX12_vote_35 : decode cX12_vote 35 = .ok (.ifCond .ne 21, 3) := by decide +kernel
theorem dX12_vote_38 : decode cX12_vote 38 = .ok (.aload_n 0, 1) := by decide +kernel
theorem dX12_vote_39 : decode cX12_vote 39 = .ok (.getfield 101, 3) := by decide +kernel
theorem dX12_vote_42 : decode cX12_vote 42 = .ok (.iload_n 1, 1) := by decide +kernel
theorem dX12_vote_43 : decode cX12_vote 43 = .ok (.iaload, 1) := by decide +kernel
theorem dX12_vote_44 : decode cX12_vote 44 = .ok (.ifCond .lt 12, 3) := by decide +kernel
theorem dX12_vote_47 : decode cX12_vote 47 = .ok (.aload_n 0, 1) := by decide +kernel
theorem dX12_vote_48 : decode cX12_vote 48 = .ok (.getfield 134, 3) := by decide +kernel
theorem dX12_vote_51 : decode cX12_vote 51 = .ok (.iload_n 1, 1) := by decide +kernel
theorem dX12_vote_52 : decode cX12_vote 52 = .ok (.baload, 1) := by decide +kernel
theorem dX12_vote_53 : decode cX12_vote 53 = .ok (.ifCond .eq 16, 3) := by decide +kernel
theorem dX12_vote_56 : decode cX12_vote 56 = .ok (.aload_n 0, 1) := by decide +kernel
theorem dX12_vote_57 : decode cX12_vote 57 = .ok (.getfield 194, 3) := by decide +kernel
theorem dX12_vote_60 : decode cX12_vote 60 = .ok (.ifCond .eq 7, 3) := by decide +kernel
theorem dX12_vote_63 : decode cX12_vote 63 = .ok (.iconst 0, 1) := by decide +kernel
theorem dX12_vote_64 : decode cX12_vote 64 = .ok (.goto 4, 3) := by decide +kernel
theorem dX12_vote_67 : decode cX12_vote 67 = .ok (.iconst (-1), 1) := by decide +kernel
theorem dX12_vote_68 : decode cX12_vote 68 = .ok (.ireturn, 1) := by decide +kernel
theorem dX12_vote_69 : decode cX12_vote 69 = .ok (.aload_n 0, 1) := by decide +kernel
theorem dX12_vote_70 : decode cX12_vote 70 = .ok (.getfield 134, 3) := by decide +kernel
theorem dX12_vote_73 : decode cX12_vote 73 = .ok (.iload_n 1, 1) := by decide +kernel
theorem dX12_vote_74 : decode cX12_vote 74 = .ok (.iconst 1, 1) := by decide +kernel
theorem dX12_vote_75 : decode cX12_vote 75 = .ok (.bastore, 1) := by decide +kernel
theorem dX12_vote_76 : decode cX12_vote 76 = .ok (.aload_n 0, 1) := by decide +kernel
theorem dX12_vote_77 : decode cX12_vote 77 = .ok (.iload_n 1, 1) := by decide +kernel
theorem dX12_vote_78 : decode cX12_vote 78 = .ok (.iconst 2, 1) := by decide +kernel
theorem dX12_vote_79 : decode cX12_vote 79 = .ok (.invokevirtual 480, 3) := by decide +kernel
theorem dX12_vote_82 : decode cX12_vote 82 = .ok (.lstore_n 3, 1) := by decide +kernel
theorem dX12_vote_83 : decode cX12_vote 83 = .ok (.aload_n 0, 1) := by decide +kernel
theorem dX12_vote_84 : decode cX12_vote 84 = .ok (.dup, 1) := by decide +kernel
theorem dX12_vote_85 : decode cX12_vote 85 = .ok (.getfield 530, 3) := by decide +kernel
theorem dX12_vote_88 : decode cX12_vote 88 = .ok (.lload_n 3, 1) := by decide +kernel
theorem dX12_vote_89 : decode cX12_vote 89 = .ok (.ladd, 1) := by decide +kernel
theorem dX12_vote_90 : decode cX12_vote 90 = .ok (.putfield 530, 3) := by decide +kernel
theorem dX12_vote_93 : decode cX12_vote 93 = .ok (.aload_n 0, 1) := by decide +kernel
theorem dX12_vote_94 : decode cX12_vote 94 = .ok (.dup, 1) := by decide +kernel
theorem dX12_vote_95 : decode cX12_vote 95 = .ok (.getfield 526, 3) := by decide +kernel
theorem dX12_vote_98 : decode cX12_vote 98 = .ok (.iload_n 2, 1) := by decide +kernel
theorem dX12_vote_99 : decode cX12_vote 99 = .ok (.ifCond .eq 7, 3) := by decide +kernel
theorem dX12_vote_102 : decode cX12_vote 102 = .ok (.lload_n 3, 1) := by decide +kernel
theorem dX12_vote_103 : decode cX12_vote 103 = .ok (.goto 4, 3) := by decide +kernel
theorem dX12_vote_106 : decode cX12_vote 106 = .ok (.lconst 0, 1) := by decide +kernel
theorem dX12_vote_107 : decode cX12_vote 107 = .ok (.ladd, 1) := by decide +kernel
theorem dX12_vote_108 : decode cX12_vote 108 = .ok (.putfield 526, 3) := by decide +kernel
theorem dX12_vote_111 : decode cX12_vote 111 = .ok (.lload_n 3, 1) := by decide +kernel
theorem dX12_vote_112 : decode cX12_vote 112 = .ok (.l2i, 1) := by decide +kernel
theorem dX12_vote_113 : decode cX12_vote 113 = .ok (.ireturn, 1) := by decide +kernel
theorem dX12_close_0 : decode cX12_close 0 = .ok (.aload_n 0, 1) := by decide +kernel
theorem dX12_close_1 : decode cX12_close 1 = .ok (.iconst 0, 1) := by decide +kernel
theorem dX12_close_2 : decode cX12_close 2 = .ok (.putfield 194, 3) := by decide +kernel
theorem dX12_close_5 : decode cX12_close 5 = .ok (.aload_n 0, 1) := by decide +kernel
theorem dX12_close_6 : decode cX12_close 6 = .ok (.aload_n 0, 1) := by decide +kernel
theorem dX12_close_7 : decode cX12_close 7 = .ok (.getfield 523, 3) := by decide +kernel
theorem dX12_close_10 : decode cX12_close 10 = .ok (.ifCond .ne 7, 3) := by decide +kernel
theorem dX12_close_13 : decode cX12_close 13 = .ok (.iconst 1, 1) := by decide +kernel
theorem dX12_close_14 : decode cX12_close 14 = .ok (.goto 4, 3) := by decide +kernel
theorem dX12_close_17 : decode cX12_close 17 = .ok (.iconst 0, 1) := by decide +kernel
theorem dX12_close_18 : decode cX12_close 18 = .ok (.iconst 1, 1) := by decide +kernel
theorem dX12_close_19 : decode cX12_close 19 = .ok (.invokevirtual 224, 3) := by decide +kernel
theorem dX12_close_22 : decode cX12_close 22 = .ok (.ifCond .eq 5, 3) := by decide +kernel
theorem dX12_close_25 : decode cX12_close 25 = .ok (.iconst 0, 1) := by decide +kernel
theorem dX12_close_26 : decode cX12_close 26 = .ok (.ireturn, 1) := by decide +kernel
theorem dX12_close_27 : decode cX12_close 27 = .ok (.aload_n 0, 1) := by decide +kernel
theorem dX12_close_28 : decode cX12_close 28 = .ok (.iconst 0, 1) := by decide +kernel
theorem dX12_close_29 : decode cX12_close 29 = .ok (.putfield 523, 3) := by decide +kernel
theorem dX12_close_32 : decode cX12_close 32 = .ok (.aload_n 0, 1) := by decide +kernel
theorem dX12_close_33 : decode cX12_close 33 = .ok (.getfield 526, 3) := by decide +kernel
theorem dX12_close_36 : decode cX12_close 36 = .ok (.ldc2_w 484, 3) := by decide +kernel
theorem dX12_close_39 : decode cX12_close 39 = .ok (.lmul, 1) := by decide +kernel
theorem dX12_close_40 : decode cX12_close 40 = .ok (.aload_n 0, 1) := by decide +kernel
theorem dX12_close_41 : decode cX12_close 41 = .ok (.bipush 8, 2) := by decide +kernel
theorem dX12_close_43 : decode cX12_close 43 = .ok (.bipush 50, 2) := by decide +kernel
theorem dX12_close_45 : decode cX12_close 45 = .ok (.invokevirtual 492, 3) := by decide +kernel
theorem dX12_close_48 : decode cX12_close 48 = .ok (.i2l, 1) := by decide +kernel
theorem dX12_close_49 : decode cX12_close 49 = .ok (.aload_n 0, 1) := by decide +kernel
theorem dX12_close_50 : decode cX12_close 50 = .ok (.getfield 530, 3) := by decide +kernel
theorem dX12_close_53 : decode cX12_close 53 = .ok (.lmul, 1) := by decide +kernel
theorem dX12_close_54 : decode cX12_close 54 = .ok (.lcmp, 1) := by decide +kernel
theorem dX12_close_55 : decode cX12_close 55 = .ok (.ifCond .gt 5, 3) := by decide +kernel
theorem dX12_close_58 : decode cX12_close 58 = .ok (.iconst 0, 1) := by decide +kernel
theorem dX12_close_59 : decode cX12_close 59 = .ok (.ireturn, 1) := by decide +kernel
theorem dX12_close_60 : decode cX12_close 60 = .ok (.aload_n 0, 1) := by decide +kernel
theorem dX12_close_61 : decode cX12_close 61 = .ok (.iconst 1, 1) := by decide +kernel
theorem dX12_close_62 : decode cX12_close 62 = .ok (.iconst 0, 1) := by decide +kernel
theorem dX12_close_63 : decode cX12_close 63 = .ok (.invokevirtual 457, 3) := by decide +kernel
theorem dX12_close_66 : decode cX12_close 66 = .ok (.iconst 1, 1) := by decide +kernel
theorem dX12_close_67 : decode cX12_close 67 = .ok (.ireturn, 1) := by decide +kernel
theorem dX12_rules_0 : decode cX12_rules 0 = .ok (.aload_n 0, 1) := by decide +kernel
theorem dX12_rules_1 : decode cX12_rules 1 = .ok (.iconst 0, 1) := by decide +kernel
theorem dX12_rules_2 : decode cX12_rules 2 = .ok (.putfield 194, 3) := by decide +kernel
theorem dX12_rules_5 : decode cX12_rules 5 = .ok (.aload_n 0, 1) := by decide +kernel
theorem dX12_rules_6 : decode cX12_rules 6 = .ok (.aload_n 0, 1) := by decide +kernel
theorem dX12_rules_7 : decode cX12_rules 7 = .ok (.iload_n 1, 1) := by decide +kernel
theorem dX12_rules_8 : decode cX12_rules 8 = .ok (.invokevirtual 486, 3) := by decide +kernel
theorem dX12_rules_11 : decode cX12_rules 11 = .ok (.iconst 1, 1) := by decide +kernel
theorem dX12_rules_12 : decode cX12_rules 12 = .ok (.invokevirtual 224, 3) := by decide +kernel
theorem dX12_rules_15 : decode cX12_rules 15 = .ok (.ifCond .ne 25, 3) := by decide +kernel
theorem dX12_rules_18 : decode cX12_rules 18 = .ok (.aload_n 0, 1) := by decide +kernel
theorem dX12_rules_19 : decode cX12_rules 19 = .ok (.iload_n 2, 1) := by decide +kernel
theorem dX12_rules_20 : decode cX12_rules 20 = .ok (.iconst 0, 1) := by decide +kernel
theorem dX12_rules_21 : decode cX12_rules 21 = .ok (.iconst 5, 1) := by decide +kernel
theorem dX12_rules_22 : decode cX12_rules 22 = .ok (.invokestatic 197, 3) := by decide +kernel
theorem dX12_rules_25 : decode cX12_rules 25 = .ok (.ifCond .ne 7, 3) := by decide +kernel
theorem dX12_rules_28 : decode cX12_rules 28 = .ok (.iconst 1, 1) := by decide +kernel
theorem dX12_rules_29 : decode cX12_rules 29 = .ok (.goto 4, 3) := by decide +kernel
theorem dX12_rules_32 : decode cX12_rules 32 = .ok (.iconst 0, 1) := by decide +kernel
theorem dX12_rules_33 : decode cX12_rules 33 = .ok (.iconst 2, 1) := by decide +kernel
theorem dX12_rules_34 : decode cX12_rules 34 = .ok (.invokevirtual 224, 3) := by decide +kernel
theorem dX12_rules_37 : decode cX12_rules 37 = .ok (.ifCond .eq 5, 3) := by decide +kernel
theorem dX12_rules_40 : decode cX12_rules 40 = .ok (.iconst 0, 1) := by decide +kernel
theorem dX12_rules_41 : decode cX12_rules 41 = .ok (.ireturn, 1) := by decide +kernel
theorem dX12_rules_42 : decode cX12_rules 42 = .ok (.iload_n 2, 1) := by decide +kernel
theorem dX12_rules_43 : decode cX12_rules 43 = .ok (.tableswitch 80 0 4 #[33, 39, 47, 55, 63], 33) := by decide +kernel
theorem dX12_rules_76 : decode cX12_rules 76 = .ok (.aload_n 0, 1) := by decide +kernel
theorem dX12_rules_77 : decode cX12_rules 77 = .ok (.iload_n 1, 1) := by decide +kernel
theorem dX12_rules_78 : decode cX12_rules 78 = .ok (.invokevirtual 489, 3) := by decide +kernel
theorem dX12_rules_81 : decode cX12_rules 81 = .ok (.ireturn, 1) := by decide +kernel
theorem dX12_rules_82 : decode cX12_rules 82 = .ok (.aload_n 0, 1) := by decide +kernel
theorem dX12_rules_83 : decode cX12_rules 83 = .ok (.iload_n 1, 1) := by decide +kernel
theorem dX12_rules_84 : decode cX12_rules 84 = .ok (.iconst 2, 1) := by decide +kernel
theorem dX12_rules_85 : decode cX12_rules 85 = .ok (.invokevirtual 480, 3) := by decide +kernel
theorem dX12_rules_88 : decode cX12_rules 88 = .ok (.l2i, 1) := by decide +kernel
theorem dX12_rules_89 : decode cX12_rules 89 = .ok (.ireturn, 1) := by decide +kernel
theorem dX12_rules_90 : decode cX12_rules 90 = .ok (.aload_n 0, 1) := by decide +kernel
theorem dX12_rules_91 : decode cX12_rules 91 = .ok (.iload_n 1, 1) := by decide +kernel
theorem dX12_rules_92 : decode cX12_rules 92 = .ok (.iconst 3, 1) := by decide +kernel
theorem dX12_rules_93 : decode cX12_rules 93 = .ok (.invokevirtual 480, 3) := by decide +kernel
theorem dX12_rules_96 : decode cX12_rules 96 = .ok (.l2i, 1) := by decide +kernel
theorem dX12_rules_97 : decode cX12_rules 97 = .ok (.ireturn, 1) := by decide +kernel
theorem dX12_rules_98 : decode cX12_rules 98 = .ok (.aload_n 0, 1) := by decide +kernel
theorem dX12_rules_99 : decode cX12_rules 99 = .ok (.iload_n 1, 1) := by decide +kernel
theorem dX12_rules_100 : decode cX12_rules 100 = .ok (.iconst 4, 1) := by decide +kernel
theorem dX12_rules_101 : decode cX12_rules 101 = .ok (.invokevirtual 480, 3) := by decide +kernel
theorem dX12_rules_104 : decode cX12_rules 104 = .ok (.l2i, 1) := by decide +kernel
theorem dX12_rules_105 : decode cX12_rules 105 = .ok (.ireturn, 1) := by decide +kernel
theorem dX12_rules_106 : decode cX12_rules 106 = .ok (.aload_n 0, 1) := by decide +kernel
theorem dX12_rules_107 : decode cX12_rules 107 = .ok (.iload_n 1, 1) := by decide +kernel
theorem dX12_rules_108 : decode cX12_rules 108 = .ok (.iconst 5, 1) := by decide +kernel
theorem dX12_rules_109 : decode cX12_rules 109 = .ok (.invokevirtual 480, 3) := by decide +kernel
theorem dX12_rules_112 : decode cX12_rules 112 = .ok (.lconst 0, 1) := by decide +kernel
theorem dX12_rules_113 : decode cX12_rules 113 = .ok (.lcmp, 1) := by decide +kernel
theorem dX12_rules_114 : decode cX12_rules 114 = .ok (.ifCond .le 7, 3) := by decide +kernel
theorem dX12_rules_117 : decode cX12_rules 117 = .ok (.iconst 1, 1) := by decide +kernel
theorem dX12_rules_118 : decode cX12_rules 118 = .ok (.goto 4, 3) := by decide +kernel
theorem dX12_rules_121 : decode cX12_rules 121 = .ok (.iconst 0, 1) := by decide +kernel
theorem dX12_rules_122 : decode cX12_rules 122 = .ok (.ireturn, 1) := by decide +kernel
theorem dX12_rules_123 : decode cX12_rules 123 = .ok (.aload_n 0, 1) := by decide +kernel
theorem dX12_rules_124 : decode cX12_rules 124 = .ok (.iload_n 1, 1) := by decide +kernel
theorem dX12_rules_125 : decode cX12_rules 125 = .ok (.bipush 6, 2) := by decide +kernel
theorem dX12_rules_127 : decode cX12_rules 127 = .ok (.invokevirtual 480, 3) := by decide +kernel
theorem dX12_rules_130 : decode cX12_rules 130 = .ok (.lconst 0, 1) := by decide +kernel
theorem dX12_rules_131 : decode cX12_rules 131 = .ok (.lcmp, 1) := by decide +kernel
theorem dX12_rules_132 : decode cX12_rules 132 = .ok (.ifCond .le 7, 3) := by decide +kernel
theorem dX12_rules_135 : decode cX12_rules 135 = .ok (.iconst 1, 1) := by decide +kernel
theorem dX12_rules_136 : decode cX12_rules 136 = .ok (.goto 4, 3) := by decide +kernel
theorem dX12_rules_139 : decode cX12_rules 139 = .ok (.iconst 0, 1) := by decide +kernel
theorem dX12_rules_140 : decode cX12_rules 140 = .ok (.ireturn, 1) := by decide +kernel
theorem dX12_why_0 : decode cX12_why 0 = .ok (.aload_n 0, 1) := by decide +kernel
theorem dX12_why_1 : decode cX12_why 1 = .ok (.iconst 0, 1) := by decide +kernel
theorem dX12_why_2 : decode cX12_why 2 = .ok (.putfield 194, 3) := by decide +kernel
theorem dX12_why_5 : decode cX12_why 5 = .ok (.aload_n 0, 1) := by decide +kernel
theorem dX12_why_6 : decode cX12_why 6 = .ok (.aload_n 0, 1) := by decide +kernel
theorem dX12_why_7 : decode cX12_why 7 = .ok (.iload_n 1, 1) := by decide +kernel
theorem dX12_why_8 : decode cX12_why 8 = .ok (.invokevirtual 486, 3) := by decide +kernel
theorem dX12_why_11 : decode cX12_why 11 = .ok (.iconst 1, 1) := by decide +kernel
theorem dX12_why_12 : decode cX12_why 12 = .ok (.invokevirtual 224, 3) := by decide +kernel
theorem dX12_why_15 : decode cX12_why 15 = .ok (.ifCond .ne 26, 3) := by decide +kernel
theorem dX12_why_18 : decode cX12_why 18 = .ok (.aload_n 0, 1) := by decide +kernel
theorem dX12_why_19 : decode cX12_why 19 = .ok (.iload_n 2, 1) := by decide +kernel
theorem dX12_why_20 : decode cX12_why 20 = .ok (.iconst 0, 1) := by decide +kernel
theorem dX12_why_21 : decode cX12_why 21 = .ok (.bipush 6, 2) := by decide +kernel
theorem dX12_why_23 : decode cX12_why 23 = .ok (.invokestatic 197, 3) := by decide +kernel
theorem dX12_why_26 : decode cX12_why 26 = .ok (.ifCond .ne 7, 3) := by decide +kernel
theorem dX12_why_29 : decode cX12_why 29 = .ok (.iconst 1, 1) := by decide +kernel
theorem dX12_why_30 : decode cX12_why 30 = .ok (.goto 4, 3) := by decide +kernel
theorem dX12_why_33 : decode cX12_why 33 = .ok (.iconst 0, 1) := by decide +kernel
theorem dX12_why_34 : decode cX12_why 34 = .ok (.iconst 2, 1) := by decide +kernel
theorem dX12_why_35 : decode cX12_why 35 = .ok (.invokevirtual 224, 3) := by decide +kernel
theorem dX12_why_38 : decode cX12_why 38 = .ok (.ifCond .eq 5, 3) := by decide +kernel
theorem dX12_why_41 : decode cX12_why 41 = .ok (.iconst 0, 1) := by decide +kernel
theorem dX12_why_42 : decode cX12_why 42 = .ok (.ireturn, 1) := by decide +kernel
theorem dX12_why_43 : decode cX12_why 43 = .ok (.aload_n 0, 1) := by decide +kernel
theorem dX12_why_44 : decode cX12_why 44 = .ok (.iload_n 1, 1) := by decide +kernel
theorem dX12_why_45 : decode cX12_why 45 = .ok (.invokevirtual 474, 3) := by decide +kernel
theorem dX12_why_48 : decode cX12_why 48 = .ok (.iconst 0, 1) := by decide +kernel
theorem dX12_why_49 : decode cX12_why 49 = .ok (.istore_n 3, 1) := by decide +kernel
theorem dX12_why_50 : decode cX12_why 50 = .ok (.iload_n 3, 1) := by decide +kernel
theorem dX12_why_51 : decode cX12_why 51 = .ok (.aload_n 0, 1) := by decide +kernel
theorem dX12_why_52 : decode cX12_why 52 = .ok (.getfield 42, 3) := by decide +kernel
theorem dX12_why_55 : decode cX12_why 55 = .ok (.iconst 0, 1) := by decide +kernel
theorem dX12_why_56 : decode cX12_why 56 = .ok (.iaload, 1) := by decide +kernel
theorem dX12_why_57 : decode cX12_why 57 = .ok (.if_icmp .ge 29, 3) := by decide +kernel
theorem dX12_why_60 : decode cX12_why 60 = .ok (.aload_n 0, 1) := by decide +kernel
theorem dX12_why_61 : decode cX12_why 61 = .ok (.getfield 45, 3) := by decide +kernel
theorem dX12_why_64 : decode cX12_why 64 = .ok (.iload_n 3, 1) := by decide +kernel
theorem dX12_why_65 : decode cX12_why 65 = .ok (.iaload, 1) := by decide +kernel
theorem dX12_why_66 : decode cX12_why 66 = .ok (.iload_n 2, 1) := by decide +kernel
theorem dX12_why_67 : decode cX12_why 67 = .ok (.if_icmp .ne 13, 3) := by decide +kernel
theorem dX12_why_70 : decode cX12_why 70 = .ok (.aload_n 0, 1) := by decide +kernel
theorem dX12_why_71 : decode cX12_why 71 = .ok (.iload_n 3, 1) := by decide +kernel
theorem dX12_why_72 : decode cX12_why 72 = .ok (.invokevirtual 478, 3) := by decide +kernel
theorem dX12_why_75 : decode cX12_why 75 = .ok (.ifCond .eq 5, 3) := by decide +kernel
theorem dX12_why_78 : decode cX12_why 78 = .ok (.iload_n 3, 1) := by decide +kernel
theorem dX12_why_79 : decode cX12_why 79 = .ok (.ireturn, 1) := by decide +kernel
theorem dX12_why_80 : decode cX12_why 80 = .ok (.iinc 3 1, 3) := by decide +kernel
theorem dX12_why_83 : decode cX12_why 83 = .ok (.goto (-33), 3) := by decide +kernel
theorem dX12_why_86 : decode cX12_why 86 = .ok (.iconst (-1), 1) := by decide +kernel
theorem dX12_why_87 : decode cX12_why 87 = .ok (.ireturn, 1) := by decide +kernel
theorem dX12_lawLevel_0 : decode cX12_lawLevel 0 = .ok (.aload_n 0, 1) := by decide +kernel
theorem dX12_lawLevel_1 : decode cX12_lawLevel 1 = .ok (.iconst 0, 1) := by decide +kernel
theorem dX12_lawLevel_2 : decode cX12_lawLevel 2 = .ok (.putfield 194, 3) := by decide +kernel
theorem dX12_lawLevel_5 : decode cX12_lawLevel 5 = .ok (.aload_n 0, 1) := by decide +kernel
theorem dX12_lawLevel_6 : decode cX12_lawLevel 6 = .ok (.iload_n 1, 1) := by decide +kernel
theorem dX12_lawLevel_7 : decode cX12_lawLevel 7 = .ok (.invokestatic 220, 3) := by decide +kernel
theorem dX12_lawLevel_10 : decode cX12_lawLevel 10 = .ok (.iconst 1, 1) := by decide +kernel
theorem dX12_lawLevel_11 : decode cX12_lawLevel 11 = .ok (.invokevirtual 224, 3) := by decide +kernel
theorem dX12_lawLevel_14 : decode cX12_lawLevel 14 = .ok (.ifCond .eq 5, 3) := by decide +kernel
theorem dX12_lawLevel_17 : decode cX12_lawLevel 17 = .ok (.iconst 0, 1) := by decide +kernel
theorem dX12_lawLevel_18 : decode cX12_lawLevel 18 = .ok (.ireturn, 1) := by decide +kernel
theorem dX12_lawLevel_19 : decode cX12_lawLevel 19 = .ok (.sipush 1000, 3) := by decide +kernel
theorem dX12_lawLevel_22 : decode cX12_lawLevel 22 = .ok (.istore_n 2, 1) := by decide +kernel
theorem dX12_lawLevel_23 : decode cX12_lawLevel 23 = .ok (.iconst 0, 1) := by decide +kernel
theorem dX12_lawLevel_24 : decode cX12_lawLevel 24 = .ok (.istore_n 3, 1) := by decide +kernel
theorem dX12_lawLevel_25 : decode cX12_lawLevel 25 = .ok (.iload_n 3, 1) := by decide +kernel
theorem dX12_lawLevel_26 : decode cX12_lawLevel 26 = .ok (.aload_n 0, 1) := by decide +kernel
theorem dX12_lawLevel_27 : decode cX12_lawLevel 27 = .ok (.getfield 42, 3) := by decide +kernel
theorem dX12_lawLevel_30 : decode cX12_lawLevel 30 = .ok (.iconst 0, 1) := by decide +kernel
theorem dX12_lawLevel_31 : decode cX12_lawLevel 31 = .ok (.iaload, 1) := by decide +kernel
theorem dX12_lawLevel_32 : decode cX12_lawLevel 32 = .ok (.if_icmp .ge 79, 3) := by decide +kernel
theorem dX12_lawLevel_35 : decode cX12_lawLevel 35 = .ok (.aload_n 0, 1) := by decide +kernel
theorem dX12_lawLevel_36 : decode cX12_lawLevel 36 = .ok (.getfield 45, 3) := by decide +kernel
theorem dX12_lawLevel_39 : decode cX12_lawLevel 39 = .ok (.iload_n 3, 1) := by decide +kernel
theorem dX12_lawLevel_40 : decode cX12_lawLevel 40 = .ok (.iaload, 1) := by decide +kernel
theorem dX12_lawLevel_41 : decode cX12_lawLevel 41 = .ok (.bipush 7, 2) := by decide +kernel
theorem dX12_lawLevel_43 : decode cX12_lawLevel 43 = .ok (.if_icmp .ne 62, 3) := by decide +kernel
theorem dX12_lawLevel_46 : decode cX12_lawLevel 46 = .ok (.iload_n 1, 1) := by decide +kernel
theorem dX12_lawLevel_47 : decode cX12_lawLevel 47 = .ok (.aload_n 0, 1) := by decide +kernel
theorem dX12_lawLevel_48 : decode cX12_lawLevel 48 = .ok (.getfield 54, 3) := by decide +kernel
theorem dX12_lawLevel_51 : decode cX12_lawLevel 51 = .ok (.iload_n 3, 1) := by decide +kernel
theorem dX12_lawLevel_52 : decode cX12_lawLevel 52 = .ok (.iaload, 1) := by decide +kernel
theorem dX12_lawLevel_53 : decode cX12_lawLevel 53 = .ok (.aload_n 0, 1) := by decide +kernel
theorem dX12_lawLevel_54 : decode cX12_lawLevel 54 = .ok (.getfield 57, 3) := by decide +kernel
theorem dX12_lawLevel_57 : decode cX12_lawLevel 57 = .ok (.iload_n 3, 1) := by decide +kernel
theorem dX12_lawLevel_58 : decode cX12_lawLevel 58 = .ok (.iaload, 1) := by decide +kernel
theorem dX12_lawLevel_59 : decode cX12_lawLevel 59 = .ok (.invokestatic 232, 3) := by decide +kernel
theorem dX12_lawLevel_62 : decode cX12_lawLevel 62 = .ok (.ifCond .eq 43, 3) := by decide +kernel
theorem dX12_lawLevel_65 : decode cX12_lawLevel 65 = .ok (.aload_n 0, 1) := by decide +kernel
theorem dX12_lawLevel_66 : decode cX12_lawLevel 66 = .ok (.invokevirtual 228, 3) := by decide +kernel
theorem dX12_lawLevel_69 : decode cX12_lawLevel 69 = .ok (.bipush 24, 2) := by decide +kernel
theorem dX12_lawLevel_71 : decode cX12_lawLevel 71 = .ok (.idiv, 1) := by decide +kernel
theorem dX12_lawLevel_72 : decode cX12_lawLevel 72 = .ok (.sipush 360, 3) := by decide +kernel
theorem dX12_lawLevel_75 : decode cX12_lawLevel 75 = .ok (.irem, 1) := by decide +kernel
theorem dX12_lawLevel_76 : decode cX12_lawLevel 76 = .ok (.bipush 90, 2) := by decide +kernel
theorem dX12_lawLevel_78 : decode cX12_lawLevel 78 = .ok (.sipush 269, 3) := by decide +kernel
theorem dX12_lawLevel_81 : decode cX12_lawLevel 81 = .ok (.invokestatic 197, 3) := by decide +kernel
theorem dX12_lawLevel_84 : decode cX12_lawLevel 84 = .ok (.ifCond .eq 13, 3) := by decide +kernel
theorem dX12_lawLevel_87 : decode cX12_lawLevel 87 = .ok (.aload_n 0, 1) := by decide +kernel
theorem dX12_lawLevel_88 : decode cX12_lawLevel 88 = .ok (.getfield 48, 3) := by decide +kernel
theorem dX12_lawLevel_91 : decode cX12_lawLevel 91 = .ok (.iload_n 3, 1) := by decide +kernel
theorem dX12_lawLevel_92 : decode cX12_lawLevel 92 = .ok (.iaload, 1) := by decide +kernel
theorem dX12_lawLevel_93 : decode cX12_lawLevel 93 = .ok (.ineg, 1) := by decide +kernel
theorem dX12_lawLevel_94 : decode cX12_lawLevel 94 = .ok (.goto 10, 3) := by decide +kernel
theorem dX12_lawLevel_97 : decode cX12_lawLevel 97 = .ok (.aload_n 0, 1) := by decide +kernel
theorem dX12_lawLevel_98 : decode cX12_lawLevel 98 = .ok (.getfield 51, 3) := by decide +kernel
theorem dX12_lawLevel_101 : decode cX12_lawLevel 101 = .ok (.iload_n 3, 1) := by decide +kernel
theorem dX12_lawLevel_102 : decode cX12_lawLevel 102 = .ok (.iaload, 1) := by decide +kernel
theorem dX12_lawLevel_103 : decode cX12_lawLevel 103 = .ok (.ineg, 1) := by decide +kernel
theorem dX12_lawLevel_104 : decode cX12_lawLevel 104 = .ok (.istore_n 2, 1) := by decide +kernel
theorem dX12_lawLevel_105 : decode cX12_lawLevel 105 = .ok (.iinc 3 1, 3) := by decide +kernel
theorem dX12_lawLevel_108 : decode cX12_lawLevel 108 = .ok (.goto (-83), 3) := by decide +kernel
theorem dX12_lawLevel_111 : decode cX12_lawLevel 111 = .ok (.iload_n 2, 1) := by decide +kernel
theorem dX12_lawLevel_112 : decode cX12_lawLevel 112 = .ok (.ireturn, 1) := by decide +kernel
theorem dX12_mayBuild_0 : decode cX12_mayBuild 0 = .ok (.aload_n 0, 1) := by decide +kernel
theorem dX12_mayBuild_1 : decode cX12_mayBuild 1 = .ok (.iconst 0, 1) := by decide +kernel
theorem dX12_mayBuild_2 : decode cX12_mayBuild 2 = .ok (.putfield 194, 3) := by decide +kernel
theorem dX12_mayBuild_5 : decode cX12_mayBuild 5 = .ok (.aload_n 0, 1) := by decide +kernel
theorem dX12_mayBuild_6 : decode cX12_mayBuild 6 = .ok (.iload_n 1, 1) := by decide +kernel
theorem dX12_mayBuild_7 : decode cX12_mayBuild 7 = .ok (.invokestatic 220, 3) := by decide +kernel
theorem dX12_mayBuild_10 : decode cX12_mayBuild 10 = .ok (.iconst 1, 1) := by decide +kernel
theorem dX12_mayBuild_11 : decode cX12_mayBuild 11 = .ok (.invokevirtual 224, 3) := by decide +kernel
theorem dX12_mayBuild_14 : decode cX12_mayBuild 14 = .ok (.ifCond .ne 15, 3) := by decide +kernel
theorem dX12_mayBuild_17 : decode cX12_mayBuild 17 = .ok (.aload_n 0, 1) := by decide +kernel
theorem dX12_mayBuild_18 : decode cX12_mayBuild 18 = .ok (.iload_n 1, 1) := by decide +kernel
theorem dX12_mayBuild_19 : decode cX12_mayBuild 19 = .ok (.invokevirtual 279, 3) := by decide +kernel
theorem dX12_mayBuild_22 : decode cX12_mayBuild 22 = .ok (.ifCond .eq 7, 3) := by decide +kernel
theorem dX12_mayBuild_25 : decode cX12_mayBuild 25 = .ok (.iconst 1, 1) := by decide +kernel
theorem dX12_mayBuild_26 : decode cX12_mayBuild 26 = .ok (.goto 4, 3) := by decide +kernel
theorem dX12_mayBuild_29 : decode cX12_mayBuild 29 = .ok (.iconst 0, 1) := by decide +kernel
theorem dX12_mayBuild_30 : decode cX12_mayBuild 30 = .ok (.ireturn, 1) := by decide +kernel
theorem dX12_settler_0 : decode cX12_settler 0 = .ok (.aload_n 0, 1) := by decide +kernel
theorem dX12_settler_1 : decode cX12_settler 1 = .ok (.iconst 0, 1) := by decide +kernel
theorem dX12_settler_2 : decode cX12_settler 2 = .ok (.putfield 194, 3) := by decide +kernel
theorem dX12_settler_5 : decode cX12_settler 5 = .ok (.aload_n 0, 1) := by decide +kernel
theorem dX12_settler_6 : decode cX12_settler 6 = .ok (.iload_n 1, 1) := by decide +kernel
theorem dX12_settler_7 : decode cX12_settler 7 = .ok (.iconst 0, 1) := by decide +kernel
theorem dX12_settler_8 : decode cX12_settler 8 = .ok (.bipush 99, 2) := by decide +kernel
theorem dX12_settler_10 : decode cX12_settler 10 = .ok (.invokestatic 197, 3) := by decide +kernel
theorem dX12_settler_13 : decode cX12_settler 13 = .ok (.ifCond .eq 46, 3) := by decide +kernel
theorem dX12_settler_16 : decode cX12_settler 16 = .ok (.iload_n 2, 1) := by decide +kernel
theorem dX12_settler_17 : decode cX12_settler 17 = .ok (.iconst 0, 1) := by decide +kernel
theorem dX12_settler_18 : decode cX12_settler 18 = .ok (.bipush 20, 2) := by decide +kernel
theorem dX12_settler_20 : decode cX12_settler 20 = .ok (.invokestatic 197, 3) := by decide +kernel
theorem dX12_settler_23 : decode cX12_settler 23 = .ok (.ifCond .eq 36, 3) := by decide +kernel
theorem dX12_settler_26 : decode cX12_settler 26 = .ok (.iload_n 3, 1) := by decide +kernel
theorem dX12_settler_27 : decode cX12_settler 27 = .ok (.iconst 0, 1) := by decide +kernel
theorem dX12_settler_28 : decode cX12_settler 28 = .ok (.ldc 241, 2) := by decide +kernel
theorem dX12_settler_30 : decode cX12_settler 30 = .ok (.invokestatic 197, 3) := by decide +kernel
theorem dX12_settler_33 : decode cX12_settler 33 = .ok (.ifCond .eq 26, 3) := by decide +kernel
theorem dX12_settler_36 : decode cX12_settler 36 = .ok (.iload 4, 2) := by decide +kernel
theorem dX12_settler_38 : decode cX12_settler 38 = .ok (.iconst 0, 1) := by decide +kernel
theorem dX12_settler_39 : decode cX12_settler 39 = .ok (.bipush 100, 2) := by decide +kernel
theorem dX12_settler_41 : decode cX12_settler 41 = .ok (.invokestatic 197, 3) := by decide +kernel
theorem dX12_settler_44 : decode cX12_settler 44 = .ok (.ifCond .eq 15, 3) := by decide +kernel
theorem dX12_settler_47 : decode cX12_settler 47 = .ok (.iload 7, 2) := by decide +kernel
theorem dX12_settler_49 : decode cX12_settler 49 = .ok (.iconst 0, 1) := by decide +kernel
theorem dX12_settler_50 : decode cX12_settler 50 = .ok (.ldc_w 501, 3) := by decide +kernel
theorem dX12_settler_53 : decode cX12_settler 53 = .ok (.invokestatic 197, 3) := by decide +kernel
theorem dX12_settler_56 : decode cX12_settler 56 = .ok (.ifCond .ne 7, 3) := by decide +kernel
theorem dX12_settler_59 : decode cX12_settler 59 = .ok (.iconst 1, 1) := by decide +kernel
theorem dX12_settler_60 : decode cX12_settler 60 = .ok (.goto 4, 3) := by decide +kernel
theorem dX12_settler_63 : decode cX12_settler 63 = .ok (.iconst 0, 1) := by decide +kernel
theorem dX12_settler_64 : decode cX12_settler 64 = .ok (.iconst 1, 1) := by decide +kernel
theorem dX12_settler_65 : decode cX12_settler 65 = .ok (.invokevirtual 224, 3) := by decide +kernel
theorem dX12_settler_68 : decode cX12_settler 68 = .ok (.ifCond .ne 25, 3) := by decide +kernel
theorem dX12_settler_71 : decode cX12_settler 71 = .ok (.aload_n 0, 1) := by decide +kernel
theorem dX12_settler_72 : decode cX12_settler 72 = .ok (.aload_n 0, 1) := by decide +kernel
theorem dX12_settler_73 : decode cX12_settler 73 = .ok (.getfield 495, 3) := by decide +kernel
theorem dX12_settler_76 : decode cX12_settler 76 = .ok (.bipush 60, 2) := by decide +kernel
theorem dX12_settler_78 : decode cX12_settler 78 = .ok (.if_icmp .ne 7, 3) := by decide +kernel
theorem dX12_settler_81 : decode cX12_settler 81 = .ok (.iconst 1, 1) := by decide +kernel
theorem dX12_settler_82 : decode cX12_settler 82 = .ok (.goto 4, 3) := by decide +kernel
theorem dX12_settler_85 : decode cX12_settler 85 = .ok (.iconst 0, 1) := by decide +kernel
theorem dX12_settler_86 : decode cX12_settler 86 = .ok (.iconst 2, 1) := by decide +kernel
theorem dX12_settler_87 : decode cX12_settler 87 = .ok (.invokevirtual 224, 3) := by decide +kernel
theorem dX12_settler_90 : decode cX12_settler 90 = .ok (.ifCond .eq 5, 3) := by decide +kernel
theorem dX12_settler_93 : decode cX12_settler 93 = .ok (.iconst 0, 1) := by decide +kernel
theorem dX12_settler_94 : decode cX12_settler 94 = .ok (.ireturn, 1) := by decide +kernel
theorem dX12_settler_95 : decode cX12_settler 95 = .ok (.aload_n 0, 1) := by decide +kernel
theorem dX12_settler_96 : decode cX12_settler 96 = .ok (.getfield 495, 3) := by decide +kernel
theorem dX12_settler_99 : decode cX12_settler 99 = .ok (.istore 8, 2) := by decide +kernel
theorem dX12_settler_101 : decode cX12_settler 101 = .ok (.aload_n 0, 1) := by decide +kernel
theorem dX12_settler_102 : decode cX12_settler 102 = .ok (.dup, 1) := by decide +kernel
theorem dX12_settler_103 : decode cX12_settler 103 = .ok (.getfield 495, 3) := by decide +kernel
theorem dX12_settler_106 : decode cX12_settler 106 = .ok (.iconst 1, 1) := by decide +kernel
theorem dX12_settler_107 : decode cX12_settler 107 = .ok (.iadd, 1) := by decide +kernel
theorem dX12_settler_108 : decode cX12_settler 108 = .ok (.putfield 495, 3) := by decide +kernel
theorem dX12_settler_111 : decode cX12_settler 111 = .ok (.aload_n 0, 1) := by decide +kernel
theorem dX12_settler_112 : decode cX12_settler 112 = .ok (.getfield 79, 3) := by decide +kernel
theorem dX12_settler_115 : decode cX12_settler 115 = .ok (.iload 8, 2) := by decide +kernel
theorem dX12_settler_117 : decode cX12_settler 117 = .ok (.iload_n 1, 1) := by decide +kernel
theorem dX12_settler_118 : decode cX12_settler 118 = .ok (.iastore, 1) := by decide +kernel
theorem dX12_settler_119 : decode cX12_settler 119 = .ok (.aload_n 0, 1) := by decide +kernel
theorem dX12_settler_120 : decode cX12_settler 120 = .ok (.getfield 82, 3) := by decide +kernel
theorem dX12_settler_123 : decode cX12_settler 123 = .ok (.iload 8, 2) := by decide +kernel
theorem dX12_settler_125 : decode cX12_settler 125 = .ok (.iload_n 2, 1) := by decide +kernel
theorem dX12_settler_126 : decode cX12_settler 126 = .ok (.iastore, 1) := by decide +kernel
theorem dX12_settler_127 : decode cX12_settler 127 = .ok (.aload_n 0, 1) := by decide +kernel
theorem dX12_settler_128 : decode cX12_settler 128 = .ok (.getfield 85, 3) := by decide +kernel
theorem dX12_settler_131 : decode cX12_settler 131 = .ok (.iload 8, 2) := by decide +kernel
theorem dX12_settler_133 : decode cX12_settler 133 = .ok (.iload_n 3, 1) := by decide +kernel
theorem dX12_settler_134 : decode cX12_settler 134 = .ok (.iastore, 1) := by decide +kernel
theorem dX12_settler_135 : decode cX12_settler 135 = .ok (.aload_n 0, 1) := by decide +kernel
theorem dX12_settler_136 : decode cX12_settler 136 = .ok (.getfield 88, 3) := by decide +kernel
theorem dX12_settler_139 : decode cX12_settler 139 = .ok (.iload 8, 2) := by decide +kernel
theorem dX12_settler_141 : decode cX12_settler 141 = .ok (.iload 4, 2) := by decide +kernel
theorem dX12_settler_143 : decode cX12_settler 143 = .ok (.iastore, 1) := by decide +kernel
theorem dX12_settler_144 : decode cX12_settler 144 = .ok (.aload_n 0, 1) := by decide +kernel
theorem dX12_settler_145 : decode cX12_settler 145 = .ok (.getfield 91, 3) := by decide +kernel
theorem dX12_settler_148 : decode cX12_settler 148 = .ok (.iload 8, 2) := by decide +kernel
theorem dX12_settler_150 : decode cX12_settler 150 = .ok (.iload 5, 2) := by decide +kernel
theorem dX12_settler_152 : decode cX12_settler 152 = .ok (.bastore, 1) := by decide +kernel
theorem dX12_settler_153 : decode cX12_settler 153 = .ok (.aload_n 0, 1) := by decide +kernel
theorem dX12_settler_154 : decode cX12_settler 154 = .ok (.getfield 95, 3) := by decide +kernel
theorem dX12_settler_157 : decode cX12_settler 157 = .ok (.iload 8, 2) := by decide +kernel
theorem dX12_settler_159 : decode cX12_settler 159 = .ok (.iload 6, 2) := by decide +kernel
theorem dX12_settler_161 : decode cX12_settler 161 = .ok (.bastore, 1) := by decide +kernel
theorem dX12_settler_162 : decode cX12_settler 162 = .ok (.aload_n 0, 1) := by decide +kernel
theorem dX12_settler_163 : decode cX12_settler 163 = .ok (.getfield 98, 3) := by decide +kernel
theorem dX12_settler_166 : decode cX12_settler 166 = .ok (.iload 8, 2) := by decide +kernel
theorem dX12_settler_168 : decode cX12_settler 168 = .ok (.iload 7, 2) := by decide +kernel
theorem dX12_settler_170 : decode cX12_settler 170 = .ok (.iastore, 1) := by decide +kernel
theorem dX12_settler_171 : decode cX12_settler 171 = .ok (.aload_n 0, 1) := by decide +kernel
theorem dX12_settler_172 : decode cX12_settler 172 = .ok (.getfield 101, 3) := by decide +kernel
theorem dX12_settler_175 : decode cX12_settler 175 = .ok (.iload 8, 2) := by decide +kernel
theorem dX12_settler_177 : decode cX12_settler 177 = .ok (.iconst (-1), 1) := by decide +kernel
theorem dX12_settler_178 : decode cX12_settler 178 = .ok (.iastore, 1) := by decide +kernel
theorem dX12_settler_179 : decode cX12_settler 179 = .ok (.iload 8, 2) := by decide +kernel
theorem dX12_settler_181 : decode cX12_settler 181 = .ok (.ireturn, 1) := by decide +kernel
theorem dX12_worth_0 : decode cX12_worth 0 = .ok (.aload_n 0, 1) := by decide +kernel
theorem dX12_worth_1 : decode cX12_worth 1 = .ok (.iconst 0, 1) := by decide +kernel
theorem dX12_worth_2 : decode cX12_worth 2 = .ok (.putfield 194, 3) := by decide +kernel
theorem dX12_worth_5 : decode cX12_worth 5 = .ok (.aload_n 0, 1) := by decide +kernel
theorem dX12_worth_6 : decode cX12_worth 6 = .ok (.aload_n 0, 1) := by decide +kernel
theorem dX12_worth_7 : decode cX12_worth 7 = .ok (.iload_n 1, 1) := by decide +kernel
theorem dX12_worth_8 : decode cX12_worth 8 = .ok (.invokevirtual 502, 3) := by decide +kernel
theorem dX12_worth_11 : decode cX12_worth 11 = .ok (.iconst 1, 1) := by decide +kernel
theorem dX12_worth_12 : decode cX12_worth 12 = .ok (.invokevirtual 224, 3) := by decide +kernel
theorem dX12_worth_15 : decode cX12_worth 15 = .ok (.ifCond .eq 7, 3) := by decide +kernel
theorem dX12_worth_18 : decode cX12_worth 18 = .ok (.iconst 0, 1) := by decide +kernel
theorem dX12_worth_19 : decode cX12_worth 19 = .ok (.goto 8, 3) := by decide +kernel
theorem dX12_worth_22 : decode cX12_worth 22 = .ok (.aload_n 0, 1) := by decide +kernel
theorem dX12_worth_23 : decode cX12_worth 23 = .ok (.iload_n 1, 1) := by decide +kernel
theorem dX12_worth_24 : decode cX12_worth 24 = .ok (.invokevirtual 505, 3) := by decide +kernel
theorem dX12_worth_27 : decode cX12_worth 27 = .ok (.ireturn, 1) := by decide +kernel
theorem dX12_choose_0 : decode cX12_choose 0 = .ok (.aload_n 0, 1) := by decide +kernel
theorem dX12_choose_1 : decode cX12_choose 1 = .ok (.iconst 0, 1) := by decide +kernel
theorem dX12_choose_2 : decode cX12_choose 2 = .ok (.putfield 194, 3) := by decide +kernel
theorem dX12_choose_5 : decode cX12_choose 5 = .ok (.aload_n 0, 1) := by decide +kernel
theorem dX12_choose_6 : decode cX12_choose 6 = .ok (.iload_n 1, 1) := by decide +kernel
theorem dX12_choose_7 : decode cX12_choose 7 = .ok (.iconst 0, 1) := by decide +kernel
theorem dX12_choose_8 : decode cX12_choose 8 = .ok (.bipush 60, 2) := by decide +kernel
theorem dX12_choose_10 : decode cX12_choose 10 = .ok (.invokestatic 197, 3) := by decide +kernel
theorem dX12_choose_13 : decode cX12_choose 13 = .ok (.ifCond .ne 7, 3) := by decide +kernel
theorem dX12_choose_16 : decode cX12_choose 16 = .ok (.iconst 1, 1) := by decide +kernel
theorem dX12_choose_17 : decode cX12_choose 17 = .ok (.goto 4, 3) := by decide +kernel
theorem dX12_choose_20 : decode cX12_choose 20 = .ok (.iconst 0, 1) := by decide +kernel
theorem dX12_choose_21 : decode cX12_choose 21 = .ok (.iconst 1, 1) := by decide +kernel
theorem dX12_choose_22 : decode cX12_choose 22 = .ok (.invokevirtual 224, 3) := by decide +kernel
theorem dX12_choose_25 : decode cX12_choose 25 = .ok (.ifCond .eq 5, 3) := by decide +kernel
theorem dX12_choose_28 : decode cX12_choose 28 = .ok (.iconst 0, 1) := by decide +kernel
theorem dX12_choose_29 : decode cX12_choose 29 = .ok (.ireturn, 1) := by decide +kernel
theorem dX12_choose_30 : decode cX12_choose 30 = .ok (.iconst 0, 1) := by decide +kernel
theorem dX12_choose_31 : decode cX12_choose 31 = .ok (.istore_n 2, 1) := by decide +kernel
theorem dX12_choose_32 : decode cX12_choose 32 = .ok (.iload_n 2, 1) := by decide +kernel
theorem dX12_choose_33 : decode cX12_choose 33 = .ok (.aload_n 0, 1) := by decide +kernel
theorem dX12_choose_34 : decode cX12_choose 34 = .ok (.getfield 495, 3) := by decide +kernel
theorem dX12_choose_37 : decode cX12_choose 37 = .ok (.if_icmp .ge 53, 3) := by decide +kernel
theorem dX12_choose_40 : decode cX12_choose 40 = .ok (.aload_n 0, 1) := by decide +kernel
theorem dX12_choose_41 : decode cX12_choose 41 = .ok (.getfield 131, 3) := by decide +kernel
theorem dX12_choose_44 : decode cX12_choose 44 = .ok (.iload_n 2, 1) := by decide +kernel
theorem dX12_choose_45 : decode cX12_choose 45 = .ok (.aload_n 0, 1) := by decide +kernel
theorem dX12_choose_46 : decode cX12_choose 46 = .ok (.getfield 101, 3) := by decide +kernel
theorem dX12_choose_49 : decode cX12_choose 49 = .ok (.iload_n 2, 1) := by decide +kernel
theorem dX12_choose_50 : decode cX12_choose 50 = .ok (.iaload, 1) := by decide +kernel
theorem dX12_choose_51 : decode cX12_choose 51 = .ok (.ifCond .ge 19, 3) := by decide +kernel
theorem dX12_choose_54 : decode cX12_choose 54 = .ok (.aload_n 0, 1) := by decide +kernel
theorem dX12_choose_55 : decode cX12_choose 55 = .ok (.iload_n 2, 1) := by decide +kernel
theorem dX12_choose_56 : decode cX12_choose 56 = .ok (.bipush 6, 2) := by decide +kernel
theorem dX12_choose_58 : decode cX12_choose 58 = .ok (.invokevirtual 480, 3) := by decide +kernel
theorem dX12_choose_61 : decode cX12_choose 61 = .ok (.lconst 0, 1) := by decide +kernel
theorem dX12_choose_62 : decode cX12_choose 62 = .ok (.lcmp, 1) := by decide +kernel
theorem dX12_choose_63 : decode cX12_choose 63 = .ok (.ifCond .ne 7, 3) := by decide +kernel
theorem dX12_choose_66 : decode cX12_choose 66 = .ok (.iconst 1, 1) := by decide +kernel
theorem dX12_choose_67 : decode cX12_choose 67 = .ok (.goto 4, 3) := by decide +kernel
theorem dX12_choose_70 : decode cX12_choose 70 = .ok (.iconst 0, 1) := by decide +kernel
theorem dX12_choose_71 : decode cX12_choose 71 = .ok (.bastore, 1) := by decide +kernel
theorem dX12_choose_72 : decode cX12_choose 72 = .ok (.aload_n 0, 1) := by decide +kernel
theorem dX12_choose_73 : decode cX12_choose 73 = .ok (.getfield 128, 3) := by decide +kernel
theorem dX12_choose_76 : decode cX12_choose 76 = .ok (.iload_n 2, 1) := by decide +kernel
theorem dX12_choose_77 : decode cX12_choose 77 = .ok (.aload_n 0, 1) := by decide +kernel
theorem dX12_choose_78 : decode cX12_choose 78 = .ok (.iload_n 2, 1) := by decide +kernel
theorem dX12_choose_79 : decode cX12_choose 79 = .ok (.iconst 4, 1) := by decide +kernel
theorem dX12_choose_80 : decode cX12_choose 80 = .ok (.invokevirtual 480, 3) := by decide +kernel
theorem dX12_choose_83 : decode cX12_choose 83 = .ok (.lastore, 1) := by decide +kernel
theorem dX12_choose_84 : decode cX12_choose 84 = .ok (.iinc 2 1, 3) := by decide +kernel
theorem dX12_choose_87 : decode cX12_choose 87 = .ok (.goto (-55), 3) := by decide +kernel
theorem dX12_choose_90 : decode cX12_choose 90 = .ok (.iconst 0, 1) := by decide +kernel
theorem dX12_choose_91 : decode cX12_choose 91 = .ok (.istore_n 2, 1) := by decide +kernel
theorem dX12_choose_92 : decode cX12_choose 92 = .ok (.iconst 0, 1) := by decide +kernel
theorem dX12_choose_93 : decode cX12_choose 93 = .ok (.istore_n 3, 1) := by decide +kernel
theorem dX12_choose_94 : decode cX12_choose 94 = .ok (.iload_n 3, 1) := by decide +kernel
theorem dX12_choose_95 : decode cX12_choose 95 = .ok (.iload_n 1, 1) := by decide +kernel
theorem dX12_choose_96 : decode cX12_choose 96 = .ok (.if_icmp .ge 62, 3) := by decide +kernel
theorem dX12_choose_99 : decode cX12_choose 99 = .ok (.aload_n 0, 1) := by decide +kernel
theorem dX12_choose_100 : decode cX12_choose 100 = .ok (.invokevirtual 508, 3) := by decide +kernel
theorem dX12_choose_103 : decode cX12_choose 103 = .ok (.istore 4, 2) := by decide +kernel
theorem dX12_choose_105 : decode cX12_choose 105 = .ok (.aload_n 0, 1) := by decide +kernel
theorem dX12_choose_106 : decode cX12_choose 106 = .ok (.invokevirtual 511, 3) := by decide +kernel
theorem dX12_choose_109 : decode cX12_choose 109 = .ok (.istore 5, 2) := by decide +kernel
theorem dX12_choose_111 : decode cX12_choose 111 = .ok (.iload 4, 2) := by decide +kernel
theorem dX12_choose_113 : decode cX12_choose 113 = .ok (.ifCond .lt 8, 3) := by decide +kernel
theorem dX12_choose_116 : decode cX12_choose 116 = .ok (.iload 5, 2) := by decide +kernel
theorem dX12_choose_118 : decode cX12_choose 118 = .ok (.ifCond .ge 5, 3) := by decide +kernel
theorem dX12_choose_121 : decode cX12_choose 121 = .ok (.iload_n 2, 1) := by decide +kernel
theorem dX12_choose_122 : decode cX12_choose 122 = .ok (.ireturn, 1) := by decide +kernel
theorem dX12_choose_123 : decode cX12_choose 123 = .ok (.aload_n 0, 1) := by decide +kernel
theorem dX12_choose_124 : decode cX12_choose 124 = .ok (.getfield 131, 3) := by decide +kernel
theorem dX12_choose_127 : decode cX12_choose 127 = .ok (.iload 4, 2) := by decide +kernel
theorem dX12_choose_129 : decode cX12_choose 129 = .ok (.iconst 0, 1) := by decide +kernel
theorem dX12_choose_130 : decode cX12_choose 130 = .ok (.bastore, 1) := by decide +kernel
theorem dX12_choose_131 : decode cX12_choose 131 = .ok (.aload_n 0, 1) := by decide +kernel
theorem dX12_choose_132 : decode cX12_choose 132 = .ok (.getfield 101, 3) := by decide +kernel
theorem dX12_choose_135 : decode cX12_choose 135 = .ok (.iload 4, 2) := by decide +kernel
theorem dX12_choose_137 : decode cX12_choose 137 = .ok (.iload 5, 2) := by decide +kernel
theorem dX12_choose_139 : decode cX12_choose 139 = .ok (.iastore, 1) := by decide +kernel
theorem dX12_choose_140 : decode cX12_choose 140 = .ok (.aload_n 0, 1) := by decide +kernel
theorem dX12_choose_141 : decode cX12_choose 141 = .ok (.getfield 122, 3) := by decide +kernel
theorem dX12_choose_144 : decode cX12_choose 144 = .ok (.iload 5, 2) := by decide +kernel
theorem dX12_choose_146 : decode cX12_choose 146 = .ok (.iload 4, 2) := by decide +kernel
theorem dX12_choose_148 : decode cX12_choose 148 = .ok (.iastore, 1) := by decide +kernel
theorem dX12_choose_149 : decode cX12_choose 149 = .ok (.iinc 2 1, 3) := by decide +kernel
theorem dX12_choose_152 : decode cX12_choose 152 = .ok (.iinc 3 1, 3) := by decide +kernel
theorem dX12_choose_155 : decode cX12_choose 155 = .ok (.goto (-61), 3) := by decide +kernel
theorem dX12_choose_158 : decode cX12_choose 158 = .ok (.iload_n 2, 1) := by decide +kernel
theorem dX12_choose_159 : decode cX12_choose 159 = .ok (.ireturn, 1) := by decide +kernel
theorem dX12_sow_0 : decode cX12_sow 0 = .ok (.aload_n 0, 1) := by decide +kernel
theorem dX12_sow_1 : decode cX12_sow 1 = .ok (.iconst 0, 1) := by decide +kernel
theorem dX12_sow_2 : decode cX12_sow 2 = .ok (.putfield 194, 3) := by decide +kernel
theorem dX12_sow_5 : decode cX12_sow 5 = .ok (.aload_n 0, 1) := by decide +kernel
theorem dX12_sow_6 : decode cX12_sow 6 = .ok (.aload_n 0, 1) := by decide +kernel
theorem dX12_sow_7 : decode cX12_sow 7 = .ok (.iload_n 1, 1) := by decide +kernel
theorem dX12_sow_8 : decode cX12_sow 8 = .ok (.invokevirtual 502, 3) := by decide +kernel
theorem dX12_sow_11 : decode cX12_sow 11 = .ok (.iconst 1, 1) := by decide +kernel
theorem dX12_sow_12 : decode cX12_sow 12 = .ok (.invokevirtual 224, 3) := by decide +kernel
theorem dX12_sow_15 : decode cX12_sow 15 = .ok (.ifCond .ne 25, 3) := by decide +kernel
theorem dX12_sow_18 : decode cX12_sow 18 = .ok (.aload_n 0, 1) := by decide +kernel
theorem dX12_sow_19 : decode cX12_sow 19 = .ok (.iload_n 2, 1) := by decide +kernel
theorem dX12_sow_20 : decode cX12_sow 20 = .ok (.iconst 0, 1) := by decide +kernel
theorem dX12_sow_21 : decode cX12_sow 21 = .ok (.iconst 3, 1) := by decide +kernel
theorem dX12_sow_22 : decode cX12_sow 22 = .ok (.invokestatic 197, 3) := by decide +kernel
theorem dX12_sow_25 : decode cX12_sow 25 = .ok (.ifCond .ne 7, 3) := by decide +kernel
theorem dX12_sow_28 : decode cX12_sow 28 = .ok (.iconst 1, 1) := by decide +kernel
theorem dX12_sow_29 : decode cX12_sow 29 = .ok (.goto 4, 3) := by decide +kernel
theorem dX12_sow_32 : decode cX12_sow 32 = .ok (.iconst 0, 1) := by decide +kernel
theorem dX12_sow_33 : decode cX12_sow 33 = .ok (.iconst 2, 1) := by decide +kernel
theorem dX12_sow_34 : decode cX12_sow 34 = .ok (.invokevirtual 224, 3) := by decide +kernel
theorem dX12_sow_37 : decode cX12_sow 37 = .ok (.ifCond .eq 5, 3) := by decide +kernel
theorem dX12_sow_40 : decode cX12_sow 40 = .ok (.iconst 0, 1) := by decide +kernel
theorem dX12_sow_41 : decode cX12_sow 41 = .ok (.ireturn, 1) := by decide +kernel
theorem dX12_sow_42 : decode cX12_sow 42 = .ok (.aload_n 0, 1) := by decide +kernel
theorem dX12_sow_43 : decode cX12_sow 43 = .ok (.getfield 119, 3) := by decide +kernel
theorem dX12_sow_46 : decode cX12_sow 46 = .ok (.iload_n 1, 1) := by decide +kernel
theorem dX12_sow_47 : decode cX12_sow 47 = .ok (.iaload, 1) := by decide +kernel
theorem dX12_sow_48 : decode cX12_sow 48 = .ok (.iload_n 2, 1) := by decide +kernel
theorem dX12_sow_49 : decode cX12_sow 49 = .ok (.if_icmp .eq 7, 3) := by decide +kernel
theorem dX12_sow_52 : decode cX12_sow 52 = .ok (.iconst 1, 1) := by decide +kernel
theorem dX12_sow_53 : decode cX12_sow 53 = .ok (.goto 4, 3) := by decide +kernel
theorem dX12_sow_56 : decode cX12_sow 56 = .ok (.iconst 0, 1) := by decide +kernel
theorem dX12_sow_57 : decode cX12_sow 57 = .ok (.istore_n 3, 1) := by decide +kernel
theorem dX12_sow_58 : decode cX12_sow 58 = .ok (.aload_n 0, 1) := by decide +kernel
theorem dX12_sow_59 : decode cX12_sow 59 = .ok (.getfield 119, 3) := by decide +kernel
theorem dX12_sow_62 : decode cX12_sow 62 = .ok (.iload_n 1, 1) := by decide +kernel
theorem dX12_sow_63 : decode cX12_sow 63 = .ok (.iload_n 2, 1) := by decide +kernel
theorem dX12_sow_64 : decode cX12_sow 64 = .ok (.iastore, 1) := by decide +kernel
theorem dX12_sow_65 : decode cX12_sow 65 = .ok (.iload_n 3, 1) := by decide +kernel
theorem dX12_sow_66 : decode cX12_sow 66 = .ok (.ireturn, 1) := by decide +kernel
theorem dX12_come_0 : decode cX12_come 0 = .ok (.aload_n 0, 1) := by decide +kernel
theorem dX12_come_1 : decode cX12_come 1 = .ok (.iconst 0, 1) := by decide +kernel
theorem dX12_come_2 : decode cX12_come 2 = .ok (.putfield 194, 3) := by decide +kernel
theorem dX12_come_5 : decode cX12_come 5 = .ok (.aload_n 0, 1) := by decide +kernel
theorem dX12_come_6 : decode cX12_come 6 = .ok (.aload_n 0, 1) := by decide +kernel
theorem dX12_come_7 : decode cX12_come 7 = .ok (.iload_n 1, 1) := by decide +kernel
theorem dX12_come_8 : decode cX12_come 8 = .ok (.invokevirtual 486, 3) := by decide +kernel
theorem dX12_come_11 : decode cX12_come 11 = .ok (.iconst 1, 1) := by decide +kernel
theorem dX12_come_12 : decode cX12_come 12 = .ok (.invokevirtual 224, 3) := by decide +kernel
theorem dX12_come_15 : decode cX12_come 15 = .ok (.ifCond .ne 21, 3) := by decide +kernel
theorem dX12_come_18 : decode cX12_come 18 = .ok (.aload_n 0, 1) := by decide +kernel
theorem dX12_come_19 : decode cX12_come 19 = .ok (.getfield 101, 3) := by decide +kernel
theorem dX12_come_22 : decode cX12_come 22 = .ok (.iload_n 1, 1) := by decide +kernel
theorem dX12_come_23 : decode cX12_come 23 = .ok (.iaload, 1) := by decide +kernel
theorem dX12_come_24 : decode cX12_come 24 = .ok (.ifCond .lt 12, 3) := by decide +kernel
theorem dX12_come_27 : decode cX12_come 27 = .ok (.aload_n 0, 1) := by decide +kernel
theorem dX12_come_28 : decode cX12_come 28 = .ok (.getfield 110, 3) := by decide +kernel
theorem dX12_come_31 : decode cX12_come 31 = .ok (.iload_n 1, 1) := by decide +kernel
theorem dX12_come_32 : decode cX12_come 32 = .ok (.baload, 1) := by decide +kernel
theorem dX12_come_33 : decode cX12_come 33 = .ok (.ifCond .eq 5, 3) := by decide +kernel
theorem dX12_come_36 : decode cX12_come 36 = .ok (.iconst 0, 1) := by decide +kernel
theorem dX12_come_37 : decode cX12_come 37 = .ok (.ireturn, 1) := by decide +kernel
theorem dX12_come_38 : decode cX12_come 38 = .ok (.aload_n 0, 1) := by decide +kernel
theorem dX12_come_39 : decode cX12_come 39 = .ok (.getfield 110, 3) := by decide +kernel
theorem dX12_come_42 : decode cX12_come 42 = .ok (.iload_n 1, 1) := by decide +kernel
theorem dX12_come_43 : decode cX12_come 43 = .ok (.iconst 1, 1) := by decide +kernel
theorem dX12_come_44 : decode cX12_come 44 = .ok (.bastore, 1) := by decide +kernel
theorem dX12_come_45 : decode cX12_come 45 = .ok (.iconst 1, 1) := by decide +kernel
theorem dX12_come_46 : decode cX12_come 46 = .ok (.ireturn, 1) := by decide +kernel
theorem dX12_who_0 : decode cX12_who 0 = .ok (.aload_n 0, 1) := by decide +kernel
theorem dX12_who_1 : decode cX12_who 1 = .ok (.iconst 0, 1) := by decide +kernel
theorem dX12_who_2 : decode cX12_who 2 = .ok (.putfield 194, 3) := by decide +kernel
theorem dX12_who_5 : decode cX12_who 5 = .ok (.aload_n 0, 1) := by decide +kernel
theorem dX12_who_6 : decode cX12_who 6 = .ok (.aload_n 0, 1) := by decide +kernel
theorem dX12_who_7 : decode cX12_who 7 = .ok (.iload_n 1, 1) := by decide +kernel
theorem dX12_who_8 : decode cX12_who 8 = .ok (.invokevirtual 486, 3) := by decide +kernel
theorem dX12_who_11 : decode cX12_who 11 = .ok (.iconst 1, 1) := by decide +kernel
theorem dX12_who_12 : decode cX12_who 12 = .ok (.invokevirtual 224, 3) := by decide +kernel
theorem dX12_who_15 : decode cX12_who 15 = .ok (.ifCond .eq 5, 3) := by decide +kernel
theorem dX12_who_18 : decode cX12_who 18 = .ok (.iconst 0, 1) := by decide +kernel
theorem dX12_who_19 : decode cX12_who 19 = .ok (.ireturn, 1) := by decide +kernel
theorem dX12_who_20 : decode cX12_who 20 = .ok (.iload_n 2, 1) := by decide +kernel
theorem dX12_who_21 : decode cX12_who 21 = .ok (.tableswitch 79 0 5 #[39, 46, 53, 60, 67, 73], 39) := by decide +kernel
theorem dX12_who_60 : decode cX12_who 60 = .ok (.aload_n 0, 1) := by decide +kernel
theorem dX12_who_61 : decode cX12_who 61 = .ok (.getfield 101, 3) := by decide +kernel
theorem dX12_who_64 : decode cX12_who 64 = .ok (.iload_n 1, 1) := by decide +kernel
theorem dX12_who_65 : decode cX12_who 65 = .ok (.iaload, 1) := by decide +kernel
theorem dX12_who_66 : decode cX12_who 66 = .ok (.ireturn, 1) := by decide +kernel
theorem dX12_who_67 : decode cX12_who 67 = .ok (.aload_n 0, 1) := by decide +kernel
theorem dX12_who_68 : decode cX12_who 68 = .ok (.getfield 85, 3) := by decide +kernel
theorem dX12_who_71 : decode cX12_who 71 = .ok (.iload_n 1, 1) := by decide +kernel
theorem dX12_who_72 : decode cX12_who 72 = .ok (.iaload, 1) := by decide +kernel
theorem dX12_who_73 : decode cX12_who 73 = .ok (.ireturn, 1) := by decide +kernel
theorem dX12_who_74 : decode cX12_who 74 = .ok (.aload_n 0, 1) := by decide +kernel
theorem dX12_who_75 : decode cX12_who 75 = .ok (.getfield 104, 3) := by decide +kernel
theorem dX12_who_78 : decode cX12_who 78 = .ok (.iload_n 1, 1) := by decide +kernel
theorem dX12_who_79 : decode cX12_who 79 = .ok (.iaload, 1) := by decide +kernel
theorem dX12_who_80 : decode cX12_who 80 = .ok (.ireturn, 1) := by decide +kernel
theorem dX12_who_81 : decode cX12_who 81 = .ok (.aload_n 0, 1) := by decide +kernel
theorem dX12_who_82 : decode cX12_who 82 = .ok (.getfield 107, 3) := by decide +kernel
theorem dX12_who_85 : decode cX12_who 85 = .ok (.iload_n 1, 1) := by decide +kernel
theorem dX12_who_86 : decode cX12_who 86 = .ok (.iaload, 1) := by decide +kernel
theorem dX12_who_87 : decode cX12_who 87 = .ok (.ireturn, 1) := by decide +kernel
theorem dX12_who_88 : decode cX12_who 88 = .ok (.aload_n 0, 1) := by decide +kernel
theorem dX12_who_89 : decode cX12_who 89 = .ok (.iload_n 1, 1) := by decide +kernel
theorem dX12_who_90 : decode cX12_who 90 = .ok (.invokevirtual 467, 3) := by decide +kernel
theorem dX12_who_93 : decode cX12_who 93 = .ok (.ireturn, 1) := by decide +kernel
theorem dX12_who_94 : decode cX12_who 94 = .ok (.aload_n 0, 1) := by decide +kernel
theorem dX12_who_95 : decode cX12_who 95 = .ok (.iload_n 1, 1) := by decide +kernel
theorem dX12_who_96 : decode cX12_who 96 = .ok (.invokevirtual 469, 3) := by decide +kernel
theorem dX12_who_99 : decode cX12_who 99 = .ok (.ireturn, 1) := by decide +kernel
theorem dX12_who_100 : decode cX12_who 100 = .ok (.aload_n 0, 1) := by decide +kernel
theorem dX12_who_101 : decode cX12_who 101 = .ok (.iconst 2, 1) := by decide +kernel
theorem dX12_who_102 : decode cX12_who 102 = .ok (.putfield 194, 3) := by decide +kernel
theorem dX12_who_105 : decode cX12_who 105 = .ok (.iconst 0, 1) := by decide +kernel
theorem dX12_who_106 : decode cX12_who 106 = .ok (.ireturn, 1) := by decide +kernel
theorem dX12_arrears_0 : decode cX12_arrears 0 = .ok (.aload_n 0, 1) := by decide +kernel
theorem dX12_arrears_1 : decode cX12_arrears 1 = .ok (.iconst 0, 1) := by decide +kernel
theorem dX12_arrears_2 : decode cX12_arrears 2 = .ok (.putfield 194, 3) := by decide +kernel
theorem dX12_arrears_5 : decode cX12_arrears 5 = .ok (.iload_n 1, 1) := by decide +kernel
theorem dX12_arrears_6 : decode cX12_arrears 6 = .ok (.ifCond .lt 11, 3) := by decide +kernel
theorem dX12_arrears_9 : decode cX12_arrears 9 = .ok (.iload_n 1, 1) := by decide +kernel
theorem dX12_arrears_10 : decode cX12_arrears 10 = .ok (.aload_n 0, 1) := by decide +kernel
theorem dX12_arrears_11 : decode cX12_arrears 11 = .ok (.getfield 495, 3) := by decide +kernel
theorem dX12_arrears_14 : decode cX12_arrears 14 = .ok (.if_icmp .lt 5, 3) := by decide +kernel
theorem dX12_arrears_17 : decode cX12_arrears 17 = .ok (.iconst (-1), 1) := by decide +kernel
theorem dX12_arrears_18 : decode cX12_arrears 18 = .ok (.ireturn, 1) := by decide +kernel
theorem dX12_arrears_19 : decode cX12_arrears 19 = .ok (.iconst 0, 1) := by decide +kernel
theorem dX12_arrears_20 : decode cX12_arrears 20 = .ok (.istore_n 2, 1) := by decide +kernel
theorem dX12_arrears_21 : decode cX12_arrears 21 = .ok (.iload_n 2, 1) := by decide +kernel
theorem dX12_arrears_22 : decode cX12_arrears 22 = .ok (.aload_n 0, 1) := by decide +kernel
theorem dX12_arrears_23 : decode cX12_arrears 23 = .ok (.getfield 495, 3) := by decide +kernel
theorem dX12_arrears_26 : decode cX12_arrears 26 = .ok (.if_icmp .ge 38, 3) := by decide +kernel
theorem dX12_arrears_29 : decode cX12_arrears 29 = .ok (.aload_n 0, 1) := by decide +kernel
theorem dX12_arrears_30 : decode cX12_arrears 30 = .ok (.getfield 131, 3) := by decide +kernel
theorem dX12_arrears_33 : decode cX12_arrears 33 = .ok (.iload_n 2, 1) := by decide +kernel
theorem dX12_arrears_34 : decode cX12_arrears 34 = .ok (.aload_n 0, 1) := by decide +kernel
theorem dX12_arrears_35 : decode cX12_arrears 35 = .ok (.getfield 101, 3) := by decide +kernel
theorem dX12_arrears_38 : decode cX12_arrears 38 = .ok (.iload_n 2, 1) := by decide +kernel
theorem dX12_arrears_39 : decode cX12_arrears 39 = .ok (.iaload, 1) := by decide +kernel
theorem dX12_arrears_40 : decode cX12_arrears 40 = .ok (.ifCond .lt 16, 3) := by decide +kernel
theorem dX12_arrears_43 : decode cX12_arrears 43 = .ok (.aload_n 0, 1) := by decide +kernel
theorem dX12_arrears_44 : decode cX12_arrears 44 = .ok (.getfield 107, 3) := by decide +kernel
theorem dX12_arrears_47 : decode cX12_arrears 47 = .ok (.iload_n 2, 1) := by decide +kernel
theorem dX12_arrears_48 : decode cX12_arrears 48 = .ok (.iaload, 1) := by decide +kernel
theorem dX12_arrears_49 : decode cX12_arrears 49 = .ok (.ifCond .le 7, 3) := by decide +kernel
theorem dX12_arrears_52 : decode cX12_arrears 52 = .ok (.iconst 1, 1) := by decide +kernel
theorem dX12_arrears_53 : decode cX12_arrears 53 = .ok (.goto 4, 3) := by decide +kernel
theorem dX12_arrears_56 : decode cX12_arrears 56 = .ok (.iconst 0, 1) := by decide +kernel
theorem dX12_arrears_57 : decode cX12_arrears 57 = .ok (.bastore, 1) := by decide +kernel
theorem dX12_arrears_58 : decode cX12_arrears 58 = .ok (.iinc 2 1, 3) := by decide +kernel
theorem dX12_arrears_61 : decode cX12_arrears 61 = .ok (.goto (-40), 3) := by decide +kernel
theorem dX12_arrears_64 : decode cX12_arrears 64 = .ok (.iconst (-1), 1) := by decide +kernel
theorem dX12_arrears_65 : decode cX12_arrears 65 = .ok (.istore_n 2, 1) := by decide +kernel
theorem dX12_arrears_66 : decode cX12_arrears 66 = .ok (.iconst 0, 1) := by decide +kernel
theorem dX12_arrears_67 : decode cX12_arrears 67 = .ok (.istore_n 3, 1) := by decide +kernel
theorem dX12_arrears_68 : decode cX12_arrears 68 = .ok (.iload_n 3, 1) := by decide +kernel
theorem dX12_arrears_69 : decode cX12_arrears 69 = .ok (.iload_n 1, 1) := by decide +kernel
theorem dX12_arrears_70 : decode cX12_arrears 70 = .ok (.if_icmp .gt 75, 3) := by decide +kernel
theorem dX12_arrears_73 : decode cX12_arrears 73 = .ok (.iconst (-1), 1) := by decide +kernel
theorem dX12_arrears_74 : decode cX12_arrears 74 = .ok (.istore_n 2, 1) := by decide +kernel
theorem dX12_arrears_75 : decode cX12_arrears 75 = .ok (.iconst 0, 1) := by decide +kernel
theorem dX12_arrears_76 : decode cX12_arrears 76 = .ok (.istore 4, 2) := by decide +kernel
theorem dX12_arrears_78 : decode cX12_arrears 78 = .ok (.iload 4, 2) := by decide +kernel
theorem dX12_arrears_80 : decode cX12_arrears 80 = .ok (.aload_n 0, 1) := by decide +kernel
theorem dX12_arrears_81 : decode cX12_arrears 81 = .ok (.getfield 495, 3) := by decide +kernel
theorem dX12_arrears_84 : decode cX12_arrears 84 = .ok (.if_icmp .ge 42, 3) := by decide +kernel
theorem dX12_arrears_87 : decode cX12_arrears 87 = .ok (.aload_n 0, 1) := by decide +kernel
theorem dX12_arrears_88 : decode cX12_arrears 88 = .ok (.getfield 131, 3) := by decide +kernel
theorem dX12_arrears_91 : decode cX12_arrears 91 = .ok (.iload 4, 2) := by decide +kernel
theorem dX12_arrears_93 : decode cX12_arrears 93 = .ok (.baload, 1) := by decide +kernel
theorem dX12_arrears_94 : decode cX12_arrears 94 = .ok (.ifCond .eq 26, 3) := by decide +kernel
theorem dX12_arrears_97 : decode cX12_arrears 97 = .ok (.iload_n 2, 1) := by decide +kernel
theorem dX12_arrears_98 : decode cX12_arrears 98 = .ok (.ifCond .lt 19, 3) := by decide +kernel
theorem dX12_arrears_101 : decode cX12_arrears 101 = .ok (.aload_n 0, 1) := by decide +kernel
theorem dX12_arrears_102 : decode cX12_arrears 102 = .ok (.getfield 107, 3) := by decide +kernel
theorem dX12_arrears_105 : decode cX12_arrears 105 = .ok (.iload 4, 2) := by decide +kernel
theorem dX12_arrears_107 : decode cX12_arrears 107 = .ok (.iaload, 1) := by decide +kernel
theorem dX12_arrears_108 : decode cX12_arrears 108 = .ok (.aload_n 0, 1) := by decide +kernel
theorem dX12_arrears_109 : decode cX12_arrears 109 = .ok (.getfield 107, 3) := by decide +kernel
theorem dX12_arrears_112 : decode cX12_arrears 112 = .ok (.iload_n 2, 1) := by decide +kernel
theorem dX12_arrears_113 : decode cX12_arrears 113 = .ok (.iaload, 1) := by decide +kernel
theorem dX12_arrears_114 : decode cX12_arrears 114 = .ok (.if_icmp .le 6, 3) := by decide +kernel
theorem dX12_arrears_117 : decode cX12_arrears 117 = .ok (.iload 4, 2) := by decide +kernel
theorem dX12_arrears_119 : decode cX12_arrears 119 = .ok (.istore_n 2, 1) := by decide +kernel
theorem dX12_arrears_120 : decode cX12_arrears 120 = .ok (.iinc 4 1, 3) := by decide +kernel
theorem dX12_arrears_123 : decode cX12_arrears 123 = .ok (.goto (-45), 3) := by decide +kernel
theorem dX12_arrears_126 : decode cX12_arrears 126 = .ok (.iload_n 2, 1) := by decide +kernel
theorem dX12_arrears_127 : decode cX12_arrears 127 = .ok (.ifCond .ge 5, 3) := by decide +kernel
theorem dX12_arrears_130 : decode cX12_arrears 130 = .ok (.iconst (-1), 1) := by decide +kernel
theorem dX12_arrears_131 : decode cX12_arrears 131 = .ok (.ireturn, 1) := by decide +kernel
theorem dX12_arrears_132 : decode cX12_arrears 132 = .ok (.aload_n 0, 1) := by decide +kernel
theorem dX12_arrears_133 : decode cX12_arrears 133 = .ok (.getfield 131, 3) := by decide +kernel
theorem dX12_arrears_136 : decode cX12_arrears 136 = .ok (.iload_n 2, 1) := by decide +kernel
theorem dX12_arrears_137 : decode cX12_arrears 137 = .ok (.iconst 0, 1) := by decide +kernel
theorem dX12_arrears_138 : decode cX12_arrears 138 = .ok (.bastore, 1) := by decide +kernel
theorem dX12_arrears_139 : decode cX12_arrears 139 = .ok (.iinc 3 1, 3) := by decide +kernel
theorem dX12_arrears_142 : decode cX12_arrears 142 = .ok (.goto (-74), 3) := by decide +kernel
theorem dX12_arrears_145 : decode cX12_arrears 145 = .ok (.iload_n 2, 1) := by decide +kernel
theorem dX12_arrears_146 : decode cX12_arrears 146 = .ok (.ireturn, 1) := by decide +kernel
theorem dX12_coin_0 : decode cX12_coin 0 = .ok (.aload_n 0, 1) := by decide +kernel
theorem dX12_coin_1 : decode cX12_coin 1 = .ok (.iconst 0, 1) := by decide +kernel
theorem dX12_coin_2 : decode cX12_coin 2 = .ok (.putfield 194, 3) := by decide +kernel
theorem dX12_coin_5 : decode cX12_coin 5 = .ok (.aload_n 0, 1) := by decide +kernel
theorem dX12_coin_6 : decode cX12_coin 6 = .ok (.iload_n 1, 1) := by decide +kernel
theorem dX12_coin_7 : decode cX12_coin 7 = .ok (.iconst 0, 1) := by decide +kernel
theorem dX12_coin_8 : decode cX12_coin 8 = .ok (.ldc_w 536, 3) := by decide +kernel
theorem dX12_coin_11 : decode cX12_coin 11 = .ok (.invokestatic 197, 3) := by decide +kernel
theorem dX12_coin_14 : decode cX12_coin 14 = .ok (.ifCond .eq 15, 3) := by decide +kernel
theorem dX12_coin_17 : decode cX12_coin 17 = .ok (.aload_n 0, 1) := by decide +kernel
theorem dX12_coin_18 : decode cX12_coin 18 = .ok (.getfield 519, 3) := by decide +kernel
theorem dX12_coin_21 : decode cX12_coin 21 = .ok (.ldc_w 537, 3) := by decide +kernel
theorem dX12_coin_24 : decode cX12_coin 24 = .ok (.iload_n 1, 1) := by decide +kernel
theorem dX12_coin_25 : decode cX12_coin 25 = .ok (.isub, 1) := by decide +kernel
theorem dX12_coin_26 : decode cX12_coin 26 = .ok (.if_icmp .le 7, 3) := by decide +kernel
theorem dX12_coin_29 : decode cX12_coin 29 = .ok (.iconst 1, 1) := by decide +kernel
theorem dX12_coin_30 : decode cX12_coin 30 = .ok (.goto 4, 3) := by decide +kernel
theorem dX12_coin_33 : decode cX12_coin 33 = .ok (.iconst 0, 1) := by decide +kernel
theorem dX12_coin_34 : decode cX12_coin 34 = .ok (.iconst 1, 1) := by decide +kernel
theorem dX12_coin_35 : decode cX12_coin 35 = .ok (.invokevirtual 224, 3) := by decide +kernel
theorem dX12_coin_38 : decode cX12_coin 38 = .ok (.ifCond .eq 5, 3) := by decide +kernel
theorem dX12_coin_41 : decode cX12_coin 41 = .ok (.iconst 0, 1) := by decide +kernel
theorem dX12_coin_42 : decode cX12_coin 42 = .ok (.ireturn, 1) := by decide +kernel
theorem dX12_coin_43 : decode cX12_coin 43 = .ok (.aload_n 0, 1) := by decide +kernel
theorem dX12_coin_44 : decode cX12_coin 44 = .ok (.dup, 1) := by decide +kernel
theorem dX12_coin_45 : decode cX12_coin 45 = .ok (.getfield 519, 3) := by decide +kernel
theorem dX12_coin_48 : decode cX12_coin 48 = .ok (.iload_n 1, 1) := by decide +kernel
theorem dX12_coin_49 : decode cX12_coin 49 = .ok (.iadd, 1) := by decide +kernel
theorem dX12_coin_50 : decode cX12_coin 50 = .ok (.putfield 519, 3) := by decide +kernel
theorem dX12_coin_53 : decode cX12_coin 53 = .ok (.aload_n 0, 1) := by decide +kernel
theorem dX12_coin_54 : decode cX12_coin 54 = .ok (.getfield 519, 3) := by decide +kernel
theorem dX12_coin_57 : decode cX12_coin 57 = .ok (.ireturn, 1) := by decide +kernel
theorem dX12_contract_0 : decode cX12_contract 0 = .ok (.aload_n 0, 1) := by decide +kernel
theorem dX12_contract_1 : decode cX12_contract 1 = .ok (.iconst 0, 1) := by decide +kernel
theorem dX12_contract_2 : decode cX12_contract 2 = .ok (.putfield 194, 3) := by decide +kernel
theorem dX12_contract_5 : decode cX12_contract 5 = .ok (.aload_n 0, 1) := by decide +kernel
theorem dX12_contract_6 : decode cX12_contract 6 = .ok (.aload_n 0, 1) := by decide +kernel
theorem dX12_contract_7 : decode cX12_contract 7 = .ok (.iload_n 1, 1) := by decide +kernel
theorem dX12_contract_8 : decode cX12_contract 8 = .ok (.invokevirtual 269, 3) := by decide +kernel
theorem dX12_contract_11 : decode cX12_contract 11 = .ok (.iconst 1, 1) := by decide +kernel
theorem dX12_contract_12 : decode cX12_contract 12 = .ok (.invokevirtual 224, 3) := by decide +kernel
theorem dX12_contract_15 : decode cX12_contract 15 = .ok (.ifCond .ne 70, 3) := by decide +kernel
theorem dX12_contract_18 : decode cX12_contract 18 = .ok (.aload_n 0, 1) := by decide +kernel
theorem dX12_contract_19 : decode cX12_contract 19 = .ok (.iload_n 2, 1) := by decide +kernel
theorem dX12_contract_20 : decode cX12_contract 20 = .ok (.iconst 0, 1) := by decide +kernel
theorem dX12_contract_21 : decode cX12_contract 21 = .ok (.bipush 9, 2) := by decide +kernel
theorem dX12_contract_23 : decode cX12_contract 23 = .ok (.invokestatic 197, 3) := by decide +kernel
theorem dX12_contract_26 : decode cX12_contract 26 = .ok (.ifCond .eq 26, 3) := by decide +kernel
theorem dX12_contract_29 : decode cX12_contract 29 = .ok (.iload_n 3, 1) := by decide +kernel
theorem dX12_contract_30 : decode cX12_contract 30 = .ok (.iconst 1, 1) := by decide +kernel
theorem dX12_contract_31 : decode cX12_contract 31 = .ok (.sipush 1000, 3) := by decide +kernel
theorem dX12_contract_34 : decode cX12_contract 34 = .ok (.invokestatic 197, 3) := by decide +kernel
theorem dX12_contract_37 : decode cX12_contract 37 = .ok (.ifCond .eq 15, 3) := by decide +kernel
theorem dX12_contract_40 : decode cX12_contract 40 = .ok (.iload 4, 2) := by decide +kernel
theorem dX12_contract_42 : decode cX12_contract 42 = .ok (.iconst 0, 1) := by decide +kernel
theorem dX12_contract_43 : decode cX12_contract 43 = .ok (.sipush 200, 3) := by decide +kernel
theorem dX12_contract_46 : decode cX12_contract 46 = .ok (.invokestatic 197, 3) := by decide +kernel
theorem dX12_contract_49 : decode cX12_contract 49 = .ok (.ifCond .ne 7, 3) := by decide +kernel
theorem dX12_contract_52 : decode cX12_contract 52 = .ok (.iconst 1, 1) := by decide +kernel
theorem dX12_contract_53 : decode cX12_contract 53 = .ok (.goto 4, 3) := by decide +kernel
theorem dX12_contract_56 : decode cX12_contract 56 = .ok (.iconst 0, 1) := by decide +kernel
theorem dX12_contract_57 : decode cX12_contract 57 = .ok (.iconst 2, 1) := by decide +kernel
theorem dX12_contract_58 : decode cX12_contract 58 = .ok (.invokevirtual 224, 3) := by decide +kernel
theorem dX12_contract_61 : decode cX12_contract 61 = .ok (.ifCond .ne 24, 3) := by decide +kernel
theorem dX12_contract_64 : decode cX12_contract 64 = .ok (.aload_n 0, 1) := by decide +kernel
theorem dX12_contract_65 : decode cX12_contract 65 = .ok (.aload_n 0, 1) := by decide +kernel
theorem dX12_contract_66 : decode cX12_contract 66 = .ok (.iload_n 1, 1) := by decide +kernel
theorem dX12_contract_67 : decode cX12_contract 67 = .ok (.invokevirtual 272, 3) := by decide +kernel
theorem dX12_contract_70 : decode cX12_contract 70 = .ok (.ifCond .ne 7, 3) := by decide +kernel
theorem dX12_contract_73 : decode cX12_contract 73 = .ok (.iconst 1, 1) := by decide +kernel
theorem dX12_contract_74 : decode cX12_contract 74 = .ok (.goto 4, 3) := by decide +kernel
theorem dX12_contract_77 : decode cX12_contract 77 = .ok (.iconst 0, 1) := by decide +kernel
theorem dX12_contract_78 : decode cX12_contract 78 = .ok (.iconst 3, 1) := by decide +kernel
theorem dX12_contract_79 : decode cX12_contract 79 = .ok (.invokevirtual 224, 3) := by decide +kernel
theorem dX12_contract_82 : decode cX12_contract 82 = .ok (.ifCond .eq 5, 3) := by decide +kernel
theorem dX12_contract_85 : decode cX12_contract 85 = .ok (.iconst 0, 1) := by decide +kernel
theorem dX12_contract_86 : decode cX12_contract 86 = .ok (.ireturn, 1) := by decide +kernel
theorem dX12_contract_87 : decode cX12_contract 87 = .ok (.aload_n 0, 1) := by decide +kernel
theorem dX12_contract_88 : decode cX12_contract 88 = .ok (.getfield 533, 3) := by decide +kernel
theorem dX12_contract_91 : decode cX12_contract 91 = .ok (.bipush 40, 2) := by decide +kernel
theorem dX12_contract_93 : decode cX12_contract 93 = .ok (.if_icmp .ne 5, 3) := by decide +kernel
theorem dX12_contract_96 : decode cX12_contract 96 = .ok (.iconst (-1), 1) := by decide +kernel
theorem dX12_contract_97 : decode cX12_contract 97 = .ok (.ireturn, 1) := by decide +kernel
theorem dX12_contract_98 : decode cX12_contract 98 = .ok (.aload_n 0, 1) := by decide +kernel
theorem dX12_contract_99 : decode cX12_contract 99 = .ok (.getfield 137, 3) := by decide +kernel
theorem dX12_contract_102 : decode cX12_contract 102 = .ok (.aload_n 0, 1) := by decide +kernel
theorem dX12_contract_103 : decode cX12_contract 103 = .ok (.getfield 533, 3) := by decide +kernel
theorem dX12_contract_106 : decode cX12_contract 106 = .ok (.iload_n 1, 1) := by decide +kernel
theorem dX12_contract_107 : decode cX12_contract 107 = .ok (.iastore, 1) := by decide +kernel
theorem dX12_contract_108 : decode cX12_contract 108 = .ok (.aload_n 0, 1) := by decide +kernel
theorem dX12_contract_109 : decode cX12_contract 109 = .ok (.getfield 140, 3) := by decide +kernel
theorem dX12_contract_112 : decode cX12_contract 112 = .ok (.aload_n 0, 1) := by decide +kernel
theorem dX12_contract_113 : decode cX12_contract 113 = .ok (.getfield 533, 3) := by decide +kernel
theorem dX12_contract_116 : decode cX12_contract 116 = .ok (.iload_n 2, 1) := by decide +kernel
theorem dX12_contract_117 : decode cX12_contract 117 = .ok (.iastore, 1) := by decide +kernel
theorem dX12_contract_118 : decode cX12_contract 118 = .ok (.aload_n 0, 1) := by decide +kernel
theorem dX12_contract_119 : decode cX12_contract 119 = .ok (.getfield 143, 3) := by decide +kernel
theorem dX12_contract_122 : decode cX12_contract 122 = .ok (.aload_n 0, 1) := by decide +kernel
theorem dX12_contract_123 : decode cX12_contract 123 = .ok (.getfield 533, 3) := by decide +kernel
theorem dX12_contract_126 : decode cX12_contract 126 = .ok (.iload_n 3, 1) := by decide +kernel
theorem dX12_contract_127 : decode cX12_contract 127 = .ok (.iastore, 1) := by decide +kernel
theorem dX12_contract_128 : decode cX12_contract 128 = .ok (.aload_n 0, 1) := by decide +kernel
theorem dX12_contract_129 : decode cX12_contract 129 = .ok (.getfield 146, 3) := by decide +kernel
theorem dX12_contract_132 : decode cX12_contract 132 = .ok (.aload_n 0, 1) := by decide +kernel
theorem dX12_contract_133 : decode cX12_contract 133 = .ok (.getfield 533, 3) := by decide +kernel
theorem dX12_contract_136 : decode cX12_contract 136 = .ok (.iload 4, 2) := by decide +kernel
theorem dX12_contract_138 : decode cX12_contract 138 = .ok (.iastore, 1) := by decide +kernel
theorem dX12_contract_139 : decode cX12_contract 139 = .ok (.aload_n 0, 1) := by decide +kernel
theorem dX12_contract_140 : decode cX12_contract 140 = .ok (.getfield 152, 3) := by decide +kernel
theorem dX12_contract_143 : decode cX12_contract 143 = .ok (.aload_n 0, 1) := by decide +kernel
theorem dX12_contract_144 : decode cX12_contract 144 = .ok (.getfield 533, 3) := by decide +kernel
theorem dX12_contract_147 : decode cX12_contract 147 = .ok (.ldc_w 538, 3) := by decide +kernel
theorem dX12_contract_150 : decode cX12_contract 150 = .ok (.iastore, 1) := by decide +kernel
theorem dX12_contract_151 : decode cX12_contract 151 = .ok (.aload_n 0, 1) := by decide +kernel
theorem dX12_contract_152 : decode cX12_contract 152 = .ok (.dup, 1) := by decide +kernel
theorem dX12_contract_153 : decode cX12_contract 153 = .ok (.getfield 533, 3) := by decide +kernel
theorem dX12_contract_156 : decode cX12_contract 156 = .ok (.iconst 1, 1) := by decide +kernel
theorem dX12_contract_157 : decode cX12_contract 157 = .ok (.iadd, 1) := by decide +kernel
theorem dX12_contract_158 : decode cX12_contract 158 = .ok (.putfield 533, 3) := by decide +kernel
theorem dX12_contract_161 : decode cX12_contract 161 = .ok (.aload_n 0, 1) := by decide +kernel
theorem dX12_contract_162 : decode cX12_contract 162 = .ok (.getfield 533, 3) := by decide +kernel
theorem dX12_contract_165 : decode cX12_contract 165 = .ok (.iconst 1, 1) := by decide +kernel
theorem dX12_contract_166 : decode cX12_contract 166 = .ok (.isub, 1) := by decide +kernel
theorem dX12_contract_167 : decode cX12_contract 167 = .ok (.ireturn, 1) := by decide +kernel
theorem dX12_measure_0 : decode cX12_measure 0 = .ok (.aload_n 0, 1) := by decide +kernel
theorem dX12_measure_1 : decode cX12_measure 1 = .ok (.iconst 0, 1) := by decide +kernel
theorem dX12_measure_2 : decode cX12_measure 2 = .ok (.putfield 194, 3) := by decide +kernel
theorem dX12_measure_5 : decode cX12_measure 5 = .ok (.aload_n 0, 1) := by decide +kernel
theorem dX12_measure_6 : decode cX12_measure 6 = .ok (.aload_n 0, 1) := by decide +kernel
theorem dX12_measure_7 : decode cX12_measure 7 = .ok (.iload_n 1, 1) := by decide +kernel
theorem dX12_measure_8 : decode cX12_measure 8 = .ok (.invokevirtual 539, 3) := by decide +kernel
theorem dX12_measure_11 : decode cX12_measure 11 = .ok (.iconst 1, 1) := by decide +kernel
theorem dX12_measure_12 : decode cX12_measure 12 = .ok (.invokevirtual 224, 3) := by decide +kernel
theorem dX12_measure_15 : decode cX12_measure 15 = .ok (.ifCond .ne 41, 3) := by decide +kernel
theorem dX12_measure_18 : decode cX12_measure 18 = .ok (.aload_n 0, 1) := by decide +kernel
theorem dX12_measure_19 : decode cX12_measure 19 = .ok (.iload_n 2, 1) := by decide +kernel
theorem dX12_measure_20 : decode cX12_measure 20 = .ok (.iconst 0, 1) := by decide +kernel
theorem dX12_measure_21 : decode cX12_measure 21 = .ok (.sipush 2000, 3) := by decide +kernel
theorem dX12_measure_24 : decode cX12_measure 24 = .ok (.invokestatic 197, 3) := by decide +kernel
theorem dX12_measure_27 : decode cX12_measure 27 = .ok (.ifCond .ne 7, 3) := by decide +kernel
theorem dX12_measure_30 : decode cX12_measure 30 = .ok (.iconst 1, 1) := by decide +kernel
theorem dX12_measure_31 : decode cX12_measure 31 = .ok (.goto 4, 3) := by decide +kernel
theorem dX12_measure_34 : decode cX12_measure 34 = .ok (.iconst 0, 1) := by decide +kernel
theorem dX12_measure_35 : decode cX12_measure 35 = .ok (.iconst 2, 1) := by decide +kernel
theorem dX12_measure_36 : decode cX12_measure 36 = .ok (.invokevirtual 224, 3) := by decide +kernel
theorem dX12_measure_39 : decode cX12_measure 39 = .ok (.ifCond .ne 17, 3) := by decide +kernel
theorem dX12_measure_42 : decode cX12_measure 42 = .ok (.aload_n 0, 1) := by decide +kernel
theorem dX12_measure_43 : decode cX12_measure 43 = .ok (.aload_n 0, 1) := by decide +kernel
theorem dX12_measure_44 : decode cX12_measure 44 = .ok (.getfield 158, 3) := by decide +kernel
theorem dX12_measure_47 : decode cX12_measure 47 = .ok (.iload_n 1, 1) := by decide +kernel
theorem dX12_measure_48 : decode cX12_measure 48 = .ok (.baload, 1) := by decide +kernel
theorem dX12_measure_49 : decode cX12_measure 49 = .ok (.iconst 3, 1) := by decide +kernel
theorem dX12_measure_50 : decode cX12_measure 50 = .ok (.invokevirtual 224, 3) := by decide +kernel
theorem dX12_measure_53 : decode cX12_measure 53 = .ok (.ifCond .eq 5, 3) := by decide +kernel
theorem dX12_measure_56 : decode cX12_measure 56 = .ok (.iconst 0, 1) := by decide +kernel
theorem dX12_measure_57 : decode cX12_measure 57 = .ok (.ireturn, 1) := by decide +kernel
theorem dX12_measure_58 : decode cX12_measure 58 = .ok (.aload_n 0, 1) := by decide +kernel
theorem dX12_measure_59 : decode cX12_measure 59 = .ok (.getfield 155, 3) := by decide +kernel
theorem dX12_measure_62 : decode cX12_measure 62 = .ok (.iload_n 1, 1) := by decide +kernel
theorem dX12_measure_63 : decode cX12_measure 63 = .ok (.iconst 1, 1) := by decide +kernel
theorem dX12_measure_64 : decode cX12_measure 64 = .ok (.bastore, 1) := by decide +kernel
theorem dX12_measure_65 : decode cX12_measure 65 = .ok (.aload_n 0, 1) := by decide +kernel
theorem dX12_measure_66 : decode cX12_measure 66 = .ok (.getfield 149, 3) := by decide +kernel
theorem dX12_measure_69 : decode cX12_measure 69 = .ok (.iload_n 1, 1) := by decide +kernel
theorem dX12_measure_70 : decode cX12_measure 70 = .ok (.aload_n 0, 1) := by decide +kernel
theorem dX12_measure_71 : decode cX12_measure 71 = .ok (.getfield 149, 3) := by decide +kernel
theorem dX12_measure_74 : decode cX12_measure 74 = .ok (.iload_n 1, 1) := by decide +kernel
theorem dX12_measure_75 : decode cX12_measure 75 = .ok (.iaload, 1) := by decide +kernel
theorem dX12_measure_76 : decode cX12_measure 76 = .ok (.iload_n 2, 1) := by decide +kernel
theorem dX12_measure_77 : decode cX12_measure 77 = .ok (.aload_n 0, 1) := by decide +kernel
theorem dX12_measure_78 : decode cX12_measure 78 = .ok (.getfield 146, 3) := by decide +kernel
theorem dX12_measure_81 : decode cX12_measure 81 = .ok (.iload_n 1, 1) := by decide +kernel
theorem dX12_measure_82 : decode cX12_measure 82 = .ok (.iaload, 1) := by decide +kernel
theorem dX12_measure_83 : decode cX12_measure 83 = .ok (.isub, 1) := by decide +kernel
theorem dX12_measure_84 : decode cX12_measure 84 = .ok (.invokestatic 211, 3) := by decide +kernel
theorem dX12_measure_87 : decode cX12_measure 87 = .ok (.iastore, 1) := by decide +kernel
theorem dX12_measure_88 : decode cX12_measure 88 = .ok (.aload_n 0, 1) := by decide +kernel
theorem dX12_measure_89 : decode cX12_measure 89 = .ok (.getfield 152, 3) := by decide +kernel
theorem dX12_measure_92 : decode cX12_measure 92 = .ok (.iload_n 1, 1) := by decide +kernel
theorem dX12_measure_93 : decode cX12_measure 93 = .ok (.aload_n 0, 1) := by decide +kernel
theorem dX12_measure_94 : decode cX12_measure 94 = .ok (.getfield 152, 3) := by decide +kernel
theorem dX12_measure_97 : decode cX12_measure 97 = .ok (.iload_n 1, 1) := by decide +kernel
theorem dX12_measure_98 : decode cX12_measure 98 = .ok (.iaload, 1) := by decide +kernel
theorem dX12_measure_99 : decode cX12_measure 99 = .ok (.iload_n 2, 1) := by decide +kernel
theorem dX12_measure_100 : decode cX12_measure 100 = .ok (.aload_n 0, 1) := by decide +kernel
theorem dX12_measure_101 : decode cX12_measure 101 = .ok (.getfield 146, 3) := by decide +kernel
theorem dX12_measure_104 : decode cX12_measure 104 = .ok (.iload_n 1, 1) := by decide +kernel
theorem dX12_measure_105 : decode cX12_measure 105 = .ok (.iaload, 1) := by decide +kernel
theorem dX12_measure_106 : decode cX12_measure 106 = .ok (.iadd, 1) := by decide +kernel
theorem dX12_measure_107 : decode cX12_measure 107 = .ok (.invokestatic 207, 3) := by decide +kernel
theorem dX12_measure_110 : decode cX12_measure 110 = .ok (.iastore, 1) := by decide +kernel
theorem dX12_measure_111 : decode cX12_measure 111 = .ok (.aload_n 0, 1) := by decide +kernel
theorem dX12_measure_112 : decode cX12_measure 112 = .ok (.iload_n 1, 1) := by decide +kernel
theorem dX12_measure_113 : decode cX12_measure 113 = .ok (.invokevirtual 542, 3) := by decide +kernel
theorem dX12_measure_116 : decode cX12_measure 116 = .ok (.ireturn, 1) := by decide +kernel
theorem dX12_yards_0 : decode cX12_yards 0 = .ok (.aload_n 0, 1) := by decide +kernel
theorem dX12_yards_1 : decode cX12_yards 1 = .ok (.iconst 0, 1) := by decide +kernel
theorem dX12_yards_2 : decode cX12_yards 2 = .ok (.putfield 194, 3) := by decide +kernel
theorem dX12_yards_5 : decode cX12_yards 5 = .ok (.aload_n 0, 1) := by decide +kernel
theorem dX12_yards_6 : decode cX12_yards 6 = .ok (.aload_n 0, 1) := by decide +kernel
theorem dX12_yards_7 : decode cX12_yards 7 = .ok (.iload_n 1, 1) := by decide +kernel
theorem dX12_yards_8 : decode cX12_yards 8 = .ok (.invokevirtual 539, 3) := by decide +kernel
theorem dX12_yards_11 : decode cX12_yards 11 = .ok (.iconst 1, 1) := by decide +kernel
theorem dX12_yards_12 : decode cX12_yards 12 = .ok (.invokevirtual 224, 3) := by decide +kernel
theorem dX12_yards_15 : decode cX12_yards 15 = .ok (.ifCond .eq 5, 3) := by decide +kernel
theorem dX12_yards_18 : decode cX12_yards 18 = .ok (.iconst 0, 1) := by decide +kernel
theorem dX12_yards_19 : decode cX12_yards 19 = .ok (.ireturn, 1) := by decide +kernel
theorem dX12_yards_20 : decode cX12_yards 20 = .ok (.aload_n 0, 1) := by decide +kernel
theorem dX12_yards_21 : decode cX12_yards 21 = .ok (.iload_n 1, 1) := by decide +kernel
theorem dX12_yards_22 : decode cX12_yards 22 = .ok (.invokevirtual 542, 3) := by decide +kernel
theorem dX12_yards_25 : decode cX12_yards 25 = .ok (.ifCond .ne 7, 3) := by decide +kernel
theorem dX12_yards_28 : decode cX12_yards 28 = .ok (.iconst (-1), 1) := by decide +kernel
theorem dX12_yards_29 : decode cX12_yards 29 = .ok (.goto 22, 3) := by decide +kernel
theorem dX12_yards_32 : decode cX12_yards 32 = .ok (.iload_n 2, 1) := by decide +kernel
theorem dX12_yards_33 : decode cX12_yards 33 = .ok (.ifCond .eq 12, 3) := by decide +kernel
theorem dX12_yards_36 : decode cX12_yards 36 = .ok (.aload_n 0, 1) := by decide +kernel
theorem dX12_yards_37 : decode cX12_yards 37 = .ok (.getfield 152, 3) := by decide +kernel
theorem dX12_yards_40 : decode cX12_yards 40 = .ok (.iload_n 1, 1) := by decide +kernel
theorem dX12_yards_41 : decode cX12_yards 41 = .ok (.iaload, 1) := by decide +kernel
theorem dX12_yards_42 : decode cX12_yards 42 = .ok (.goto 9, 3) := by decide +kernel
theorem dX12_yards_45 : decode cX12_yards 45 = .ok (.aload_n 0, 1) := by decide +kernel
theorem dX12_yards_46 : decode cX12_yards 46 = .ok (.getfield 149, 3) := by decide +kernel
theorem dX12_yards_49 : decode cX12_yards 49 = .ok (.iload_n 1, 1) := by decide +kernel
theorem dX12_yards_50 : decode cX12_yards 50 = .ok (.iaload, 1) := by decide +kernel
theorem dX12_yards_51 : decode cX12_yards 51 = .ok (.ireturn, 1) := by decide +kernel
theorem dX12_pay_0 : decode cX12_pay 0 = .ok (.aload_n 0, 1) := by decide +kernel
theorem dX12_pay_1 : decode cX12_pay 1 = .ok (.iconst 0, 1) := by decide +kernel
theorem dX12_pay_2 : decode cX12_pay 2 = .ok (.putfield 194, 3) := by decide +kernel
theorem dX12_pay_5 : decode cX12_pay 5 = .ok (.aload_n 0, 1) := by decide +kernel
theorem dX12_pay_6 : decode cX12_pay 6 = .ok (.aload_n 0, 1) := by decide +kernel
theorem dX12_pay_7 : decode cX12_pay 7 = .ok (.iload_n 1, 1) := by decide +kernel
theorem dX12_pay_8 : decode cX12_pay 8 = .ok (.invokevirtual 539, 3) := by decide +kernel
theorem dX12_pay_11 : decode cX12_pay 11 = .ok (.iconst 1, 1) := by decide +kernel
theorem dX12_pay_12 : decode cX12_pay 12 = .ok (.invokevirtual 224, 3) := by decide +kernel
theorem dX12_pay_15 : decode cX12_pay 15 = .ok (.ifCond .ne 20, 3) := by decide +kernel
theorem dX12_pay_18 : decode cX12_pay 18 = .ok (.aload_n 0, 1) := by decide +kernel
theorem dX12_pay_19 : decode cX12_pay 19 = .ok (.getfield 158, 3) := by decide +kernel
theorem dX12_pay_22 : decode cX12_pay 22 = .ok (.iload_n 1, 1) := by decide +kernel
theorem dX12_pay_23 : decode cX12_pay 23 = .ok (.baload, 1) := by decide +kernel
theorem dX12_pay_24 : decode cX12_pay 24 = .ok (.ifCond .ne 11, 3) := by decide +kernel
theorem dX12_pay_27 : decode cX12_pay 27 = .ok (.aload_n 0, 1) := by decide +kernel
theorem dX12_pay_28 : decode cX12_pay 28 = .ok (.iload_n 1, 1) := by decide +kernel
theorem dX12_pay_29 : decode cX12_pay 29 = .ok (.invokevirtual 542, 3) := by decide +kernel
theorem dX12_pay_32 : decode cX12_pay 32 = .ok (.ifCond .ne 16, 3) := by decide +kernel
theorem dX12_pay_35 : decode cX12_pay 35 = .ok (.aload_n 0, 1) := by decide +kernel
theorem dX12_pay_36 : decode cX12_pay 36 = .ok (.getfield 194, 3) := by decide +kernel
theorem dX12_pay_39 : decode cX12_pay 39 = .ok (.ifCond .eq 7, 3) := by decide +kernel
theorem dX12_pay_42 : decode cX12_pay 42 = .ok (.iconst 0, 1) := by decide +kernel
theorem dX12_pay_43 : decode cX12_pay 43 = .ok (.goto 4, 3) := by decide +kernel
theorem dX12_pay_46 : decode cX12_pay 46 = .ok (.iconst (-1), 1) := by decide +kernel
theorem dX12_pay_47 : decode cX12_pay 47 = .ok (.ireturn, 1) := by decide +kernel
theorem dX12_pay_48 : decode cX12_pay 48 = .ok (.aload_n 0, 1) := by decide +kernel
theorem dX12_pay_49 : decode cX12_pay 49 = .ok (.getfield 137, 3) := by decide +kernel
theorem dX12_pay_52 : decode cX12_pay 52 = .ok (.iload_n 1, 1) := by decide +kernel
theorem dX12_pay_53 : decode cX12_pay 53 = .ok (.iaload, 1) := by decide +kernel
theorem dX12_pay_54 : decode cX12_pay 54 = .ok (.istore_n 2, 1) := by decide +kernel
theorem dX12_pay_55 : decode cX12_pay 55 = .ok (.aload_n 0, 1) := by decide +kernel
theorem dX12_pay_56 : decode cX12_pay 56 = .ok (.iload_n 2, 1) := by decide +kernel
theorem dX12_pay_57 : decode cX12_pay 57 = .ok (.invokevirtual 269, 3) := by decide +kernel
theorem dX12_pay_60 : decode cX12_pay 60 = .ok (.ifCond .ne 15, 3) := by decide +kernel
theorem dX12_pay_63 : decode cX12_pay 63 = .ok (.aload_n 0, 1) := by decide +kernel
theorem dX12_pay_64 : decode cX12_pay 64 = .ok (.iload_n 2, 1) := by decide +kernel
theorem dX12_pay_65 : decode cX12_pay 65 = .ok (.invokevirtual 272, 3) := by decide +kernel
theorem dX12_pay_68 : decode cX12_pay 68 = .ok (.ifCond .eq 7, 3) := by decide +kernel
theorem dX12_pay_71 : decode cX12_pay 71 = .ok (.iconst 1, 1) := by decide +kernel
theorem dX12_pay_72 : decode cX12_pay 72 = .ok (.goto 4, 3) := by decide +kernel
theorem dX12_pay_75 : decode cX12_pay 75 = .ok (.iconst 0, 1) := by decide +kernel
theorem dX12_pay_76 : decode cX12_pay 76 = .ok (.istore_n 3, 1) := by decide +kernel
theorem dX12_pay_77 : decode cX12_pay 77 = .ok (.iload_n 3, 1) := by decide +kernel
theorem dX12_pay_78 : decode cX12_pay 78 = .ok (.ifCond .eq 21, 3) := by decide +kernel
theorem dX12_pay_81 : decode cX12_pay 81 = .ok (.aload_n 0, 1) := by decide +kernel
theorem dX12_pay_82 : decode cX12_pay 82 = .ok (.getfield 9, 3) := by decide +kernel
theorem dX12_pay_85 : decode cX12_pay 85 = .ok (.sipush 192, 3) := by decide +kernel
theorem dX12_pay_88 : decode cX12_pay 88 = .ok (.aload_n 0, 1) := by decide +kernel
theorem dX12_pay_89 : decode cX12_pay 89 = .ok (.iload_n 2, 1) := by decide +kernel
theorem dX12_pay_90 : decode cX12_pay 90 = .ok (.iconst 1, 1) := by decide +kernel
theorem dX12_pay_91 : decode cX12_pay 91 = .ok (.invokevirtual 217, 3) := by decide +kernel
theorem dX12_pay_94 : decode cX12_pay 94 = .ok (.iadd, 1) := by decide +kernel
theorem dX12_pay_95 : decode cX12_pay 95 = .ok (.iaload, 1) := by decide +kernel
theorem dX12_pay_96 : decode cX12_pay 96 = .ok (.goto 4, 3) := by decide +kernel
theorem dX12_pay_99 : decode cX12_pay 99 = .ok (.iconst 0, 1) := by decide +kernel
theorem dX12_pay_100 : decode cX12_pay 100 = .ok (.istore 4, 2) := by decide +kernel
theorem dX12_pay_102 : decode cX12_pay 102 = .ok (.aload_n 0, 1) := by decide +kernel
theorem dX12_pay_103 : decode cX12_pay 103 = .ok (.getfield 149, 3) := by decide +kernel
theorem dX12_pay_106 : decode cX12_pay 106 = .ok (.iload_n 1, 1) := by decide +kernel
theorem dX12_pay_107 : decode cX12_pay 107 = .ok (.iaload, 1) := by decide +kernel
theorem dX12_pay_108 : decode cX12_pay 108 = .ok (.istore 5, 2) := by decide +kernel
theorem dX12_pay_110 : decode cX12_pay 110 = .ok (.iload 5, 2) := by decide +kernel
theorem dX12_pay_112 : decode cX12_pay 112 = .ok (.iload 4, 2) := by decide +kernel
theorem dX12_pay_114 : decode cX12_pay 114 = .ok (.iconst 1, 1) := by decide +kernel
theorem dX12_pay_115 : decode cX12_pay 115 = .ok (.if_icmp .ne 11, 3) := by decide +kernel
theorem dX12_pay_118 : decode cX12_pay 118 = .ok (.iload 5, 2) := by decide +kernel
theorem dX12_pay_120 : decode cX12_pay 120 = .ok (.bipush 10, 2) := by decide +kernel
theorem dX12_pay_122 : decode cX12_pay 122 = .ok (.idiv, 1) := by decide +kernel
theorem dX12_pay_123 : decode cX12_pay 123 = .ok (.goto 17, 3) := by decide +kernel
theorem dX12_pay_126 : decode cX12_pay 126 = .ok (.iload 4, 2) := by decide +kernel
theorem dX12_pay_128 : decode cX12_pay 128 = .ok (.iconst 2, 1) := by decide +kernel
theorem dX12_pay_129 : decode cX12_pay 129 = .ok (.if_icmp .ne 10, 3) := by decide +kernel
theorem dX12_pay_132 : decode cX12_pay 132 = .ok (.iload 5, 2) := by decide +kernel
theorem dX12_pay_134 : decode cX12_pay 134 = .ok (.iconst 5, 1) := by decide +kernel
theorem dX12_pay_135 : decode cX12_pay 135 = .ok (.idiv, 1) := by decide +kernel
theorem dX12_pay_136 : decode cX12_pay 136 = .ok (.goto 4, 3) := by decide +kernel
theorem dX12_pay_139 : decode cX12_pay 139 = .ok (.iconst 0, 1) := by decide +kernel
theorem dX12_pay_140 : decode cX12_pay 140 = .ok (.isub, 1) := by decide +kernel
theorem dX12_pay_141 : decode cX12_pay 141 = .ok (.istore 5, 2) := by decide +kernel
theorem dX12_pay_143 : decode cX12_pay 143 = .ok (.iload 5, 2) := by decide +kernel
theorem dX12_pay_145 : decode cX12_pay 145 = .ok (.aload_n 0, 1) := by decide +kernel
theorem dX12_pay_146 : decode cX12_pay 146 = .ok (.getfield 143, 3) := by decide +kernel
theorem dX12_pay_149 : decode cX12_pay 149 = .ok (.iload_n 1, 1) := by decide +kernel
theorem dX12_pay_150 : decode cX12_pay 150 = .ok (.iaload, 1) := by decide +kernel
theorem dX12_pay_151 : decode cX12_pay 151 = .ok (.imul, 1) := by decide +kernel
theorem dX12_pay_152 : decode cX12_pay 152 = .ok (.istore 6, 2) := by decide +kernel
theorem dX12_pay_154 : decode cX12_pay 154 = .ok (.iload 6, 2) := by decide +kernel
theorem dX12_pay_156 : decode cX12_pay 156 = .ok (.aload_n 0, 1) := by decide +kernel
theorem dX12_pay_157 : decode cX12_pay 157 = .ok (.getfield 519, 3) := by decide +kernel
theorem dX12_pay_160 : decode cX12_pay 160 = .ok (.if_icmp .le 5, 3) := by decide +kernel
theorem dX12_pay_163 : decode cX12_pay 163 = .ok (.iconst (-1), 1) := by decide +kernel
theorem dX12_pay_164 : decode cX12_pay 164 = .ok (.ireturn, 1) := by decide +kernel
theorem dX12_pay_165 : decode cX12_pay 165 = .ok (.aload_n 0, 1) := by decide +kernel
theorem dX12_pay_166 : decode cX12_pay 166 = .ok (.dup, 1) := by decide +kernel
theorem dX12_pay_167 : decode cX12_pay 167 = .ok (.getfield 519, 3) := by decide +kernel
theorem dX12_pay_170 : decode cX12_pay 170 = .ok (.iload 6, 2) := by decide +kernel
theorem dX12_pay_172 : decode cX12_pay 172 = .ok (.isub, 1) := by decide +kernel
theorem dX12_pay_173 : decode cX12_pay 173 = .ok (.putfield 519, 3) := by decide +kernel
theorem dX12_pay_176 : decode cX12_pay 176 = .ok (.aload_n 0, 1) := by decide +kernel
theorem dX12_pay_177 : decode cX12_pay 177 = .ok (.getfield 158, 3) := by decide +kernel
theorem dX12_pay_180 : decode cX12_pay 180 = .ok (.iload_n 1, 1) := by decide +kernel
theorem dX12_pay_181 : decode cX12_pay 181 = .ok (.iconst 1, 1) := by decide +kernel
theorem dX12_pay_182 : decode cX12_pay 182 = .ok (.bastore, 1) := by decide +kernel
theorem dX12_pay_183 : decode cX12_pay 183 = .ok (.iload 5, 2) := by decide +kernel
theorem dX12_pay_185 : decode cX12_pay 185 = .ok (.bipush 10, 2) := by decide +kernel
theorem dX12_pay_187 : decode cX12_pay 187 = .ok (.if_icmp .lt 43, 3) := by decide +kernel
theorem dX12_pay_190 : decode cX12_pay 190 = .ok (.iload_n 3, 1) := by decide +kernel
theorem dX12_pay_191 : decode cX12_pay 191 = .ok (.ifCond .eq 39, 3) := by decide +kernel
theorem dX12_pay_194 : decode cX12_pay 194 = .ok (.aload_n 0, 1) := by decide +kernel
theorem dX12_pay_195 : decode cX12_pay 195 = .ok (.iload_n 2, 1) := by decide +kernel
theorem dX12_pay_196 : decode cX12_pay 196 = .ok (.iconst 0, 1) := by decide +kernel
theorem dX12_pay_197 : decode cX12_pay 197 = .ok (.invokevirtual 217, 3) := by decide +kernel
theorem dX12_pay_200 : decode cX12_pay 200 = .ok (.ifCond .ne 30, 3) := by decide +kernel
theorem dX12_pay_203 : decode cX12_pay 203 = .ok (.aload_n 0, 1) := by decide +kernel
theorem dX12_pay_204 : decode cX12_pay 204 = .ok (.iload_n 2, 1) := by decide +kernel
theorem dX12_pay_205 : decode cX12_pay 205 = .ok (.iconst 4, 1) := by decide +kernel
theorem dX12_pay_206 : decode cX12_pay 206 = .ok (.invokevirtual 217, 3) := by decide +kernel
theorem dX12_pay_209 : decode cX12_pay 209 = .ok (.bipush 6, 2) := by decide +kernel
theorem dX12_pay_211 : decode cX12_pay 211 = .ok (.if_icmp .ge 19, 3) := by decide +kernel
theorem dX12_pay_214 : decode cX12_pay 214 = .ok (.aload_n 0, 1) := by decide +kernel
theorem dX12_pay_215 : decode cX12_pay 215 = .ok (.iload_n 2, 1) := by decide +kernel
theorem dX12_pay_216 : decode cX12_pay 216 = .ok (.iload 5, 2) := by decide +kernel
theorem dX12_pay_218 : decode cX12_pay 218 = .ok (.bipush 10, 2) := by decide +kernel
theorem dX12_pay_220 : decode cX12_pay 220 = .ok (.idiv, 1) := by decide +kernel
theorem dX12_pay_221 : decode cX12_pay 221 = .ok (.aload_n 0, 1) := by decide +kernel
theorem dX12_pay_222 : decode cX12_pay 222 = .ok (.getfield 140, 3) := by decide +kernel
theorem dX12_pay_225 : decode cX12_pay 225 = .ok (.iload_n 1, 1) := by decide +kernel
theorem dX12_pay_226 : decode cX12_pay 226 = .ok (.iaload, 1) := by decide +kernel
theorem dX12_pay_227 : decode cX12_pay 227 = .ok (.invokevirtual 275, 3) := by decide +kernel
theorem dX12_pay_230 : decode cX12_pay 230 = .ok (.iload 6, 2) := by decide +kernel
theorem dX12_pay_232 : decode cX12_pay 232 = .ok (.ireturn, 1) := by decide +kernel
theorem dX12_soonest_0 : decode cX12_soonest 0 = .ok (.aload_n 0, 1) := by decide +kernel
theorem dX12_soonest_1 : decode cX12_soonest 1 = .ok (.iconst 0, 1) := by decide +kernel
theorem dX12_soonest_2 : decode cX12_soonest 2 = .ok (.putfield 194, 3) := by decide +kernel
theorem dX12_soonest_5 : decode cX12_soonest 5 = .ok (.aload_n 0, 1) := by decide +kernel
theorem dX12_soonest_6 : decode cX12_soonest 6 = .ok (.aload_n 0, 1) := by decide +kernel
theorem dX12_soonest_7 : decode cX12_soonest 7 = .ok (.iload_n 1, 1) := by decide +kernel
theorem dX12_soonest_8 : decode cX12_soonest 8 = .ok (.invokevirtual 269, 3) := by decide +kernel
theorem dX12_soonest_11 : decode cX12_soonest 11 = .ok (.iconst 1, 1) := by decide +kernel
theorem dX12_soonest_12 : decode cX12_soonest 12 = .ok (.invokevirtual 224, 3) := by decide +kernel
theorem dX12_soonest_15 : decode cX12_soonest 15 = .ok (.ifCond .ne 62, 3) := by decide +kernel
theorem dX12_soonest_18 : decode cX12_soonest 18 = .ok (.aload_n 0, 1) := by decide +kernel
theorem dX12_soonest_19 : decode cX12_soonest 19 = .ok (.iload_n 2, 1) := by decide +kernel
theorem dX12_soonest_20 : decode cX12_soonest 20 = .ok (.iconst 1, 1) := by decide +kernel
theorem dX12_soonest_21 : decode cX12_soonest 21 = .ok (.bipush 60, 2) := by decide +kernel
theorem dX12_soonest_23 : decode cX12_soonest 23 = .ok (.invokestatic 197, 3) := by decide +kernel
theorem dX12_soonest_26 : decode cX12_soonest 26 = .ok (.ifCond .eq 16, 3) := by decide +kernel
theorem dX12_soonest_29 : decode cX12_soonest 29 = .ok (.iload_n 3, 1) := by decide +kernel
theorem dX12_soonest_30 : decode cX12_soonest 30 = .ok (.sipush (-1000), 3) := by decide +kernel
theorem dX12_soonest_33 : decode cX12_soonest 33 = .ok (.sipush 1000, 3) := by decide +kernel
theorem dX12_soonest_36 : decode cX12_soonest 36 = .ok (.invokestatic 197, 3) := by decide +kernel
theorem dX12_soonest_39 : decode cX12_soonest 39 = .ok (.ifCond .ne 7, 3) := by decide +kernel
theorem dX12_soonest_42 : decode cX12_soonest 42 = .ok (.iconst 1, 1) := by decide +kernel
theorem dX12_soonest_43 : decode cX12_soonest 43 = .ok (.goto 4, 3) := by decide +kernel
theorem dX12_soonest_46 : decode cX12_soonest 46 = .ok (.iconst 0, 1) := by decide +kernel
theorem dX12_soonest_47 : decode cX12_soonest 47 = .ok (.iconst 2, 1) := by decide +kernel
theorem dX12_soonest_48 : decode cX12_soonest 48 = .ok (.invokevirtual 224, 3) := by decide +kernel
theorem dX12_soonest_51 : decode cX12_soonest 51 = .ok (.ifCond .ne 26, 3) := by decide +kernel
theorem dX12_soonest_54 : decode cX12_soonest 54 = .ok (.aload_n 0, 1) := by decide +kernel
theorem dX12_soonest_55 : decode cX12_soonest 55 = .ok (.aload_n 0, 1) := by decide +kernel
theorem dX12_soonest_56 : decode cX12_soonest 56 = .ok (.iload_n 1, 1) := by decide +kernel
theorem dX12_soonest_57 : decode cX12_soonest 57 = .ok (.iconst 0, 1) := by decide +kernel
theorem dX12_soonest_58 : decode cX12_soonest 58 = .ok (.invokevirtual 217, 3) := by decide +kernel
theorem dX12_soonest_61 : decode cX12_soonest 61 = .ok (.iconst 1, 1) := by decide +kernel
theorem dX12_soonest_62 : decode cX12_soonest 62 = .ok (.if_icmp .eq 7, 3) := by decide +kernel
theorem dX12_soonest_65 : decode cX12_soonest 65 = .ok (.iconst 1, 1) := by decide +kernel
theorem dX12_soonest_66 : decode cX12_soonest 66 = .ok (.goto 4, 3) := by decide +kernel
theorem dX12_soonest_69 : decode cX12_soonest 69 = .ok (.iconst 0, 1) := by decide +kernel
theorem dX12_soonest_70 : decode cX12_soonest 70 = .ok (.iconst 3, 1) := by decide +kernel
theorem dX12_soonest_71 : decode cX12_soonest 71 = .ok (.invokevirtual 224, 3) := by decide +kernel
theorem dX12_soonest_74 : decode cX12_soonest 74 = .ok (.ifCond .eq 5, 3) := by decide +kernel
theorem dX12_soonest_77 : decode cX12_soonest 77 = .ok (.iconst 0, 1) := by decide +kernel
theorem dX12_soonest_78 : decode cX12_soonest 78 = .ok (.ireturn, 1) := by decide +kernel
theorem dX12_soonest_79 : decode cX12_soonest 79 = .ok (.ldc_w 538, 3) := by decide +kernel
theorem dX12_soonest_82 : decode cX12_soonest 82 = .ok (.istore 4, 2) := by decide +kernel
theorem dX12_soonest_84 : decode cX12_soonest 84 = .ok (.aload_n 0, 1) := by decide +kernel
theorem dX12_soonest_85 : decode cX12_soonest 85 = .ok (.iload_n 1, 1) := by decide +kernel
theorem dX12_soonest_86 : decode cX12_soonest 86 = .ok (.bipush 17, 2) := by decide +kernel
theorem dX12_soonest_88 : decode cX12_soonest 88 = .ok (.invokevirtual 217, 3) := by decide +kernel
theorem dX12_soonest_91 : decode cX12_soonest 91 = .ok (.istore 5, 2) := by decide +kernel
theorem dX12_soonest_93 : decode cX12_soonest 93 = .ok (.iconst 1, 1) := by decide +kernel
theorem dX12_soonest_94 : decode cX12_soonest 94 = .ok (.istore 6, 2) := by decide +kernel
theorem dX12_soonest_96 : decode cX12_soonest 96 = .ok (.iload 6, 2) := by decide +kernel
theorem dX12_soonest_98 : decode cX12_soonest 98 = .ok (.bipush 48, 2) := by decide +kernel
theorem dX12_soonest_100 : decode cX12_soonest 100 = .ok (.if_icmp .gt 101, 3) := by decide +kernel
theorem dX12_soonest_103 : decode cX12_soonest 103 = .ok (.iload 5, 2) := by decide +kernel
theorem dX12_soonest_105 : decode cX12_soonest 105 = .ok (.istore 7, 2) := by decide +kernel
theorem dX12_soonest_107 : decode cX12_soonest 107 = .ok (.iload 6, 2) := by decide +kernel
theorem dX12_soonest_109 : decode cX12_soonest 109 = .ok (.istore 8, 2) := by decide +kernel
theorem dX12_soonest_111 : decode cX12_soonest 111 = .ok (.iload 8, 2) := by decide +kernel
theorem dX12_soonest_113 : decode cX12_soonest 113 = .ok (.sipush 200, 3) := by decide +kernel
theorem dX12_soonest_116 : decode cX12_soonest 116 = .ok (.if_icmp .gt 68, 3) := by decide +kernel
theorem dX12_soonest_119 : decode cX12_soonest 119 = .ok (.iload 7, 2) := by decide +kernel
theorem dX12_soonest_121 : decode cX12_soonest 121 = .ok (.ifCond .le 63, 3) := by decide +kernel
theorem dX12_soonest_124 : decode cX12_soonest 124 = .ok (.aload_n 0, 1) := by decide +kernel
theorem dX12_soonest_125 : decode cX12_soonest 125 = .ok (.aload_n 0, 1) := by decide +kernel
theorem dX12_soonest_126 : decode cX12_soonest 126 = .ok (.invokevirtual 228, 3) := by decide +kernel
theorem dX12_soonest_129 : decode cX12_soonest 129 = .ok (.iload 8, 2) := by decide +kernel
theorem dX12_soonest_131 : decode cX12_soonest 131 = .ok (.iadd, 1) := by decide +kernel
theorem dX12_soonest_132 : decode cX12_soonest 132 = .ok (.invokevirtual 247, 3) := by decide +kernel
theorem dX12_soonest_135 : decode cX12_soonest 135 = .ok (.iload_n 3, 1) := by decide +kernel
theorem dX12_soonest_136 : decode cX12_soonest 136 = .ok (.if_icmp .gt 12, 3) := by decide +kernel
theorem dX12_soonest_139 : decode cX12_soonest 139 = .ok (.iload 7, 2) := by decide +kernel
theorem dX12_soonest_141 : decode cX12_soonest 141 = .ok (.iload_n 2, 1) := by decide +kernel
theorem dX12_soonest_142 : decode cX12_soonest 142 = .ok (.iconst 4, 1) := by decide +kernel
theorem dX12_soonest_143 : decode cX12_soonest 143 = .ok (.idiv, 1) := by decide +kernel
theorem dX12_soonest_144 : decode cX12_soonest 144 = .ok (.isub, 1) := by decide +kernel
theorem dX12_soonest_145 : decode cX12_soonest 145 = .ok (.goto 12, 3) := by decide +kernel
theorem dX12_soonest_148 : decode cX12_soonest 148 = .ok (.bipush 60, 2) := by decide +kernel
theorem dX12_soonest_150 : decode cX12_soonest 150 = .ok (.iload 7, 2) := by decide +kernel
theorem dX12_soonest_152 : decode cX12_soonest 152 = .ok (.iconst 2, 1) := by decide +kernel
theorem dX12_soonest_153 : decode cX12_soonest 153 = .ok (.iadd, 1) := by decide +kernel
theorem dX12_soonest_154 : decode cX12_soonest 154 = .ok (.invokestatic 207, 3) := by decide +kernel
theorem dX12_soonest_157 : decode cX12_soonest 157 = .ok (.istore 7, 2) := by decide +kernel
theorem dX12_soonest_159 : decode cX12_soonest 159 = .ok (.iload 7, 2) := by decide +kernel
theorem dX12_soonest_161 : decode cX12_soonest 161 = .ok (.ifCond .gt 17, 3) := by decide +kernel
theorem dX12_soonest_164 : decode cX12_soonest 164 = .ok (.iload 4, 2) := by decide +kernel
theorem dX12_soonest_166 : decode cX12_soonest 166 = .ok (.aload_n 0, 1) := by decide +kernel
theorem dX12_soonest_167 : decode cX12_soonest 167 = .ok (.invokevirtual 228, 3) := by decide +kernel
theorem dX12_soonest_170 : decode cX12_soonest 170 = .ok (.iload 8, 2) := by decide +kernel
theorem dX12_soonest_172 : decode cX12_soonest 172 = .ok (.iadd, 1) := by decide +kernel
theorem dX12_soonest_173 : decode cX12_soonest 173 = .ok (.invokestatic 207, 3) := by decide +kernel
theorem dX12_soonest_176 : decode cX12_soonest 176 = .ok (.istore 4, 2) := by decide +kernel
theorem dX12_soonest_178 : decode cX12_soonest 178 = .ok (.iinc 8 1, 3) := by decide +kernel
theorem dX12_soonest_181 : decode cX12_soonest 181 = .ok (.goto (-70), 3) := by decide +kernel
theorem dX12_soonest_184 : decode cX12_soonest 184 = .ok (.bipush 60, 2) := by decide +kernel
theorem dX12_soonest_186 : decode cX12_soonest 186 = .ok (.iload 5, 2) := by decide +kernel
theorem dX12_soonest_188 : decode cX12_soonest 188 = .ok (.iconst 2, 1) := by decide +kernel
theorem dX12_soonest_189 : decode cX12_soonest 189 = .ok (.iadd, 1) := by decide +kernel
theorem dX12_soonest_190 : decode cX12_soonest 190 = .ok (.invokestatic 207, 3) := by decide +kernel
theorem dX12_soonest_193 : decode cX12_soonest 193 = .ok (.istore 5, 2) := by decide +kernel
theorem dX12_soonest_195 : decode cX12_soonest 195 = .ok (.iinc 6 1, 3) := by decide +kernel
theorem dX12_soonest_198 : decode cX12_soonest 198 = .ok (.goto (-102), 3) := by decide +kernel
theorem dX12_soonest_201 : decode cX12_soonest 201 = .ok (.iload 4, 2) := by decide +kernel
theorem dX12_soonest_203 : decode cX12_soonest 203 = .ok (.ldc_w 538, 3) := by decide +kernel
theorem dX12_soonest_206 : decode cX12_soonest 206 = .ok (.if_icmp .ne 7, 3) := by decide +kernel
theorem dX12_soonest_209 : decode cX12_soonest 209 = .ok (.iconst (-1), 1) := by decide +kernel
theorem dX12_soonest_210 : decode cX12_soonest 210 = .ok (.goto 5, 3) := by decide +kernel
theorem dX12_soonest_213 : decode cX12_soonest 213 = .ok (.iload 4, 2) := by decide +kernel
theorem dX12_soonest_215 : decode cX12_soonest 215 = .ok (.ireturn, 1) := by decide +kernel
theorem dX12_levels_0 : decode cX12_levels 0 = .ok (.aload_n 0, 1) := by decide +kernel
theorem dX12_levels_1 : decode cX12_levels 1 = .ok (.iconst 0, 1) := by decide +kernel
theorem dX12_levels_2 : decode cX12_levels 2 = .ok (.putfield 194, 3) := by decide +kernel
theorem dX12_levels_5 : decode cX12_levels 5 = .ok (.aload_n 0, 1) := by decide +kernel
theorem dX12_levels_6 : decode cX12_levels 6 = .ok (.aload_n 0, 1) := by decide +kernel
theorem dX12_levels_7 : decode cX12_levels 7 = .ok (.iload_n 1, 1) := by decide +kernel
theorem dX12_levels_8 : decode cX12_levels 8 = .ok (.invokevirtual 502, 3) := by decide +kernel
theorem dX12_levels_11 : decode cX12_levels 11 = .ok (.iconst 1, 1) := by decide +kernel
theorem dX12_levels_12 : decode cX12_levels 12 = .ok (.invokevirtual 224, 3) := by decide +kernel
theorem dX12_levels_15 : decode cX12_levels 15 = .ok (.ifCond .ne 27, 3) := by decide +kernel
theorem dX12_levels_18 : decode cX12_levels 18 = .ok (.aload_n 0, 1) := by decide +kernel
theorem dX12_levels_19 : decode cX12_levels 19 = .ok (.iload_n 2, 1) := by decide +kernel
theorem dX12_levels_20 : decode cX12_levels 20 = .ok (.iconst 0, 1) := by decide +kernel
theorem dX12_levels_21 : decode cX12_levels 21 = .ok (.sipush 1000, 3) := by decide +kernel
theorem dX12_levels_24 : decode cX12_levels 24 = .ok (.invokestatic 197, 3) := by decide +kernel
theorem dX12_levels_27 : decode cX12_levels 27 = .ok (.ifCond .ne 7, 3) := by decide +kernel
theorem dX12_levels_30 : decode cX12_levels 30 = .ok (.iconst 1, 1) := by decide +kernel
theorem dX12_levels_31 : decode cX12_levels 31 = .ok (.goto 4, 3) := by decide +kernel
theorem dX12_levels_34 : decode cX12_levels 34 = .ok (.iconst 0, 1) := by decide +kernel
theorem dX12_levels_35 : decode cX12_levels 35 = .ok (.iconst 2, 1) := by decide +kernel
theorem dX12_levels_36 : decode cX12_levels 36 = .ok (.invokevirtual 224, 3) := by decide +kernel
theorem dX12_levels_39 : decode cX12_levels 39 = .ok (.ifCond .eq 5, 3) := by decide +kernel
theorem dX12_levels_42 : decode cX12_levels 42 = .ok (.iconst 0, 1) := by decide +kernel
theorem dX12_levels_43 : decode cX12_levels 43 = .ok (.ireturn, 1) := by decide +kernel
theorem dX12_levels_44 : decode cX12_levels 44 = .ok (.iconst 0, 1) := by decide +kernel
theorem dX12_levels_45 : decode cX12_levels 45 = .ok (.istore_n 3, 1) := by decide +kernel
theorem dX12_levels_46 : decode cX12_levels 46 = .ok (.iconst 0, 1) := by decide +kernel
theorem dX12_levels_47 : decode cX12_levels 47 = .ok (.istore 4, 2) := by decide +kernel
theorem dX12_levels_49 : decode cX12_levels 49 = .ok (.iload 4, 2) := by decide +kernel
theorem dX12_levels_51 : decode cX12_levels 51 = .ok (.bipush 96, 2) := by decide +kernel
theorem dX12_levels_53 : decode cX12_levels 53 = .ok (.if_icmp .ge 49, 3) := by decide +kernel
theorem dX12_levels_56 : decode cX12_levels 56 = .ok (.iload_n 3, 1) := by decide +kernel
theorem dX12_levels_57 : decode cX12_levels 57 = .ok (.bipush 6, 2) := by decide +kernel
theorem dX12_levels_59 : decode cX12_levels 59 = .ok (.if_icmp .eq 37, 3) := by decide +kernel
theorem dX12_levels_62 : decode cX12_levels 62 = .ok (.iload 4, 2) := by decide +kernel
theorem dX12_levels_64 : decode cX12_levels 64 = .ok (.aload_n 0, 1) := by decide +kernel
theorem dX12_levels_65 : decode cX12_levels 65 = .ok (.getfield 113, 3) := by decide +kernel
theorem dX12_levels_68 : decode cX12_levels 68 = .ok (.iload_n 1, 1) := by decide +kernel
theorem dX12_levels_69 : decode cX12_levels 69 = .ok (.iaload, 1) := by decide +kernel
theorem dX12_levels_70 : decode cX12_levels 70 = .ok (.aload_n 0, 1) := by decide +kernel
theorem dX12_levels_71 : decode cX12_levels 71 = .ok (.getfield 116, 3) := by decide +kernel
theorem dX12_levels_74 : decode cX12_levels 74 = .ok (.iload_n 1, 1) := by decide +kernel
theorem dX12_levels_75 : decode cX12_levels 75 = .ok (.iaload, 1) := by decide +kernel
theorem dX12_levels_76 : decode cX12_levels 76 = .ok (.invokestatic 232, 3) := by decide +kernel
theorem dX12_levels_79 : decode cX12_levels 79 = .ok (.ifCond .ne 6, 3) := by decide +kernel
theorem dX12_levels_82 : decode cX12_levels 82 = .ok (.goto 14, 3) := by decide +kernel
theorem dX12_levels_85 : decode cX12_levels 85 = .ok (.aload_n 0, 1) := by decide +kernel
theorem dX12_levels_86 : decode cX12_levels 86 = .ok (.getfield 173, 3) := by decide +kernel
theorem dX12_levels_89 : decode cX12_levels 89 = .ok (.iload_n 3, 1) := by decide +kernel
theorem dX12_levels_90 : decode cX12_levels 90 = .ok (.iload 4, 2) := by decide +kernel
theorem dX12_levels_92 : decode cX12_levels 92 = .ok (.iastore, 1) := by decide +kernel
theorem dX12_levels_93 : decode cX12_levels 93 = .ok (.iinc 3 1, 3) := by decide +kernel
theorem dX12_levels_96 : decode cX12_levels 96 = .ok (.iinc 4 1, 3) := by decide +kernel
theorem dX12_levels_99 : decode cX12_levels 99 = .ok (.goto (-50), 3) := by decide +kernel
theorem dX12_levels_102 : decode cX12_levels 102 = .ok (.iconst (-1), 1) := by decide +kernel
theorem dX12_levels_103 : decode cX12_levels 103 = .ok (.istore 4, 2) := by decide +kernel
theorem dX12_levels_105 : decode cX12_levels 105 = .ok (.iconst 0, 1) := by decide +kernel
theorem dX12_levels_106 : decode cX12_levels 106 = .ok (.istore 5, 2) := by decide +kernel
theorem dX12_levels_108 : decode cX12_levels 108 = .ok (.iload 5, 2) := by decide +kernel
theorem dX12_levels_110 : decode cX12_levels 110 = .ok (.iconst 1, 1) := by decide +kernel
theorem dX12_levels_111 : decode cX12_levels 111 = .ok (.iconst 2, 1) := by decide +kernel
theorem dX12_levels_112 : decode cX12_levels 112 = .ok (.iload_n 3, 1) := by decide +kernel
theorem dX12_levels_113 : decode cX12_levels 113 = .ok (.imul, 1) := by decide +kernel
theorem dX12_levels_114 : decode cX12_levels 114 = .ok (.ishl, 1) := by decide +kernel
theorem dX12_levels_115 : decode cX12_levels 115 = .ok (.if_icmp .ge 194, 3) := by decide +kernel
theorem dX12_levels_118 : decode cX12_levels 118 = .ok (.iconst 0, 1) := by decide +kernel
theorem dX12_levels_119 : decode cX12_levels 119 = .ok (.istore 6, 2) := by decide +kernel
theorem dX12_levels_121 : decode cX12_levels 121 = .ok (.iconst 1, 1) := by decide +kernel
theorem dX12_levels_122 : decode cX12_levels 122 = .ok (.istore 7, 2) := by decide +kernel
theorem dX12_levels_124 : decode cX12_levels 124 = .ok (.iconst 0, 1) := by decide +kernel
theorem dX12_levels_125 : decode cX12_levels 125 = .ok (.istore 8, 2) := by decide +kernel
theorem dX12_levels_127 : decode cX12_levels 127 = .ok (.iload 8, 2) := by decide +kernel
theorem dX12_levels_129 : decode cX12_levels 129 = .ok (.iload_n 3, 1) := by decide +kernel
theorem dX12_levels_130 : decode cX12_levels 130 = .ok (.if_icmp .ge 159, 3) := by decide +kernel
theorem dX12_levels_133 : decode cX12_levels 133 = .ok (.aload_n 0, 1) := by decide +kernel
theorem dX12_levels_134 : decode cX12_levels 134 = .ok (.getfield 170, 3) := by decide +kernel
theorem dX12_levels_137 : decode cX12_levels 137 = .ok (.iload 8, 2) := by decide +kernel
theorem dX12_levels_139 : decode cX12_levels 139 = .ok (.bipush 40, 2) := by decide +kernel
theorem dX12_levels_141 : decode cX12_levels 141 = .ok (.bipush 40, 2) := by decide +kernel
theorem dX12_levels_143 : decode cX12_levels 143 = .ok (.iload 5, 2) := by decide +kernel
theorem dX12_levels_145 : decode cX12_levels 145 = .ok (.iconst 2, 1) := by decide +kernel
theorem dX12_levels_146 : decode cX12_levels 146 = .ok (.iload 8, 2) := by decide +kernel
theorem dX12_levels_148 : decode cX12_levels 148 = .ok (.imul, 1) := by decide +kernel
theorem dX12_levels_149 : decode cX12_levels 149 = .ok (.ishr, 1) := by decide +kernel
theorem dX12_levels_150 : decode cX12_levels 150 = .ok (.iconst 3, 1) := by decide +kernel
theorem dX12_levels_151 : decode cX12_levels 151 = .ok (.iand, 1) := by decide +kernel
theorem dX12_levels_152 : decode cX12_levels 152 = .ok (.imul, 1) := by decide +kernel
theorem dX12_levels_153 : decode cX12_levels 153 = .ok (.iadd, 1) := by decide +kernel
theorem dX12_levels_154 : decode cX12_levels 154 = .ok (.iastore, 1) := by decide +kernel
theorem dX12_levels_155 : decode cX12_levels 155 = .ok (.iload 6, 2) := by decide +kernel
theorem dX12_levels_157 : decode cX12_levels 157 = .ok (.aload_n 0, 1) := by decide +kernel
theorem dX12_levels_158 : decode cX12_levels 158 = .ok (.getfield 119, 3) := by decide +kernel
theorem dX12_levels_161 : decode cX12_levels 161 = .ok (.iload_n 1, 1) := by decide +kernel
theorem dX12_levels_162 : decode cX12_levels 162 = .ok (.iaload, 1) := by decide +kernel
theorem dX12_levels_163 : decode cX12_levels 163 = .ok (.aload_n 0, 1) := by decide +kernel
theorem dX12_levels_164 : decode cX12_levels 164 = .ok (.getfield 170, 3) := by decide +kernel
theorem dX12_levels_167 : decode cX12_levels 167 = .ok (.iload 8, 2) := by decide +kernel
theorem dX12_levels_169 : decode cX12_levels 169 = .ok (.iaload, 1) := by decide +kernel
theorem dX12_levels_170 : decode cX12_levels 170 = .ok (.invokestatic 550, 3) := by decide +kernel
theorem dX12_levels_173 : decode cX12_levels 173 = .ok (.iadd, 1) := by decide +kernel
theorem dX12_levels_174 : decode cX12_levels 174 = .ok (.istore 6, 2) := by decide +kernel
theorem dX12_levels_176 : decode cX12_levels 176 = .ok (.iconst 0, 1) := by decide +kernel
theorem dX12_levels_177 : decode cX12_levels 177 = .ok (.istore 9, 2) := by decide +kernel
theorem dX12_levels_179 : decode cX12_levels 179 = .ok (.iload 9, 2) := by decide +kernel
theorem dX12_levels_181 : decode cX12_levels 181 = .ok (.iload 8, 2) := by decide +kernel
theorem dX12_levels_183 : decode cX12_levels 183 = .ok (.if_icmp .ge 100, 3) := by decide +kernel
theorem dX12_levels_186 : decode cX12_levels 186 = .ok (.aload_n 0, 1) := by decide +kernel
theorem dX12_levels_187 : decode cX12_levels 187 = .ok (.getfield 9, 3) := by decide +kernel
theorem dX12_levels_190 : decode cX12_levels 190 = .ok (.bipush 96, 2) := by decide +kernel
theorem dX12_levels_192 : decode cX12_levels 192 = .ok (.aload_n 0, 1) := by decide +kernel
theorem dX12_levels_193 : decode cX12_levels 193 = .ok (.getfield 173, 3) := by decide +kernel
theorem dX12_levels_196 : decode cX12_levels 196 = .ok (.iload 8, 2) := by decide +kernel
theorem dX12_levels_198 : decode cX12_levels 198 = .ok (.iaload, 1) := by decide +kernel
theorem dX12_levels_199 : decode cX12_levels 199 = .ok (.iadd, 1) := by decide +kernel
theorem dX12_levels_200 : decode cX12_levels 200 = .ok (.iaload, 1) := by decide +kernel
theorem dX12_levels_201 : decode cX12_levels 201 = .ok (.aload_n 0, 1) := by decide +kernel
theorem dX12_levels_202 : decode cX12_levels 202 = .ok (.getfield 170, 3) := by decide +kernel
theorem dX12_levels_205 : decode cX12_levels 205 = .ok (.iload 8, 2) := by decide +kernel
theorem dX12_levels_207 : decode cX12_levels 207 = .ok (.iaload, 1) := by decide +kernel
theorem dX12_levels_208 : decode cX12_levels 208 = .ok (.isub, 1) := by decide +kernel
theorem dX12_levels_209 : decode cX12_levels 209 = .ok (.aload_n 0, 1) := by decide +kernel
theorem dX12_levels_210 : decode cX12_levels 210 = .ok (.getfield 9, 3) := by decide +kernel
theorem dX12_levels_213 : decode cX12_levels 213 = .ok (.bipush 96, 2) := by decide +kernel
theorem dX12_levels_215 : decode cX12_levels 215 = .ok (.aload_n 0, 1) := by decide +kernel
theorem dX12_levels_216 : decode cX12_levels 216 = .ok (.getfield 173, 3) := by decide +kernel
theorem dX12_levels_219 : decode cX12_levels 219 = .ok (.iload 9, 2) := by decide +kernel
theorem dX12_levels_221 : decode cX12_levels 221 = .ok (.iaload, 1) := by decide +kernel
theorem dX12_levels_222 : decode cX12_levels 222 = .ok (.iadd, 1) := by decide +kernel
theorem dX12_levels_223 : decode cX12_levels 223 = .ok (.iaload, 1) := by decide +kernel
theorem dX12_levels_224 : decode cX12_levels 224 = .ok (.isub, 1) := by decide +kernel
theorem dX12_levels_225 : decode cX12_levels 225 = .ok (.aload_n 0, 1) := by decide +kernel
theorem dX12_levels_226 : decode cX12_levels 226 = .ok (.getfield 170, 3) := by decide +kernel
theorem dX12_levels_229 : decode cX12_levels 229 = .ok (.iload 9, 2) := by decide +kernel
theorem dX12_levels_231 : decode cX12_levels 231 = .ok (.iaload, 1) := by decide +kernel
theorem dX12_levels_232 : decode cX12_levels 232 = .ok (.iadd, 1) := by decide +kernel
theorem dX12_levels_233 : decode cX12_levels 233 = .ok (.istore 10, 2) := by decide +kernel
theorem dX12_levels_235 : decode cX12_levels 235 = .ok (.iload 7, 2) := by decide +kernel
theorem dX12_levels_237 : decode cX12_levels 237 = .ok (.ifCond .eq 37, 3) := by decide +kernel
theorem dX12_levels_240 : decode cX12_levels 240 = .ok (.aload_n 0, 1) := by decide +kernel
theorem dX12_levels_241 : decode cX12_levels 241 = .ok (.getfield 173, 3) := by decide +kernel
theorem dX12_levels_244 : decode cX12_levels 244 = .ok (.iload 8, 2) := by decide +kernel
theorem dX12_levels_246 : decode cX12_levels 246 = .ok (.iaload, 1) := by decide +kernel
theorem dX12_levels_247 : decode cX12_levels 247 = .ok (.aload_n 0, 1) := by decide +kernel
theorem dX12_levels_248 : decode cX12_levels 248 = .ok (.getfield 173, 3) := by decide +kernel
theorem dX12_levels_251 : decode cX12_levels 251 = .ok (.iload 9, 2) := by decide +kernel
theorem dX12_levels_253 : decode cX12_levels 253 = .ok (.iaload, 1) := by decide +kernel
theorem dX12_levels_254 : decode cX12_levels 254 = .ok (.invokestatic 262, 3) := by decide +kernel
theorem dX12_levels_257 : decode cX12_levels 257 = .ok (.iconst 1, 1) := by decide +kernel
theorem dX12_levels_258 : decode cX12_levels 258 = .ok (.if_icmp .ne 12, 3) := by decide +kernel
theorem dX12_levels_261 : decode cX12_levels 261 = .ok (.iload 10, 2) := by decide +kernel
theorem dX12_levels_263 : decode cX12_levels 263 = .ok (.invokestatic 201, 3) := by decide +kernel
theorem dX12_levels_266 : decode cX12_levels 266 = .ok (.iload_n 2, 1) := by decide +kernel
theorem dX12_levels_267 : decode cX12_levels 267 = .ok (.if_icmp .gt 7, 3) := by decide +kernel
theorem dX12_levels_270 : decode cX12_levels 270 = .ok (.iconst 1, 1) := by decide +kernel
theorem dX12_levels_271 : decode cX12_levels 271 = .ok (.goto 4, 3) := by decide +kernel
theorem dX12_levels_274 : decode cX12_levels 274 = .ok (.iconst 0, 1) := by decide +kernel
theorem dX12_levels_275 : decode cX12_levels 275 = .ok (.istore 7, 2) := by decide +kernel
theorem dX12_levels_277 : decode cX12_levels 277 = .ok (.iinc 9 1, 3) := by decide +kernel
theorem dX12_levels_280 : decode cX12_levels 280 = .ok (.goto (-101), 3) := by decide +kernel
theorem dX12_levels_283 : decode cX12_levels 283 = .ok (.iinc 8 1, 3) := by decide +kernel
theorem dX12_levels_286 : decode cX12_levels 286 = .ok (.goto (-159), 3) := by decide +kernel
theorem dX12_levels_289 : decode cX12_levels 289 = .ok (.iload 7, 2) := by decide +kernel
theorem dX12_levels_291 : decode cX12_levels 291 = .ok (.ifCond .eq 12, 3) := by decide +kernel
theorem dX12_levels_294 : decode cX12_levels 294 = .ok (.iload 4, 2) := by decide +kernel
theorem dX12_levels_296 : decode cX12_levels 296 = .ok (.iload 6, 2) := by decide +kernel
theorem dX12_levels_298 : decode cX12_levels 298 = .ok (.invokestatic 211, 3) := by decide +kernel
theorem dX12_levels_301 : decode cX12_levels 301 = .ok (.istore 4, 2) := by decide +kernel
theorem dX12_levels_303 : decode cX12_levels 303 = .ok (.iinc 5 1, 3) := by decide +kernel
theorem dX12_levels_306 : decode cX12_levels 306 = .ok (.goto (-198), 3) := by decide +kernel
theorem dX12_levels_309 : decode cX12_levels 309 = .ok (.iload 4, 2) := by decide +kernel
theorem dX12_levels_311 : decode cX12_levels 311 = .ok (.ireturn, 1) := by decide +kernel
theorem dX12_job_0 : decode cX12_job 0 = .ok (.aload_n 0, 1) := by decide +kernel
theorem dX12_job_1 : decode cX12_job 1 = .ok (.iconst 0, 1) := by decide +kernel
theorem dX12_job_2 : decode cX12_job 2 = .ok (.putfield 194, 3) := by decide +kernel
theorem dX12_job_5 : decode cX12_job 5 = .ok (.aload_n 0, 1) := by decide +kernel
theorem dX12_job_6 : decode cX12_job 6 = .ok (.iload_n 1, 1) := by decide +kernel
theorem dX12_job_7 : decode cX12_job 7 = .ok (.iconst 0, 1) := by decide +kernel
theorem dX12_job_8 : decode cX12_job 8 = .ok (.ldc_w 536, 3) := by decide +kernel
theorem dX12_job_11 : decode cX12_job 11 = .ok (.invokestatic 197, 3) := by decide +kernel
theorem dX12_job_14 : decode cX12_job 14 = .ok (.ifCond .eq 35, 3) := by decide +kernel
theorem dX12_job_17 : decode cX12_job 17 = .ok (.iload_n 2, 1) := by decide +kernel
theorem dX12_job_18 : decode cX12_job 18 = .ok (.iconst 1, 1) := by decide +kernel
theorem dX12_job_19 : decode cX12_job 19 = .ok (.bipush 20, 2) := by decide +kernel
theorem dX12_job_21 : decode cX12_job 21 = .ok (.invokestatic 197, 3) := by decide +kernel
theorem dX12_job_24 : decode cX12_job 24 = .ok (.ifCond .eq 25, 3) := by decide +kernel
theorem dX12_job_27 : decode cX12_job 27 = .ok (.iload_n 3, 1) := by decide +kernel
theorem dX12_job_28 : decode cX12_job 28 = .ok (.iconst 0, 1) := by decide +kernel
theorem dX12_job_29 : decode cX12_job 29 = .ok (.ldc 241, 2) := by decide +kernel
theorem dX12_job_31 : decode cX12_job 31 = .ok (.invokestatic 197, 3) := by decide +kernel
theorem dX12_job_34 : decode cX12_job 34 = .ok (.ifCond .eq 15, 3) := by decide +kernel
theorem dX12_job_37 : decode cX12_job 37 = .ok (.iload 4, 2) := by decide +kernel
theorem dX12_job_39 : decode cX12_job 39 = .ok (.iconst 0, 1) := by decide +kernel
theorem dX12_job_40 : decode cX12_job 40 = .ok (.sipush 1000, 3) := by decide +kernel
theorem dX12_job_43 : decode cX12_job 43 = .ok (.invokestatic 197, 3) := by decide +kernel
theorem dX12_job_46 : decode cX12_job 46 = .ok (.ifCond .ne 7, 3) := by decide +kernel
theorem dX12_job_49 : decode cX12_job 49 = .ok (.iconst 1, 1) := by decide +kernel
theorem dX12_job_50 : decode cX12_job 50 = .ok (.goto 4, 3) := by decide +kernel
theorem dX12_job_53 : decode cX12_job 53 = .ok (.iconst 0, 1) := by decide +kernel
theorem dX12_job_54 : decode cX12_job 54 = .ok (.iconst 1, 1) := by decide +kernel
theorem dX12_job_55 : decode cX12_job 55 = .ok (.invokevirtual 224, 3) := by decide +kernel
theorem dX12_job_58 : decode cX12_job 58 = .ok (.ifCond .eq 5, 3) := by decide +kernel
theorem dX12_job_61 : decode cX12_job 61 = .ok (.iconst 0, 1) := by decide +kernel
theorem dX12_job_62 : decode cX12_job 62 = .ok (.ireturn, 1) := by decide +kernel
theorem dX12_job_63 : decode cX12_job 63 = .ok (.aload_n 0, 1) := by decide +kernel
theorem dX12_job_64 : decode cX12_job 64 = .ok (.getfield 553, 3) := by decide +kernel
theorem dX12_job_67 : decode cX12_job 67 = .ok (.bipush 7, 2) := by decide +kernel
theorem dX12_job_69 : decode cX12_job 69 = .ok (.if_icmp .ne 5, 3) := by decide +kernel
theorem dX12_job_72 : decode cX12_job 72 = .ok (.iconst (-1), 1) := by decide +kernel
theorem dX12_job_73 : decode cX12_job 73 = .ok (.ireturn, 1) := by decide +kernel
theorem dX12_job_74 : decode cX12_job 74 = .ok (.aload_n 0, 1) := by decide +kernel
theorem dX12_job_75 : decode cX12_job 75 = .ok (.getfield 176, 3) := by decide +kernel
theorem dX12_job_78 : decode cX12_job 78 = .ok (.aload_n 0, 1) := by decide +kernel
theorem dX12_job_79 : decode cX12_job 79 = .ok (.getfield 553, 3) := by decide +kernel
theorem dX12_job_82 : decode cX12_job 82 = .ok (.iload_n 1, 1) := by decide +kernel
theorem dX12_job_83 : decode cX12_job 83 = .ok (.iastore, 1) := by decide +kernel
theorem dX12_job_84 : decode cX12_job 84 = .ok (.aload_n 0, 1) := by decide +kernel
theorem dX12_job_85 : decode cX12_job 85 = .ok (.getfield 179, 3) := by decide +kernel
theorem dX12_job_88 : decode cX12_job 88 = .ok (.aload_n 0, 1) := by decide +kernel
theorem dX12_job_89 : decode cX12_job 89 = .ok (.getfield 553, 3) := by decide +kernel
theorem dX12_job_92 : decode cX12_job 92 = .ok (.iload_n 2, 1) := by decide +kernel
theorem dX12_job_93 : decode cX12_job 93 = .ok (.iastore, 1) := by decide +kernel
theorem dX12_job_94 : decode cX12_job 94 = .ok (.aload_n 0, 1) := by decide +kernel
theorem dX12_job_95 : decode cX12_job 95 = .ok (.getfield 182, 3) := by decide +kernel
theorem dX12_job_98 : decode cX12_job 98 = .ok (.aload_n 0, 1) := by decide +kernel
theorem dX12_job_99 : decode cX12_job 99 = .ok (.getfield 553, 3) := by decide +kernel
theorem dX12_job_102 : decode cX12_job 102 = .ok (.iload_n 3, 1) := by decide +kernel
theorem dX12_job_103 : decode cX12_job 103 = .ok (.iastore, 1) := by decide +kernel
theorem dX12_job_104 : decode cX12_job 104 = .ok (.aload_n 0, 1) := by decide +kernel
theorem dX12_job_105 : decode cX12_job 105 = .ok (.getfield 185, 3) := by decide +kernel
theorem dX12_job_108 : decode cX12_job 108 = .ok (.aload_n 0, 1) := by decide +kernel
theorem dX12_job_109 : decode cX12_job 109 = .ok (.getfield 553, 3) := by decide +kernel
theorem dX12_job_112 : decode cX12_job 112 = .ok (.iload 4, 2) := by decide +kernel
theorem dX12_job_114 : decode cX12_job 114 = .ok (.iastore, 1) := by decide +kernel
theorem dX12_job_115 : decode cX12_job 115 = .ok (.aload_n 0, 1) := by decide +kernel
theorem dX12_job_116 : decode cX12_job 116 = .ok (.dup, 1) := by decide +kernel
theorem dX12_job_117 : decode cX12_job 117 = .ok (.getfield 553, 3) := by decide +kernel
theorem dX12_job_120 : decode cX12_job 120 = .ok (.iconst 1, 1) := by decide +kernel
theorem dX12_job_121 : decode cX12_job 121 = .ok (.iadd, 1) := by decide +kernel
theorem dX12_job_122 : decode cX12_job 122 = .ok (.putfield 553, 3) := by decide +kernel
theorem dX12_job_125 : decode cX12_job 125 = .ok (.aload_n 0, 1) := by decide +kernel
theorem dX12_job_126 : decode cX12_job 126 = .ok (.getfield 553, 3) := by decide +kernel
theorem dX12_job_129 : decode cX12_job 129 = .ok (.ireturn, 1) := by decide +kernel
theorem dX12_order_0 : decode cX12_order 0 = .ok (.aload_n 0, 1) := by decide +kernel
theorem dX12_order_1 : decode cX12_order 1 = .ok (.iconst 0, 1) := by decide +kernel
theorem dX12_order_2 : decode cX12_order 2 = .ok (.putfield 194, 3) := by decide +kernel
theorem dX12_order_5 : decode cX12_order 5 = .ok (.aload_n 0, 1) := by decide +kernel
theorem dX12_order_6 : decode cX12_order 6 = .ok (.iload_n 1, 1) := by decide +kernel
theorem dX12_order_7 : decode cX12_order 7 = .ok (.iconst 0, 1) := by decide +kernel
theorem dX12_order_8 : decode cX12_order 8 = .ok (.ldc_w 536, 3) := by decide +kernel
theorem dX12_order_11 : decode cX12_order 11 = .ok (.invokestatic 197, 3) := by decide +kernel
theorem dX12_order_14 : decode cX12_order 14 = .ok (.ifCond .ne 7, 3) := by decide +kernel
theorem dX12_order_17 : decode cX12_order 17 = .ok (.iconst 1, 1) := by decide +kernel
theorem dX12_order_18 : decode cX12_order 18 = .ok (.goto 4, 3) := by decide +kernel
theorem dX12_order_21 : decode cX12_order 21 = .ok (.iconst 0, 1) := by decide +kernel
theorem dX12_order_22 : decode cX12_order 22 = .ok (.iconst 1, 1) := by decide +kernel
theorem dX12_order_23 : decode cX12_order 23 = .ok (.invokevirtual 224, 3) := by decide +kernel
theorem dX12_order_26 : decode cX12_order 26 = .ok (.ifCond .eq 5, 3) := by decide +kernel
theorem dX12_order_29 : decode cX12_order 29 = .ok (.iconst 0, 1) := by decide +kernel
theorem dX12_order_30 : decode cX12_order 30 = .ok (.ireturn, 1) := by decide +kernel
theorem dX12_order_31 : decode cX12_order 31 = .ok (.aload_n 0, 1) := by decide +kernel
theorem dX12_order_32 : decode cX12_order 32 = .ok (.iconst (-1), 1) := by decide +kernel
theorem dX12_order_33 : decode cX12_order 33 = .ok (.putfield 556, 3) := by decide +kernel
theorem dX12_order_36 : decode cX12_order 36 = .ok (.aload_n 0, 1) := by decide +kernel
theorem dX12_order_37 : decode cX12_order 37 = .ok (.iconst 0, 1) := by decide +kernel
theorem dX12_order_38 : decode cX12_order 38 = .ok (.iconst 0, 1) := by decide +kernel
theorem dX12_order_39 : decode cX12_order 39 = .ok (.iconst 0, 1) := by decide +kernel
theorem dX12_order_40 : decode cX12_order 40 = .ok (.iload_n 1, 1) := by decide +kernel
theorem dX12_order_41 : decode cX12_order 41 = .ok (.iconst 0, 1) := by decide +kernel
theorem dX12_order_42 : decode cX12_order 42 = .ok (.iconst 0, 1) := by decide +kernel
theorem dX12_order_43 : decode cX12_order 43 = .ok (.invokevirtual 559, 3) := by decide +kernel
theorem dX12_order_46 : decode cX12_order 46 = .ok (.aload_n 0, 1) := by decide +kernel
theorem dX12_order_47 : decode cX12_order 47 = .ok (.getfield 556, 3) := by decide +kernel
theorem dX12_order_50 : decode cX12_order 50 = .ok (.ifCond .lt 8, 3) := by decide +kernel
theorem dX12_order_53 : decode cX12_order 53 = .ok (.iload_n 2, 1) := by decide +kernel
theorem dX12_order_54 : decode cX12_order 54 = .ok (.iconst (-1), 1) := by decide +kernel
theorem dX12_order_55 : decode cX12_order 55 = .ok (.if_icmp .ne 8, 3) := by decide +kernel
theorem dX12_order_58 : decode cX12_order 58 = .ok (.aload_n 0, 1) := by decide +kernel
theorem dX12_order_59 : decode cX12_order 59 = .ok (.getfield 556, 3) := by decide +kernel
theorem dX12_order_62 : decode cX12_order 62 = .ok (.ireturn, 1) := by decide +kernel
theorem dX12_order_63 : decode cX12_order 63 = .ok (.iload_n 2, 1) := by decide +kernel
theorem dX12_order_64 : decode cX12_order 64 = .ok (.iconst 0, 1) := by decide +kernel
theorem dX12_order_65 : decode cX12_order 65 = .ok (.aload_n 0, 1) := by decide +kernel
theorem dX12_order_66 : decode cX12_order 66 = .ok (.getfield 553, 3) := by decide +kernel
theorem dX12_order_69 : decode cX12_order 69 = .ok (.iconst 1, 1) := by decide +kernel
theorem dX12_order_70 : decode cX12_order 70 = .ok (.isub, 1) := by decide +kernel
theorem dX12_order_71 : decode cX12_order 71 = .ok (.invokestatic 197, 3) := by decide +kernel
theorem dX12_order_74 : decode cX12_order 74 = .ok (.ifCond .eq 12, 3) := by decide +kernel
theorem dX12_order_77 : decode cX12_order 77 = .ok (.aload_n 0, 1) := by decide +kernel
theorem dX12_order_78 : decode cX12_order 78 = .ok (.getfield 191, 3) := by decide +kernel
theorem dX12_order_81 : decode cX12_order 81 = .ok (.iload_n 2, 1) := by decide +kernel
theorem dX12_order_82 : decode cX12_order 82 = .ok (.iaload, 1) := by decide +kernel
theorem dX12_order_83 : decode cX12_order 83 = .ok (.goto 4, 3) := by decide +kernel
theorem dX12_order_86 : decode cX12_order 86 = .ok (.iconst (-1), 1) := by decide +kernel
theorem dX12_order_87 : decode cX12_order 87 = .ok (.ireturn, 1) := by decide +kernel
theorem dX12_orders_0 : decode cX12_orders 0 = .ok (.iload_n 1, 1) := by decide +kernel
theorem dX12_orders_1 : decode cX12_orders 1 = .ok (.aload_n 0, 1) := by decide +kernel
theorem dX12_orders_2 : decode cX12_orders 2 = .ok (.getfield 553, 3) := by decide +kernel
theorem dX12_orders_5 : decode cX12_orders 5 = .ok (.if_icmp .ne 56, 3) := by decide +kernel
theorem dX12_orders_8 : decode cX12_orders 8 = .ok (.aload_n 0, 1) := by decide +kernel
theorem dX12_orders_9 : decode cX12_orders 9 = .ok (.getfield 556, 3) := by decide +kernel
theorem dX12_orders_12 : decode cX12_orders 12 = .ok (.ifCond .lt 13, 3) := by decide +kernel
theorem dX12_orders_15 : decode cX12_orders 15 = .ok (.iload 6, 2) := by decide +kernel
theorem dX12_orders_17 : decode cX12_orders 17 = .ok (.aload_n 0, 1) := by decide +kernel
theorem dX12_orders_18 : decode cX12_orders 18 = .ok (.getfield 556, 3) := by decide +kernel
theorem dX12_orders_21 : decode cX12_orders 21 = .ok (.if_icmp .lt 4, 3) := by decide +kernel
theorem dX12_orders_24 : decode cX12_orders 24 = .ok (.return_, 1) := by decide +kernel
theorem dX12_orders_25 : decode cX12_orders 25 = .ok (.aload_n 0, 1) := by decide +kernel
theorem dX12_orders_26 : decode cX12_orders 26 = .ok (.iload 6, 2) := by decide +kernel
theorem dX12_orders_28 : decode cX12_orders 28 = .ok (.putfield 556, 3) := by decide +kernel
theorem dX12_orders_31 : decode cX12_orders 31 = .ok (.iconst 0, 1) := by decide +kernel
theorem dX12_orders_32 : decode cX12_orders 32 = .ok (.istore 7, 2) := by decide +kernel
theorem dX12_orders_34 : decode cX12_orders 34 = .ok (.iload 7, 2) := by decide +kernel
theorem dX12_orders_36 : decode cX12_orders 36 = .ok (.iload_n 1, 1) := by decide +kernel
theorem dX12_orders_37 : decode cX12_orders 37 = .ok (.if_icmp .ge 23, 3) := by decide +kernel
theorem dX12_orders_40 : decode cX12_orders 40 = .ok (.aload_n 0, 1) := by decide +kernel
theorem dX12_orders_41 : decode cX12_orders 41 = .ok (.getfield 191, 3) := by decide +kernel
theorem dX12_orders_44 : decode cX12_orders 44 = .ok (.iload 7, 2) := by decide +kernel
theorem dX12_orders_46 : decode cX12_orders 46 = .ok (.aload_n 0, 1) := by decide +kernel
theorem dX12_orders_47 : decode cX12_orders 47 = .ok (.getfield 188, 3) := by decide +kernel
theorem dX12_orders_50 : decode cX12_orders 50 = .ok (.iload 7, 2) := by decide +kernel
theorem dX12_orders_52 : decode cX12_orders 52 = .ok (.iaload, 1) := by decide +kernel
theorem dX12_orders_53 : decode cX12_orders 53 = .ok (.iastore, 1) := by decide +kernel
theorem dX12_orders_54 : decode cX12_orders 54 = .ok (.iinc 7 1, 3) := by decide +kernel
theorem dX12_orders_57 : decode cX12_orders 57 = .ok (.goto (-23), 3) := by decide +kernel
theorem dX12_orders_60 : decode cX12_orders 60 = .ok (.return_, 1) := by decide +kernel
theorem dX12_orders_61 : decode cX12_orders 61 = .ok (.iconst 0, 1) := by decide +kernel
theorem dX12_orders_62 : decode cX12_orders 62 = .ok (.istore 7, 2) := by decide +kernel
theorem dX12_orders_64 : decode cX12_orders 64 = .ok (.iload 7, 2) := by decide +kernel
theorem dX12_orders_66 : decode cX12_orders 66 = .ok (.aload_n 0, 1) := by decide +kernel
theorem dX12_orders_67 : decode cX12_orders 67 = .ok (.getfield 553, 3) := by decide +kernel
theorem dX12_orders_70 : decode cX12_orders 70 = .ok (.if_icmp .ge 161, 3) := by decide +kernel
theorem dX12_orders_73 : decode cX12_orders 73 = .ok (.iload_n 2, 1) := by decide +kernel
theorem dX12_orders_74 : decode cX12_orders 74 = .ok (.iload 7, 2) := by decide +kernel
theorem dX12_orders_76 : decode cX12_orders 76 = .ok (.ishr, 1) := by decide +kernel
theorem dX12_orders_77 : decode cX12_orders 77 = .ok (.iconst 1, 1) := by decide +kernel
theorem dX12_orders_78 : decode cX12_orders 78 = .ok (.iand, 1) := by decide +kernel
theorem dX12_orders_79 : decode cX12_orders 79 = .ok (.iconst 1, 1) := by decide +kernel
theorem dX12_orders_80 : decode cX12_orders 80 = .ok (.if_icmp .ne 6, 3) := by decide +kernel
theorem dX12_orders_83 : decode cX12_orders 83 = .ok (.goto 142, 3) := by decide +kernel
theorem dX12_orders_86 : decode cX12_orders 86 = .ok (.iload_n 3, 1) := by decide +kernel
theorem dX12_orders_87 : decode cX12_orders 87 = .ok (.istore 8, 2) := by decide +kernel
theorem dX12_orders_89 : decode cX12_orders 89 = .ok (.iload 4, 2) := by decide +kernel
theorem dX12_orders_91 : decode cX12_orders 91 = .ok (.istore 9, 2) := by decide +kernel
theorem dX12_orders_93 : decode cX12_orders 93 = .ok (.iload 9, 2) := by decide +kernel
theorem dX12_orders_95 : decode cX12_orders 95 = .ok (.aload_n 0, 1) := by decide +kernel
theorem dX12_orders_96 : decode cX12_orders 96 = .ok (.getfield 176, 3) := by decide +kernel
theorem dX12_orders_99 : decode cX12_orders 99 = .ok (.iload 7, 2) := by decide +kernel
theorem dX12_orders_101 : decode cX12_orders 101 = .ok (.iaload, 1) := by decide +kernel
theorem dX12_orders_102 : decode cX12_orders 102 = .ok (.if_icmp .ge 24, 3) := by decide +kernel
theorem dX12_orders_105 : decode cX12_orders 105 = .ok (.iload 8, 2) := by decide +kernel
theorem dX12_orders_107 : decode cX12_orders 107 = .ok (.sipush 200, 3) := by decide +kernel
theorem dX12_orders_110 : decode cX12_orders 110 = .ok (.if_icmp .gt 16, 3) := by decide +kernel
theorem dX12_orders_113 : decode cX12_orders 113 = .ok (.iinc 8 1, 3) := by decide +kernel
theorem dX12_orders_116 : decode cX12_orders 116 = .ok (.iload 9, 2) := by decide +kernel
theorem dX12_orders_118 : decode cX12_orders 118 = .ok (.iload 5, 2) := by decide +kernel
theorem dX12_orders_120 : decode cX12_orders 120 = .ok (.iadd, 1) := by decide +kernel
theorem dX12_orders_121 : decode cX12_orders 121 = .ok (.istore 9, 2) := by decide +kernel
theorem dX12_orders_123 : decode cX12_orders 123 = .ok (.goto (-30), 3) := by decide +kernel
theorem dX12_orders_126 : decode cX12_orders 126 = .ok (.iload 9, 2) := by decide +kernel
theorem dX12_orders_128 : decode cX12_orders 128 = .ok (.aload_n 0, 1) := by decide +kernel
theorem dX12_orders_129 : decode cX12_orders 129 = .ok (.getfield 176, 3) := by decide +kernel
theorem dX12_orders_132 : decode cX12_orders 132 = .ok (.iload 7, 2) := by decide +kernel
theorem dX12_orders_134 : decode cX12_orders 134 = .ok (.iaload, 1) := by decide +kernel
theorem dX12_orders_135 : decode cX12_orders 135 = .ok (.isub, 1) := by decide +kernel
theorem dX12_orders_136 : decode cX12_orders 136 = .ok (.istore 9, 2) := by decide +kernel
theorem dX12_orders_138 : decode cX12_orders 138 = .ok (.iload 8, 2) := by decide +kernel
theorem dX12_orders_140 : decode cX12_orders 140 = .ok (.aload_n 0, 1) := by decide +kernel
theorem dX12_orders_141 : decode cX12_orders 141 = .ok (.getfield 179, 3) := by decide +kernel
theorem dX12_orders_144 : decode cX12_orders 144 = .ok (.iload 7, 2) := by decide +kernel
theorem dX12_orders_146 : decode cX12_orders 146 = .ok (.iaload, 1) := by decide +kernel
theorem dX12_orders_147 : decode cX12_orders 147 = .ok (.iadd, 1) := by decide +kernel
theorem dX12_orders_148 : decode cX12_orders 148 = .ok (.istore 8, 2) := by decide +kernel
theorem dX12_orders_150 : decode cX12_orders 150 = .ok (.iload 9, 2) := by decide +kernel
theorem dX12_orders_152 : decode cX12_orders 152 = .ok (.ifCond .lt 73, 3) := by decide +kernel
theorem dX12_orders_155 : decode cX12_orders 155 = .ok (.iload 8, 2) := by decide +kernel
theorem dX12_orders_157 : decode cX12_orders 157 = .ok (.sipush 200, 3) := by decide +kernel
theorem dX12_orders_160 : decode cX12_orders 160 = .ok (.if_icmp .le 6, 3) := by decide +kernel
theorem dX12_orders_163 : decode cX12_orders 163 = .ok (.goto 62, 3) := by decide +kernel
theorem dX12_orders_166 : decode cX12_orders 166 = .ok (.aload_n 0, 1) := by decide +kernel
theorem dX12_orders_167 : decode cX12_orders 167 = .ok (.getfield 188, 3) := by decide +kernel
theorem dX12_orders_170 : decode cX12_orders 170 = .ok (.iload_n 1, 1) := by decide +kernel
theorem dX12_orders_171 : decode cX12_orders 171 = .ok (.iload 7, 2) := by decide +kernel
theorem dX12_orders_173 : decode cX12_orders 173 = .ok (.iastore, 1) := by decide +kernel
theorem dX12_orders_174 : decode cX12_orders 174 = .ok (.aload_n 0, 1) := by decide +kernel
theorem dX12_orders_175 : decode cX12_orders 175 = .ok (.iload_n 1, 1) := by decide +kernel
theorem dX12_orders_176 : decode cX12_orders 176 = .ok (.iconst 1, 1) := by decide +kernel
theorem dX12_orders_177 : decode cX12_orders 177 = .ok (.iadd, 1) := by decide +kernel
theorem dX12_orders_178 : decode cX12_orders 178 = .ok (.iload_n 2, 1) := by decide +kernel
theorem dX12_orders_179 : decode cX12_orders 179 = .ok (.iconst 1, 1) := by decide +kernel
theorem dX12_orders_180 : decode cX12_orders 180 = .ok (.iload 7, 2) := by decide +kernel
theorem dX12_orders_182 : decode cX12_orders 182 = .ok (.ishl, 1) := by decide +kernel
theorem dX12_orders_183 : decode cX12_orders 183 = .ok (.ior, 1) := by decide +kernel
theorem dX12_orders_184 : decode cX12_orders 184 = .ok (.iload 8, 2) := by decide +kernel
theorem dX12_orders_186 : decode cX12_orders 186 = .ok (.iload 9, 2) := by decide +kernel
theorem dX12_orders_188 : decode cX12_orders 188 = .ok (.iload 5, 2) := by decide +kernel
theorem dX12_orders_190 : decode cX12_orders 190 = .ok (.aload_n 0, 1) := by decide +kernel
theorem dX12_orders_191 : decode cX12_orders 191 = .ok (.getfield 179, 3) := by decide +kernel
theorem dX12_orders_194 : decode cX12_orders 194 = .ok (.iload 7, 2) := by decide +kernel
theorem dX12_orders_196 : decode cX12_orders 196 = .ok (.iaload, 1) := by decide +kernel
theorem dX12_orders_197 : decode cX12_orders 197 = .ok (.imul, 1) := by decide +kernel
theorem dX12_orders_198 : decode cX12_orders 198 = .ok (.iadd, 1) := by decide +kernel
theorem dX12_orders_199 : decode cX12_orders 199 = .ok (.iload 5, 2) := by decide +kernel
theorem dX12_orders_201 : decode cX12_orders 201 = .ok (.aload_n 0, 1) := by decide +kernel
theorem dX12_orders_202 : decode cX12_orders 202 = .ok (.getfield 182, 3) := by decide +kernel
theorem dX12_orders_205 : decode cX12_orders 205 = .ok (.iload 7, 2) := by decide +kernel
theorem dX12_orders_207 : decode cX12_orders 207 = .ok (.iaload, 1) := by decide +kernel
theorem dX12_orders_208 : decode cX12_orders 208 = .ok (.iadd, 1) := by decide +kernel
theorem dX12_orders_209 : decode cX12_orders 209 = .ok (.iload 6, 2) := by decide +kernel
theorem dX12_orders_211 : decode cX12_orders 211 = .ok (.aload_n 0, 1) := by decide +kernel
theorem dX12_orders_212 : decode cX12_orders 212 = .ok (.getfield 185, 3) := by decide +kernel
theorem dX12_orders_215 : decode cX12_orders 215 = .ok (.iload 7, 2) := by decide +kernel
theorem dX12_orders_217 : decode cX12_orders 217 = .ok (.iaload, 1) := by decide +kernel
theorem dX12_orders_218 : decode cX12_orders 218 = .ok (.iload 8, 2) := by decide +kernel
theorem dX12_orders_220 : decode cX12_orders 220 = .ok (.imul, 1) := by decide +kernel
theorem dX12_orders_221 : decode cX12_orders 221 = .ok (.iadd, 1) := by decide +kernel
theorem dX12_orders_222 : decode cX12_orders 222 = .ok (.invokevirtual 559, 3) := by decide +kernel
theorem dX12_orders_225 : decode cX12_orders 225 = .ok (.iinc 7 1, 3) := by decide +kernel
theorem dX12_orders_228 : decode cX12_orders 228 = .ok (.goto (-164), 3) := by decide +kernel
theorem dX12_orders_231 : decode cX12_orders 231 = .ok (.return_, 1) := by decide +kernel
theorem dX12_jobs_0 : decode cX12_jobs 0 = .ok (.aload_n 0, 1) := by decide +kernel
theorem dX12_jobs_1 : decode cX12_jobs 1 = .ok (.iconst 0, 1) := by decide +kernel
theorem dX12_jobs_2 : decode cX12_jobs 2 = .ok (.putfield 194, 3) := by decide +kernel
theorem dX12_jobs_5 : decode cX12_jobs 5 = .ok (.aload_n 0, 1) := by decide +kernel
theorem dX12_jobs_6 : decode cX12_jobs 6 = .ok (.getfield 553, 3) := by decide +kernel
theorem dX12_jobs_9 : decode cX12_jobs 9 = .ok (.istore_n 1, 1) := by decide +kernel
theorem dX12_jobs_10 : decode cX12_jobs 10 = .ok (.aload_n 0, 1) := by decide +kernel
theorem dX12_jobs_11 : decode cX12_jobs 11 = .ok (.iconst 0, 1) := by decide +kernel
theorem dX12_jobs_12 : decode cX12_jobs 12 = .ok (.putfield 553, 3) := by decide +kernel
theorem dX12_jobs_15 : decode cX12_jobs 15 = .ok (.iload_n 1, 1) := by decide +kernel
theorem dX12_jobs_16 : decode cX12_jobs 16 = .ok (.ireturn, 1) := by decide +kernel
theorem dX12_row_0 : decode cX12_row 0 = .ok (.aload_n 0, 1) := by decide +kernel
theorem dX12_row_1 : decode cX12_row 1 = .ok (.iconst 0, 1) := by decide +kernel
theorem dX12_row_2 : decode cX12_row 2 = .ok (.putfield 194, 3) := by decide +kernel
theorem dX12_row_5 : decode cX12_row 5 = .ok (.aload_n 0, 1) := by decide +kernel
theorem dX12_row_6 : decode cX12_row 6 = .ok (.iload_n 2, 1) := by decide +kernel
theorem dX12_row_7 : decode cX12_row 7 = .ok (.invokestatic 220, 3) := by decide +kernel
theorem dX12_row_10 : decode cX12_row 10 = .ok (.iconst 1, 1) := by decide +kernel
theorem dX12_row_11 : decode cX12_row 11 = .ok (.invokevirtual 224, 3) := by decide +kernel
theorem dX12_row_14 : decode cX12_row 14 = .ok (.ifCond .ne 30, 3) := by decide +kernel
theorem dX12_row_17 : decode cX12_row 17 = .ok (.aload_n 0, 1) := by decide +kernel
theorem dX12_row_18 : decode cX12_row 18 = .ok (.iload_n 1, 1) := by decide +kernel
theorem dX12_row_19 : decode cX12_row 19 = .ok (.iconst 0, 1) := by decide +kernel
theorem dX12_row_20 : decode cX12_row 20 = .ok (.aload_n 0, 1) := by decide +kernel
theorem dX12_row_21 : decode cX12_row 21 = .ok (.getfield 238, 3) := by decide +kernel
theorem dX12_row_24 : decode cX12_row 24 = .ok (.iconst 1, 1) := by decide +kernel
theorem dX12_row_25 : decode cX12_row 25 = .ok (.isub, 1) := by decide +kernel
theorem dX12_row_26 : decode cX12_row 26 = .ok (.invokestatic 197, 3) := by decide +kernel
theorem dX12_row_29 : decode cX12_row 29 = .ok (.ifCond .ne 7, 3) := by decide +kernel
theorem dX12_row_32 : decode cX12_row 32 = .ok (.iconst 1, 1) := by decide +kernel
theorem dX12_row_33 : decode cX12_row 33 = .ok (.goto 4, 3) := by decide +kernel
theorem dX12_row_36 : decode cX12_row 36 = .ok (.iconst 0, 1) := by decide +kernel
theorem dX12_row_37 : decode cX12_row 37 = .ok (.iconst 2, 1) := by decide +kernel
theorem dX12_row_38 : decode cX12_row 38 = .ok (.invokevirtual 224, 3) := by decide +kernel
theorem dX12_row_41 : decode cX12_row 41 = .ok (.ifCond .eq 7, 3) := by decide +kernel
theorem dX12_row_44 : decode cX12_row 44 = .ok (.iconst 0, 1) := by decide +kernel
theorem dX12_row_45 : decode cX12_row 45 = .ok (.goto 14, 3) := by decide +kernel
theorem dX12_row_48 : decode cX12_row 48 = .ok (.aload_n 0, 1) := by decide +kernel
theorem dX12_row_49 : decode cX12_row 49 = .ok (.getfield 25, 3) := by decide +kernel
theorem dX12_row_52 : decode cX12_row 52 = .ok (.bipush 96, 2) := by decide +kernel
theorem dX12_row_54 : decode cX12_row 54 = .ok (.iload_n 1, 1) := by decide +kernel
theorem dX12_row_55 : decode cX12_row 55 = .ok (.imul, 1) := by decide +kernel
theorem dX12_row_56 : decode cX12_row 56 = .ok (.iload_n 2, 1) := by decide +kernel
theorem dX12_row_57 : decode cX12_row 57 = .ok (.iadd, 1) := by decide +kernel
theorem dX12_row_58 : decode cX12_row 58 = .ok (.iaload, 1) := by decide +kernel
theorem dX12_row_59 : decode cX12_row 59 = .ok (.ireturn, 1) := by decide +kernel
theorem dX12_tear_0 : decode cX12_tear 0 = .ok (.aload_n 0, 1) := by decide +kernel
theorem dX12_tear_1 : decode cX12_tear 1 = .ok (.iconst 0, 1) := by decide +kernel
theorem dX12_tear_2 : decode cX12_tear 2 = .ok (.putfield 194, 3) := by decide +kernel
theorem dX12_tear_5 : decode cX12_tear 5 = .ok (.aload_n 0, 1) := by decide +kernel
theorem dX12_tear_6 : decode cX12_tear 6 = .ok (.iload_n 2, 1) := by decide +kernel
theorem dX12_tear_7 : decode cX12_tear 7 = .ok (.invokestatic 220, 3) := by decide +kernel
theorem dX12_tear_10 : decode cX12_tear 10 = .ok (.iconst 1, 1) := by decide +kernel
theorem dX12_tear_11 : decode cX12_tear 11 = .ok (.invokevirtual 224, 3) := by decide +kernel
theorem dX12_tear_14 : decode cX12_tear 14 = .ok (.ifCond .ne 30, 3) := by decide +kernel
theorem dX12_tear_17 : decode cX12_tear 17 = .ok (.aload_n 0, 1) := by decide +kernel
theorem dX12_tear_18 : decode cX12_tear 18 = .ok (.iload_n 1, 1) := by decide +kernel
theorem dX12_tear_19 : decode cX12_tear 19 = .ok (.iconst 0, 1) := by decide +kernel
theorem dX12_tear_20 : decode cX12_tear 20 = .ok (.aload_n 0, 1) := by decide +kernel
theorem dX12_tear_21 : decode cX12_tear 21 = .ok (.getfield 238, 3) := by decide +kernel
theorem dX12_tear_24 : decode cX12_tear 24 = .ok (.iconst 1, 1) := by decide +kernel
theorem dX12_tear_25 : decode cX12_tear 25 = .ok (.isub, 1) := by decide +kernel
theorem dX12_tear_26 : decode cX12_tear 26 = .ok (.invokestatic 197, 3) := by decide +kernel
theorem dX12_tear_29 : decode cX12_tear 29 = .ok (.ifCond .ne 7, 3) := by decide +kernel
theorem dX12_tear_32 : decode cX12_tear 32 = .ok (.iconst 1, 1) := by decide +kernel
theorem dX12_tear_33 : decode cX12_tear 33 = .ok (.goto 4, 3) := by decide +kernel
theorem dX12_tear_36 : decode cX12_tear 36 = .ok (.iconst 0, 1) := by decide +kernel
theorem dX12_tear_37 : decode cX12_tear 37 = .ok (.iconst 2, 1) := by decide +kernel
theorem dX12_tear_38 : decode cX12_tear 38 = .ok (.invokevirtual 224, 3) := by decide +kernel
theorem dX12_tear_41 : decode cX12_tear 41 = .ok (.ifCond .eq 5, 3) := by decide +kernel
theorem dX12_tear_44 : decode cX12_tear 44 = .ok (.iconst 0, 1) := by decide +kernel
theorem dX12_tear_45 : decode cX12_tear 45 = .ok (.ireturn, 1) := by decide +kernel
theorem dX12_tear_46 : decode cX12_tear 46 = .ok (.aload_n 0, 1) := by decide +kernel
theorem dX12_tear_47 : decode cX12_tear 47 = .ok (.getfield 25, 3) := by decide +kernel
theorem dX12_tear_50 : decode cX12_tear 50 = .ok (.bipush 96, 2) := by decide +kernel
theorem dX12_tear_52 : decode cX12_tear 52 = .ok (.iload_n 1, 1) := by decide +kernel
theorem dX12_tear_53 : decode cX12_tear 53 = .ok (.imul, 1) := by decide +kernel
theorem dX12_tear_54 : decode cX12_tear 54 = .ok (.iload_n 2, 1) := by decide +kernel
theorem dX12_tear_55 : decode cX12_tear 55 = .ok (.iadd, 1) := by decide +kernel
theorem dX12_tear_56 : decode cX12_tear 56 = .ok (.dup2, 1) := by decide +kernel
theorem dX12_tear_57 : decode cX12_tear 57 = .ok (.iaload, 1) := by decide +kernel
theorem dX12_tear_58 : decode cX12_tear 58 = .ok (.iload_n 3, 1) := by decide +kernel
theorem dX12_tear_59 : decode cX12_tear 59 = .ok (.ixor, 1) := by decide +kernel
theorem dX12_tear_60 : decode cX12_tear 60 = .ok (.iastore, 1) := by decide +kernel
theorem dX12_tear_61 : decode cX12_tear 61 = .ok (.aload_n 0, 1) := by decide +kernel
theorem dX12_tear_62 : decode cX12_tear 62 = .ok (.getfield 25, 3) := by decide +kernel
theorem dX12_tear_65 : decode cX12_tear 65 = .ok (.bipush 96, 2) := by decide +kernel
theorem dX12_tear_67 : decode cX12_tear 67 = .ok (.iload_n 1, 1) := by decide +kernel
theorem dX12_tear_68 : decode cX12_tear 68 = .ok (.imul, 1) := by decide +kernel
theorem dX12_tear_69 : decode cX12_tear 69 = .ok (.iload_n 2, 1) := by decide +kernel
theorem dX12_tear_70 : decode cX12_tear 70 = .ok (.iadd, 1) := by decide +kernel
theorem dX12_tear_71 : decode cX12_tear 71 = .ok (.iaload, 1) := by decide +kernel
theorem dX12_tear_72 : decode cX12_tear 72 = .ok (.ireturn, 1) := by decide +kernel
theorem dX12_check_0 : decode cX12_check 0 = .ok (.aload_n 0, 1) := by decide +kernel
theorem dX12_check_1 : decode cX12_check 1 = .ok (.iconst 0, 1) := by decide +kernel
theorem dX12_check_2 : decode cX12_check 2 = .ok (.putfield 194, 3) := by decide +kernel
theorem dX12_check_5 : decode cX12_check 5 = .ok (.iconst 0, 1) := by decide +kernel
theorem dX12_check_6 : decode cX12_check 6 = .ok (.istore_n 1, 1) := by decide +kernel
theorem dX12_check_7 : decode cX12_check 7 = .ok (.iload_n 1, 1) := by decide +kernel
theorem dX12_check_8 : decode cX12_check 8 = .ok (.bipush 96, 2) := by decide +kernel
theorem dX12_check_10 : decode cX12_check 10 = .ok (.aload_n 0, 1) := by decide +kernel
theorem dX12_check_11 : decode cX12_check 11 = .ok (.getfield 238, 3) := by decide +kernel
theorem dX12_check_14 : decode cX12_check 14 = .ok (.imul, 1) := by decide +kernel
theorem dX12_check_15 : decode cX12_check 15 = .ok (.if_icmp .ge 26, 3) := by decide +kernel
theorem dX12_check_18 : decode cX12_check 18 = .ok (.aload_n 0, 1) := by decide +kernel
theorem dX12_check_19 : decode cX12_check 19 = .ok (.getfield 25, 3) := by decide +kernel
theorem dX12_check_22 : decode cX12_check 22 = .ok (.iload_n 1, 1) := by decide +kernel
theorem dX12_check_23 : decode cX12_check 23 = .ok (.iaload, 1) := by decide +kernel
theorem dX12_check_24 : decode cX12_check 24 = .ok (.aload_n 0, 1) := by decide +kernel
theorem dX12_check_25 : decode cX12_check 25 = .ok (.getfield 28, 3) := by decide +kernel
theorem dX12_check_28 : decode cX12_check 28 = .ok (.iload_n 1, 1) := by decide +kernel
theorem dX12_check_29 : decode cX12_check 29 = .ok (.iaload, 1) := by decide +kernel
theorem dX12_check_30 : decode cX12_check 30 = .ok (.if_icmp .eq 5, 3) := by decide +kernel
theorem dX12_check_33 : decode cX12_check 33 = .ok (.iload_n 1, 1) := by decide +kernel
theorem dX12_check_34 : decode cX12_check 34 = .ok (.ireturn, 1) := by decide +kernel
theorem dX12_check_35 : decode cX12_check 35 = .ok (.iinc 1 1, 3) := by decide +kernel
theorem dX12_check_38 : decode cX12_check 38 = .ok (.goto (-31), 3) := by decide +kernel
theorem dX12_check_41 : decode cX12_check 41 = .ok (.iconst (-1), 1) := by decide +kernel
theorem dX12_check_42 : decode cX12_check 42 = .ok (.ireturn, 1) := by decide +kernel
theorem dX12_keep_0 : decode cX12_keep 0 = .ok (.aload_n 0, 1) := by decide +kernel
theorem dX12_keep_1 : decode cX12_keep 1 = .ok (.iconst 0, 1) := by decide +kernel
theorem dX12_keep_2 : decode cX12_keep 2 = .ok (.putfield 194, 3) := by decide +kernel
theorem dX12_keep_5 : decode cX12_keep 5 = .ok (.aload_n 0, 1) := by decide +kernel
theorem dX12_keep_6 : decode cX12_keep 6 = .ok (.invokevirtual 228, 3) := by decide +kernel
theorem dX12_keep_9 : decode cX12_keep 9 = .ok (.ifCond .ne 5, 3) := by decide +kernel
theorem dX12_keep_12 : decode cX12_keep 12 = .ok (.iconst 0, 1) := by decide +kernel
theorem dX12_keep_13 : decode cX12_keep 13 = .ok (.ireturn, 1) := by decide +kernel
theorem dX12_keep_14 : decode cX12_keep 14 = .ok (.iconst 0, 1) := by decide +kernel
theorem dX12_keep_15 : decode cX12_keep 15 = .ok (.istore_n 1, 1) := by decide +kernel
theorem dX12_keep_16 : decode cX12_keep 16 = .ok (.iload_n 1, 1) := by decide +kernel
theorem dX12_keep_17 : decode cX12_keep 17 = .ok (.sipush 1749, 3) := by decide +kernel
theorem dX12_keep_20 : decode cX12_keep 20 = .ok (.if_icmp .ge 21, 3) := by decide +kernel
theorem dX12_keep_23 : decode cX12_keep 23 = .ok (.aload_n 0, 1) := by decide +kernel
theorem dX12_keep_24 : decode cX12_keep 24 = .ok (.getfield 13, 3) := by decide +kernel
theorem dX12_keep_27 : decode cX12_keep 27 = .ok (.iload_n 1, 1) := by decide +kernel
theorem dX12_keep_28 : decode cX12_keep 28 = .ok (.aload_n 0, 1) := by decide +kernel
theorem dX12_keep_29 : decode cX12_keep 29 = .ok (.getfield 9, 3) := by decide +kernel
theorem dX12_keep_32 : decode cX12_keep 32 = .ok (.iload_n 1, 1) := by decide +kernel
theorem dX12_keep_33 : decode cX12_keep 33 = .ok (.iaload, 1) := by decide +kernel
theorem dX12_keep_34 : decode cX12_keep 34 = .ok (.iastore, 1) := by decide +kernel
theorem dX12_keep_35 : decode cX12_keep 35 = .ok (.iinc 1 1, 3) := by decide +kernel
theorem dX12_keep_38 : decode cX12_keep 38 = .ok (.goto (-22), 3) := by decide +kernel
theorem dX12_keep_41 : decode cX12_keep 41 = .ok (.aload_n 0, 1) := by decide +kernel
theorem dX12_keep_42 : decode cX12_keep 42 = .ok (.iconst 1, 1) := by decide +kernel
theorem dX12_keep_43 : decode cX12_keep 43 = .ok (.putfield 325, 3) := by decide +kernel
theorem dX12_keep_46 : decode cX12_keep 46 = .ok (.iconst 1, 1) := by decide +kernel
theorem dX12_keep_47 : decode cX12_keep 47 = .ok (.ireturn, 1) := by decide +kernel
theorem dX12_back_0 : decode cX12_back 0 = .ok (.aload_n 0, 1) := by decide +kernel
theorem dX12_back_1 : decode cX12_back 1 = .ok (.iconst 0, 1) := by decide +kernel
theorem dX12_back_2 : decode cX12_back 2 = .ok (.putfield 194, 3) := by decide +kernel
theorem dX12_back_5 : decode cX12_back 5 = .ok (.aload_n 0, 1) := by decide +kernel
theorem dX12_back_6 : decode cX12_back 6 = .ok (.getfield 325, 3) := by decide +kernel
theorem dX12_back_9 : decode cX12_back 9 = .ok (.ifCond .eq 18, 3) := by decide +kernel
theorem dX12_back_12 : decode cX12_back 12 = .ok (.aload_n 0, 1) := by decide +kernel
theorem dX12_back_13 : decode cX12_back 13 = .ok (.getfield 13, 3) := by decide +kernel
theorem dX12_back_16 : decode cX12_back 16 = .ok (.sipush 1429, 3) := by decide +kernel
theorem dX12_back_19 : decode cX12_back 19 = .ok (.iaload, 1) := by decide +kernel
theorem dX12_back_20 : decode cX12_back 20 = .ok (.aload_n 0, 1) := by decide +kernel
theorem dX12_back_21 : decode cX12_back 21 = .ok (.invokevirtual 228, 3) := by decide +kernel
theorem dX12_back_24 : decode cX12_back 24 = .ok (.if_icmp .le 5, 3) := by decide +kernel
theorem dX12_back_27 : decode cX12_back 27 = .ok (.iconst 0, 1) := by decide +kernel
theorem dX12_back_28 : decode cX12_back 28 = .ok (.ireturn, 1) := by decide +kernel
theorem dX12_back_29 : decode cX12_back 29 = .ok (.iconst 0, 1) := by decide +kernel
theorem dX12_back_30 : decode cX12_back 30 = .ok (.istore_n 1, 1) := by decide +kernel
theorem dX12_back_31 : decode cX12_back 31 = .ok (.iload_n 1, 1) := by decide +kernel
theorem dX12_back_32 : decode cX12_back 32 = .ok (.sipush 1749, 3) := by decide +kernel
theorem dX12_back_35 : decode cX12_back 35 = .ok (.if_icmp .ge 21, 3) := by decide +kernel
theorem dX12_back_38 : decode cX12_back 38 = .ok (.aload_n 0, 1) := by decide +kernel
theorem dX12_back_39 : decode cX12_back 39 = .ok (.getfield 9, 3) := by decide +kernel
theorem dX12_back_42 : decode cX12_back 42 = .ok (.iload_n 1, 1) := by decide +kernel
theorem dX12_back_43 : decode cX12_back 43 = .ok (.aload_n 0, 1) := by decide +kernel
theorem dX12_back_44 : decode cX12_back 44 = .ok (.getfield 13, 3) := by decide +kernel
theorem dX12_back_47 : decode cX12_back 47 = .ok (.iload_n 1, 1) := by decide +kernel
theorem dX12_back_48 : decode cX12_back 48 = .ok (.iaload, 1) := by decide +kernel
theorem dX12_back_49 : decode cX12_back 49 = .ok (.iastore, 1) := by decide +kernel
theorem dX12_back_50 : decode cX12_back 50 = .ok (.iinc 1 1, 3) := by decide +kernel
theorem dX12_back_53 : decode cX12_back 53 = .ok (.goto (-22), 3) := by decide +kernel
theorem dX12_back_56 : decode cX12_back 56 = .ok (.aload_n 0, 1) := by decide +kernel
theorem dX12_back_57 : decode cX12_back 57 = .ok (.iconst 0, 1) := by decide +kernel
theorem dX12_back_58 : decode cX12_back 58 = .ok (.putfield 238, 3) := by decide +kernel
theorem dX12_back_61 : decode cX12_back 61 = .ok (.iconst 1, 1) := by decide +kernel
theorem dX12_back_62 : decode cX12_back 62 = .ok (.ireturn, 1) := by decide +kernel
theorem dX12_count_0 : decode cX12_count 0 = .ok (.aload_n 0, 1) := by decide +kernel
theorem dX12_count_1 : decode cX12_count 1 = .ok (.iconst 0, 1) := by decide +kernel
theorem dX12_count_2 : decode cX12_count 2 = .ok (.putfield 194, 3) := by decide +kernel
theorem dX12_count_5 : decode cX12_count 5 = .ok (.iconst 0, 1) := by decide +kernel
theorem dX12_count_6 : decode cX12_count 6 = .ok (.istore_n 2, 1) := by decide +kernel
theorem dX12_count_7 : decode cX12_count 7 = .ok (.iload_n 1, 1) := by decide +kernel
theorem dX12_count_8 : decode cX12_count 8 = .ok (.tableswitch 266 0 17 #[88, 93, 101, 110, 150, 158, 166, 173, 178, 183, 188, 193, 220, 225, 234, 243, 252, 261], 88) := by decide +kernel
theorem dX12_count_96 : decode cX12_count 96 = .ok (.aload_n 0, 1) := by decide +kernel
theorem dX12_count_97 : decode cX12_count 97 = .ok (.invokevirtual 228, 3) := by decide +kernel
theorem dX12_count_100 : decode cX12_count 100 = .ok (.ireturn, 1) := by decide +kernel
theorem dX12_count_101 : decode cX12_count 101 = .ok (.aload_n 0, 1) := by decide +kernel
theorem dX12_count_102 : decode cX12_count 102 = .ok (.invokevirtual 228, 3) := by decide +kernel
theorem dX12_count_105 : decode cX12_count 105 = .ok (.bipush 24, 2) := by decide +kernel
theorem dX12_count_107 : decode cX12_count 107 = .ok (.idiv, 1) := by decide +kernel
theorem dX12_count_108 : decode cX12_count 108 = .ok (.ireturn, 1) := by decide +kernel
theorem dX12_count_109 : decode cX12_count 109 = .ok (.aload_n 0, 1) := by decide +kernel
theorem dX12_count_110 : decode cX12_count 110 = .ok (.getfield 9, 3) := by decide +kernel
theorem dX12_count_113 : decode cX12_count 113 = .ok (.sipush 1428, 3) := by decide +kernel
theorem dX12_count_116 : decode cX12_count 116 = .ok (.iaload, 1) := by decide +kernel
theorem dX12_count_117 : decode cX12_count 117 = .ok (.ireturn, 1) := by decide +kernel
theorem dX12_count_118 : decode cX12_count 118 = .ok (.iconst 0, 1) := by decide +kernel
theorem dX12_count_119 : decode cX12_count 119 = .ok (.istore_n 3, 1) := by decide +kernel
theorem dX12_count_120 : decode cX12_count 120 = .ok (.iload_n 3, 1) := by decide +kernel
theorem dX12_count_121 : decode cX12_count 121 = .ok (.aload_n 0, 1) := by decide +kernel
theorem dX12_count_122 : decode cX12_count 122 = .ok (.getfield 9, 3) := by decide +kernel
theorem dX12_count_125 : decode cX12_count 125 = .ok (.sipush 1428, 3) := by decide +kernel
theorem dX12_count_128 : decode cX12_count 128 = .ok (.iaload, 1) := by decide +kernel
theorem dX12_count_129 : decode cX12_count 129 = .ok (.if_icmp .ge 27, 3) := by decide +kernel
theorem dX12_count_132 : decode cX12_count 132 = .ok (.iload_n 2, 1) := by decide +kernel
theorem dX12_count_133 : decode cX12_count 133 = .ok (.aload_n 0, 1) := by decide +kernel
theorem dX12_count_134 : decode cX12_count 134 = .ok (.iload_n 3, 1) := by decide +kernel
theorem dX12_count_135 : decode cX12_count 135 = .ok (.iconst 0, 1) := by decide +kernel
theorem dX12_count_136 : decode cX12_count 136 = .ok (.invokevirtual 217, 3) := by decide +kernel
theorem dX12_count_139 : decode cX12_count 139 = .ok (.iconst 1, 1) := by decide +kernel
theorem dX12_count_140 : decode cX12_count 140 = .ok (.if_icmp .ne 7, 3) := by decide +kernel
theorem dX12_count_143 : decode cX12_count 143 = .ok (.iconst 1, 1) := by decide +kernel
theorem dX12_count_144 : decode cX12_count 144 = .ok (.goto 4, 3) := by decide +kernel
theorem dX12_count_147 : decode cX12_count 147 = .ok (.iconst 0, 1) := by decide +kernel
theorem dX12_count_148 : decode cX12_count 148 = .ok (.iadd, 1) := by decide +kernel
theorem dX12_count_149 : decode cX12_count 149 = .ok (.istore_n 2, 1) := by decide +kernel
theorem dX12_count_150 : decode cX12_count 150 = .ok (.iinc 3 1, 3) := by decide +kernel
theorem dX12_count_153 : decode cX12_count 153 = .ok (.goto (-33), 3) := by decide +kernel
theorem dX12_count_156 : decode cX12_count 156 = .ok (.iload_n 2, 1) := by decide +kernel
theorem dX12_count_157 : decode cX12_count 157 = .ok (.ireturn, 1) := by decide +kernel
theorem dX12_count_158 : decode cX12_count 158 = .ok (.aload_n 0, 1) := by decide +kernel
theorem dX12_count_159 : decode cX12_count 159 = .ok (.sipush 384, 3) := by decide +kernel
theorem dX12_count_162 : decode cX12_count 162 = .ok (.invokevirtual 563, 3) := by decide +kernel
theorem dX12_count_165 : decode cX12_count 165 = .ok (.ireturn, 1) := by decide +kernel
theorem dX12_count_166 : decode cX12_count 166 = .ok (.aload_n 0, 1) := by decide +kernel
theorem dX12_count_167 : decode cX12_count 167 = .ok (.sipush 480, 3) := by decide +kernel
theorem dX12_count_170 : decode cX12_count 170 = .ok (.invokevirtual 563, 3) := by decide +kernel
theorem dX12_count_173 : decode cX12_count 173 = .ok (.ireturn, 1) := by decide +kernel
theorem dX12_count_174 : decode cX12_count 174 = .ok (.aload_n 0, 1) := by decide +kernel
theorem dX12_count_175 : decode cX12_count 175 = .ok (.getfield 42, 3) := by decide +kernel
theorem dX12_count_178 : decode cX12_count 178 = .ok (.iconst 0, 1) := by decide +kernel
theorem dX12_count_179 : decode cX12_count 179 = .ok (.iaload, 1) := by decide +kernel
theorem dX12_count_180 : decode cX12_count 180 = .ok (.ireturn, 1) := by decide +kernel
theorem dX12_count_181 : decode cX12_count 181 = .ok (.aload_n 0, 1) := by decide +kernel
theorem dX12_count_182 : decode cX12_count 182 = .ok (.getfield 495, 3) := by decide +kernel
theorem dX12_count_185 : decode cX12_count 185 = .ok (.ireturn, 1) := by decide +kernel
theorem dX12_count_186 : decode cX12_count 186 = .ok (.aload_n 0, 1) := by decide +kernel
theorem dX12_count_187 : decode cX12_count 187 = .ok (.invokevirtual 460, 3) := by decide +kernel
theorem dX12_count_190 : decode cX12_count 190 = .ok (.ireturn, 1) := by decide +kernel
theorem dX12_count_191 : decode cX12_count 191 = .ok (.aload_n 0, 1) := by decide +kernel
theorem dX12_count_192 : decode cX12_count 192 = .ok (.getfield 498, 3) := by decide +kernel
theorem dX12_count_195 : decode cX12_count 195 = .ok (.ireturn, 1) := by decide +kernel
theorem dX12_count_196 : decode cX12_count 196 = .ok (.aload_n 0, 1) := by decide +kernel
theorem dX12_count_197 : decode cX12_count 197 = .ok (.getfield 519, 3) := by decide +kernel
theorem dX12_count_200 : decode cX12_count 200 = .ok (.ireturn, 1) := by decide +kernel
theorem dX12_count_201 : decode cX12_count 201 = .ok (.iconst 0, 1) := by decide +kernel
theorem dX12_count_202 : decode cX12_count 202 = .ok (.istore_n 3, 1) := by decide +kernel
theorem dX12_count_203 : decode cX12_count 203 = .ok (.iload_n 3, 1) := by decide +kernel
theorem dX12_count_204 : decode cX12_count 204 = .ok (.aload_n 0, 1) := by decide +kernel
theorem dX12_count_205 : decode cX12_count 205 = .ok (.getfield 495, 3) := by decide +kernel
theorem dX12_count_208 : decode cX12_count 208 = .ok (.if_icmp .ge 18, 3) := by decide +kernel
theorem dX12_count_211 : decode cX12_count 211 = .ok (.iload_n 2, 1) := by decide +kernel
theorem dX12_count_212 : decode cX12_count 212 = .ok (.aload_n 0, 1) := by decide +kernel
theorem dX12_count_213 : decode cX12_count 213 = .ok (.getfield 107, 3) := by decide +kernel
theorem dX12_count_216 : decode cX12_count 216 = .ok (.iload_n 3, 1) := by decide +kernel
theorem dX12_count_217 : decode cX12_count 217 = .ok (.iaload, 1) := by decide +kernel
theorem dX12_count_218 : decode cX12_count 218 = .ok (.iadd, 1) := by decide +kernel
theorem dX12_count_219 : decode cX12_count 219 = .ok (.istore_n 2, 1) := by decide +kernel
theorem dX12_count_220 : decode cX12_count 220 = .ok (.iinc 3 1, 3) := by decide +kernel
theorem dX12_count_223 : decode cX12_count 223 = .ok (.goto (-20), 3) := by decide +kernel
theorem dX12_count_226 : decode cX12_count 226 = .ok (.iload_n 2, 1) := by decide +kernel
theorem dX12_count_227 : decode cX12_count 227 = .ok (.ireturn, 1) := by decide +kernel
theorem dX12_count_228 : decode cX12_count 228 = .ok (.aload_n 0, 1) := by decide +kernel
theorem dX12_count_229 : decode cX12_count 229 = .ok (.getfield 533, 3) := by decide +kernel
theorem dX12_count_232 : decode cX12_count 232 = .ok (.ireturn, 1) := by decide +kernel
theorem dX12_count_233 : decode cX12_count 233 = .ok (.aload_n 0, 1) := by decide +kernel
theorem dX12_count_234 : decode cX12_count 234 = .ok (.getfield 9, 3) := by decide +kernel
theorem dX12_count_237 : decode cX12_count 237 = .ok (.sipush 1745, 3) := by decide +kernel
theorem dX12_count_240 : decode cX12_count 240 = .ok (.iaload, 1) := by decide +kernel
theorem dX12_count_241 : decode cX12_count 241 = .ok (.ireturn, 1) := by decide +kernel
theorem dX12_count_242 : decode cX12_count 242 = .ok (.aload_n 0, 1) := by decide +kernel
theorem dX12_count_243 : decode cX12_count 243 = .ok (.getfield 9, 3) := by decide +kernel
theorem dX12_count_246 : decode cX12_count 246 = .ok (.sipush 1746, 3) := by decide +kernel
theorem dX12_count_249 : decode cX12_count 249 = .ok (.iaload, 1) := by decide +kernel
theorem dX12_count_250 : decode cX12_count 250 = .ok (.ireturn, 1) := by decide +kernel
theorem dX12_count_251 : decode cX12_count 251 = .ok (.aload_n 0, 1) := by decide +kernel
theorem dX12_count_252 : decode cX12_count 252 = .ok (.getfield 9, 3) := by decide +kernel
theorem dX12_count_255 : decode cX12_count 255 = .ok (.sipush 1747, 3) := by decide +kernel
theorem dX12_count_258 : decode cX12_count 258 = .ok (.iaload, 1) := by decide +kernel
theorem dX12_count_259 : decode cX12_count 259 = .ok (.ireturn, 1) := by decide +kernel
theorem dX12_count_260 : decode cX12_count 260 = .ok (.aload_n 0, 1) := by decide +kernel
theorem dX12_count_261 : decode cX12_count 261 = .ok (.getfield 9, 3) := by decide +kernel
theorem dX12_count_264 : decode cX12_count 264 = .ok (.sipush 1748, 3) := by decide +kernel
theorem dX12_count_267 : decode cX12_count 267 = .ok (.iaload, 1) := by decide +kernel
theorem dX12_count_268 : decode cX12_count 268 = .ok (.ireturn, 1) := by decide +kernel
theorem dX12_count_269 : decode cX12_count 269 = .ok (.aload_n 0, 1) := by decide +kernel
theorem dX12_count_270 : decode cX12_count 270 = .ok (.getfield 238, 3) := by decide +kernel
theorem dX12_count_273 : decode cX12_count 273 = .ok (.ireturn, 1) := by decide +kernel
theorem dX12_count_274 : decode cX12_count 274 = .ok (.iconst (-1), 1) := by decide +kernel
theorem dX12_count_275 : decode cX12_count 275 = .ok (.ireturn, 1) := by decide +kernel
theorem dX12_end_0 : decode cX12_end 0 = .ok (.aload_n 0, 1) := by decide +kernel
theorem dX12_end_1 : decode cX12_end 1 = .ok (.iconst 0, 1) := by decide +kernel
theorem dX12_end_2 : decode cX12_end 2 = .ok (.putfield 194, 3) := by decide +kernel
theorem dX12_end_5 : decode cX12_end 5 = .ok (.iload_n 1, 1) := by decide +kernel
theorem dX12_end_6 : decode cX12_end 6 = .ok (.ifCond .lt 11, 3) := by decide +kernel
theorem dX12_end_9 : decode cX12_end 9 = .ok (.iload_n 1, 1) := by decide +kernel
theorem dX12_end_10 : decode cX12_end 10 = .ok (.aload_n 0, 1) := by decide +kernel
theorem dX12_end_11 : decode cX12_end 11 = .ok (.getfield 332, 3) := by decide +kernel
theorem dX12_end_14 : decode cX12_end 14 = .ok (.if_icmp .le 5, 3) := by decide +kernel
theorem dX12_end_17 : decode cX12_end 17 = .ok (.iconst 0, 1) := by decide +kernel
theorem dX12_end_18 : decode cX12_end 18 = .ok (.ireturn, 1) := by decide +kernel
theorem dX12_end_19 : decode cX12_end 19 = .ok (.aload_n 0, 1) := by decide +kernel
theorem dX12_end_20 : decode cX12_end 20 = .ok (.iload_n 1, 1) := by decide +kernel
theorem dX12_end_21 : decode cX12_end 21 = .ok (.putfield 332, 3) := by decide +kernel
theorem dX12_end_24 : decode cX12_end 24 = .ok (.iconst 1, 1) := by decide +kernel
theorem dX12_end_25 : decode cX12_end 25 = .ok (.ireturn, 1) := by decide +kernel
