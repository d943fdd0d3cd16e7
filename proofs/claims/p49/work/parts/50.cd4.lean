theorem dX5_worthOfDepth_48 : decode cX5_worthOfDepth 48 = .ok (.iload_n 1, 1) := by decide +kernel
theorem dX5_worthOfDepth_49 : decode cX5_worthOfDepth 49 = .ok (.bipush 120, 2) := by decide +kernel
theorem dX5_worthOfDepth_51 : decode cX5_worthOfDepth 51 = .ok (.isub, 1) := by decide +kernel
theorem dX5_worthOfDepth_52 : decode cX5_worthOfDepth 52 = .ok (.invokestatic 151, 3) := by decide +kernel
theorem dX5_worthOfDepth_55 : decode cX5_worthOfDepth 55 = .ok (.iconst 2, 1) := by decide +kernel
theorem dX5_worthOfDepth_56 : decode cX5_worthOfDepth 56 = .ok (.idiv, 1) := by decide +kernel
theorem dX5_worthOfDepth_57 : decode cX5_worthOfDepth 57 = .ok (.isub, 1) := by decide +kernel
theorem dX5_worthOfDepth_58 : decode cX5_worthOfDepth 58 = .ok (.invokestatic 94, 3) := by decide +kernel
theorem dX5_worthOfDepth_61 : decode cX5_worthOfDepth 61 = .ok (.ireturn, 1) := by decide +kernel
theorem dX5_worthOfDepth_62 : decode cX5_worthOfDepth 62 = .ok (.iconst 0, 1) := by decide +kernel
theorem dX5_worthOfDepth_63 : decode cX5_worthOfDepth 63 = .ok (.bipush 40, 2) := by decide +kernel
theorem dX5_worthOfDepth_65 : decode cX5_worthOfDepth 65 = .ok (.iload_n 1, 1) := by decide +kernel
theorem dX5_worthOfDepth_66 : decode cX5_worthOfDepth 66 = .ok (.bipush 100, 2) := by decide +kernel
theorem dX5_worthOfDepth_68 : decode cX5_worthOfDepth 68 = .ok (.isub, 1) := by decide +kernel
theorem dX5_worthOfDepth_69 : decode cX5_worthOfDepth 69 = .ok (.invokestatic 151, 3) := by decide +kernel
theorem dX5_worthOfDepth_72 : decode cX5_worthOfDepth 72 = .ok (.iconst 3, 1) := by decide +kernel
theorem dX5_worthOfDepth_73 : decode cX5_worthOfDepth 73 = .ok (.idiv, 1) := by decide +kernel
theorem dX5_worthOfDepth_74 : decode cX5_worthOfDepth 74 = .ok (.isub, 1) := by decide +kernel
theorem dX5_worthOfDepth_75 : decode cX5_worthOfDepth 75 = .ok (.invokestatic 94, 3) := by decide +kernel
theorem dX5_worthOfDepth_78 : decode cX5_worthOfDepth 78 = .ok (.ireturn, 1) := by decide +kernel
theorem dX5_worthOfDepth_79 : decode cX5_worthOfDepth 79 = .ok (.iconst 0, 1) := by decide +kernel
theorem dX5_worthOfDepth_80 : decode cX5_worthOfDepth 80 = .ok (.ireturn, 1) := by decide +kernel
theorem dX5_addJob_0 : decode cX5_addJob 0 = .ok (.aload_n 0, 1) := by decide +kernel
theorem dX5_addJob_1 : decode cX5_addJob 1 = .ok (.getfield 29, 3) := by decide +kernel
theorem dX5_addJob_4 : decode cX5_addJob 4 = .ok (.aload_n 0, 1) := by decide +kernel
theorem dX5_addJob_5 : decode cX5_addJob 5 = .ok (.getfield 154, 3) := by decide +kernel
theorem dX5_addJob_8 : decode cX5_addJob 8 = .ok (.iload_n 1, 1) := by decide +kernel
theorem dX5_addJob_9 : decode cX5_addJob 9 = .ok (.iastore, 1) := by decide +kernel
theorem dX5_addJob_10 : decode cX5_addJob 10 = .ok (.aload_n 0, 1) := by decide +kernel
theorem dX5_addJob_11 : decode cX5_addJob 11 = .ok (.getfield 32, 3) := by decide +kernel
theorem dX5_addJob_14 : decode cX5_addJob 14 = .ok (.aload_n 0, 1) := by decide +kernel
theorem dX5_addJob_15 : decode cX5_addJob 15 = .ok (.getfield 154, 3) := by decide +kernel
theorem dX5_addJob_18 : decode cX5_addJob 18 = .ok (.iload_n 2, 1) := by decide +kernel
theorem dX5_addJob_19 : decode cX5_addJob 19 = .ok (.iastore, 1) := by decide +kernel
theorem dX5_addJob_20 : decode cX5_addJob 20 = .ok (.aload_n 0, 1) := by decide +kernel
theorem dX5_addJob_21 : decode cX5_addJob 21 = .ok (.getfield 35, 3) := by decide +kernel
theorem dX5_addJob_24 : decode cX5_addJob 24 = .ok (.aload_n 0, 1) := by decide +kernel
theorem dX5_addJob_25 : decode cX5_addJob 25 = .ok (.getfield 154, 3) := by decide +kernel
theorem dX5_addJob_28 : decode cX5_addJob 28 = .ok (.iload_n 3, 1) := by decide +kernel
theorem dX5_addJob_29 : decode cX5_addJob 29 = .ok (.iastore, 1) := by decide +kernel
theorem dX5_addJob_30 : decode cX5_addJob 30 = .ok (.aload_n 0, 1) := by decide +kernel
theorem dX5_addJob_31 : decode cX5_addJob 31 = .ok (.getfield 38, 3) := by decide +kernel
theorem dX5_addJob_34 : decode cX5_addJob 34 = .ok (.aload_n 0, 1) := by decide +kernel
theorem dX5_addJob_35 : decode cX5_addJob 35 = .ok (.getfield 154, 3) := by decide +kernel
theorem dX5_addJob_38 : decode cX5_addJob 38 = .ok (.iload 4, 2) := by decide +kernel
theorem dX5_addJob_40 : decode cX5_addJob 40 = .ok (.iastore, 1) := by decide +kernel
theorem dX5_addJob_41 : decode cX5_addJob 41 = .ok (.aload_n 0, 1) := by decide +kernel
theorem dX5_addJob_42 : decode cX5_addJob 42 = .ok (.dup, 1) := by decide +kernel
theorem dX5_addJob_43 : decode cX5_addJob 43 = .ok (.getfield 154, 3) := by decide +kernel
theorem dX5_addJob_46 : decode cX5_addJob 46 = .ok (.iconst 1, 1) := by decide +kernel
theorem dX5_addJob_47 : decode cX5_addJob 47 = .ok (.iadd, 1) := by decide +kernel
theorem dX5_addJob_48 : decode cX5_addJob 48 = .ok (.putfield 154, 3) := by decide +kernel
theorem dX5_addJob_51 : decode cX5_addJob 51 = .ok (.aload_n 0, 1) := by decide +kernel
theorem dX5_addJob_52 : decode cX5_addJob 52 = .ok (.getfield 154, 3) := by decide +kernel
theorem dX5_addJob_55 : decode cX5_addJob 55 = .ok (.ireturn, 1) := by decide +kernel
theorem dX5_findOrder_0 : decode cX5_findOrder 0 = .ok (.aload_n 0, 1) := by decide +kernel
theorem dX5_findOrder_1 : decode cX5_findOrder 1 = .ok (.iconst (-1), 1) := by decide +kernel
theorem dX5_findOrder_2 : decode cX5_findOrder 2 = .ok (.putfield 157, 3) := by decide +kernel
theorem dX5_findOrder_5 : decode cX5_findOrder 5 = .ok (.aload_n 0, 1) := by decide +kernel
theorem dX5_findOrder_6 : decode cX5_findOrder 6 = .ok (.iconst 0, 1) := by decide +kernel
theorem dX5_findOrder_7 : decode cX5_findOrder 7 = .ok (.iconst 0, 1) := by decide +kernel
theorem dX5_findOrder_8 : decode cX5_findOrder 8 = .ok (.iload_n 1, 1) := by decide +kernel
theorem dX5_findOrder_9 : decode cX5_findOrder 9 = .ok (.i2l, 1) := by decide +kernel
theorem dX5_findOrder_10 : decode cX5_findOrder 10 = .ok (.iconst 0, 1) := by decide +kernel
theorem dX5_findOrder_11 : decode cX5_findOrder 11 = .ok (.iconst 0, 1) := by decide +kernel
theorem dX5_findOrder_12 : decode cX5_findOrder 12 = .ok (.invokevirtual 160, 3) := by decide +kernel
theorem dX5_findOrder_15 : decode cX5_findOrder 15 = .ok (.return_, 1) := by decide +kernel
theorem dX5_tryOrders_0 : decode cX5_tryOrders 0 = .ok (.aload_n 0, 1) := by decide +kernel
theorem dX5_tryOrders_1 : decode cX5_tryOrders 1 = .ok (.getfield 157, 3) := by decide +kernel
theorem dX5_tryOrders_4 : decode cX5_tryOrders 4 = .ok (.iconst (-1), 1) := by decide +kernel
theorem dX5_tryOrders_5 : decode cX5_tryOrders 5 = .ok (.if_icmp .eq 13, 3) := by decide +kernel
theorem dX5_tryOrders_8 : decode cX5_tryOrders 8 = .ok (.iload 6, 2) := by decide +kernel
theorem dX5_tryOrders_10 : decode cX5_tryOrders 10 = .ok (.aload_n 0, 1) := by decide +kernel
theorem dX5_tryOrders_11 : decode cX5_tryOrders 11 = .ok (.getfield 157, 3) := by decide +kernel
theorem dX5_tryOrders_14 : decode cX5_tryOrders 14 = .ok (.if_icmp .lt 4, 3) := by decide +kernel
theorem dX5_tryOrders_17 : decode cX5_tryOrders 17 = .ok (.return_, 1) := by decide +kernel
theorem dX5_tryOrders_18 : decode cX5_tryOrders 18 = .ok (.iload_n 1, 1) := by decide +kernel
theorem dX5_tryOrders_19 : decode cX5_tryOrders 19 = .ok (.aload_n 0, 1) := by decide +kernel
theorem dX5_tryOrders_20 : decode cX5_tryOrders 20 = .ok (.getfield 154, 3) := by decide +kernel
theorem dX5_tryOrders_23 : decode cX5_tryOrders 23 = .ok (.if_icmp .lt 27, 3) := by decide +kernel
theorem dX5_tryOrders_26 : decode cX5_tryOrders 26 = .ok (.aload_n 0, 1) := by decide +kernel
theorem dX5_tryOrders_27 : decode cX5_tryOrders 27 = .ok (.iload 6, 2) := by decide +kernel
theorem dX5_tryOrders_29 : decode cX5_tryOrders 29 = .ok (.putfield 157, 3) := by decide +kernel
theorem dX5_tryOrders_32 : decode cX5_tryOrders 32 = .ok (.aload_n 0, 1) := by decide +kernel
theorem dX5_tryOrders_33 : decode cX5_tryOrders 33 = .ok (.getfield 45, 3) := by decide +kernel
theorem dX5_tryOrders_36 : decode cX5_tryOrders 36 = .ok (.iconst 0, 1) := by decide +kernel
theorem dX5_tryOrders_37 : decode cX5_tryOrders 37 = .ok (.aload_n 0, 1) := by decide +kernel
theorem dX5_tryOrders_38 : decode cX5_tryOrders 38 = .ok (.getfield 48, 3) := by decide +kernel
theorem dX5_tryOrders_41 : decode cX5_tryOrders 41 = .ok (.iconst 0, 1) := by decide +kernel
theorem dX5_tryOrders_42 : decode cX5_tryOrders 42 = .ok (.aload_n 0, 1) := by decide +kernel
theorem dX5_tryOrders_43 : decode cX5_tryOrders 43 = .ok (.getfield 154, 3) := by decide +kernel
theorem dX5_tryOrders_46 : decode cX5_tryOrders 46 = .ok (.invokestatic 100, 3) := by decide +kernel
theorem dX5_tryOrders_49 : decode cX5_tryOrders 49 = .ok (.return_, 1) := by decide +kernel
theorem dX5_tryOrders_50 : decode cX5_tryOrders 50 = .ok (.iconst 0, 1) := by decide +kernel
theorem dX5_tryOrders_51 : decode cX5_tryOrders 51 = .ok (.istore 7, 2) := by decide +kernel
theorem dX5_tryOrders_53 : decode cX5_tryOrders 53 = .ok (.iload 7, 2) := by decide +kernel
theorem dX5_tryOrders_55 : decode cX5_tryOrders 55 = .ok (.aload_n 0, 1) := by decide +kernel
theorem dX5_tryOrders_56 : decode cX5_tryOrders 56 = .ok (.getfield 154, 3) := by decide +kernel
theorem dX5_tryOrders_59 : decode cX5_tryOrders 59 = .ok (.if_icmp .ge 141, 3) := by decide +kernel
theorem dX5_tryOrders_62 : decode cX5_tryOrders 62 = .ok (.aload_n 0, 1) := by decide +kernel
theorem dX5_tryOrders_63 : decode cX5_tryOrders 63 = .ok (.getfield 41, 3) := by decide +kernel
theorem dX5_tryOrders_66 : decode cX5_tryOrders 66 = .ok (.iload 7, 2) := by decide +kernel
theorem dX5_tryOrders_68 : decode cX5_tryOrders 68 = .ok (.baload, 1) := by decide +kernel
theorem dX5_tryOrders_69 : decode cX5_tryOrders 69 = .ok (.ifCond .eq 7, 3) := by decide +kernel
theorem dX5_tryOrders_72 : decode cX5_tryOrders 72 = .ok (.iconst (-1), 1) := by decide +kernel
theorem dX5_tryOrders_73 : decode cX5_tryOrders 73 = .ok (.goto 25, 3) := by decide +kernel
theorem dX5_tryOrders_76 : decode cX5_tryOrders 76 = .ok (.iload_n 2, 1) := by decide +kernel
theorem dX5_tryOrders_77 : decode cX5_tryOrders 77 = .ok (.lload_n 3, 1) := by decide +kernel
theorem dX5_tryOrders_78 : decode cX5_tryOrders 78 = .ok (.iload 5, 2) := by decide +kernel
theorem dX5_tryOrders_80 : decode cX5_tryOrders 80 = .ok (.aload_n 0, 1) := by decide +kernel
theorem dX5_tryOrders_81 : decode cX5_tryOrders 81 = .ok (.getfield 29, 3) := by decide +kernel
theorem dX5_tryOrders_84 : decode cX5_tryOrders 84 = .ok (.iload 7, 2) := by decide +kernel
theorem dX5_tryOrders_86 : decode cX5_tryOrders 86 = .ok (.iaload, 1) := by decide +kernel
theorem dX5_tryOrders_87 : decode cX5_tryOrders 87 = .ok (.invokestatic 164, 3) := by decide +kernel
theorem dX5_tryOrders_90 : decode cX5_tryOrders 90 = .ok (.aload_n 0, 1) := by decide +kernel
theorem dX5_tryOrders_91 : decode cX5_tryOrders 91 = .ok (.getfield 32, 3) := by decide +kernel
theorem dX5_tryOrders_94 : decode cX5_tryOrders 94 = .ok (.iload 7, 2) := by decide +kernel
theorem dX5_tryOrders_96 : decode cX5_tryOrders 96 = .ok (.iaload, 1) := by decide +kernel
theorem dX5_tryOrders_97 : decode cX5_tryOrders 97 = .ok (.iadd, 1) := by decide +kernel
theorem dX5_tryOrders_98 : decode cX5_tryOrders 98 = .ok (.istore 8, 2) := by decide +kernel
theorem dX5_tryOrders_100 : decode cX5_tryOrders 100 = .ok (.iload 8, 2) := by decide +kernel
theorem dX5_tryOrders_102 : decode cX5_tryOrders 102 = .ok (.iconst (-1), 1) := by decide +kernel
theorem dX5_tryOrders_103 : decode cX5_tryOrders 103 = .ok (.if_icmp .eq 91, 3) := by decide +kernel
theorem dX5_tryOrders_106 : decode cX5_tryOrders 106 = .ok (.iload 8, 2) := by decide +kernel
theorem dX5_tryOrders_108 : decode cX5_tryOrders 108 = .ok (.sipush 200, 3) := by decide +kernel
theorem dX5_tryOrders_111 : decode cX5_tryOrders 111 = .ok (.if_icmp .gt 83, 3) := by decide +kernel
theorem dX5_tryOrders_114 : decode cX5_tryOrders 114 = .ok (.lload_n 3, 1) := by decide +kernel
theorem dX5_tryOrders_115 : decode cX5_tryOrders 115 = .ok (.iload 5, 2) := by decide +kernel
theorem dX5_tryOrders_117 : decode cX5_tryOrders 117 = .ok (.i2l, 1) := by decide +kernel
theorem dX5_tryOrders_118 : decode cX5_tryOrders 118 = .ok (.iload 8, 2) := by decide +kernel
theorem dX5_tryOrders_120 : decode cX5_tryOrders 120 = .ok (.iload_n 2, 1) := by decide +kernel
theorem dX5_tryOrders_121 : decode cX5_tryOrders 121 = .ok (.isub, 1) := by decide +kernel
theorem dX5_tryOrders_122 : decode cX5_tryOrders 122 = .ok (.i2l, 1) := by decide +kernel
theorem dX5_tryOrders_123 : decode cX5_tryOrders 123 = .ok (.lmul, 1) := by decide +kernel
theorem dX5_tryOrders_124 : decode cX5_tryOrders 124 = .ok (.ladd, 1) := by decide +kernel
theorem dX5_tryOrders_125 : decode cX5_tryOrders 125 = .ok (.aload_n 0, 1) := by decide +kernel
theorem dX5_tryOrders_126 : decode cX5_tryOrders 126 = .ok (.getfield 29, 3) := by decide +kernel
theorem dX5_tryOrders_129 : decode cX5_tryOrders 129 = .ok (.iload 7, 2) := by decide +kernel
theorem dX5_tryOrders_131 : decode cX5_tryOrders 131 = .ok (.iaload, 1) := by decide +kernel
theorem dX5_tryOrders_132 : decode cX5_tryOrders 132 = .ok (.i2l, 1) := by decide +kernel
theorem dX5_tryOrders_133 : decode cX5_tryOrders 133 = .ok (.lsub, 1) := by decide +kernel
theorem dX5_tryOrders_134 : decode cX5_tryOrders 134 = .ok (.lstore 9, 2) := by decide +kernel
theorem dX5_tryOrders_136 : decode cX5_tryOrders 136 = .ok (.aload_n 0, 1) := by decide +kernel
theorem dX5_tryOrders_137 : decode cX5_tryOrders 137 = .ok (.getfield 41, 3) := by decide +kernel
theorem dX5_tryOrders_140 : decode cX5_tryOrders 140 = .ok (.iload 7, 2) := by decide +kernel
theorem dX5_tryOrders_142 : decode cX5_tryOrders 142 = .ok (.iconst 1, 1) := by decide +kernel
theorem dX5_tryOrders_143 : decode cX5_tryOrders 143 = .ok (.bastore, 1) := by decide +kernel
theorem dX5_tryOrders_144 : decode cX5_tryOrders 144 = .ok (.aload_n 0, 1) := by decide +kernel
theorem dX5_tryOrders_145 : decode cX5_tryOrders 145 = .ok (.getfield 45, 3) := by decide +kernel
theorem dX5_tryOrders_148 : decode cX5_tryOrders 148 = .ok (.iload_n 1, 1) := by decide +kernel
theorem dX5_tryOrders_149 : decode cX5_tryOrders 149 = .ok (.iload 7, 2) := by decide +kernel
theorem dX5_tryOrders_151 : decode cX5_tryOrders 151 = .ok (.iastore, 1) := by decide +kernel
theorem dX5_tryOrders_152 : decode cX5_tryOrders 152 = .ok (.aload_n 0, 1) := by decide +kernel
theorem dX5_tryOrders_153 : decode cX5_tryOrders 153 = .ok (.iload_n 1, 1) := by decide +kernel
theorem dX5_tryOrders_154 : decode cX5_tryOrders 154 = .ok (.iconst 1, 1) := by decide +kernel
theorem dX5_tryOrders_155 : decode cX5_tryOrders 155 = .ok (.iadd, 1) := by decide +kernel
theorem dX5_tryOrders_156 : decode cX5_tryOrders 156 = .ok (.iload 8, 2) := by decide +kernel
theorem dX5_tryOrders_158 : decode cX5_tryOrders 158 = .ok (.lload 9, 2) := by decide +kernel
theorem dX5_tryOrders_160 : decode cX5_tryOrders 160 = .ok (.iload 5, 2) := by decide +kernel
theorem dX5_tryOrders_162 : decode cX5_tryOrders 162 = .ok (.aload_n 0, 1) := by decide +kernel
theorem dX5_tryOrders_163 : decode cX5_tryOrders 163 = .ok (.getfield 35, 3) := by decide +kernel
theorem dX5_tryOrders_166 : decode cX5_tryOrders 166 = .ok (.iload 7, 2) := by decide +kernel
theorem dX5_tryOrders_168 : decode cX5_tryOrders 168 = .ok (.iaload, 1) := by decide +kernel
theorem dX5_tryOrders_169 : decode cX5_tryOrders 169 = .ok (.iadd, 1) := by decide +kernel
theorem dX5_tryOrders_170 : decode cX5_tryOrders 170 = .ok (.iload 6, 2) := by decide +kernel
theorem dX5_tryOrders_172 : decode cX5_tryOrders 172 = .ok (.aload_n 0, 1) := by decide +kernel
theorem dX5_tryOrders_173 : decode cX5_tryOrders 173 = .ok (.getfield 38, 3) := by decide +kernel
theorem dX5_tryOrders_176 : decode cX5_tryOrders 176 = .ok (.iload 7, 2) := by decide +kernel
theorem dX5_tryOrders_178 : decode cX5_tryOrders 178 = .ok (.iaload, 1) := by decide +kernel
theorem dX5_tryOrders_179 : decode cX5_tryOrders 179 = .ok (.iload 8, 2) := by decide +kernel
theorem dX5_tryOrders_181 : decode cX5_tryOrders 181 = .ok (.imul, 1) := by decide +kernel
theorem dX5_tryOrders_182 : decode cX5_tryOrders 182 = .ok (.iadd, 1) := by decide +kernel
theorem dX5_tryOrders_183 : decode cX5_tryOrders 183 = .ok (.invokevirtual 160, 3) := by decide +kernel
theorem dX5_tryOrders_186 : decode cX5_tryOrders 186 = .ok (.aload_n 0, 1) := by decide +kernel
theorem dX5_tryOrders_187 : decode cX5_tryOrders 187 = .ok (.getfield 41, 3) := by decide +kernel
theorem dX5_tryOrders_190 : decode cX5_tryOrders 190 = .ok (.iload 7, 2) := by decide +kernel
theorem dX5_tryOrders_192 : decode cX5_tryOrders 192 = .ok (.iconst 0, 1) := by decide +kernel
theorem dX5_tryOrders_193 : decode cX5_tryOrders 193 = .ok (.bastore, 1) := by decide +kernel
theorem dX5_tryOrders_194 : decode cX5_tryOrders 194 = .ok (.iinc 7 1, 3) := by decide +kernel
theorem dX5_tryOrders_197 : decode cX5_tryOrders 197 = .ok (.goto (-144), 3) := by decide +kernel
theorem dX5_tryOrders_200 : decode cX5_tryOrders 200 = .ok (.return_, 1) := by decide +kernel
theorem dX5_yearWithCost_0 : decode cX5_yearWithCost 0 = .ok (.lload_n 1, 1) := by decide +kernel
theorem dX5_yearWithCost_1 : decode cX5_yearWithCost 1 = .ok (.iload 4, 2) := by decide +kernel
theorem dX5_yearWithCost_3 : decode cX5_yearWithCost 3 = .ok (.i2l, 1) := by decide +kernel
theorem dX5_yearWithCost_4 : decode cX5_yearWithCost 4 = .ok (.lcmp, 1) := by decide +kernel
theorem dX5_yearWithCost_5 : decode cX5_yearWithCost 5 = .ok (.ifCond .lt 5, 3) := by decide +kernel
theorem dX5_yearWithCost_8 : decode cX5_yearWithCost 8 = .ok (.iload_n 0, 1) := by decide +kernel
theorem dX5_yearWithCost_9 : decode cX5_yearWithCost 9 = .ok (.ireturn, 1) := by decide +kernel
theorem dX5_yearWithCost_10 : decode cX5_yearWithCost 10 = .ok (.iload_n 3, 1) := by decide +kernel
theorem dX5_yearWithCost_11 : decode cX5_yearWithCost 11 = .ok (.ifCond .ne 7, 3) := by decide +kernel
theorem dX5_yearWithCost_14 : decode cX5_yearWithCost 14 = .ok (.sipush 200, 3) := by decide +kernel
theorem dX5_yearWithCost_17 : decode cX5_yearWithCost 17 = .ok (.ireturn, 1) := by decide +kernel
theorem dX5_yearWithCost_18 : decode cX5_yearWithCost 18 = .ok (.iload_n 0, 1) := by decide +kernel
theorem dX5_yearWithCost_19 : decode cX5_yearWithCost 19 = .ok (.iload 4, 2) := by decide +kernel
theorem dX5_yearWithCost_21 : decode cX5_yearWithCost 21 = .ok (.i2l, 1) := by decide +kernel
theorem dX5_yearWithCost_22 : decode cX5_yearWithCost 22 = .ok (.lload_n 1, 1) := by decide +kernel
theorem dX5_yearWithCost_23 : decode cX5_yearWithCost 23 = .ok (.lsub, 1) := by decide +kernel
theorem dX5_yearWithCost_24 : decode cX5_yearWithCost 24 = .ok (.iload_n 3, 1) := by decide +kernel
theorem dX5_yearWithCost_25 : decode cX5_yearWithCost 25 = .ok (.i2l, 1) := by decide +kernel
theorem dX5_yearWithCost_26 : decode cX5_yearWithCost 26 = .ok (.ladd, 1) := by decide +kernel
theorem dX5_yearWithCost_27 : decode cX5_yearWithCost 27 = .ok (.lconst 1, 1) := by decide +kernel
theorem dX5_yearWithCost_28 : decode cX5_yearWithCost 28 = .ok (.lsub, 1) := by decide +kernel
theorem dX5_yearWithCost_29 : decode cX5_yearWithCost 29 = .ok (.iload_n 3, 1) := by decide +kernel
theorem dX5_yearWithCost_30 : decode cX5_yearWithCost 30 = .ok (.i2l, 1) := by decide +kernel
theorem dX5_yearWithCost_31 : decode cX5_yearWithCost 31 = .ok (.ldiv, 1) := by decide +kernel
theorem dX5_yearWithCost_32 : decode cX5_yearWithCost 32 = .ok (.l2i, 1) := by decide +kernel
theorem dX5_yearWithCost_33 : decode cX5_yearWithCost 33 = .ok (.iadd, 1) := by decide +kernel
theorem dX5_yearWithCost_34 : decode cX5_yearWithCost 34 = .ok (.ireturn, 1) := by decide +kernel
theorem dX6_init_0 : decode cX6_init 0 = .ok (.aload_n 0, 1) := by decide +kernel
theorem dX6_init_1 : decode cX6_init 1 = .ok (.invokespecial 3, 3) := by decide +kernel
theorem dX6_init_4 : decode cX6_init 4 = .ok (.aload_n 0, 1) := by decide +kernel
theorem dX6_init_5 : decode cX6_init 5 = .ok (.sipush 2304, 3) := by decide +kernel
theorem dX6_init_8 : decode cX6_init 8 = .ok (.newarray .int, 2) := by decide +kernel
theorem dX6_init_10 : decode cX6_init 10 = .ok (.putfield 9, 3) := by decide +kernel
theorem dX6_init_13 : decode cX6_init 13 = .ok (.aload_n 0, 1) := by decide +kernel
theorem dX6_init_14 : decode cX6_init 14 = .ok (.sipush 2304, 3) := by decide +kernel
theorem dX6_init_17 : decode cX6_init 17 = .ok (.newarray .int, 2) := by decide +kernel
theorem dX6_init_19 : decode cX6_init 19 = .ok (.putfield 15, 3) := by decide +kernel
theorem dX6_init_22 : decode cX6_init 22 = .ok (.return_, 1) := by decide +kernel
theorem dX6_forget_0 : decode cX6_forget 0 = .ok (.aload_n 0, 1) := by decide +kernel
theorem dX6_forget_1 : decode cX6_forget 1 = .ok (.iconst 0, 1) := by decide +kernel
theorem dX6_forget_2 : decode cX6_forget 2 = .ok (.putfield 18, 3) := by decide +kernel
theorem dX6_forget_5 : decode cX6_forget 5 = .ok (.aload_n 0, 1) := by decide +kernel
theorem dX6_forget_6 : decode cX6_forget 6 = .ok (.iconst 0, 1) := by decide +kernel
theorem dX6_forget_7 : decode cX6_forget 7 = .ok (.putfield 22, 3) := by decide +kernel
theorem dX6_forget_10 : decode cX6_forget 10 = .ok (.return_, 1) := by decide +kernel
theorem dX6_placeOf_0 : decode cX6_placeOf 0 = .ok (.aload_n 0, 1) := by decide +kernel
theorem dX6_placeOf_1 : decode cX6_placeOf 1 = .ok (.getfield 22, 3) := by decide +kernel
theorem dX6_placeOf_4 : decode cX6_placeOf 4 = .ok (.iload_n 1, 1) := by decide +kernel
theorem dX6_placeOf_5 : decode cX6_placeOf 5 = .ok (.iadd, 1) := by decide +kernel
theorem dX6_placeOf_6 : decode cX6_placeOf 6 = .ok (.bipush 24, 2) := by decide +kernel
theorem dX6_placeOf_8 : decode cX6_placeOf 8 = .ok (.irem, 1) := by decide +kernel
theorem dX6_placeOf_9 : decode cX6_placeOf 9 = .ok (.bipush 96, 2) := by decide +kernel
theorem dX6_placeOf_11 : decode cX6_placeOf 11 = .ok (.imul, 1) := by decide +kernel
theorem dX6_placeOf_12 : decode cX6_placeOf 12 = .ok (.iload_n 2, 1) := by decide +kernel
theorem dX6_placeOf_13 : decode cX6_placeOf 13 = .ok (.iadd, 1) := by decide +kernel
theorem dX6_placeOf_14 : decode cX6_placeOf 14 = .ok (.ireturn, 1) := by decide +kernel
theorem dX6_write_0 : decode cX6_write 0 = .ok (.aload_n 0, 1) := by decide +kernel
theorem dX6_write_1 : decode cX6_write 1 = .ok (.getfield 18, 3) := by decide +kernel
theorem dX6_write_4 : decode cX6_write 4 = .ok (.bipush 24, 2) := by decide +kernel
theorem dX6_write_6 : decode cX6_write 6 = .ok (.if_icmp .ne 19, 3) := by decide +kernel
theorem dX6_write_9 : decode cX6_write 9 = .ok (.aload_n 0, 1) := by decide +kernel
theorem dX6_write_10 : decode cX6_write 10 = .ok (.aload_n 0, 1) := by decide +kernel
theorem dX6_write_11 : decode cX6_write 11 = .ok (.getfield 22, 3) := by decide +kernel
theorem dX6_write_14 : decode cX6_write 14 = .ok (.iconst 1, 1) := by decide +kernel
theorem dX6_write_15 : decode cX6_write 15 = .ok (.iadd, 1) := by decide +kernel
theorem dX6_write_16 : decode cX6_write 16 = .ok (.bipush 24, 2) := by decide +kernel
theorem dX6_write_18 : decode cX6_write 18 = .ok (.irem, 1) := by decide +kernel
theorem dX6_write_19 : decode cX6_write 19 = .ok (.putfield 22, 3) := by decide +kernel
theorem dX6_write_22 : decode cX6_write 22 = .ok (.goto 13, 3) := by decide +kernel
theorem dX6_write_25 : decode cX6_write 25 = .ok (.aload_n 0, 1) := by decide +kernel
theorem dX6_write_26 : decode cX6_write 26 = .ok (.dup, 1) := by decide +kernel
theorem dX6_write_27 : decode cX6_write 27 = .ok (.getfield 18, 3) := by decide +kernel
theorem dX6_write_30 : decode cX6_write 30 = .ok (.iconst 1, 1) := by decide +kernel
theorem dX6_write_31 : decode cX6_write 31 = .ok (.iadd, 1) := by decide +kernel
theorem dX6_write_32 : decode cX6_write 32 = .ok (.putfield 18, 3) := by decide +kernel
theorem dX6_write_35 : decode cX6_write 35 = .ok (.aload_n 1, 1) := by decide +kernel
theorem dX6_write_36 : decode cX6_write 36 = .ok (.getfield 25, 3) := by decide +kernel
theorem dX6_write_39 : decode cX6_write 39 = .ok (.aload_n 1, 1) := by decide +kernel
theorem dX6_write_40 : decode cX6_write 40 = .ok (.getfield 31, 3) := by decide +kernel
theorem dX6_write_43 : decode cX6_write 43 = .ok (.invokevirtual 34, 3) := by decide +kernel
theorem dX6_write_46 : decode cX6_write 46 = .ok (.istore_n 2, 1) := by decide +kernel
theorem dX6_write_47 : decode cX6_write 47 = .ok (.iconst 0, 1) := by decide +kernel
theorem dX6_write_48 : decode cX6_write 48 = .ok (.istore_n 3, 1) := by decide +kernel
theorem dX6_write_49 : decode cX6_write 49 = .ok (.iload_n 3, 1) := by decide +kernel
theorem dX6_write_50 : decode cX6_write 50 = .ok (.bipush 96, 2) := by decide +kernel
theorem dX6_write_52 : decode cX6_write 52 = .ok (.if_icmp .ge 67, 3) := by decide +kernel
theorem dX6_write_55 : decode cX6_write 55 = .ok (.aload_n 0, 1) := by decide +kernel
theorem dX6_write_56 : decode cX6_write 56 = .ok (.aload_n 0, 1) := by decide +kernel
theorem dX6_write_57 : decode cX6_write 57 = .ok (.getfield 18, 3) := by decide +kernel
theorem dX6_write_60 : decode cX6_write 60 = .ok (.iconst 1, 1) := by decide +kernel
theorem dX6_write_61 : decode cX6_write 61 = .ok (.isub, 1) := by decide +kernel
theorem dX6_write_62 : decode cX6_write 62 = .ok (.iload_n 3, 1) := by decide +kernel
theorem dX6_write_63 : decode cX6_write 63 = .ok (.invokevirtual 40, 3) := by decide +kernel
theorem dX6_write_66 : decode cX6_write 66 = .ok (.istore 4, 2) := by decide +kernel
theorem dX6_write_68 : decode cX6_write 68 = .ok (.aload_n 0, 1) := by decide +kernel
theorem dX6_write_69 : decode cX6_write 69 = .ok (.getfield 15, 3) := by decide +kernel
theorem dX6_write_72 : decode cX6_write 72 = .ok (.iload 4, 2) := by decide +kernel
theorem dX6_write_74 : decode cX6_write 74 = .ok (.aload_n 1, 1) := by decide +kernel
theorem dX6_write_75 : decode cX6_write 75 = .ok (.getfield 44, 3) := by decide +kernel
theorem dX6_write_78 : decode cX6_write 78 = .ok (.getfield 48, 3) := by decide +kernel
theorem dX6_write_81 : decode cX6_write 81 = .ok (.iload_n 3, 1) := by decide +kernel
theorem dX6_write_82 : decode cX6_write 82 = .ok (.baload, 1) := by decide +kernel
theorem dX6_write_83 : decode cX6_write 83 = .ok (.ifCond .eq 14, 3) := by decide +kernel
theorem dX6_write_86 : decode cX6_write 86 = .ok (.aload_n 1, 1) := by decide +kernel
theorem dX6_write_87 : decode cX6_write 87 = .ok (.getfield 44, 3) := by decide +kernel
theorem dX6_write_90 : decode cX6_write 90 = .ok (.iload_n 3, 1) := by decide +kernel
theorem dX6_write_91 : decode cX6_write 91 = .ok (.invokevirtual 54, 3) := by decide +kernel
theorem dX6_write_94 : decode cX6_write 94 = .ok (.goto 4, 3) := by decide +kernel
theorem dX6_write_97 : decode cX6_write 97 = .ok (.iload_n 2, 1) := by decide +kernel
theorem dX6_write_98 : decode cX6_write 98 = .ok (.iastore, 1) := by decide +kernel
theorem dX6_write_99 : decode cX6_write 99 = .ok (.aload_n 0, 1) := by decide +kernel
theorem dX6_write_100 : decode cX6_write 100 = .ok (.getfield 9, 3) := by decide +kernel
theorem dX6_write_103 : decode cX6_write 103 = .ok (.iload 4, 2) := by decide +kernel
theorem dX6_write_105 : decode cX6_write 105 = .ok (.aload_n 0, 1) := by decide +kernel
theorem dX6_write_106 : decode cX6_write 106 = .ok (.getfield 15, 3) := by decide +kernel
theorem dX6_write_109 : decode cX6_write 109 = .ok (.iload 4, 2) := by decide +kernel
theorem dX6_write_111 : decode cX6_write 111 = .ok (.iaload, 1) := by decide +kernel
theorem dX6_write_112 : decode cX6_write 112 = .ok (.iastore, 1) := by decide +kernel
theorem dX6_write_113 : decode cX6_write 113 = .ok (.iinc 3 1, 3) := by decide +kernel
theorem dX6_write_116 : decode cX6_write 116 = .ok (.goto (-67), 3) := by decide +kernel
theorem dX6_write_119 : decode cX6_write 119 = .ok (.return_, 1) := by decide +kernel
theorem dX6_firstTorn_0 : decode cX6_firstTorn 0 = .ok (.iconst 0, 1) := by decide +kernel
theorem dX6_firstTorn_1 : decode cX6_firstTorn 1 = .ok (.istore_n 1, 1) := by decide +kernel
theorem dX6_firstTorn_2 : decode cX6_firstTorn 2 = .ok (.iload_n 1, 1) := by decide +kernel
theorem dX6_firstTorn_3 : decode cX6_firstTorn 3 = .ok (.aload_n 0, 1) := by decide +kernel
theorem dX6_firstTorn_4 : decode cX6_firstTorn 4 = .ok (.getfield 18, 3) := by decide +kernel
theorem dX6_firstTorn_7 : decode cX6_firstTorn 7 = .ok (.bipush 96, 2) := by decide +kernel
theorem dX6_firstTorn_9 : decode cX6_firstTorn 9 = .ok (.imul, 1) := by decide +kernel
theorem dX6_firstTorn_10 : decode cX6_firstTorn 10 = .ok (.if_icmp .ge 39, 3) := by decide +kernel
theorem dX6_firstTorn_13 : decode cX6_firstTorn 13 = .ok (.aload_n 0, 1) := by decide +kernel
theorem dX6_firstTorn_14 : decode cX6_firstTorn 14 = .ok (.iload_n 1, 1) := by decide +kernel
theorem dX6_firstTorn_15 : decode cX6_firstTorn 15 = .ok (.bipush 96, 2) := by decide +kernel
theorem dX6_firstTorn_17 : decode cX6_firstTorn 17 = .ok (.idiv, 1) := by decide +kernel
theorem dX6_firstTorn_18 : decode cX6_firstTorn 18 = .ok (.iload_n 1, 1) := by decide +kernel
theorem dX6_firstTorn_19 : decode cX6_firstTorn 19 = .ok (.bipush 96, 2) := by decide +kernel
theorem dX6_firstTorn_21 : decode cX6_firstTorn 21 = .ok (.irem, 1) := by decide +kernel
theorem dX6_firstTorn_22 : decode cX6_firstTorn 22 = .ok (.invokevirtual 40, 3) := by decide +kernel
theorem dX6_firstTorn_25 : decode cX6_firstTorn 25 = .ok (.istore_n 2, 1) := by decide +kernel
theorem dX6_firstTorn_26 : decode cX6_firstTorn 26 = .ok (.aload_n 0, 1) := by decide +kernel
theorem dX6_firstTorn_27 : decode cX6_firstTorn 27 = .ok (.getfield 9, 3) := by decide +kernel
theorem dX6_firstTorn_30 : decode cX6_firstTorn 30 = .ok (.iload_n 2, 1) := by decide +kernel
theorem dX6_firstTorn_31 : decode cX6_firstTorn 31 = .ok (.iaload, 1) := by decide +kernel
theorem dX6_firstTorn_32 : decode cX6_firstTorn 32 = .ok (.aload_n 0, 1) := by decide +kernel
theorem dX6_firstTorn_33 : decode cX6_firstTorn 33 = .ok (.getfield 15, 3) := by decide +kernel
theorem dX6_firstTorn_36 : decode cX6_firstTorn 36 = .ok (.iload_n 2, 1) := by decide +kernel
theorem dX6_firstTorn_37 : decode cX6_firstTorn 37 = .ok (.iaload, 1) := by decide +kernel
theorem dX6_firstTorn_38 : decode cX6_firstTorn 38 = .ok (.if_icmp .eq 5, 3) := by decide +kernel
theorem dX6_firstTorn_41 : decode cX6_firstTorn 41 = .ok (.iload_n 1, 1) := by decide +kernel
theorem dX6_firstTorn_42 : decode cX6_firstTorn 42 = .ok (.ireturn, 1) := by decide +kernel
theorem dX6_firstTorn_43 : decode cX6_firstTorn 43 = .ok (.iinc 1 1, 3) := by decide +kernel
theorem dX6_firstTorn_46 : decode cX6_firstTorn 46 = .ok (.goto (-44), 3) := by decide +kernel
theorem dX6_firstTorn_49 : decode cX6_firstTorn 49 = .ok (.iconst (-1), 1) := by decide +kernel
theorem dX6_firstTorn_50 : decode cX6_firstTorn 50 = .ok (.ireturn, 1) := by decide +kernel
theorem dX7_init_0 : decode cX7_init 0 = .ok (.aload_n 0, 1) := by decide +kernel
theorem dX7_init_1 : decode cX7_init 1 = .ok (.invokespecial 3, 3) := by decide +kernel
theorem dX7_init_4 : decode cX7_init 4 = .ok (.aload_n 0, 1) := by decide +kernel
theorem dX7_init_5 : decode cX7_init 5 = .ok (.iconst (-1), 1) := by decide +kernel
theorem dX7_init_6 : decode cX7_init 6 = .ok (.putfield 9, 3) := by decide +kernel
theorem dX7_init_9 : decode cX7_init 9 = .ok (.aload_n 0, 1) := by decide +kernel
theorem dX7_init_10 : decode cX7_init 10 = .ok (.iload_n 1, 1) := by decide +kernel
theorem dX7_init_11 : decode cX7_init 11 = .ok (.putfield 15, 3) := by decide +kernel
theorem dX7_init_14 : decode cX7_init 14 = .ok (.aload_n 0, 1) := by decide +kernel
theorem dX7_init_15 : decode cX7_init 15 = .ok (.iload_n 2, 1) := by decide +kernel
theorem dX7_init_16 : decode cX7_init 16 = .ok (.putfield 18, 3) := by decide +kernel
theorem dX7_init_19 : decode cX7_init 19 = .ok (.aload_n 0, 1) := by decide +kernel
theorem dX7_init_20 : decode cX7_init 20 = .ok (.iload_n 3, 1) := by decide +kernel
theorem dX7_init_21 : decode cX7_init 21 = .ok (.putfield 21, 3) := by decide +kernel
theorem dX7_init_24 : decode cX7_init 24 = .ok (.aload_n 0, 1) := by decide +kernel
theorem dX7_init_25 : decode cX7_init 25 = .ok (.iload 4, 2) := by decide +kernel
theorem dX7_init_27 : decode cX7_init 27 = .ok (.putfield 24, 3) := by decide +kernel
theorem dX7_init_30 : decode cX7_init 30 = .ok (.aload_n 0, 1) := by decide +kernel
theorem dX7_init_31 : decode cX7_init 31 = .ok (.iload 5, 2) := by decide +kernel
theorem dX7_init_33 : decode cX7_init 33 = .ok (.putfield 27, 3) := by decide +kernel
theorem dX7_init_36 : decode cX7_init 36 = .ok (.aload_n 0, 1) := by decide +kernel
theorem dX7_init_37 : decode cX7_init 37 = .ok (.iload 6, 2) := by decide +kernel
theorem dX7_init_39 : decode cX7_init 39 = .ok (.putfield 31, 3) := by decide +kernel
theorem dX7_init_42 : decode cX7_init 42 = .ok (.aload_n 0, 1) := by decide +kernel
theorem dX7_init_43 : decode cX7_init 43 = .ok (.iload 7, 2) := by decide +kernel
theorem dX7_init_45 : decode cX7_init 45 = .ok (.putfield 34, 3) := by decide +kernel
theorem dX7_init_48 : decode cX7_init 48 = .ok (.return_, 1) := by decide +kernel
theorem dX8_init_0 : decode cX8_init 0 = .ok (.aload_n 0, 1) := by decide +kernel
theorem dX8_init_1 : decode cX8_init 1 = .ok (.invokespecial 3, 3) := by decide +kernel
theorem dX8_init_4 : decode cX8_init 4 = .ok (.aload_n 0, 1) := by decide +kernel
theorem dX8_init_5 : decode cX8_init 5 = .ok (.bipush 12, 2) := by decide +kernel
theorem dX8_init_7 : decode cX8_init 7 = .ok (.newarray .int, 2) := by decide +kernel
theorem dX8_init_9 : decode cX8_init 9 = .ok (.putfield 9, 3) := by decide +kernel
theorem dX8_init_12 : decode cX8_init 12 = .ok (.aload_n 0, 1) := by decide +kernel
theorem dX8_init_13 : decode cX8_init 13 = .ok (.bipush 20, 2) := by decide +kernel
theorem dX8_init_15 : decode cX8_init 15 = .ok (.newarray .int, 2) := by decide +kernel
theorem dX8_init_17 : decode cX8_init 17 = .ok (.putfield 15, 3) := by decide +kernel
theorem dX8_init_20 : decode cX8_init 20 = .ok (.aload_n 0, 1) := by decide +kernel
theorem dX8_init_21 : decode cX8_init 21 = .ok (.bipush 20, 2) := by decide +kernel
theorem dX8_init_23 : decode cX8_init 23 = .ok (.newarray .int, 2) := by decide +kernel
theorem dX8_init_25 : decode cX8_init 25 = .ok (.putfield 18, 3) := by decide +kernel
theorem dX8_init_28 : decode cX8_init 28 = .ok (.aload_n 0, 1) := by decide +kernel
theorem dX8_init_29 : decode cX8_init 29 = .ok (.bipush 20, 2) := by decide +kernel
theorem dX8_init_31 : decode cX8_init 31 = .ok (.newarray .int, 2) := by decide +kernel
theorem dX8_init_33 : decode cX8_init 33 = .ok (.putfield 21, 3) := by decide +kernel
theorem dX8_init_36 : decode cX8_init 36 = .ok (.aload_n 0, 1) := by decide +kernel
theorem dX8_init_37 : decode cX8_init 37 = .ok (.new 24, 3) := by decide +kernel
theorem dX8_init_40 : decode cX8_init 40 = .ok (.dup, 1) := by decide +kernel
theorem dX8_init_41 : decode cX8_init 41 = .ok (.invokespecial 26, 3) := by decide +kernel
theorem dX8_init_44 : decode cX8_init 44 = .ok (.putfield 27, 3) := by decide +kernel
theorem dX8_init_47 : decode cX8_init 47 = .ok (.aload_n 0, 1) := by decide +kernel
theorem dX8_init_48 : decode cX8_init 48 = .ok (.new 24, 3) := by decide +kernel
theorem dX8_init_51 : decode cX8_init 51 = .ok (.dup, 1) := by decide +kernel
theorem dX8_init_52 : decode cX8_init 52 = .ok (.invokespecial 26, 3) := by decide +kernel
theorem dX8_init_55 : decode cX8_init 55 = .ok (.putfield 31, 3) := by decide +kernel
theorem dX8_init_58 : decode cX8_init 58 = .ok (.return_, 1) := by decide +kernel
theorem dX8_tellStorm_0 : decode cX8_tellStorm 0 = .ok (.aload_n 0, 1) := by decide +kernel
theorem dX8_tellStorm_1 : decode cX8_tellStorm 1 = .ok (.getfield 15, 3) := by decide +kernel
theorem dX8_tellStorm_4 : decode cX8_tellStorm 4 = .ok (.aload_n 0, 1) := by decide +kernel
theorem dX8_tellStorm_5 : decode cX8_tellStorm 5 = .ok (.getfield 34, 3) := by decide +kernel
theorem dX8_tellStorm_8 : decode cX8_tellStorm 8 = .ok (.iload_n 1, 1) := by decide +kernel
theorem dX8_tellStorm_9 : decode cX8_tellStorm 9 = .ok (.iastore, 1) := by decide +kernel
theorem dX8_tellStorm_10 : decode cX8_tellStorm 10 = .ok (.aload_n 0, 1) := by decide +kernel
theorem dX8_tellStorm_11 : decode cX8_tellStorm 11 = .ok (.getfield 18, 3) := by decide +kernel
theorem dX8_tellStorm_14 : decode cX8_tellStorm 14 = .ok (.aload_n 0, 1) := by decide +kernel
theorem dX8_tellStorm_15 : decode cX8_tellStorm 15 = .ok (.getfield 34, 3) := by decide +kernel
theorem dX8_tellStorm_18 : decode cX8_tellStorm 18 = .ok (.iload_n 2, 1) := by decide +kernel
theorem dX8_tellStorm_19 : decode cX8_tellStorm 19 = .ok (.iastore, 1) := by decide +kernel
theorem dX8_tellStorm_20 : decode cX8_tellStorm 20 = .ok (.aload_n 0, 1) := by decide +kernel
theorem dX8_tellStorm_21 : decode cX8_tellStorm 21 = .ok (.getfield 21, 3) := by decide +kernel
theorem dX8_tellStorm_24 : decode cX8_tellStorm 24 = .ok (.aload_n 0, 1) := by decide +kernel
theorem dX8_tellStorm_25 : decode cX8_tellStorm 25 = .ok (.getfield 34, 3) := by decide +kernel
theorem dX8_tellStorm_28 : decode cX8_tellStorm 28 = .ok (.iload_n 3, 1) := by decide +kernel
theorem dX8_tellStorm_29 : decode cX8_tellStorm 29 = .ok (.iastore, 1) := by decide +kernel
theorem dX8_tellStorm_30 : decode cX8_tellStorm 30 = .ok (.aload_n 0, 1) := by decide +kernel
theorem dX8_tellStorm_31 : decode cX8_tellStorm 31 = .ok (.dup, 1) := by decide +kernel
theorem dX8_tellStorm_32 : decode cX8_tellStorm 32 = .ok (.getfield 34, 3) := by decide +kernel
theorem dX8_tellStorm_35 : decode cX8_tellStorm 35 = .ok (.iconst 1, 1) := by decide +kernel
theorem dX8_tellStorm_36 : decode cX8_tellStorm 36 = .ok (.iadd, 1) := by decide +kernel
theorem dX8_tellStorm_37 : decode cX8_tellStorm 37 = .ok (.putfield 34, 3) := by decide +kernel
theorem dX8_tellStorm_40 : decode cX8_tellStorm 40 = .ok (.aload_n 0, 1) := by decide +kernel
theorem dX8_tellStorm_41 : decode cX8_tellStorm 41 = .ok (.getfield 34, 3) := by decide +kernel
theorem dX8_tellStorm_44 : decode cX8_tellStorm 44 = .ok (.ireturn, 1) := by decide +kernel
theorem dX8_outsideAt_0 : decode cX8_outsideAt 0 = .ok (.aload_n 0, 1) := by decide +kernel
theorem dX8_outsideAt_1 : decode cX8_outsideAt 1 = .ok (.getfield 9, 3) := by decide +kernel
theorem dX8_outsideAt_4 : decode cX8_outsideAt 4 = .ok (.iload_n 1, 1) := by decide +kernel
theorem dX8_outsideAt_5 : decode cX8_outsideAt 5 = .ok (.bipush 12, 2) := by decide +kernel
theorem dX8_outsideAt_7 : decode cX8_outsideAt 7 = .ok (.invokestatic 38, 3) := by decide +kernel
theorem dX8_outsideAt_10 : decode cX8_outsideAt 10 = .ok (.iaload, 1) := by decide +kernel
theorem dX8_outsideAt_11 : decode cX8_outsideAt 11 = .ok (.istore_n 2, 1) := by decide +kernel
theorem dX8_outsideAt_12 : decode cX8_outsideAt 12 = .ok (.iconst 0, 1) := by decide +kernel
theorem dX8_outsideAt_13 : decode cX8_outsideAt 13 = .ok (.istore_n 3, 1) := by decide +kernel
theorem dX8_outsideAt_14 : decode cX8_outsideAt 14 = .ok (.iload_n 3, 1) := by decide +kernel
theorem dX8_outsideAt_15 : decode cX8_outsideAt 15 = .ok (.aload_n 0, 1) := by decide +kernel
theorem dX8_outsideAt_16 : decode cX8_outsideAt 16 = .ok (.getfield 34, 3) := by decide +kernel
theorem dX8_outsideAt_19 : decode cX8_outsideAt 19 = .ok (.if_icmp .ge 38, 3) := by decide +kernel
theorem dX8_outsideAt_22 : decode cX8_outsideAt 22 = .ok (.aload_n 0, 1) := by decide +kernel
theorem dX8_outsideAt_23 : decode cX8_outsideAt 23 = .ok (.getfield 15, 3) := by decide +kernel
theorem dX8_outsideAt_26 : decode cX8_outsideAt 26 = .ok (.iload_n 3, 1) := by decide +kernel
theorem dX8_outsideAt_27 : decode cX8_outsideAt 27 = .ok (.iaload, 1) := by decide +kernel
theorem dX8_outsideAt_28 : decode cX8_outsideAt 28 = .ok (.iload_n 1, 1) := by decide +kernel
theorem dX8_outsideAt_29 : decode cX8_outsideAt 29 = .ok (.if_icmp .gt 22, 3) := by decide +kernel
theorem dX8_outsideAt_32 : decode cX8_outsideAt 32 = .ok (.iload_n 1, 1) := by decide +kernel
theorem dX8_outsideAt_33 : decode cX8_outsideAt 33 = .ok (.aload_n 0, 1) := by decide +kernel
theorem dX8_outsideAt_34 : decode cX8_outsideAt 34 = .ok (.getfield 18, 3) := by decide +kernel
theorem dX8_outsideAt_37 : decode cX8_outsideAt 37 = .ok (.iload_n 3, 1) := by decide +kernel
theorem dX8_outsideAt_38 : decode cX8_outsideAt 38 = .ok (.iaload, 1) := by decide +kernel
theorem dX8_outsideAt_39 : decode cX8_outsideAt 39 = .ok (.if_icmp .gt 12, 3) := by decide +kernel
theorem dX8_outsideAt_42 : decode cX8_outsideAt 42 = .ok (.iload_n 2, 1) := by decide +kernel
theorem dX8_outsideAt_43 : decode cX8_outsideAt 43 = .ok (.aload_n 0, 1) := by decide +kernel
theorem dX8_outsideAt_44 : decode cX8_outsideAt 44 = .ok (.getfield 21, 3) := by decide +kernel
theorem dX8_outsideAt_47 : decode cX8_outsideAt 47 = .ok (.iload_n 3, 1) := by decide +kernel
theorem dX8_outsideAt_48 : decode cX8_outsideAt 48 = .ok (.iaload, 1) := by decide +kernel
theorem dX8_outsideAt_49 : decode cX8_outsideAt 49 = .ok (.iadd, 1) := by decide +kernel
theorem dX8_outsideAt_50 : decode cX8_outsideAt 50 = .ok (.istore_n 2, 1) := by decide +kernel
theorem dX8_outsideAt_51 : decode cX8_outsideAt 51 = .ok (.iinc 3 1, 3) := by decide +kernel
theorem dX8_outsideAt_54 : decode cX8_outsideAt 54 = .ok (.goto (-40), 3) := by decide +kernel
theorem dX8_outsideAt_57 : decode cX8_outsideAt 57 = .ok (.iload_n 2, 1) := by decide +kernel
theorem dX8_outsideAt_58 : decode cX8_outsideAt 58 = .ok (.ireturn, 1) := by decide +kernel
theorem dX8_windAt_0 : decode cX8_windAt 0 = .ok (.aload_n 0, 1) := by decide +kernel
theorem dX8_windAt_1 : decode cX8_windAt 1 = .ok (.getfield 27, 3) := by decide +kernel
theorem dX8_windAt_4 : decode cX8_windAt 4 = .ok (.iload_n 1, 1) := by decide +kernel
theorem dX8_windAt_5 : decode cX8_windAt 5 = .ok (.invokevirtual 44, 3) := by decide +kernel
theorem dX8_windAt_8 : decode cX8_windAt 8 = .ok (.istore_n 2, 1) := by decide +kernel
theorem dX8_windAt_9 : decode cX8_windAt 9 = .ok (.iload_n 2, 1) := by decide +kernel
theorem dX8_windAt_10 : decode cX8_windAt 10 = .ok (.iconst (-1), 1) := by decide +kernel
theorem dX8_windAt_11 : decode cX8_windAt 11 = .ok (.if_icmp .ne 5, 3) := by decide +kernel
theorem dX8_windAt_14 : decode cX8_windAt 14 = .ok (.iconst 0, 1) := by decide +kernel
theorem dX8_windAt_15 : decode cX8_windAt 15 = .ok (.ireturn, 1) := by decide +kernel
theorem dX8_windAt_16 : decode cX8_windAt 16 = .ok (.aload_n 0, 1) := by decide +kernel
theorem dX8_windAt_17 : decode cX8_windAt 17 = .ok (.getfield 27, 3) := by decide +kernel
theorem dX8_windAt_20 : decode cX8_windAt 20 = .ok (.getfield 48, 3) := by decide +kernel
theorem dX8_windAt_23 : decode cX8_windAt 23 = .ok (.iload_n 2, 1) := by decide +kernel
theorem dX8_windAt_24 : decode cX8_windAt 24 = .ok (.iaload, 1) := by decide +kernel
theorem dX8_windAt_25 : decode cX8_windAt 25 = .ok (.iconst (-1), 1) := by decide +kernel
theorem dX8_windAt_26 : decode cX8_windAt 26 = .ok (.if_icmp .eq 13, 3) := by decide +kernel
theorem dX8_windAt_29 : decode cX8_windAt 29 = .ok (.aload_n 0, 1) := by decide +kernel
theorem dX8_windAt_30 : decode cX8_windAt 30 = .ok (.getfield 27, 3) := by decide +kernel
theorem dX8_windAt_33 : decode cX8_windAt 33 = .ok (.getfield 48, 3) := by decide +kernel
theorem dX8_windAt_36 : decode cX8_windAt 36 = .ok (.iload_n 2, 1) := by decide +kernel
theorem dX8_windAt_37 : decode cX8_windAt 37 = .ok (.iaload, 1) := by decide +kernel
theorem dX8_windAt_38 : decode cX8_windAt 38 = .ok (.ireturn, 1) := by decide +kernel
theorem dX8_windAt_39 : decode cX8_windAt 39 = .ok (.aload_n 0, 1) := by decide +kernel
theorem dX8_windAt_40 : decode cX8_windAt 40 = .ok (.getfield 27, 3) := by decide +kernel
theorem dX8_windAt_43 : decode cX8_windAt 43 = .ok (.getfield 51, 3) := by decide +kernel
theorem dX8_windAt_46 : decode cX8_windAt 46 = .ok (.iload_n 2, 1) := by decide +kernel
theorem dX8_windAt_47 : decode cX8_windAt 47 = .ok (.iaload, 1) := by decide +kernel
theorem dX8_windAt_48 : decode cX8_windAt 48 = .ok (.istore_n 3, 1) := by decide +kernel
theorem dX8_windAt_49 : decode cX8_windAt 49 = .ok (.iconst 0, 1) := by decide +kernel
theorem dX8_windAt_50 : decode cX8_windAt 50 = .ok (.aload_n 0, 1) := by decide +kernel
theorem dX8_windAt_51 : decode cX8_windAt 51 = .ok (.getfield 27, 3) := by decide +kernel
theorem dX8_windAt_54 : decode cX8_windAt 54 = .ok (.iload_n 3, 1) := by decide +kernel
theorem dX8_windAt_55 : decode cX8_windAt 55 = .ok (.invokevirtual 54, 3) := by decide +kernel
theorem dX8_windAt_58 : decode cX8_windAt 58 = .ok (.aload_n 0, 1) := by decide +kernel
theorem dX8_windAt_59 : decode cX8_windAt 59 = .ok (.getfield 27, 3) := by decide +kernel
theorem dX8_windAt_62 : decode cX8_windAt 62 = .ok (.iload_n 3, 1) := by decide +kernel
theorem dX8_windAt_63 : decode cX8_windAt 63 = .ok (.invokevirtual 57, 3) := by decide +kernel
theorem dX8_windAt_66 : decode cX8_windAt 66 = .ok (.invokestatic 60, 3) := by decide +kernel
theorem dX8_windAt_69 : decode cX8_windAt 69 = .ok (.invokestatic 60, 3) := by decide +kernel
theorem dX8_windAt_72 : decode cX8_windAt 72 = .ok (.ireturn, 1) := by decide +kernel
theorem dX8_rainAt_0 : decode cX8_rainAt 0 = .ok (.aload_n 0, 1) := by decide +kernel
theorem dX8_rainAt_1 : decode cX8_rainAt 1 = .ok (.getfield 31, 3) := by decide +kernel
theorem dX8_rainAt_4 : decode cX8_rainAt 4 = .ok (.iload_n 1, 1) := by decide +kernel
theorem dX8_rainAt_5 : decode cX8_rainAt 5 = .ok (.invokevirtual 44, 3) := by decide +kernel
theorem dX8_rainAt_8 : decode cX8_rainAt 8 = .ok (.istore_n 2, 1) := by decide +kernel
theorem dX8_rainAt_9 : decode cX8_rainAt 9 = .ok (.iload_n 2, 1) := by decide +kernel
theorem dX8_rainAt_10 : decode cX8_rainAt 10 = .ok (.iconst (-1), 1) := by decide +kernel
theorem dX8_rainAt_11 : decode cX8_rainAt 11 = .ok (.if_icmp .ne 7, 3) := by decide +kernel
theorem dX8_rainAt_14 : decode cX8_rainAt 14 = .ok (.iconst 0, 1) := by decide +kernel
theorem dX8_rainAt_15 : decode cX8_rainAt 15 = .ok (.goto 12, 3) := by decide +kernel
theorem dX8_rainAt_18 : decode cX8_rainAt 18 = .ok (.aload_n 0, 1) := by decide +kernel
theorem dX8_rainAt_19 : decode cX8_rainAt 19 = .ok (.getfield 31, 3) := by decide +kernel
theorem dX8_rainAt_22 : decode cX8_rainAt 22 = .ok (.getfield 48, 3) := by decide +kernel
theorem dX8_rainAt_25 : decode cX8_rainAt 25 = .ok (.iload_n 2, 1) := by decide +kernel
theorem dX8_rainAt_26 : decode cX8_rainAt 26 = .ok (.iaload, 1) := by decide +kernel
theorem dX8_rainAt_27 : decode cX8_rainAt 27 = .ok (.ireturn, 1) := by decide +kernel
theorem dX8_copyFrom_0 : decode cX8_copyFrom 0 = .ok (.aload_n 1, 1) := by decide +kernel
theorem dX8_copyFrom_1 : decode cX8_copyFrom 1 = .ok (.getfield 9, 3) := by decide +kernel
theorem dX8_copyFrom_4 : decode cX8_copyFrom 4 = .ok (.iconst 0, 1) := by decide +kernel
theorem dX8_copyFrom_5 : decode cX8_copyFrom 5 = .ok (.aload_n 0, 1) := by decide +kernel
theorem dX8_copyFrom_6 : decode cX8_copyFrom 6 = .ok (.getfield 9, 3) := by decide +kernel
theorem dX8_copyFrom_9 : decode cX8_copyFrom 9 = .ok (.iconst 0, 1) := by decide +kernel
theorem dX8_copyFrom_10 : decode cX8_copyFrom 10 = .ok (.bipush 12, 2) := by decide +kernel
theorem dX8_copyFrom_12 : decode cX8_copyFrom 12 = .ok (.invokestatic 63, 3) := by decide +kernel
theorem dX8_copyFrom_15 : decode cX8_copyFrom 15 = .ok (.aload_n 1, 1) := by decide +kernel
theorem dX8_copyFrom_16 : decode cX8_copyFrom 16 = .ok (.getfield 15, 3) := by decide +kernel
theorem dX8_copyFrom_19 : decode cX8_copyFrom 19 = .ok (.iconst 0, 1) := by decide +kernel
theorem dX8_copyFrom_20 : decode cX8_copyFrom 20 = .ok (.aload_n 0, 1) := by decide +kernel
theorem dX8_copyFrom_21 : decode cX8_copyFrom 21 = .ok (.getfield 15, 3) := by decide +kernel
theorem dX8_copyFrom_24 : decode cX8_copyFrom 24 = .ok (.iconst 0, 1) := by decide +kernel
theorem dX8_copyFrom_25 : decode cX8_copyFrom 25 = .ok (.bipush 20, 2) := by decide +kernel
theorem dX8_copyFrom_27 : decode cX8_copyFrom 27 = .ok (.invokestatic 63, 3) := by decide +kernel
theorem dX8_copyFrom_30 : decode cX8_copyFrom 30 = .ok (.aload_n 1, 1) := by decide +kernel
theorem dX8_copyFrom_31 : decode cX8_copyFrom 31 = .ok (.getfield 18, 3) := by decide +kernel
theorem dX8_copyFrom_34 : decode cX8_copyFrom 34 = .ok (.iconst 0, 1) := by decide +kernel
theorem dX8_copyFrom_35 : decode cX8_copyFrom 35 = .ok (.aload_n 0, 1) := by decide +kernel
theorem dX8_copyFrom_36 : decode cX8_copyFrom 36 = .ok (.getfield 18, 3) := by decide +kernel
theorem dX8_copyFrom_39 : decode cX8_copyFrom 39 = .ok (.iconst 0, 1) := by decide +kernel
theorem dX8_copyFrom_40 : decode cX8_copyFrom 40 = .ok (.bipush 20, 2) := by decide +kernel
theorem dX8_copyFrom_42 : decode cX8_copyFrom 42 = .ok (.invokestatic 63, 3) := by decide +kernel
theorem dX8_copyFrom_45 : decode cX8_copyFrom 45 = .ok (.aload_n 1, 1) := by decide +kernel
theorem dX8_copyFrom_46 : decode cX8_copyFrom 46 = .ok (.getfield 21, 3) := by decide +kernel
theorem dX8_copyFrom_49 : decode cX8_copyFrom 49 = .ok (.iconst 0, 1) := by decide +kernel
theorem dX8_copyFrom_50 : decode cX8_copyFrom 50 = .ok (.aload_n 0, 1) := by decide +kernel
theorem dX8_copyFrom_51 : decode cX8_copyFrom 51 = .ok (.getfield 21, 3) := by decide +kernel
theorem dX8_copyFrom_54 : decode cX8_copyFrom 54 = .ok (.iconst 0, 1) := by decide +kernel
theorem dX8_copyFrom_55 : decode cX8_copyFrom 55 = .ok (.bipush 20, 2) := by decide +kernel
theorem dX8_copyFrom_57 : decode cX8_copyFrom 57 = .ok (.invokestatic 63, 3) := by decide +kernel
theorem dX8_copyFrom_60 : decode cX8_copyFrom 60 = .ok (.aload_n 0, 1) := by decide +kernel
theorem dX8_copyFrom_61 : decode cX8_copyFrom 61 = .ok (.getfield 27, 3) := by decide +kernel
theorem dX8_copyFrom_64 : decode cX8_copyFrom 64 = .ok (.aload_n 1, 1) := by decide +kernel
theorem dX8_copyFrom_65 : decode cX8_copyFrom 65 = .ok (.getfield 27, 3) := by decide +kernel
theorem dX8_copyFrom_68 : decode cX8_copyFrom 68 = .ok (.invokevirtual 69, 3) := by decide +kernel
theorem dX8_copyFrom_71 : decode cX8_copyFrom 71 = .ok (.aload_n 0, 1) := by decide +kernel
theorem dX8_copyFrom_72 : decode cX8_copyFrom 72 = .ok (.getfield 31, 3) := by decide +kernel
theorem dX8_copyFrom_75 : decode cX8_copyFrom 75 = .ok (.aload_n 1, 1) := by decide +kernel
theorem dX8_copyFrom_76 : decode cX8_copyFrom 76 = .ok (.getfield 31, 3) := by decide +kernel
theorem dX8_copyFrom_79 : decode cX8_copyFrom 79 = .ok (.invokevirtual 69, 3) := by decide +kernel
theorem dX8_copyFrom_82 : decode cX8_copyFrom 82 = .ok (.aload_n 0, 1) := by decide +kernel
theorem dX8_copyFrom_83 : decode cX8_copyFrom 83 = .ok (.aload_n 1, 1) := by decide +kernel
theorem dX8_copyFrom_84 : decode cX8_copyFrom 84 = .ok (.getfield 34, 3) := by decide +kernel
theorem dX8_copyFrom_87 : decode cX8_copyFrom 87 = .ok (.putfield 34, 3) := by decide +kernel
theorem dX8_copyFrom_90 : decode cX8_copyFrom 90 = .ok (.return_, 1) := by decide +kernel
theorem dX9_init_0 : decode cX9_init 0 = .ok (.aload_n 0, 1) := by decide +kernel
theorem dX9_init_1 : decode cX9_init 1 = .ok (.invokespecial 3, 3) := by decide +kernel
theorem dX9_init_4 : decode cX9_init 4 = .ok (.aload_n 0, 1) := by decide +kernel
theorem dX9_init_5 : decode cX9_init 5 = .ok (.bipush 60, 2) := by decide +kernel
theorem dX9_init_7 : decode cX9_init 7 = .ok (.newarray .int, 2) := by decide +kernel
theorem dX9_init_9 : decode cX9_init 9 = .ok (.putfield 9, 3) := by decide +kernel
theorem dX9_init_12 : decode cX9_init 12 = .ok (.aload_n 0, 1) := by decide +kernel
theorem dX9_init_13 : decode cX9_init 13 = .ok (.bipush 60, 2) := by decide +kernel
theorem dX9_init_15 : decode cX9_init 15 = .ok (.newarray .int, 2) := by decide +kernel
theorem dX9_init_17 : decode cX9_init 17 = .ok (.putfield 15, 3) := by decide +kernel
theorem dX9_init_20 : decode cX9_init 20 = .ok (.return_, 1) := by decide +kernel
theorem dX9_tell_0 : decode cX9_tell 0 = .ok (.iconst 0, 1) := by decide +kernel
theorem dX9_tell_1 : decode cX9_tell 1 = .ok (.istore_n 3, 1) := by decide +kernel
theorem dX9_tell_2 : decode cX9_tell 2 = .ok (.iload_n 3, 1) := by decide +kernel
theorem dX9_tell_3 : decode cX9_tell 3 = .ok (.aload_n 0, 1) := by decide +kernel
theorem dX9_tell_4 : decode cX9_tell 4 = .ok (.getfield 18, 3) := by decide +kernel
theorem dX9_tell_7 : decode cX9_tell 7 = .ok (.if_icmp .ge 26, 3) := by decide +kernel
theorem dX9_tell_10 : decode cX9_tell 10 = .ok (.aload_n 0, 1) := by decide +kernel
theorem dX9_tell_11 : decode cX9_tell 11 = .ok (.getfield 9, 3) := by decide +kernel
theorem dX9_tell_14 : decode cX9_tell 14 = .ok (.iload_n 3, 1) := by decide +kernel
theorem dX9_tell_15 : decode cX9_tell 15 = .ok (.iaload, 1) := by decide +kernel
theorem dX9_tell_16 : decode cX9_tell 16 = .ok (.iload_n 1, 1) := by decide +kernel
theorem dX9_tell_17 : decode cX9_tell 17 = .ok (.if_icmp .ne 10, 3) := by decide +kernel
theorem dX9_tell_20 : decode cX9_tell 20 = .ok (.aload_n 0, 1) := by decide +kernel
theorem dX9_tell_21 : decode cX9_tell 21 = .ok (.getfield 9, 3) := by decide +kernel
theorem dX9_tell_24 : decode cX9_tell 24 = .ok (.iload_n 3, 1) := by decide +kernel
theorem dX9_tell_25 : decode cX9_tell 25 = .ok (.iconst (-1), 1) := by decide +kernel
theorem dX9_tell_26 : decode cX9_tell 26 = .ok (.iastore, 1) := by decide +kernel
theorem dX9_tell_27 : decode cX9_tell 27 = .ok (.iinc 3 1, 3) := by decide +kernel
theorem dX9_tell_30 : decode cX9_tell 30 = .ok (.goto (-28), 3) := by decide +kernel
theorem dX9_tell_33 : decode cX9_tell 33 = .ok (.aload_n 0, 1) := by decide +kernel
theorem dX9_tell_34 : decode cX9_tell 34 = .ok (.getfield 9, 3) := by decide +kernel
theorem dX9_tell_37 : decode cX9_tell 37 = .ok (.aload_n 0, 1) := by decide +kernel
theorem dX9_tell_38 : decode cX9_tell 38 = .ok (.getfield 18, 3) := by decide +kernel
theorem dX9_tell_41 : decode cX9_tell 41 = .ok (.iload_n 1, 1) := by decide +kernel
theorem dX9_tell_42 : decode cX9_tell 42 = .ok (.iastore, 1) := by decide +kernel
theorem dX9_tell_43 : decode cX9_tell 43 = .ok (.aload_n 0, 1) := by decide +kernel
theorem dX9_tell_44 : decode cX9_tell 44 = .ok (.getfield 15, 3) := by decide +kernel
theorem dX9_tell_47 : decode cX9_tell 47 = .ok (.aload_n 0, 1) := by decide +kernel
theorem dX9_tell_48 : decode cX9_tell 48 = .ok (.getfield 18, 3) := by decide +kernel
theorem dX9_tell_51 : decode cX9_tell 51 = .ok (.iload_n 2, 1) := by decide +kernel
theorem dX9_tell_52 : decode cX9_tell 52 = .ok (.iastore, 1) := by decide +kernel
theorem dX9_tell_53 : decode cX9_tell 53 = .ok (.aload_n 0, 1) := by decide +kernel
theorem dX9_tell_54 : decode cX9_tell 54 = .ok (.dup, 1) := by decide +kernel
theorem dX9_tell_55 : decode cX9_tell 55 = .ok (.getfield 18, 3) := by decide +kernel
theorem dX9_tell_58 : decode cX9_tell 58 = .ok (.iconst 1, 1) := by decide +kernel
theorem dX9_tell_59 : decode cX9_tell 59 = .ok (.iadd, 1) := by decide +kernel
theorem dX9_tell_60 : decode cX9_tell 60 = .ok (.putfield 18, 3) := by decide +kernel
theorem dX9_tell_63 : decode cX9_tell 63 = .ok (.aload_n 0, 1) := by decide +kernel
theorem dX9_tell_64 : decode cX9_tell 64 = .ok (.getfield 18, 3) := by decide +kernel
theorem dX9_tell_67 : decode cX9_tell 67 = .ok (.ireturn, 1) := by decide +kernel
theorem dX9_standingAt_0 : decode cX9_standingAt 0 = .ok (.iconst (-1), 1) := by decide +kernel
theorem dX9_standingAt_1 : decode cX9_standingAt 1 = .ok (.istore_n 2, 1) := by decide +kernel
theorem dX9_standingAt_2 : decode cX9_standingAt 2 = .ok (.iconst (-1), 1) := by decide +kernel
theorem dX9_standingAt_3 : decode cX9_standingAt 3 = .ok (.istore_n 3, 1) := by decide +kernel
theorem dX9_standingAt_4 : decode cX9_standingAt 4 = .ok (.iconst 0, 1) := by decide +kernel
theorem dX9_standingAt_5 : decode cX9_standingAt 5 = .ok (.istore 4, 2) := by decide +kernel
theorem dX9_standingAt_7 : decode cX9_standingAt 7 = .ok (.iload 4, 2) := by decide +kernel
theorem dX9_standingAt_9 : decode cX9_standingAt 9 = .ok (.aload_n 0, 1) := by decide +kernel
theorem dX9_standingAt_10 : decode cX9_standingAt 10 = .ok (.getfield 18, 3) := by decide +kernel
theorem dX9_standingAt_13 : decode cX9_standingAt 13 = .ok (.if_icmp .ge 42, 3) := by decide +kernel
theorem dX9_standingAt_16 : decode cX9_standingAt 16 = .ok (.aload_n 0, 1) := by decide +kernel
theorem dX9_standingAt_17 : decode cX9_standingAt 17 = .ok (.getfield 9, 3) := by decide +kernel
theorem dX9_standingAt_20 : decode cX9_standingAt 20 = .ok (.iload 4, 2) := by decide +kernel
theorem dX9_standingAt_22 : decode cX9_standingAt 22 = .ok (.iaload, 1) := by decide +kernel
theorem dX9_standingAt_23 : decode cX9_standingAt 23 = .ok (.iload_n 1, 1) := by decide +kernel
theorem dX9_standingAt_24 : decode cX9_standingAt 24 = .ok (.if_icmp .gt 25, 3) := by decide +kernel
theorem dX9_standingAt_27 : decode cX9_standingAt 27 = .ok (.aload_n 0, 1) := by decide +kernel
theorem dX9_standingAt_28 : decode cX9_standingAt 28 = .ok (.getfield 9, 3) := by decide +kernel
theorem dX9_standingAt_31 : decode cX9_standingAt 31 = .ok (.iload 4, 2) := by decide +kernel
theorem dX9_standingAt_33 : decode cX9_standingAt 33 = .ok (.iaload, 1) := by decide +kernel
theorem dX9_standingAt_34 : decode cX9_standingAt 34 = .ok (.iload_n 3, 1) := by decide +kernel
theorem dX9_standingAt_35 : decode cX9_standingAt 35 = .ok (.if_icmp .le 14, 3) := by decide +kernel
theorem dX9_standingAt_38 : decode cX9_standingAt 38 = .ok (.aload_n 0, 1) := by decide +kernel
theorem dX9_standingAt_39 : decode cX9_standingAt 39 = .ok (.getfield 9, 3) := by decide +kernel
theorem dX9_standingAt_42 : decode cX9_standingAt 42 = .ok (.iload 4, 2) := by decide +kernel
theorem dX9_standingAt_44 : decode cX9_standingAt 44 = .ok (.iaload, 1) := by decide +kernel
theorem dX9_standingAt_45 : decode cX9_standingAt 45 = .ok (.istore_n 3, 1) := by decide +kernel
theorem dX9_standingAt_46 : decode cX9_standingAt 46 = .ok (.iload 4, 2) := by decide +kernel
theorem dX9_standingAt_48 : decode cX9_standingAt 48 = .ok (.istore_n 2, 1) := by decide +kernel
theorem dX9_standingAt_49 : decode cX9_standingAt 49 = .ok (.iinc 4 1, 3) := by decide +kernel
theorem dX9_standingAt_52 : decode cX9_standingAt 52 = .ok (.goto (-45), 3) := by decide +kernel
theorem dX9_standingAt_55 : decode cX9_standingAt 55 = .ok (.iload_n 2, 1) := by decide +kernel
theorem dX9_standingAt_56 : decode cX9_standingAt 56 = .ok (.ireturn, 1) := by decide +kernel
theorem dX9_nearestNumberBefore_0 : decode cX9_nearestNumberBefore 0 = .ok (.iconst (-1), 1) := by decide +kernel
theorem dX9_nearestNumberBefore_1 : decode cX9_nearestNumberBefore 1 = .ok (.istore_n 2, 1) := by decide +kernel
theorem dX9_nearestNumberBefore_2 : decode cX9_nearestNumberBefore 2 = .ok (.iconst (-1), 1) := by decide +kernel
theorem dX9_nearestNumberBefore_3 : decode cX9_nearestNumberBefore 3 = .ok (.istore_n 3, 1) := by decide +kernel
theorem dX9_nearestNumberBefore_4 : decode cX9_nearestNumberBefore 4 = .ok (.iconst 0, 1) := by decide +kernel
theorem dX9_nearestNumberBefore_5 : decode cX9_nearestNumberBefore 5 = .ok (.istore 4, 2) := by decide +kernel
theorem dX9_nearestNumberBefore_7 : decode cX9_nearestNumberBefore 7 = .ok (.iload 4, 2) := by decide +kernel
theorem dX9_nearestNumberBefore_9 : decode cX9_nearestNumberBefore 9 = .ok (.aload_n 0, 1) := by decide +kernel
theorem dX9_nearestNumberBefore_10 : decode cX9_nearestNumberBefore 10 = .ok (.getfield 18, 3) := by decide +kernel
theorem dX9_nearestNumberBefore_13 : decode cX9_nearestNumberBefore 13 = .ok (.if_icmp .ge 58, 3) := by decide +kernel
theorem dX9_nearestNumberBefore_16 : decode cX9_nearestNumberBefore 16 = .ok (.aload_n 0, 1) := by decide +kernel
theorem dX9_nearestNumberBefore_17 : decode cX9_nearestNumberBefore 17 = .ok (.getfield 15, 3) := by decide +kernel
theorem dX9_nearestNumberBefore_20 : decode cX9_nearestNumberBefore 20 = .ok (.iload 4, 2) := by decide +kernel
theorem dX9_nearestNumberBefore_22 : decode cX9_nearestNumberBefore 22 = .ok (.iaload, 1) := by decide +kernel
theorem dX9_nearestNumberBefore_23 : decode cX9_nearestNumberBefore 23 = .ok (.iconst (-1), 1) := by decide +kernel
theorem dX9_nearestNumberBefore_24 : decode cX9_nearestNumberBefore 24 = .ok (.if_icmp .eq 41, 3) := by decide +kernel
theorem dX9_nearestNumberBefore_27 : decode cX9_nearestNumberBefore 27 = .ok (.aload_n 0, 1) := by decide +kernel
theorem dX9_nearestNumberBefore_28 : decode cX9_nearestNumberBefore 28 = .ok (.getfield 9, 3) := by decide +kernel
theorem dX9_nearestNumberBefore_31 : decode cX9_nearestNumberBefore 31 = .ok (.iload 4, 2) := by decide +kernel
theorem dX9_nearestNumberBefore_33 : decode cX9_nearestNumberBefore 33 = .ok (.iaload, 1) := by decide +kernel
theorem dX9_nearestNumberBefore_34 : decode cX9_nearestNumberBefore 34 = .ok (.iload_n 1, 1) := by decide +kernel
theorem dX9_nearestNumberBefore_35 : decode cX9_nearestNumberBefore 35 = .ok (.if_icmp .ge 30, 3) := by decide +kernel
theorem dX9_nearestNumberBefore_38 : decode cX9_nearestNumberBefore 38 = .ok (.aload_n 0, 1) := by decide +kernel
theorem dX9_nearestNumberBefore_39 : decode cX9_nearestNumberBefore 39 = .ok (.getfield 9, 3) := by decide +kernel
theorem dX9_nearestNumberBefore_42 : decode cX9_nearestNumberBefore 42 = .ok (.iload 4, 2) := by decide +kernel
theorem dX9_nearestNumberBefore_44 : decode cX9_nearestNumberBefore 44 = .ok (.iaload, 1) := by decide +kernel
theorem dX9_nearestNumberBefore_45 : decode cX9_nearestNumberBefore 45 = .ok (.iload_n 3, 1) := by decide +kernel
theorem dX9_nearestNumberBefore_46 : decode cX9_nearestNumberBefore 46 = .ok (.if_icmp .le 19, 3) := by decide +kernel
theorem dX9_nearestNumberBefore_49 : decode cX9_nearestNumberBefore 49 = .ok (.aload_n 0, 1) := by decide +kernel
theorem dX9_nearestNumberBefore_50 : decode cX9_nearestNumberBefore 50 = .ok (.getfield 9, 3) := by decide +kernel
theorem dX9_nearestNumberBefore_53 : decode cX9_nearestNumberBefore 53 = .ok (.iload 4, 2) := by decide +kernel
theorem dX9_nearestNumberBefore_55 : decode cX9_nearestNumberBefore 55 = .ok (.iaload, 1) := by decide +kernel
theorem dX9_nearestNumberBefore_56 : decode cX9_nearestNumberBefore 56 = .ok (.istore_n 3, 1) := by decide +kernel
theorem dX9_nearestNumberBefore_57 : decode cX9_nearestNumberBefore 57 = .ok (.aload_n 0, 1) := by decide +kernel
theorem dX9_nearestNumberBefore_58 : decode cX9_nearestNumberBefore 58 = .ok (.getfield 15, 3) := by decide +kernel
theorem dX9_nearestNumberBefore_61 : decode cX9_nearestNumberBefore 61 = .ok (.iload 4, 2) := by decide +kernel
theorem dX9_nearestNumberBefore_63 : decode cX9_nearestNumberBefore 63 = .ok (.iaload, 1) := by decide +kernel
theorem dX9_nearestNumberBefore_64 : decode cX9_nearestNumberBefore 64 = .ok (.istore_n 2, 1) := by decide +kernel
theorem dX9_nearestNumberBefore_65 : decode cX9_nearestNumberBefore 65 = .ok (.iinc 4 1, 3) := by decide +kernel
theorem dX9_nearestNumberBefore_68 : decode cX9_nearestNumberBefore 68 = .ok (.goto (-61), 3) := by decide +kernel
theorem dX9_nearestNumberBefore_71 : decode cX9_nearestNumberBefore 71 = .ok (.iload_n 2, 1) := by decide +kernel
theorem dX9_nearestNumberBefore_72 : decode cX9_nearestNumberBefore 72 = .ok (.ireturn, 1) := by decide +kernel
theorem dX9_nearestNumberAfter_0 : decode cX9_nearestNumberAfter 0 = .ok (.iconst (-1), 1) := by decide +kernel
theorem dX9_nearestNumberAfter_1 : decode cX9_nearestNumberAfter 1 = .ok (.istore_n 2, 1) := by decide +kernel
theorem dX9_nearestNumberAfter_2 : decode cX9_nearestNumberAfter 2 = .ok (.ldc 22, 2) := by decide +kernel
theorem dX9_nearestNumberAfter_4 : decode cX9_nearestNumberAfter 4 = .ok (.istore_n 3, 1) := by decide +kernel
theorem dX9_nearestNumberAfter_5 : decode cX9_nearestNumberAfter 5 = .ok (.iconst 0, 1) := by decide +kernel
theorem dX9_nearestNumberAfter_6 : decode cX9_nearestNumberAfter 6 = .ok (.istore 4, 2) := by decide +kernel
theorem dX9_nearestNumberAfter_8 : decode cX9_nearestNumberAfter 8 = .ok (.iload 4, 2) := by decide +kernel
theorem dX9_nearestNumberAfter_10 : decode cX9_nearestNumberAfter 10 = .ok (.aload_n 0, 1) := by decide +kernel
theorem dX9_nearestNumberAfter_11 : decode cX9_nearestNumberAfter 11 = .ok (.getfield 18, 3) := by decide +kernel
theorem dX9_nearestNumberAfter_14 : decode cX9_nearestNumberAfter 14 = .ok (.if_icmp .ge 58, 3) := by decide +kernel
theorem dX9_nearestNumberAfter_17 : decode cX9_nearestNumberAfter 17 = .ok (.aload_n 0, 1) := by decide +kernel
theorem dX9_nearestNumberAfter_18 : decode cX9_nearestNumberAfter 18 = .ok (.getfield 15, 3) := by decide +kernel
theorem dX9_nearestNumberAfter_21 : decode cX9_nearestNumberAfter 21 = .ok (.iload 4, 2) := by decide +kernel
theorem dX9_nearestNumberAfter_23 : decode cX9_nearestNumberAfter 23 = .ok (.iaload, 1) := by decide +kernel
theorem dX9_nearestNumberAfter_24 : decode cX9_nearestNumberAfter 24 = .ok (.iconst (-1), 1) := by decide +kernel
theorem dX9_nearestNumberAfter_25 : decode cX9_nearestNumberAfter 25 = .ok (.if_icmp .eq 41, 3) := by decide +kernel
theorem dX9_nearestNumberAfter_28 : decode cX9_nearestNumberAfter 28 = .ok (.aload_n 0, 1) := by decide +kernel
theorem dX9_nearestNumberAfter_29 : decode cX9_nearestNumberAfter 29 = .ok (.getfield 9, 3) := by decide +kernel
theorem dX9_nearestNumberAfter_32 : decode cX9_nearestNumberAfter 32 = .ok (.iload 4, 2) := by decide +kernel
theorem dX9_nearestNumberAfter_34 : decode cX9_nearestNumberAfter 34 = .ok (.iaload, 1) := by decide +kernel
theorem dX9_nearestNumberAfter_35 : decode cX9_nearestNumberAfter 35 = .ok (.iload_n 1, 1) := by decide +kernel
theorem dX9_nearestNumberAfter_36 : decode cX9_nearestNumberAfter 36 = .ok (.if_icmp .le 30, 3) := by decide +kernel
theorem dX9_nearestNumberAfter_39 : decode cX9_nearestNumberAfter 39 = .ok (.aload_n 0, 1) := by decide +kernel
theorem dX9_nearestNumberAfter_40 : decode cX9_nearestNumberAfter 40 = .ok (.getfield 9, 3) := by decide +kernel
theorem dX9_nearestNumberAfter_43 : decode cX9_nearestNumberAfter 43 = .ok (.iload 4, 2) := by decide +kernel
theorem dX9_nearestNumberAfter_45 : decode cX9_nearestNumberAfter 45 = .ok (.iaload, 1) := by decide +kernel
theorem dX9_nearestNumberAfter_46 : decode cX9_nearestNumberAfter 46 = .ok (.iload_n 3, 1) := by decide +kernel
theorem dX9_nearestNumberAfter_47 : decode cX9_nearestNumberAfter 47 = .ok (.if_icmp .ge 19, 3) := by decide +kernel
theorem dX9_nearestNumberAfter_50 : decode cX9_nearestNumberAfter 50 = .ok (.aload_n 0, 1) := by decide +kernel
theorem dX9_nearestNumberAfter_51 : decode cX9_nearestNumberAfter 51 = .ok (.getfield 9, 3) := by decide +kernel
theorem dX9_nearestNumberAfter_54 : decode cX9_nearestNumberAfter 54 = .ok (.iload 4, 2) := by decide +kernel
theorem dX9_nearestNumberAfter_56 : decode cX9_nearestNumberAfter 56 = .ok (.iaload, 1) := by decide +kernel
theorem dX9_nearestNumberAfter_57 : decode cX9_nearestNumberAfter 57 = .ok (.istore_n 3, 1) := by decide +kernel
theorem dX9_nearestNumberAfter_58 : decode cX9_nearestNumberAfter 58 = .ok (.aload_n 0, 1) := by decide +kernel
theorem dX9_nearestNumberAfter_59 : decode cX9_nearestNumberAfter 59 = .ok (.getfield 15, 3) := by decide +kernel
theorem dX9_nearestNumberAfter_62 : decode cX9_nearestNumberAfter 62 = .ok (.iload 4, 2) := by decide +kernel
theorem dX9_nearestNumberAfter_64 : decode cX9_nearestNumberAfter 64 = .ok (.iaload, 1) := by decide +kernel
theorem dX9_nearestNumberAfter_65 : decode cX9_nearestNumberAfter 65 = .ok (.istore_n 2, 1) := by decide +kernel
theorem dX9_nearestNumberAfter_66 : decode cX9_nearestNumberAfter 66 = .ok (.iinc 4 1, 3) := by decide +kernel
theorem dX9_nearestNumberAfter_69 : decode cX9_nearestNumberAfter 69 = .ok (.goto (-61), 3) := by decide +kernel
theorem dX9_nearestNumberAfter_72 : decode cX9_nearestNumberAfter 72 = .ok (.iload_n 2, 1) := by decide +kernel
theorem dX9_nearestNumberAfter_73 : decode cX9_nearestNumberAfter 73 = .ok (.ireturn, 1) := by decide +kernel
theorem dX9_copyFrom_0 : decode cX9_copyFrom 0 = .ok (.aload_n 1, 1) := by decide +kernel
theorem dX9_copyFrom_1 : decode cX9_copyFrom 1 = .ok (.getfield 9, 3) := by decide +kernel
theorem dX9_copyFrom_4 : decode cX9_copyFrom 4 = .ok (.iconst 0, 1) := by decide +kernel
theorem dX9_copyFrom_5 : decode cX9_copyFrom 5 = .ok (.aload_n 0, 1) := by decide +kernel
theorem dX9_copyFrom_6 : decode cX9_copyFrom 6 = .ok (.getfield 9, 3) := by decide +kernel
theorem dX9_copyFrom_9 : decode cX9_copyFrom 9 = .ok (.iconst 0, 1) := by decide +kernel
theorem dX9_copyFrom_10 : decode cX9_copyFrom 10 = .ok (.bipush 60, 2) := by decide +kernel
theorem dX9_copyFrom_12 : decode cX9_copyFrom 12 = .ok (.invokestatic 23, 3) := by decide +kernel
theorem dX9_copyFrom_15 : decode cX9_copyFrom 15 = .ok (.aload_n 1, 1) := by decide +kernel
theorem dX9_copyFrom_16 : decode cX9_copyFrom 16 = .ok (.getfield 15, 3) := by decide +kernel
theorem dX9_copyFrom_19 : decode cX9_copyFrom 19 = .ok (.iconst 0, 1) := by decide +kernel
theorem dX9_copyFrom_20 : decode cX9_copyFrom 20 = .ok (.aload_n 0, 1) := by decide +kernel
theorem dX9_copyFrom_21 : decode cX9_copyFrom 21 = .ok (.getfield 15, 3) := by decide +kernel
theorem dX9_copyFrom_24 : decode cX9_copyFrom 24 = .ok (.iconst 0, 1) := by decide +kernel
theorem dX9_copyFrom_25 : decode cX9_copyFrom 25 = .ok (.bipush 60, 2) := by decide +kernel
theorem dX9_copyFrom_27 : decode cX9_copyFrom 27 = .ok (.invokestatic 23, 3) := by decide +kernel
theorem dX9_copyFrom_30 : decode cX9_copyFrom 30 = .ok (.aload_n 0, 1) := by decide +kernel
theorem dX9_copyFrom_31 : decode cX9_copyFrom 31 = .ok (.aload_n 1, 1) := by decide +kernel
theorem dX9_copyFrom_32 : decode cX9_copyFrom 32 = .ok (.getfield 18, 3) := by decide +kernel
theorem dX9_copyFrom_35 : decode cX9_copyFrom 35 = .ok (.putfield 18, 3) := by decide +kernel
theorem dX9_copyFrom_38 : decode cX9_copyFrom 38 = .ok (.return_, 1) := by decide +kernel
theorem dX10_init_0 : decode cX10_init 0 = .ok (.aload_n 0, 1) := by decide +kernel
theorem dX10_init_1 : decode cX10_init 1 = .ok (.invokespecial 3, 3) := by decide +kernel
theorem dX10_init_4 : decode cX10_init 4 = .ok (.aload_n 0, 1) := by decide +kernel
theorem dX10_init_5 : decode cX10_init 5 = .ok (.bipush 6, 2) := by decide +kernel
theorem dX10_init_7 : decode cX10_init 7 = .ok (.newarray .int, 2) := by decide +kernel
theorem dX10_init_9 : decode cX10_init 9 = .ok (.putfield 9, 3) := by decide +kernel
theorem dX10_init_12 : decode cX10_init 12 = .ok (.aload_n 0, 1) := by decide +kernel
theorem dX10_init_13 : decode cX10_init 13 = .ok (.bipush 6, 2) := by decide +kernel
theorem dX10_init_15 : decode cX10_init 15 = .ok (.newarray .int, 2) := by decide +kernel
theorem dX10_init_17 : decode cX10_init 17 = .ok (.putfield 15, 3) := by decide +kernel
theorem dX10_init_20 : decode cX10_init 20 = .ok (.return_, 1) := by decide +kernel
theorem dX10_begin_0 : decode cX10_begin 0 = .ok (.aload_n 0, 1) := by decide +kernel
theorem dX10_begin_1 : decode cX10_begin 1 = .ok (.iload_n 1, 1) := by decide +kernel
theorem dX10_begin_2 : decode cX10_begin 2 = .ok (.putfield 18, 3) := by decide +kernel
theorem dX10_begin_5 : decode cX10_begin 5 = .ok (.aload_n 0, 1) := by decide +kernel
theorem dX10_begin_6 : decode cX10_begin 6 = .ok (.iload_n 2, 1) := by decide +kernel
theorem dX10_begin_7 : decode cX10_begin 7 = .ok (.putfield 22, 3) := by decide +kernel
theorem dX10_begin_10 : decode cX10_begin 10 = .ok (.aload_n 0, 1) := by decide +kernel
theorem dX10_begin_11 : decode cX10_begin 11 = .ok (.iload_n 3, 1) := by decide +kernel
theorem dX10_begin_12 : decode cX10_begin 12 = .ok (.putfield 25, 3) := by decide +kernel
theorem dX10_begin_15 : decode cX10_begin 15 = .ok (.aload_n 0, 1) := by decide +kernel
theorem dX10_begin_16 : decode cX10_begin 16 = .ok (.iload 4, 2) := by decide +kernel
theorem dX10_begin_18 : decode cX10_begin 18 = .ok (.putfield 28, 3) := by decide +kernel
theorem dX10_begin_21 : decode cX10_begin 21 = .ok (.aload_n 0, 1) := by decide +kernel
theorem dX10_begin_22 : decode cX10_begin 22 = .ok (.iconst 0, 1) := by decide +kernel
theorem dX10_begin_23 : decode cX10_begin 23 = .ok (.putfield 31, 3) := by decide +kernel
theorem dX10_begin_26 : decode cX10_begin 26 = .ok (.aload_n 0, 1) := by decide +kernel
theorem dX10_begin_27 : decode cX10_begin 27 = .ok (.iconst 0, 1) := by decide +kernel
theorem dX10_begin_28 : decode cX10_begin 28 = .ok (.putfield 34, 3) := by decide +kernel
theorem dX10_begin_31 : decode cX10_begin 31 = .ok (.aload_n 0, 1) := by decide +kernel
theorem dX10_begin_32 : decode cX10_begin 32 = .ok (.iconst 0, 1) := by decide +kernel
theorem dX10_begin_33 : decode cX10_begin 33 = .ok (.putfield 37, 3) := by decide +kernel
theorem dX10_begin_36 : decode cX10_begin 36 = .ok (.aload_n 0, 1) := by decide +kernel
theorem dX10_begin_37 : decode cX10_begin 37 = .ok (.iconst 0, 1) := by decide +kernel
theorem dX10_begin_38 : decode cX10_begin 38 = .ok (.putfield 40, 3) := by decide +kernel
theorem dX10_begin_41 : decode cX10_begin 41 = .ok (.aload_n 0, 1) := by decide +kernel
theorem dX10_begin_42 : decode cX10_begin 42 = .ok (.iconst 0, 1) := by decide +kernel
theorem dX10_begin_43 : decode cX10_begin 43 = .ok (.putfield 44, 3) := by decide +kernel
theorem dX10_begin_46 : decode cX10_begin 46 = .ok (.aload_n 0, 1) := by decide +kernel
theorem dX10_begin_47 : decode cX10_begin 47 = .ok (.iconst 0, 1) := by decide +kernel
theorem dX10_begin_48 : decode cX10_begin 48 = .ok (.putfield 47, 3) := by decide +kernel
theorem dX10_begin_51 : decode cX10_begin 51 = .ok (.return_, 1) := by decide +kernel
theorem dX10_isBank_0 : decode cX10_isBank 0 = .ok (.aload_n 0, 1) := by decide +kernel
theorem dX10_isBank_1 : decode cX10_isBank 1 = .ok (.getfield 18, 3) := by decide +kernel
theorem dX10_isBank_4 : decode cX10_isBank 4 = .ok (.ifCond .eq 11, 3) := by decide +kernel
theorem dX10_isBank_7 : decode cX10_isBank 7 = .ok (.aload_n 0, 1) := by decide +kernel
theorem dX10_isBank_8 : decode cX10_isBank 8 = .ok (.getfield 18, 3) := by decide +kernel
theorem dX10_isBank_11 : decode cX10_isBank 11 = .ok (.iconst 1, 1) := by decide +kernel
theorem dX10_isBank_12 : decode cX10_isBank 12 = .ok (.if_icmp .ne 7, 3) := by decide +kernel
theorem dX10_isBank_15 : decode cX10_isBank 15 = .ok (.iconst 1, 1) := by decide +kernel
theorem dX10_isBank_16 : decode cX10_isBank 16 = .ok (.goto 4, 3) := by decide +kernel
theorem dX10_isBank_19 : decode cX10_isBank 19 = .ok (.iconst 0, 1) := by decide +kernel
theorem dX10_isBank_20 : decode cX10_isBank 20 = .ok (.ireturn, 1) := by decide +kernel
theorem dX10_takesLayer_0 : decode cX10_takesLayer 0 = .ok (.aload_n 0, 1) := by decide +kernel
theorem dX10_takesLayer_1 : decode cX10_takesLayer 1 = .ok (.getfield 18, 3) := by decide +kernel
theorem dX10_takesLayer_4 : decode cX10_takesLayer 4 = .ok (.ifCond .ne 16, 3) := by decide +kernel
theorem dX10_takesLayer_7 : decode cX10_takesLayer 7 = .ok (.aload_n 0, 1) := by decide +kernel
theorem dX10_takesLayer_8 : decode cX10_takesLayer 8 = .ok (.getfield 34, 3) := by decide +kernel
theorem dX10_takesLayer_11 : decode cX10_takesLayer 11 = .ok (.bipush 6, 2) := by decide +kernel
theorem dX10_takesLayer_13 : decode cX10_takesLayer 13 = .ok (.if_icmp .ge 7, 3) := by decide +kernel
theorem dX10_takesLayer_16 : decode cX10_takesLayer 16 = .ok (.iconst 1, 1) := by decide +kernel
theorem dX10_takesLayer_17 : decode cX10_takesLayer 17 = .ok (.goto 4, 3) := by decide +kernel
theorem dX10_takesLayer_20 : decode cX10_takesLayer 20 = .ok (.iconst 0, 1) := by decide +kernel
theorem dX10_takesLayer_21 : decode cX10_takesLayer 21 = .ok (.ireturn, 1) := by decide +kernel
theorem dX10_addLayer_0 : decode cX10_addLayer 0 = .ok (.aload_n 0, 1) := by decide +kernel
theorem dX10_addLayer_1 : decode cX10_addLayer 1 = .ok (.getfield 9, 3) := by decide +kernel
theorem dX10_addLayer_4 : decode cX10_addLayer 4 = .ok (.aload_n 0, 1) := by decide +kernel
theorem dX10_addLayer_5 : decode cX10_addLayer 5 = .ok (.getfield 34, 3) := by decide +kernel
theorem dX10_addLayer_8 : decode cX10_addLayer 8 = .ok (.iload_n 1, 1) := by decide +kernel
theorem dX10_addLayer_9 : decode cX10_addLayer 9 = .ok (.iastore, 1) := by decide +kernel
theorem dX10_addLayer_10 : decode cX10_addLayer 10 = .ok (.aload_n 0, 1) := by decide +kernel
theorem dX10_addLayer_11 : decode cX10_addLayer 11 = .ok (.getfield 15, 3) := by decide +kernel
theorem dX10_addLayer_14 : decode cX10_addLayer 14 = .ok (.aload_n 0, 1) := by decide +kernel
theorem dX10_addLayer_15 : decode cX10_addLayer 15 = .ok (.getfield 34, 3) := by decide +kernel
theorem dX10_addLayer_18 : decode cX10_addLayer 18 = .ok (.iload_n 2, 1) := by decide +kernel
theorem dX10_addLayer_19 : decode cX10_addLayer 19 = .ok (.iastore, 1) := by decide +kernel
theorem dX10_addLayer_20 : decode cX10_addLayer 20 = .ok (.aload_n 0, 1) := by decide +kernel
theorem dX10_addLayer_21 : decode cX10_addLayer 21 = .ok (.dup, 1) := by decide +kernel
theorem dX10_addLayer_22 : decode cX10_addLayer 22 = .ok (.getfield 34, 3) := by decide +kernel
theorem dX10_addLayer_25 : decode cX10_addLayer 25 = .ok (.iconst 1, 1) := by decide +kernel
theorem dX10_addLayer_26 : decode cX10_addLayer 26 = .ok (.iadd, 1) := by decide +kernel
theorem dX10_addLayer_27 : decode cX10_addLayer 27 = .ok (.putfield 34, 3) := by decide +kernel
theorem dX10_addLayer_30 : decode cX10_addLayer 30 = .ok (.return_, 1) := by decide +kernel
theorem dX10_thickness_0 : decode cX10_thickness 0 = .ok (.iconst 0, 1) := by decide +kernel
theorem dX10_thickness_1 : decode cX10_thickness 1 = .ok (.istore_n 1, 1) := by decide +kernel
theorem dX10_thickness_2 : decode cX10_thickness 2 = .ok (.iconst 0, 1) := by decide +kernel
theorem dX10_thickness_3 : decode cX10_thickness 3 = .ok (.istore_n 2, 1) := by decide +kernel
theorem dX10_thickness_4 : decode cX10_thickness 4 = .ok (.iload_n 2, 1) := by decide +kernel
theorem dX10_thickness_5 : decode cX10_thickness 5 = .ok (.aload_n 0, 1) := by decide +kernel
theorem dX10_thickness_6 : decode cX10_thickness 6 = .ok (.getfield 34, 3) := by decide +kernel
theorem dX10_thickness_9 : decode cX10_thickness 9 = .ok (.if_icmp .ge 18, 3) := by decide +kernel
theorem dX10_thickness_12 : decode cX10_thickness 12 = .ok (.iload_n 1, 1) := by decide +kernel
theorem dX10_thickness_13 : decode cX10_thickness 13 = .ok (.aload_n 0, 1) := by decide +kernel
theorem dX10_thickness_14 : decode cX10_thickness 14 = .ok (.getfield 9, 3) := by decide +kernel
theorem dX10_thickness_17 : decode cX10_thickness 17 = .ok (.iload_n 2, 1) := by decide +kernel
theorem dX10_thickness_18 : decode cX10_thickness 18 = .ok (.iaload, 1) := by decide +kernel
theorem dX10_thickness_19 : decode cX10_thickness 19 = .ok (.iadd, 1) := by decide +kernel
theorem dX10_thickness_20 : decode cX10_thickness 20 = .ok (.istore_n 1, 1) := by decide +kernel
theorem dX10_thickness_21 : decode cX10_thickness 21 = .ok (.iinc 2 1, 3) := by decide +kernel
theorem dX10_thickness_24 : decode cX10_thickness 24 = .ok (.goto (-20), 3) := by decide +kernel
theorem dX10_thickness_27 : decode cX10_thickness 27 = .ok (.iload_n 1, 1) := by decide +kernel
theorem dX10_thickness_28 : decode cX10_thickness 28 = .ok (.ireturn, 1) := by decide +kernel
theorem dX10_leakBelow_0 : decode cX10_leakBelow 0 = .ok (.iconst 0, 1) := by decide +kernel
theorem dX10_leakBelow_1 : decode cX10_leakBelow 1 = .ok (.istore_n 3, 1) := by decide +kernel
theorem dX10_leakBelow_2 : decode cX10_leakBelow 2 = .ok (.iload_n 1, 1) := by decide +kernel
theorem dX10_leakBelow_3 : decode cX10_leakBelow 3 = .ok (.istore 4, 2) := by decide +kernel
theorem dX10_leakBelow_5 : decode cX10_leakBelow 5 = .ok (.iconst 0, 1) := by decide +kernel
theorem dX10_leakBelow_6 : decode cX10_leakBelow 6 = .ok (.istore 5, 2) := by decide +kernel
theorem dX10_leakBelow_8 : decode cX10_leakBelow 8 = .ok (.iload 5, 2) := by decide +kernel
theorem dX10_leakBelow_10 : decode cX10_leakBelow 10 = .ok (.aload_n 0, 1) := by decide +kernel
theorem dX10_leakBelow_11 : decode cX10_leakBelow 11 = .ok (.getfield 34, 3) := by decide +kernel
theorem dX10_leakBelow_14 : decode cX10_leakBelow 14 = .ok (.if_icmp .ge 40, 3) := by decide +kernel
theorem dX10_leakBelow_17 : decode cX10_leakBelow 17 = .ok (.iload 4, 2) := by decide +kernel
theorem dX10_leakBelow_19 : decode cX10_leakBelow 19 = .ok (.iload_n 2, 1) := by decide +kernel
theorem dX10_leakBelow_20 : decode cX10_leakBelow 20 = .ok (.if_icmp .ge 16, 3) := by decide +kernel
theorem dX10_leakBelow_23 : decode cX10_leakBelow 23 = .ok (.iload_n 3, 1) := by decide +kernel
theorem dX10_leakBelow_24 : decode cX10_leakBelow 24 = .ok (.bipush 10, 2) := by decide +kernel
theorem dX10_leakBelow_26 : decode cX10_leakBelow 26 = .ok (.aload_n 0, 1) := by decide +kernel
theorem dX10_leakBelow_27 : decode cX10_leakBelow 27 = .ok (.getfield 15, 3) := by decide +kernel
theorem dX10_leakBelow_30 : decode cX10_leakBelow 30 = .ok (.iload 5, 2) := by decide +kernel
theorem dX10_leakBelow_32 : decode cX10_leakBelow 32 = .ok (.iaload, 1) := by decide +kernel
theorem dX10_leakBelow_33 : decode cX10_leakBelow 33 = .ok (.isub, 1) := by decide +kernel
theorem dX10_leakBelow_34 : decode cX10_leakBelow 34 = .ok (.iadd, 1) := by decide +kernel
theorem dX10_leakBelow_35 : decode cX10_leakBelow 35 = .ok (.istore_n 3, 1) := by decide +kernel
theorem dX10_leakBelow_36 : decode cX10_leakBelow 36 = .ok (.iload 4, 2) := by decide +kernel
theorem dX10_leakBelow_38 : decode cX10_leakBelow 38 = .ok (.aload_n 0, 1) := by decide +kernel
theorem dX10_leakBelow_39 : decode cX10_leakBelow 39 = .ok (.getfield 9, 3) := by decide +kernel
theorem dX10_leakBelow_42 : decode cX10_leakBelow 42 = .ok (.iload 5, 2) := by decide +kernel
theorem dX10_leakBelow_44 : decode cX10_leakBelow 44 = .ok (.iaload, 1) := by decide +kernel
theorem dX10_leakBelow_45 : decode cX10_leakBelow 45 = .ok (.iadd, 1) := by decide +kernel
theorem dX10_leakBelow_46 : decode cX10_leakBelow 46 = .ok (.istore 4, 2) := by decide +kernel
theorem dX10_leakBelow_48 : decode cX10_leakBelow 48 = .ok (.iinc 5 1, 3) := by decide +kernel
theorem dX10_leakBelow_51 : decode cX10_leakBelow 51 = .ok (.goto (-43), 3) := by decide +kernel
theorem dX10_leakBelow_54 : decode cX10_leakBelow 54 = .ok (.iload_n 3, 1) := by decide +kernel
theorem dX10_leakBelow_55 : decode cX10_leakBelow 55 = .ok (.ireturn, 1) := by decide +kernel
theorem dX10_breakOpen_0 : decode cX10_breakOpen 0 = .ok (.aload_n 0, 1) := by decide +kernel
theorem dX10_breakOpen_1 : decode cX10_breakOpen 1 = .ok (.iconst 1, 1) := by decide +kernel
theorem dX10_breakOpen_2 : decode cX10_breakOpen 2 = .ok (.putfield 18, 3) := by decide +kernel
theorem dX10_breakOpen_5 : decode cX10_breakOpen 5 = .ok (.aload_n 0, 1) := by decide +kernel
theorem dX10_breakOpen_6 : decode cX10_breakOpen 6 = .ok (.iconst 4, 1) := by decide +kernel
theorem dX10_breakOpen_7 : decode cX10_breakOpen 7 = .ok (.putfield 31, 3) := by decide +kernel
theorem dX10_breakOpen_10 : decode cX10_breakOpen 10 = .ok (.return_, 1) := by decide +kernel
theorem dX10_widen_0 : decode cX10_widen 0 = .ok (.aload_n 0, 1) := by decide +kernel
theorem dX10_widen_1 : decode cX10_widen 1 = .ok (.aload_n 0, 1) := by decide +kernel
theorem dX10_widen_2 : decode cX10_widen 2 = .ok (.getfield 31, 3) := by decide +kernel
theorem dX10_widen_5 : decode cX10_widen 5 = .ok (.invokestatic 50, 3) := by decide +kernel
theorem dX10_widen_8 : decode cX10_widen 8 = .ok (.putfield 31, 3) := by decide +kernel
theorem dX10_widen_11 : decode cX10_widen 11 = .ok (.return_, 1) := by decide +kernel
theorem dX10_wider_0 : decode cX10_wider 0 = .ok (.bipush 60, 2) := by decide +kernel
theorem dX10_wider_2 : decode cX10_wider 2 = .ok (.iload_n 0, 1) := by decide +kernel
theorem dX10_wider_3 : decode cX10_wider 3 = .ok (.iconst 2, 1) := by decide +kernel
theorem dX10_wider_4 : decode cX10_wider 4 = .ok (.iadd, 1) := by decide +kernel
theorem dX10_wider_5 : decode cX10_wider 5 = .ok (.invokestatic 54, 3) := by decide +kernel
theorem dX10_wider_8 : decode cX10_wider 8 = .ok (.ireturn, 1) := by decide +kernel
theorem dX10_moved_0 : decode cX10_moved 0 = .ok (.aload_n 0, 1) := by decide +kernel
theorem dX10_moved_1 : decode cX10_moved 1 = .ok (.iload_n 1, 1) := by decide +kernel
theorem dX10_moved_2 : decode cX10_moved 2 = .ok (.putfield 44, 3) := by decide +kernel
theorem dX10_moved_5 : decode cX10_moved 5 = .ok (.aload_n 0, 1) := by decide +kernel
theorem dX10_moved_6 : decode cX10_moved 6 = .ok (.dup, 1) := by decide +kernel
theorem dX10_moved_7 : decode cX10_moved 7 = .ok (.getfield 47, 3) := by decide +kernel
theorem dX10_moved_10 : decode cX10_moved 10 = .ok (.iload_n 1, 1) := by decide +kernel
theorem dX10_moved_11 : decode cX10_moved 11 = .ok (.iadd, 1) := by decide +kernel
theorem dX10_moved_12 : decode cX10_moved 12 = .ok (.putfield 47, 3) := by decide +kernel
theorem dX10_moved_15 : decode cX10_moved 15 = .ok (.return_, 1) := by decide +kernel
theorem dX10_copyFrom_0 : decode cX10_copyFrom 0 = .ok (.aload_n 1, 1) := by decide +kernel
theorem dX10_copyFrom_1 : decode cX10_copyFrom 1 = .ok (.getfield 9, 3) := by decide +kernel
theorem dX10_copyFrom_4 : decode cX10_copyFrom 4 = .ok (.iconst 0, 1) := by decide +kernel
theorem dX10_copyFrom_5 : decode cX10_copyFrom 5 = .ok (.aload_n 0, 1) := by decide +kernel
theorem dX10_copyFrom_6 : decode cX10_copyFrom 6 = .ok (.getfield 9, 3) := by decide +kernel
theorem dX10_copyFrom_9 : decode cX10_copyFrom 9 = .ok (.iconst 0, 1) := by decide +kernel
theorem dX10_copyFrom_10 : decode cX10_copyFrom 10 = .ok (.bipush 6, 2) := by decide +kernel
theorem dX10_copyFrom_12 : decode cX10_copyFrom 12 = .ok (.invokestatic 60, 3) := by decide +kernel
theorem dX10_copyFrom_15 : decode cX10_copyFrom 15 = .ok (.aload_n 1, 1) := by decide +kernel
theorem dX10_copyFrom_16 : decode cX10_copyFrom 16 = .ok (.getfield 15, 3) := by decide +kernel
theorem dX10_copyFrom_19 : decode cX10_copyFrom 19 = .ok (.iconst 0, 1) := by decide +kernel
theorem dX10_copyFrom_20 : decode cX10_copyFrom 20 = .ok (.aload_n 0, 1) := by decide +kernel
theorem dX10_copyFrom_21 : decode cX10_copyFrom 21 = .ok (.getfield 15, 3) := by decide +kernel
theorem dX10_copyFrom_24 : decode cX10_copyFrom 24 = .ok (.iconst 0, 1) := by decide +kernel
theorem dX10_copyFrom_25 : decode cX10_copyFrom 25 = .ok (.bipush 6, 2) := by decide +kernel
theorem dX10_copyFrom_27 : decode cX10_copyFrom 27 = .ok (.invokestatic 60, 3) := by decide +kernel
theorem dX10_copyFrom_30 : decode cX10_copyFrom 30 = .ok (.aload_n 0, 1) := by decide +kernel
theorem dX10_copyFrom_31 : decode cX10_copyFrom 31 = .ok (.aload_n 1, 1) := by decide +kernel
theorem dX10_copyFrom_32 : decode cX10_copyFrom 32 = .ok (.getfield 18, 3) := by decide +kernel
theorem dX10_copyFrom_35 : decode cX10_copyFrom 35 = .ok (.putfield 18, 3) := by decide +kernel
theorem dX10_copyFrom_38 : decode cX10_copyFrom 38 = .ok (.aload_n 0, 1) := by decide +kernel
theorem dX10_copyFrom_39 : decode cX10_copyFrom 39 = .ok (.aload_n 1, 1) := by decide +kernel
theorem dX10_copyFrom_40 : decode cX10_copyFrom 40 = .ok (.getfield 22, 3) := by decide +kernel
theorem dX10_copyFrom_43 : decode cX10_copyFrom 43 = .ok (.putfield 22, 3) := by decide +kernel
theorem dX10_copyFrom_46 : decode cX10_copyFrom 46 = .ok (.aload_n 0, 1) := by decide +kernel
theorem dX10_copyFrom_47 : decode cX10_copyFrom 47 = .ok (.aload_n 1, 1) := by decide +kernel
theorem dX10_copyFrom_48 : decode cX10_copyFrom 48 = .ok (.getfield 25, 3) := by decide +kernel
theorem dX10_copyFrom_51 : decode cX10_copyFrom 51 = .ok (.putfield 25, 3) := by decide +kernel
theorem dX10_copyFrom_54 : decode cX10_copyFrom 54 = .ok (.aload_n 0, 1) := by decide +kernel
theorem dX10_copyFrom_55 : decode cX10_copyFrom 55 = .ok (.aload_n 1, 1) := by decide +kernel
theorem dX10_copyFrom_56 : decode cX10_copyFrom 56 = .ok (.getfield 28, 3) := by decide +kernel
theorem dX10_copyFrom_59 : decode cX10_copyFrom 59 = .ok (.putfield 28, 3) := by decide +kernel
theorem dX10_copyFrom_62 : decode cX10_copyFrom 62 = .ok (.aload_n 0, 1) := by decide +kernel
theorem dX10_copyFrom_63 : decode cX10_copyFrom 63 = .ok (.aload_n 1, 1) := by decide +kernel
theorem dX10_copyFrom_64 : decode cX10_copyFrom 64 = .ok (.getfield 31, 3) := by decide +kernel
theorem dX10_copyFrom_67 : decode cX10_copyFrom 67 = .ok (.putfield 31, 3) := by decide +kernel
theorem dX10_copyFrom_70 : decode cX10_copyFrom 70 = .ok (.aload_n 0, 1) := by decide +kernel
theorem dX10_copyFrom_71 : decode cX10_copyFrom 71 = .ok (.aload_n 1, 1) := by decide +kernel
theorem dX10_copyFrom_72 : decode cX10_copyFrom 72 = .ok (.getfield 34, 3) := by decide +kernel
theorem dX10_copyFrom_75 : decode cX10_copyFrom 75 = .ok (.putfield 34, 3) := by decide +kernel
theorem dX10_copyFrom_78 : decode cX10_copyFrom 78 = .ok (.aload_n 0, 1) := by decide +kernel
theorem dX10_copyFrom_79 : decode cX10_copyFrom 79 = .ok (.aload_n 1, 1) := by decide +kernel
theorem dX10_copyFrom_80 : decode cX10_copyFrom 80 = .ok (.getfield 37, 3) := by decide +kernel
theorem dX10_copyFrom_83 : decode cX10_copyFrom 83 = .ok (.putfield 37, 3) := by decide +kernel
theorem dX10_copyFrom_86 : decode cX10_copyFrom 86 = .ok (.aload_n 0, 1) := by decide +kernel
theorem dX10_copyFrom_87 : decode cX10_copyFrom 87 = .ok (.aload_n 1, 1) := by decide +kernel
theorem dX10_copyFrom_88 : decode cX10_copyFrom 88 = .ok (.getfield 40, 3) := by decide +kernel
theorem dX10_copyFrom_91 : decode cX10_copyFrom 91 = .ok (.putfield 40, 3) := by decide +kernel
theorem dX10_copyFrom_94 : decode cX10_copyFrom 94 = .ok (.aload_n 0, 1) := by decide +kernel
theorem dX10_copyFrom_95 : decode cX10_copyFrom 95 = .ok (.aload_n 1, 1) := by decide +kernel
theorem dX10_copyFrom_96 : decode cX10_copyFrom 96 = .ok (.getfield 44, 3) := by decide +kernel
theorem dX10_copyFrom_99 : decode cX10_copyFrom 99 = .ok (.putfield 44, 3) := by decide +kernel
theorem dX10_copyFrom_102 : decode cX10_copyFrom 102 = .ok (.aload_n 0, 1) := by decide +kernel
theorem dX10_copyFrom_103 : decode cX10_copyFrom 103 = .ok (.aload_n 1, 1) := by decide +kernel
theorem dX10_copyFrom_104 : decode cX10_copyFrom 104 = .ok (.getfield 47, 3) := by decide +kernel
theorem dX10_copyFrom_107 : decode cX10_copyFrom 107 = .ok (.putfield 47, 3) := by decide +kernel
theorem dX10_copyFrom_110 : decode cX10_copyFrom 110 = .ok (.return_, 1) := by decide +kernel
theorem dX11_init_0 : decode cX11_init 0 = .ok (.aload_n 0, 1) := by decide +kernel
theorem dX11_init_1 : decode cX11_init 1 = .ok (.invokespecial 1, 3) := by decide +kernel
theorem dX11_init_4 : decode cX11_init 4 = .ok (.aload_n 0, 1) := by decide +kernel
theorem dX11_init_5 : decode cX11_init 5 = .ok (.sipush 400, 3) := by decide +kernel
theorem dX11_init_8 : decode cX11_init 8 = .ok (.newarray .int, 2) := by decide +kernel
theorem dX11_init_10 : decode cX11_init 10 = .ok (.putfield 9, 3) := by decide +kernel
theorem dX11_init_13 : decode cX11_init 13 = .ok (.aload_n 0, 1) := by decide +kernel
theorem dX11_init_14 : decode cX11_init 14 = .ok (.new 13, 3) := by decide +kernel
theorem dX11_init_17 : decode cX11_init 17 = .ok (.dup, 1) := by decide +kernel
theorem dX11_init_18 : decode cX11_init 18 = .ok (.invokespecial 15, 3) := by decide +kernel
theorem dX11_init_21 : decode cX11_init 21 = .ok (.putfield 16, 3) := by decide +kernel
theorem dX11_init_24 : decode cX11_init 24 = .ok (.aload_n 0, 1) := by decide +kernel
theorem dX11_init_25 : decode cX11_init 25 = .ok (.new 20, 3) := by decide +kernel
theorem dX11_init_28 : decode cX11_init 28 = .ok (.dup, 1) := by decide +kernel
theorem dX11_init_29 : decode cX11_init 29 = .ok (.invokespecial 22, 3) := by decide +kernel
theorem dX11_init_32 : decode cX11_init 32 = .ok (.putfield 23, 3) := by decide +kernel
theorem dX11_init_35 : decode cX11_init 35 = .ok (.aload_n 0, 1) := by decide +kernel
theorem dX11_init_36 : decode cX11_init 36 = .ok (.new 27, 3) := by decide +kernel
theorem dX11_init_39 : decode cX11_init 39 = .ok (.dup, 1) := by decide +kernel
theorem dX11_init_40 : decode cX11_init 40 = .ok (.invokespecial 29, 3) := by decide +kernel
theorem dX11_init_43 : decode cX11_init 43 = .ok (.putfield 30, 3) := by decide +kernel
theorem dX11_init_46 : decode cX11_init 46 = .ok (.aload_n 0, 1) := by decide +kernel
theorem dX11_init_47 : decode cX11_init 47 = .ok (.bipush 40, 2) := by decide +kernel
theorem dX11_init_49 : decode cX11_init 49 = .ok (.anewarray 34, 3) := by decide +kernel
theorem dX11_init_52 : decode cX11_init 52 = .ok (.putfield 36, 3) := by decide +kernel
