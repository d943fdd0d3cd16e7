theorem dX12_bestFarm_0 : decode cX12_bestFarm 0 = .ok (.iconst (-1), 1) := by decide +kernel
theorem dX12_bestFarm_1 : decode cX12_bestFarm 1 = .ok (.istore_n 1, 1) := by decide +kernel
theorem dX12_bestFarm_2 : decode cX12_bestFarm 2 = .ok (.iconst 0, 1) := by decide +kernel
theorem dX12_bestFarm_3 : decode cX12_bestFarm 3 = .ok (.istore_n 2, 1) := by decide +kernel
theorem dX12_bestFarm_4 : decode cX12_bestFarm 4 = .ok (.iload_n 2, 1) := by decide +kernel
theorem dX12_bestFarm_5 : decode cX12_bestFarm 5 = .ok (.aload_n 0, 1) := by decide +kernel
theorem dX12_bestFarm_6 : decode cX12_bestFarm 6 = .ok (.getfield 498, 3) := by decide +kernel
theorem dX12_bestFarm_9 : decode cX12_bestFarm 9 = .ok (.if_icmp .ge 37, 3) := by decide +kernel
theorem dX12_bestFarm_12 : decode cX12_bestFarm 12 = .ok (.aload_n 0, 1) := by decide +kernel
theorem dX12_bestFarm_13 : decode cX12_bestFarm 13 = .ok (.getfield 122, 3) := by decide +kernel
theorem dX12_bestFarm_16 : decode cX12_bestFarm 16 = .ok (.iload_n 2, 1) := by decide +kernel
theorem dX12_bestFarm_17 : decode cX12_bestFarm 17 = .ok (.iaload, 1) := by decide +kernel
theorem dX12_bestFarm_18 : decode cX12_bestFarm 18 = .ok (.ifCond .ge 22, 3) := by decide +kernel
theorem dX12_bestFarm_21 : decode cX12_bestFarm 21 = .ok (.iload_n 1, 1) := by decide +kernel
theorem dX12_bestFarm_22 : decode cX12_bestFarm 22 = .ok (.ifCond .lt 16, 3) := by decide +kernel
theorem dX12_bestFarm_25 : decode cX12_bestFarm 25 = .ok (.aload_n 0, 1) := by decide +kernel
theorem dX12_bestFarm_26 : decode cX12_bestFarm 26 = .ok (.iload_n 2, 1) := by decide +kernel
theorem dX12_bestFarm_27 : decode cX12_bestFarm 27 = .ok (.invokevirtual 505, 3) := by decide +kernel
theorem dX12_bestFarm_30 : decode cX12_bestFarm 30 = .ok (.aload_n 0, 1) := by decide +kernel
theorem dX12_bestFarm_31 : decode cX12_bestFarm 31 = .ok (.iload_n 1, 1) := by decide +kernel
theorem dX12_bestFarm_32 : decode cX12_bestFarm 32 = .ok (.invokevirtual 505, 3) := by decide +kernel
theorem dX12_bestFarm_35 : decode cX12_bestFarm 35 = .ok (.if_icmp .le 5, 3) := by decide +kernel
theorem dX12_bestFarm_38 : decode cX12_bestFarm 38 = .ok (.iload_n 2, 1) := by decide +kernel
theorem dX12_bestFarm_39 : decode cX12_bestFarm 39 = .ok (.istore_n 1, 1) := by decide +kernel
theorem dX12_bestFarm_40 : decode cX12_bestFarm 40 = .ok (.iinc 2 1, 3) := by decide +kernel
theorem dX12_bestFarm_43 : decode cX12_bestFarm 43 = .ok (.goto (-39), 3) := by decide +kernel
theorem dX12_bestFarm_46 : decode cX12_bestFarm 46 = .ok (.iload_n 1, 1) := by decide +kernel
theorem dX12_bestFarm_47 : decode cX12_bestFarm 47 = .ok (.ireturn, 1) := by decide +kernel
theorem dX12_brings_0 : decode cX12_brings 0 = .ok (.aload_n 0, 1) := by decide +kernel
theorem dX12_brings_1 : decode cX12_brings 1 = .ok (.getfield 9, 3) := by decide +kernel
theorem dX12_brings_4 : decode cX12_brings 4 = .ok (.iload_n 1, 1) := by decide +kernel
theorem dX12_brings_5 : decode cX12_brings 5 = .ok (.bipush 20, 2) := by decide +kernel
theorem dX12_brings_7 : decode cX12_brings 7 = .ok (.invokestatic 214, 3) := by decide +kernel
theorem dX12_brings_10 : decode cX12_brings 10 = .ok (.iload_n 2, 1) := by decide +kernel
theorem dX12_brings_11 : decode cX12_brings 11 = .ok (.iastore, 1) := by decide +kernel
theorem dX12_brings_12 : decode cX12_brings 12 = .ok (.aload_n 0, 1) := by decide +kernel
theorem dX12_brings_13 : decode cX12_brings 13 = .ok (.getfield 9, 3) := by decide +kernel
theorem dX12_brings_16 : decode cX12_brings 16 = .ok (.iload_n 1, 1) := by decide +kernel
theorem dX12_brings_17 : decode cX12_brings 17 = .ok (.bipush 21, 2) := by decide +kernel
theorem dX12_brings_19 : decode cX12_brings 19 = .ok (.invokestatic 214, 3) := by decide +kernel
theorem dX12_brings_22 : decode cX12_brings 22 = .ok (.dup2, 1) := by decide +kernel
theorem dX12_brings_23 : decode cX12_brings 23 = .ok (.iaload, 1) := by decide +kernel
theorem dX12_brings_24 : decode cX12_brings 24 = .ok (.iload_n 2, 1) := by decide +kernel
theorem dX12_brings_25 : decode cX12_brings 25 = .ok (.iadd, 1) := by decide +kernel
theorem dX12_brings_26 : decode cX12_brings 26 = .ok (.iastore, 1) := by decide +kernel
theorem dX12_brings_27 : decode cX12_brings 27 = .ok (.return_, 1) := by decide +kernel
theorem dX12_farmOf_0 : decode cX12_farmOf 0 = .ok (.iconst 0, 1) := by decide +kernel
theorem dX12_farmOf_1 : decode cX12_farmOf 1 = .ok (.istore_n 2, 1) := by decide +kernel
theorem dX12_farmOf_2 : decode cX12_farmOf 2 = .ok (.iload_n 2, 1) := by decide +kernel
theorem dX12_farmOf_3 : decode cX12_farmOf 3 = .ok (.aload_n 0, 1) := by decide +kernel
theorem dX12_farmOf_4 : decode cX12_farmOf 4 = .ok (.getfield 498, 3) := by decide +kernel
theorem dX12_farmOf_7 : decode cX12_farmOf 7 = .ok (.if_icmp .ge 30, 3) := by decide +kernel
theorem dX12_farmOf_10 : decode cX12_farmOf 10 = .ok (.iload_n 1, 1) := by decide +kernel
theorem dX12_farmOf_11 : decode cX12_farmOf 11 = .ok (.aload_n 0, 1) := by decide +kernel
theorem dX12_farmOf_12 : decode cX12_farmOf 12 = .ok (.getfield 113, 3) := by decide +kernel
theorem dX12_farmOf_15 : decode cX12_farmOf 15 = .ok (.iload_n 2, 1) := by decide +kernel
theorem dX12_farmOf_16 : decode cX12_farmOf 16 = .ok (.iaload, 1) := by decide +kernel
theorem dX12_farmOf_17 : decode cX12_farmOf 17 = .ok (.aload_n 0, 1) := by decide +kernel
theorem dX12_farmOf_18 : decode cX12_farmOf 18 = .ok (.getfield 116, 3) := by decide +kernel
theorem dX12_farmOf_21 : decode cX12_farmOf 21 = .ok (.iload_n 2, 1) := by decide +kernel
theorem dX12_farmOf_22 : decode cX12_farmOf 22 = .ok (.iaload, 1) := by decide +kernel
theorem dX12_farmOf_23 : decode cX12_farmOf 23 = .ok (.invokestatic 232, 3) := by decide +kernel
theorem dX12_farmOf_26 : decode cX12_farmOf 26 = .ok (.ifCond .eq 5, 3) := by decide +kernel
theorem dX12_farmOf_29 : decode cX12_farmOf 29 = .ok (.iload_n 2, 1) := by decide +kernel
theorem dX12_farmOf_30 : decode cX12_farmOf 30 = .ok (.ireturn, 1) := by decide +kernel
theorem dX12_farmOf_31 : decode cX12_farmOf 31 = .ok (.iinc 2 1, 3) := by decide +kernel
theorem dX12_farmOf_34 : decode cX12_farmOf 34 = .ok (.goto (-32), 3) := by decide +kernel
theorem dX12_farmOf_37 : decode cX12_farmOf 37 = .ok (.iconst (-1), 1) := by decide +kernel
theorem dX12_farmOf_38 : decode cX12_farmOf 38 = .ok (.ireturn, 1) := by decide +kernel
theorem dX12_hours_0 : decode cX12_hours 0 = .ok (.aload_n 0, 1) := by decide +kernel
theorem dX12_hours_1 : decode cX12_hours 1 = .ok (.iconst 0, 1) := by decide +kernel
theorem dX12_hours_2 : decode cX12_hours 2 = .ok (.putfield 194, 3) := by decide +kernel
theorem dX12_hours_5 : decode cX12_hours 5 = .ok (.aload_n 0, 1) := by decide +kernel
theorem dX12_hours_6 : decode cX12_hours 6 = .ok (.iload_n 1, 1) := by decide +kernel
theorem dX12_hours_7 : decode cX12_hours 7 = .ok (.iconst 0, 1) := by decide +kernel
theorem dX12_hours_8 : decode cX12_hours 8 = .ok (.sipush 240, 3) := by decide +kernel
theorem dX12_hours_11 : decode cX12_hours 11 = .ok (.invokestatic 197, 3) := by decide +kernel
theorem dX12_hours_14 : decode cX12_hours 14 = .ok (.ifCond .ne 7, 3) := by decide +kernel
theorem dX12_hours_17 : decode cX12_hours 17 = .ok (.iconst 1, 1) := by decide +kernel
theorem dX12_hours_18 : decode cX12_hours 18 = .ok (.goto 4, 3) := by decide +kernel
theorem dX12_hours_21 : decode cX12_hours 21 = .ok (.iconst 0, 1) := by decide +kernel
theorem dX12_hours_22 : decode cX12_hours 22 = .ok (.iconst 1, 1) := by decide +kernel
theorem dX12_hours_23 : decode cX12_hours 23 = .ok (.invokevirtual 224, 3) := by decide +kernel
theorem dX12_hours_26 : decode cX12_hours 26 = .ok (.ifCond .eq 5, 3) := by decide +kernel
theorem dX12_hours_29 : decode cX12_hours 29 = .ok (.iconst 0, 1) := by decide +kernel
theorem dX12_hours_30 : decode cX12_hours 30 = .ok (.ireturn, 1) := by decide +kernel
theorem dX12_hours_31 : decode cX12_hours 31 = .ok (.iconst 0, 1) := by decide +kernel
theorem dX12_hours_32 : decode cX12_hours 32 = .ok (.istore_n 2, 1) := by decide +kernel
theorem dX12_hours_33 : decode cX12_hours 33 = .ok (.iload_n 2, 1) := by decide +kernel
theorem dX12_hours_34 : decode cX12_hours 34 = .ok (.iload_n 1, 1) := by decide +kernel
theorem dX12_hours_35 : decode cX12_hours 35 = .ok (.if_icmp .ge 22, 3) := by decide +kernel
theorem dX12_hours_38 : decode cX12_hours 38 = .ok (.aload_n 0, 1) := by decide +kernel
theorem dX12_hours_39 : decode cX12_hours 39 = .ok (.invokevirtual 228, 3) := by decide +kernel
theorem dX12_hours_42 : decode cX12_hours 42 = .ok (.ldc 242, 2) := by decide +kernel
theorem dX12_hours_44 : decode cX12_hours 44 = .ok (.if_icmp .ge 13, 3) := by decide +kernel
theorem dX12_hours_47 : decode cX12_hours 47 = .ok (.aload_n 0, 1) := by decide +kernel
theorem dX12_hours_48 : decode cX12_hours 48 = .ok (.invokevirtual 322, 3) := by decide +kernel
theorem dX12_hours_51 : decode cX12_hours 51 = .ok (.iinc 2 1, 3) := by decide +kernel
theorem dX12_hours_54 : decode cX12_hours 54 = .ok (.goto (-21), 3) := by decide +kernel
theorem dX12_hours_57 : decode cX12_hours 57 = .ok (.aload_n 0, 1) := by decide +kernel
theorem dX12_hours_58 : decode cX12_hours 58 = .ok (.invokevirtual 228, 3) := by decide +kernel
theorem dX12_hours_61 : decode cX12_hours 61 = .ok (.ireturn, 1) := by decide +kernel
theorem dX12_isDike_0 : decode cX12_isDike 0 = .ok (.aload_n 0, 1) := by decide +kernel
theorem dX12_isDike_1 : decode cX12_isDike 1 = .ok (.iload_n 1, 1) := by decide +kernel
theorem dX12_isDike_2 : decode cX12_isDike 2 = .ok (.iconst 0, 1) := by decide +kernel
theorem dX12_isDike_3 : decode cX12_isDike 3 = .ok (.invokevirtual 217, 3) := by decide +kernel
theorem dX12_isDike_6 : decode cX12_isDike 6 = .ok (.ifCond .eq 13, 3) := by decide +kernel
theorem dX12_isDike_9 : decode cX12_isDike 9 = .ok (.aload_n 0, 1) := by decide +kernel
theorem dX12_isDike_10 : decode cX12_isDike 10 = .ok (.iload_n 1, 1) := by decide +kernel
theorem dX12_isDike_11 : decode cX12_isDike 11 = .ok (.iconst 0, 1) := by decide +kernel
theorem dX12_isDike_12 : decode cX12_isDike 12 = .ok (.invokevirtual 217, 3) := by decide +kernel
theorem dX12_isDike_15 : decode cX12_isDike 15 = .ok (.iconst 1, 1) := by decide +kernel
theorem dX12_isDike_16 : decode cX12_isDike 16 = .ok (.if_icmp .ne 7, 3) := by decide +kernel
theorem dX12_isDike_19 : decode cX12_isDike 19 = .ok (.iconst 1, 1) := by decide +kernel
theorem dX12_isDike_20 : decode cX12_isDike 20 = .ok (.goto 4, 3) := by decide +kernel
theorem dX12_isDike_23 : decode cX12_isDike 23 = .ok (.iconst 0, 1) := by decide +kernel
theorem dX12_isDike_24 : decode cX12_isDike 24 = .ok (.ireturn, 1) := by decide +kernel
theorem dX12_land_0 : decode cX12_land 0 = .ok (.aload_n 0, 1) := by decide +kernel
theorem dX12_land_1 : decode cX12_land 1 = .ok (.iconst 0, 1) := by decide +kernel
theorem dX12_land_2 : decode cX12_land 2 = .ok (.putfield 194, 3) := by decide +kernel
theorem dX12_land_5 : decode cX12_land 5 = .ok (.aload_n 0, 1) := by decide +kernel
theorem dX12_land_6 : decode cX12_land 6 = .ok (.iload_n 1, 1) := by decide +kernel
theorem dX12_land_7 : decode cX12_land 7 = .ok (.invokestatic 220, 3) := by decide +kernel
theorem dX12_land_10 : decode cX12_land 10 = .ok (.ifCond .ne 10, 3) := by decide +kernel
theorem dX12_land_13 : decode cX12_land 13 = .ok (.iload_n 2, 1) := by decide +kernel
theorem dX12_land_14 : decode cX12_land 14 = .ok (.invokestatic 220, 3) := by decide +kernel
theorem dX12_land_17 : decode cX12_land 17 = .ok (.ifCond .eq 7, 3) := by decide +kernel
theorem dX12_land_20 : decode cX12_land 20 = .ok (.iconst 1, 1) := by decide +kernel
theorem dX12_land_21 : decode cX12_land 21 = .ok (.goto 4, 3) := by decide +kernel
theorem dX12_land_24 : decode cX12_land 24 = .ok (.iconst 0, 1) := by decide +kernel
theorem dX12_land_25 : decode cX12_land 25 = .ok (.iconst 1, 1) := by decide +kernel
theorem dX12_land_26 : decode cX12_land 26 = .ok (.invokevirtual 224, 3) := by decide +kernel
theorem dX12_land_29 : decode cX12_land 29 = .ok (.ifCond .ne 70, 3) := by decide +kernel
theorem dX12_land_32 : decode cX12_land 32 = .ok (.aload_n 0, 1) := by decide +kernel
theorem dX12_land_33 : decode cX12_land 33 = .ok (.iload_n 3, 1) := by decide +kernel
theorem dX12_land_34 : decode cX12_land 34 = .ok (.sipush (-900), 3) := by decide +kernel
theorem dX12_land_37 : decode cX12_land 37 = .ok (.sipush 300, 3) := by decide +kernel
theorem dX12_land_40 : decode cX12_land 40 = .ok (.invokestatic 197, 3) := by decide +kernel
theorem dX12_land_43 : decode cX12_land 43 = .ok (.ifCond .eq 24, 3) := by decide +kernel
theorem dX12_land_46 : decode cX12_land 46 = .ok (.iload 4, 2) := by decide +kernel
theorem dX12_land_48 : decode cX12_land 48 = .ok (.iconst 0, 1) := by decide +kernel
theorem dX12_land_49 : decode cX12_land 49 = .ok (.iconst 2, 1) := by decide +kernel
theorem dX12_land_50 : decode cX12_land 50 = .ok (.invokestatic 197, 3) := by decide +kernel
theorem dX12_land_53 : decode cX12_land 53 = .ok (.ifCond .eq 14, 3) := by decide +kernel
theorem dX12_land_56 : decode cX12_land 56 = .ok (.iload 5, 2) := by decide +kernel
theorem dX12_land_58 : decode cX12_land 58 = .ok (.iconst 0, 1) := by decide +kernel
theorem dX12_land_59 : decode cX12_land 59 = .ok (.bipush 20, 2) := by decide +kernel
theorem dX12_land_61 : decode cX12_land 61 = .ok (.invokestatic 197, 3) := by decide +kernel
theorem dX12_land_64 : decode cX12_land 64 = .ok (.ifCond .ne 7, 3) := by decide +kernel
theorem dX12_land_67 : decode cX12_land 67 = .ok (.iconst 1, 1) := by decide +kernel
theorem dX12_land_68 : decode cX12_land 68 = .ok (.goto 4, 3) := by decide +kernel
theorem dX12_land_71 : decode cX12_land 71 = .ok (.iconst 0, 1) := by decide +kernel
theorem dX12_land_72 : decode cX12_land 72 = .ok (.iconst 2, 1) := by decide +kernel
theorem dX12_land_73 : decode cX12_land 73 = .ok (.invokevirtual 224, 3) := by decide +kernel
theorem dX12_land_76 : decode cX12_land 76 = .ok (.ifCond .ne 23, 3) := by decide +kernel
theorem dX12_land_79 : decode cX12_land 79 = .ok (.aload_n 0, 1) := by decide +kernel
theorem dX12_land_80 : decode cX12_land 80 = .ok (.aload_n 0, 1) := by decide +kernel
theorem dX12_land_81 : decode cX12_land 81 = .ok (.invokevirtual 228, 3) := by decide +kernel
theorem dX12_land_84 : decode cX12_land 84 = .ok (.ifCond .le 7, 3) := by decide +kernel
theorem dX12_land_87 : decode cX12_land 87 = .ok (.iconst 1, 1) := by decide +kernel
theorem dX12_land_88 : decode cX12_land 88 = .ok (.goto 4, 3) := by decide +kernel
theorem dX12_land_91 : decode cX12_land 91 = .ok (.iconst 0, 1) := by decide +kernel
theorem dX12_land_92 : decode cX12_land 92 = .ok (.iconst 3, 1) := by decide +kernel
theorem dX12_land_93 : decode cX12_land 93 = .ok (.invokevirtual 224, 3) := by decide +kernel
theorem dX12_land_96 : decode cX12_land 96 = .ok (.ifCond .eq 5, 3) := by decide +kernel
theorem dX12_land_99 : decode cX12_land 99 = .ok (.iconst 0, 1) := by decide +kernel
theorem dX12_land_100 : decode cX12_land 100 = .ok (.ireturn, 1) := by decide +kernel
theorem dX12_land_101 : decode cX12_land 101 = .ok (.iconst 0, 1) := by decide +kernel
theorem dX12_land_102 : decode cX12_land 102 = .ok (.istore 6, 2) := by decide +kernel
theorem dX12_land_104 : decode cX12_land 104 = .ok (.iconst 0, 1) := by decide +kernel
theorem dX12_land_105 : decode cX12_land 105 = .ok (.istore 7, 2) := by decide +kernel
theorem dX12_land_107 : decode cX12_land 107 = .ok (.iload 7, 2) := by decide +kernel
theorem dX12_land_109 : decode cX12_land 109 = .ok (.bipush 96, 2) := by decide +kernel
theorem dX12_land_111 : decode cX12_land 111 = .ok (.if_icmp .ge 134, 3) := by decide +kernel
theorem dX12_land_114 : decode cX12_land 114 = .ok (.iload 7, 2) := by decide +kernel
theorem dX12_land_116 : decode cX12_land 116 = .ok (.iload_n 1, 1) := by decide +kernel
theorem dX12_land_117 : decode cX12_land 117 = .ok (.iload_n 2, 1) := by decide +kernel
theorem dX12_land_118 : decode cX12_land 118 = .ok (.invokestatic 232, 3) := by decide +kernel
theorem dX12_land_121 : decode cX12_land 121 = .ok (.ifCond .ne 6, 3) := by decide +kernel
theorem dX12_land_124 : decode cX12_land 124 = .ok (.goto 115, 3) := by decide +kernel
theorem dX12_land_127 : decode cX12_land 127 = .ok (.iload 6, 2) := by decide +kernel
theorem dX12_land_129 : decode cX12_land 129 = .ok (.aload_n 0, 1) := by decide +kernel
theorem dX12_land_130 : decode cX12_land 130 = .ok (.iload 7, 2) := by decide +kernel
theorem dX12_land_132 : decode cX12_land 132 = .ok (.invokevirtual 235, 3) := by decide +kernel
theorem dX12_land_135 : decode cX12_land 135 = .ok (.ifCond .eq 7, 3) := by decide +kernel
theorem dX12_land_138 : decode cX12_land 138 = .ok (.iconst 0, 1) := by decide +kernel
theorem dX12_land_139 : decode cX12_land 139 = .ok (.goto 4, 3) := by decide +kernel
theorem dX12_land_142 : decode cX12_land 142 = .ok (.iconst 1, 1) := by decide +kernel
theorem dX12_land_143 : decode cX12_land 143 = .ok (.iadd, 1) := by decide +kernel
theorem dX12_land_144 : decode cX12_land 144 = .ok (.istore 6, 2) := by decide +kernel
theorem dX12_land_146 : decode cX12_land 146 = .ok (.aload_n 0, 1) := by decide +kernel
theorem dX12_land_147 : decode cX12_land 147 = .ok (.getfield 9, 3) := by decide +kernel
theorem dX12_land_150 : decode cX12_land 150 = .ok (.sipush 1748, 3) := by decide +kernel
theorem dX12_land_153 : decode cX12_land 153 = .ok (.dup2, 1) := by decide +kernel
theorem dX12_land_154 : decode cX12_land 154 = .ok (.iaload, 1) := by decide +kernel
theorem dX12_land_155 : decode cX12_land 155 = .ok (.aload_n 0, 1) := by decide +kernel
theorem dX12_land_156 : decode cX12_land 156 = .ok (.getfield 9, 3) := by decide +kernel
theorem dX12_land_159 : decode cX12_land 159 = .ok (.sipush 384, 3) := by decide +kernel
theorem dX12_land_162 : decode cX12_land 162 = .ok (.iload 7, 2) := by decide +kernel
theorem dX12_land_164 : decode cX12_land 164 = .ok (.iadd, 1) := by decide +kernel
theorem dX12_land_165 : decode cX12_land 165 = .ok (.iaload, 1) := by decide +kernel
theorem dX12_land_166 : decode cX12_land 166 = .ok (.isub, 1) := by decide +kernel
theorem dX12_land_167 : decode cX12_land 167 = .ok (.iastore, 1) := by decide +kernel
theorem dX12_land_168 : decode cX12_land 168 = .ok (.aload_n 0, 1) := by decide +kernel
theorem dX12_land_169 : decode cX12_land 169 = .ok (.getfield 9, 3) := by decide +kernel
theorem dX12_land_172 : decode cX12_land 172 = .ok (.iconst 0, 1) := by decide +kernel
theorem dX12_land_173 : decode cX12_land 173 = .ok (.iload 7, 2) := by decide +kernel
theorem dX12_land_175 : decode cX12_land 175 = .ok (.iadd, 1) := by decide +kernel
theorem dX12_land_176 : decode cX12_land 176 = .ok (.iconst 1, 1) := by decide +kernel
theorem dX12_land_177 : decode cX12_land 177 = .ok (.iastore, 1) := by decide +kernel
theorem dX12_land_178 : decode cX12_land 178 = .ok (.aload_n 0, 1) := by decide +kernel
theorem dX12_land_179 : decode cX12_land 179 = .ok (.getfield 9, 3) := by decide +kernel
theorem dX12_land_182 : decode cX12_land 182 = .ok (.bipush 96, 2) := by decide +kernel
theorem dX12_land_184 : decode cX12_land 184 = .ok (.iload 7, 2) := by decide +kernel
theorem dX12_land_186 : decode cX12_land 186 = .ok (.iadd, 1) := by decide +kernel
theorem dX12_land_187 : decode cX12_land 187 = .ok (.iload_n 3, 1) := by decide +kernel
theorem dX12_land_188 : decode cX12_land 188 = .ok (.iastore, 1) := by decide +kernel
theorem dX12_land_189 : decode cX12_land 189 = .ok (.aload_n 0, 1) := by decide +kernel
theorem dX12_land_190 : decode cX12_land 190 = .ok (.getfield 9, 3) := by decide +kernel
theorem dX12_land_193 : decode cX12_land 193 = .ok (.sipush 192, 3) := by decide +kernel
theorem dX12_land_196 : decode cX12_land 196 = .ok (.iload 7, 2) := by decide +kernel
theorem dX12_land_198 : decode cX12_land 198 = .ok (.iadd, 1) := by decide +kernel
theorem dX12_land_199 : decode cX12_land 199 = .ok (.iload 4, 2) := by decide +kernel
theorem dX12_land_201 : decode cX12_land 201 = .ok (.iastore, 1) := by decide +kernel
theorem dX12_land_202 : decode cX12_land 202 = .ok (.aload_n 0, 1) := by decide +kernel
theorem dX12_land_203 : decode cX12_land 203 = .ok (.getfield 9, 3) := by decide +kernel
theorem dX12_land_206 : decode cX12_land 206 = .ok (.sipush 288, 3) := by decide +kernel
theorem dX12_land_209 : decode cX12_land 209 = .ok (.iload 7, 2) := by decide +kernel
theorem dX12_land_211 : decode cX12_land 211 = .ok (.iadd, 1) := by decide +kernel
theorem dX12_land_212 : decode cX12_land 212 = .ok (.iload 5, 2) := by decide +kernel
theorem dX12_land_214 : decode cX12_land 214 = .ok (.iastore, 1) := by decide +kernel
theorem dX12_land_215 : decode cX12_land 215 = .ok (.aload_n 0, 1) := by decide +kernel
theorem dX12_land_216 : decode cX12_land 216 = .ok (.getfield 9, 3) := by decide +kernel
theorem dX12_land_219 : decode cX12_land 219 = .ok (.sipush 384, 3) := by decide +kernel
theorem dX12_land_222 : decode cX12_land 222 = .ok (.iload 7, 2) := by decide +kernel
theorem dX12_land_224 : decode cX12_land 224 = .ok (.iadd, 1) := by decide +kernel
theorem dX12_land_225 : decode cX12_land 225 = .ok (.iconst 0, 1) := by decide +kernel
theorem dX12_land_226 : decode cX12_land 226 = .ok (.iastore, 1) := by decide +kernel
theorem dX12_land_227 : decode cX12_land 227 = .ok (.aload_n 0, 1) := by decide +kernel
theorem dX12_land_228 : decode cX12_land 228 = .ok (.getfield 9, 3) := by decide +kernel
theorem dX12_land_231 : decode cX12_land 231 = .ok (.sipush 480, 3) := by decide +kernel
theorem dX12_land_234 : decode cX12_land 234 = .ok (.iload 7, 2) := by decide +kernel
theorem dX12_land_236 : decode cX12_land 236 = .ok (.iadd, 1) := by decide +kernel
theorem dX12_land_237 : decode cX12_land 237 = .ok (.iconst 0, 1) := by decide +kernel
theorem dX12_land_238 : decode cX12_land 238 = .ok (.iastore, 1) := by decide +kernel
theorem dX12_land_239 : decode cX12_land 239 = .ok (.iinc 7 1, 3) := by decide +kernel
theorem dX12_land_242 : decode cX12_land 242 = .ok (.goto (-135), 3) := by decide +kernel
theorem dX12_land_245 : decode cX12_land 245 = .ok (.aload_n 0, 1) := by decide +kernel
theorem dX12_land_246 : decode cX12_land 246 = .ok (.iconst 0, 1) := by decide +kernel
theorem dX12_land_247 : decode cX12_land 247 = .ok (.putfield 238, 3) := by decide +kernel
theorem dX12_land_250 : decode cX12_land 250 = .ok (.iload 6, 2) := by decide +kernel
theorem dX12_land_252 : decode cX12_land 252 = .ok (.ireturn, 1) := by decide +kernel
theorem dX12_leaves_0 : decode cX12_leaves 0 = .ok (.aload_n 0, 1) := by decide +kernel
theorem dX12_leaves_1 : decode cX12_leaves 1 = .ok (.getfield 9, 3) := by decide +kernel
theorem dX12_leaves_4 : decode cX12_leaves 4 = .ok (.sipush 480, 3) := by decide +kernel
theorem dX12_leaves_7 : decode cX12_leaves 7 = .ok (.iload_n 1, 1) := by decide +kernel
theorem dX12_leaves_8 : decode cX12_leaves 8 = .ok (.iadd, 1) := by decide +kernel
theorem dX12_leaves_9 : decode cX12_leaves 9 = .ok (.iaload, 1) := by decide +kernel
theorem dX12_leaves_10 : decode cX12_leaves 10 = .ok (.i2l, 1) := by decide +kernel
theorem dX12_leaves_11 : decode cX12_leaves 11 = .ok (.iload_n 2, 1) := by decide +kernel
theorem dX12_leaves_12 : decode cX12_leaves 12 = .ok (.i2l, 1) := by decide +kernel
theorem dX12_leaves_13 : decode cX12_leaves 13 = .ok (.lmul, 1) := by decide +kernel
theorem dX12_leaves_14 : decode cX12_leaves 14 = .ok (.aload_n 0, 1) := by decide +kernel
theorem dX12_leaves_15 : decode cX12_leaves 15 = .ok (.getfield 9, 3) := by decide +kernel
theorem dX12_leaves_18 : decode cX12_leaves 18 = .ok (.sipush 384, 3) := by decide +kernel
theorem dX12_leaves_21 : decode cX12_leaves 21 = .ok (.iload_n 1, 1) := by decide +kernel
theorem dX12_leaves_22 : decode cX12_leaves 22 = .ok (.iadd, 1) := by decide +kernel
theorem dX12_leaves_23 : decode cX12_leaves 23 = .ok (.iaload, 1) := by decide +kernel
theorem dX12_leaves_24 : decode cX12_leaves 24 = .ok (.bipush 10, 2) := by decide +kernel
theorem dX12_leaves_26 : decode cX12_leaves 26 = .ok (.iadd, 1) := by decide +kernel
theorem dX12_leaves_27 : decode cX12_leaves 27 = .ok (.i2l, 1) := by decide +kernel
theorem dX12_leaves_28 : decode cX12_leaves 28 = .ok (.ldiv, 1) := by decide +kernel
theorem dX12_leaves_29 : decode cX12_leaves 29 = .ok (.l2i, 1) := by decide +kernel
theorem dX12_leaves_30 : decode cX12_leaves 30 = .ok (.istore_n 3, 1) := by decide +kernel
theorem dX12_leaves_31 : decode cX12_leaves 31 = .ok (.aload_n 0, 1) := by decide +kernel
theorem dX12_leaves_32 : decode cX12_leaves 32 = .ok (.getfield 9, 3) := by decide +kernel
theorem dX12_leaves_35 : decode cX12_leaves 35 = .ok (.sipush 480, 3) := by decide +kernel
theorem dX12_leaves_38 : decode cX12_leaves 38 = .ok (.iload_n 1, 1) := by decide +kernel
theorem dX12_leaves_39 : decode cX12_leaves 39 = .ok (.iadd, 1) := by decide +kernel
theorem dX12_leaves_40 : decode cX12_leaves 40 = .ok (.dup2, 1) := by decide +kernel
theorem dX12_leaves_41 : decode cX12_leaves 41 = .ok (.iaload, 1) := by decide +kernel
theorem dX12_leaves_42 : decode cX12_leaves 42 = .ok (.iload_n 3, 1) := by decide +kernel
theorem dX12_leaves_43 : decode cX12_leaves 43 = .ok (.isub, 1) := by decide +kernel
theorem dX12_leaves_44 : decode cX12_leaves 44 = .ok (.iastore, 1) := by decide +kernel
theorem dX12_leaves_45 : decode cX12_leaves 45 = .ok (.aload_n 0, 1) := by decide +kernel
theorem dX12_leaves_46 : decode cX12_leaves 46 = .ok (.getfield 9, 3) := by decide +kernel
theorem dX12_leaves_49 : decode cX12_leaves 49 = .ok (.sipush 384, 3) := by decide +kernel
theorem dX12_leaves_52 : decode cX12_leaves 52 = .ok (.iload_n 1, 1) := by decide +kernel
theorem dX12_leaves_53 : decode cX12_leaves 53 = .ok (.iadd, 1) := by decide +kernel
theorem dX12_leaves_54 : decode cX12_leaves 54 = .ok (.dup2, 1) := by decide +kernel
theorem dX12_leaves_55 : decode cX12_leaves 55 = .ok (.iaload, 1) := by decide +kernel
theorem dX12_leaves_56 : decode cX12_leaves 56 = .ok (.iload_n 2, 1) := by decide +kernel
theorem dX12_leaves_57 : decode cX12_leaves 57 = .ok (.isub, 1) := by decide +kernel
theorem dX12_leaves_58 : decode cX12_leaves 58 = .ok (.iastore, 1) := by decide +kernel
theorem dX12_leaves_59 : decode cX12_leaves 59 = .ok (.iload_n 3, 1) := by decide +kernel
theorem dX12_leaves_60 : decode cX12_leaves 60 = .ok (.ireturn, 1) := by decide +kernel
theorem dX12_levels_0 : decode cX12_levels 0 = .ok (.aload_n 0, 1) := by decide +kernel
theorem dX12_levels_1 : decode cX12_levels 1 = .ok (.iconst 0, 1) := by decide +kernel
theorem dX12_levels_2 : decode cX12_levels 2 = .ok (.putfield 194, 3) := by decide +kernel
theorem dX12_levels_5 : decode cX12_levels 5 = .ok (.aload_n 0, 1) := by decide +kernel
theorem dX12_levels_6 : decode cX12_levels 6 = .ok (.aload_n 0, 1) := by decide +kernel
theorem dX12_levels_7 : decode cX12_levels 7 = .ok (.iload_n 1, 1) := by decide +kernel
theorem dX12_levels_8 : decode cX12_levels 8 = .ok (.invokevirtual 502, 3) := by decide +kernel
theorem dX12_levels_11 : decode cX12_levels 11 = .ok (.iconst 1, 1) := by decide +kernel
theorem dX12_levels_12 : decode cX12_levels 12 = .ok (.invokevirtual 224, 3) := by decide +kernel
theorem dX12_levels_15 : decode cX12_levels 15 = .ok (.ifCond .ne 27, 3) := by decide +kernel
theorem dX12_levels_18 : decode cX12_levels 18 = .ok (.aload_n 0, 1) := by decide +kernel
theorem dX12_levels_19 : decode cX12_levels 19 = .ok (.iload_n 2, 1) := by decide +kernel
theorem dX12_levels_20 : decode cX12_levels 20 = .ok (.iconst 0, 1) := by decide +kernel
theorem dX12_levels_21 : decode cX12_levels 21 = .ok (.sipush 1000, 3) := by decide +kernel
theorem dX12_levels_24 : decode cX12_levels 24 = .ok (.invokestatic 197, 3) := by decide +kernel
theorem dX12_levels_27 : decode cX12_levels 27 = .ok (.ifCond .ne 7, 3) := by decide +kernel
theorem dX12_levels_30 : decode cX12_levels 30 = .ok (.iconst 1, 1) := by decide +kernel
theorem dX12_levels_31 : decode cX12_levels 31 = .ok (.goto 4, 3) := by decide +kernel
theorem dX12_levels_34 : decode cX12_levels 34 = .ok (.iconst 0, 1) := by decide +kernel
theorem dX12_levels_35 : decode cX12_levels 35 = .ok (.iconst 2, 1) := by decide +kernel
theorem dX12_levels_36 : decode cX12_levels 36 = .ok (.invokevirtual 224, 3) := by decide +kernel
theorem dX12_levels_39 : decode cX12_levels 39 = .ok (.ifCond .eq 5, 3) := by decide +kernel
theorem dX12_levels_42 : decode cX12_levels 42 = .ok (.iconst 0, 1) := by decide +kernel
theorem dX12_levels_43 : decode cX12_levels 43 = .ok (.ireturn, 1) := by decide +kernel
theorem dX12_levels_44 : decode cX12_levels 44 = .ok (.iconst 0, 1) := by decide +kernel
theorem dX12_levels_45 : decode cX12_levels 45 = .ok (.istore_n 3, 1) := by decide +kernel
theorem dX12_levels_46 : decode cX12_levels 46 = .ok (.iconst 0, 1) := by decide +kernel
theorem dX12_levels_47 : decode cX12_levels 47 = .ok (.istore 4, 2) := by decide +kernel
theorem dX12_levels_49 : decode cX12_levels 49 = .ok (.iload 4, 2) := by decide +kernel
theorem dX12_levels_51 : decode cX12_levels 51 = .ok (.bipush 96, 2) := by decide +kernel
theorem dX12_levels_53 : decode cX12_levels 53 = .ok (.if_icmp .ge 49, 3) := by decide +kernel
theorem dX12_levels_56 : decode cX12_levels 56 = .ok (.iload_n 3, 1) := by decide +kernel
theorem dX12_levels_57 : decode cX12_levels 57 = .ok (.bipush 6, 2) := by decide +kernel
theorem dX12_levels_59 : decode cX12_levels 59 = .ok (.if_icmp .eq 37, 3) := by decide +kernel
theorem dX12_levels_62 : decode cX12_levels 62 = .ok (.iload 4, 2) := by decide +kernel
theorem dX12_levels_64 : decode cX12_levels 64 = .ok (.aload_n 0, 1) := by decide +kernel
theorem dX12_levels_65 : decode cX12_levels 65 = .ok (.getfield 113, 3) := by decide +kernel
theorem dX12_levels_68 : decode cX12_levels 68 = .ok (.iload_n 1, 1) := by decide +kernel
theorem dX12_levels_69 : decode cX12_levels 69 = .ok (.iaload, 1) := by decide +kernel
theorem dX12_levels_70 : decode cX12_levels 70 = .ok (.aload_n 0, 1) := by decide +kernel
theorem dX12_levels_71 : decode cX12_levels 71 = .ok (.getfield 116, 3) := by decide +kernel
theorem dX12_levels_74 : decode cX12_levels 74 = .ok (.iload_n 1, 1) := by decide +kernel
theorem dX12_levels_75 : decode cX12_levels 75 = .ok (.iaload, 1) := by decide +kernel
theorem dX12_levels_76 : decode cX12_levels 76 = .ok (.invokestatic 232, 3) := by decide +kernel
theorem dX12_levels_79 : decode cX12_levels 79 = .ok (.ifCond .ne 6, 3) := by decide +kernel
theorem dX12_levels_82 : decode cX12_levels 82 = .ok (.goto 14, 3) := by decide +kernel
theorem dX12_levels_85 : decode cX12_levels 85 = .ok (.aload_n 0, 1) := by decide +kernel
theorem dX12_levels_86 : decode cX12_levels 86 = .ok (.getfield 173, 3) := by decide +kernel
theorem dX12_levels_89 : decode cX12_levels 89 = .ok (.iload_n 3, 1) := by decide +kernel
theorem dX12_levels_90 : decode cX12_levels 90 = .ok (.iload 4, 2) := by decide +kernel
theorem dX12_levels_92 : decode cX12_levels 92 = .ok (.iastore, 1) := by decide +kernel
theorem dX12_levels_93 : decode cX12_levels 93 = .ok (.iinc 3 1, 3) := by decide +kernel
theorem dX12_levels_96 : decode cX12_levels 96 = .ok (.iinc 4 1, 3) := by decide +kernel
theorem dX12_levels_99 : decode cX12_levels 99 = .ok (.goto (-50), 3) := by decide +kernel
theorem dX12_levels_102 : decode cX12_levels 102 = .ok (.iconst (-1), 1) := by decide +kernel
theorem dX12_levels_103 : decode cX12_levels 103 = .ok (.istore 4, 2) := by decide +kernel
theorem dX12_levels_105 : decode cX12_levels 105 = .ok (.iconst 0, 1) := by decide +kernel
theorem dX12_levels_106 : decode cX12_levels 106 = .ok (.istore 5, 2) := by decide +kernel
theorem dX12_levels_108 : decode cX12_levels 108 = .ok (.iload 5, 2) := by decide +kernel
theorem dX12_levels_110 : decode cX12_levels 110 = .ok (.iconst 1, 1) := by decide +kernel
theorem dX12_levels_111 : decode cX12_levels 111 = .ok (.iconst 2, 1) := by decide +kernel
theorem dX12_levels_112 : decode cX12_levels 112 = .ok (.iload_n 3, 1) := by decide +kernel
theorem dX12_levels_113 : decode cX12_levels 113 = .ok (.imul, 1) := by decide +kernel
theorem dX12_levels_114 : decode cX12_levels 114 = .ok (.ishl, 1) := by decide +kernel
theorem dX12_levels_115 : decode cX12_levels 115 = .ok (.if_icmp .ge 194, 3) := by decide +kernel
theorem dX12_levels_118 : decode cX12_levels 118 = .ok (.iconst 0, 1) := by decide +kernel
theorem dX12_levels_119 : decode cX12_levels 119 = .ok (.istore 6, 2) := by decide +kernel
theorem dX12_levels_121 : decode cX12_levels 121 = .ok (.iconst 1, 1) := by decide +kernel
theorem dX12_levels_122 : decode cX12_levels 122 = .ok (.istore 7, 2) := by decide +kernel
theorem dX12_levels_124 : decode cX12_levels 124 = .ok (.iconst 0, 1) := by decide +kernel
theorem dX12_levels_125 : decode cX12_levels 125 = .ok (.istore 8, 2) := by decide +kernel
theorem dX12_levels_127 : decode cX12_levels 127 = .ok (.iload 8, 2) := by decide +kernel
theorem dX12_levels_129 : decode cX12_levels 129 = .ok (.iload_n 3, 1) := by decide +kernel
theorem dX12_levels_130 : decode cX12_levels 130 = .ok (.if_icmp .ge 159, 3) := by decide +kernel
theorem dX12_levels_133 : decode cX12_levels 133 = .ok (.aload_n 0, 1) := by decide +kernel
theorem dX12_levels_134 : decode cX12_levels 134 = .ok (.getfield 170, 3) := by decide +kernel
theorem dX12_levels_137 : decode cX12_levels 137 = .ok (.iload 8, 2) := by decide +kernel
theorem dX12_levels_139 : decode cX12_levels 139 = .ok (.bipush 40, 2) := by decide +kernel
theorem dX12_levels_141 : decode cX12_levels 141 = .ok (.bipush 40, 2) := by decide +kernel
theorem dX12_levels_143 : decode cX12_levels 143 = .ok (.iload 5, 2) := by decide +kernel
theorem dX12_levels_145 : decode cX12_levels 145 = .ok (.iconst 2, 1) := by decide +kernel
theorem dX12_levels_146 : decode cX12_levels 146 = .ok (.iload 8, 2) := by decide +kernel
theorem dX12_levels_148 : decode cX12_levels 148 = .ok (.imul, 1) := by decide +kernel
theorem dX12_levels_149 : decode cX12_levels 149 = .ok (.ishr, 1) := by decide +kernel
theorem dX12_levels_150 : decode cX12_levels 150 = .ok (.iconst 3, 1) := by decide +kernel
theorem dX12_levels_151 : decode cX12_levels 151 = .ok (.iand, 1) := by decide +kernel
theorem dX12_levels_152 : decode cX12_levels 152 = .ok (.imul, 1) := by decide +kernel
theorem dX12_levels_153 : decode cX12_levels 153 = .ok (.iadd, 1) := by decide +kernel
theorem dX12_levels_154 : decode cX12_levels 154 = .ok (.iastore, 1) := by decide +kernel
theorem dX12_levels_155 : decode cX12_levels 155 = .ok (.iload 6, 2) := by decide +kernel
theorem dX12_levels_157 : decode cX12_levels 157 = .ok (.aload_n 0, 1) := by decide +kernel
theorem dX12_levels_158 : decode cX12_levels 158 = .ok (.getfield 119, 3) := by decide +kernel
theorem dX12_levels_161 : decode cX12_levels 161 = .ok (.iload_n 1, 1) := by decide +kernel
theorem dX12_levels_162 : decode cX12_levels 162 = .ok (.iaload, 1) := by decide +kernel
theorem dX12_levels_163 : decode cX12_levels 163 = .ok (.aload_n 0, 1) := by decide +kernel
theorem dX12_levels_164 : decode cX12_levels 164 = .ok (.getfield 170, 3) := by decide +kernel
theorem dX12_levels_167 : decode cX12_levels 167 = .ok (.iload 8, 2) := by decide +kernel
theorem dX12_levels_169 : decode cX12_levels 169 = .ok (.iaload, 1) := by decide +kernel
theorem dX12_levels_170 : decode cX12_levels 170 = .ok (.invokestatic 550, 3) := by decide +kernel
theorem dX12_levels_173 : decode cX12_levels 173 = .ok (.iadd, 1) := by decide +kernel
theorem dX12_levels_174 : decode cX12_levels 174 = .ok (.istore 6, 2) := by decide +kernel
theorem dX12_levels_176 : decode cX12_levels 176 = .ok (.iconst 0, 1) := by decide +kernel
theorem dX12_levels_177 : decode cX12_levels 177 = .ok (.istore 9, 2) := by decide +kernel
theorem dX12_levels_179 : decode cX12_levels 179 = .ok (.iload 9, 2) := by decide +kernel
theorem dX12_levels_181 : decode cX12_levels 181 = .ok (.iload 8, 2) := by decide +kernel
theorem dX12_levels_183 : decode cX12_levels 183 = .ok (.if_icmp .ge 100, 3) := by decide +kernel
theorem dX12_levels_186 : decode cX12_levels 186 = .ok (.aload_n 0, 1) := by decide +kernel
theorem dX12_levels_187 : decode cX12_levels 187 = .ok (.getfield 9, 3) := by decide +kernel
theorem dX12_levels_190 : decode cX12_levels 190 = .ok (.bipush 96, 2) := by decide +kernel
theorem dX12_levels_192 : decode cX12_levels 192 = .ok (.aload_n 0, 1) := by decide +kernel
theorem dX12_levels_193 : decode cX12_levels 193 = .ok (.getfield 173, 3) := by decide +kernel
theorem dX12_levels_196 : decode cX12_levels 196 = .ok (.iload 8, 2) := by decide +kernel
theorem dX12_levels_198 : decode cX12_levels 198 = .ok (.iaload, 1) := by decide +kernel
theorem dX12_levels_199 : decode cX12_levels 199 = .ok (.iadd, 1) := by decide +kernel
theorem dX12_levels_200 : decode cX12_levels 200 = .ok (.iaload, 1) := by decide +kernel
theorem dX12_levels_201 : decode cX12_levels 201 = .ok (.aload_n 0, 1) := by decide +kernel
theorem dX12_levels_202 : decode cX12_levels 202 = .ok (.getfield 170, 3) := by decide +kernel
theorem dX12_levels_205 : decode cX12_levels 205 = .ok (.iload 8, 2) := by decide +kernel
theorem dX12_levels_207 : decode cX12_levels 207 = .ok (.iaload, 1) := by decide +kernel
theorem dX12_levels_208 : decode cX12_levels 208 = .ok (.isub, 1) := by decide +kernel
theorem dX12_levels_209 : decode cX12_levels 209 = .ok (.aload_n 0, 1) := by decide +kernel
theorem dX12_levels_210 : decode cX12_levels 210 = .ok (.getfield 9, 3) := by decide +kernel
theorem dX12_levels_213 : decode cX12_levels 213 = .ok (.bipush 96, 2) := by decide +kernel
theorem dX12_levels_215 : decode cX12_levels 215 = .ok (.aload_n 0, 1) := by decide +kernel
theorem dX12_levels_216 : decode cX12_levels 216 = .ok (.getfield 173, 3) := by decide +kernel
theorem dX12_levels_219 : decode cX12_levels 219 = .ok (.iload 9, 2) := by decide +kernel
theorem dX12_levels_221 : decode cX12_levels 221 = .ok (.iaload, 1) := by decide +kernel
theorem dX12_levels_222 : decode cX12_levels 222 = .ok (.iadd, 1) := by decide +kernel
theorem dX12_levels_223 : decode cX12_levels 223 = .ok (.iaload, 1) := by decide +kernel
theorem dX12_levels_224 : decode cX12_levels 224 = .ok (.isub, 1) := by decide +kernel
theorem dX12_levels_225 : decode cX12_levels 225 = .ok (.aload_n 0, 1) := by decide +kernel
theorem dX12_levels_226 : decode cX12_levels 226 = .ok (.getfield 170, 3) := by decide +kernel
theorem dX12_levels_229 : decode cX12_levels 229 = .ok (.iload 9, 2) := by decide +kernel
theorem dX12_levels_231 : decode cX12_levels 231 = .ok (.iaload, 1) := by decide +kernel
theorem dX12_levels_232 : decode cX12_levels 232 = .ok (.iadd, 1) := by decide +kernel
theorem dX12_levels_233 : decode cX12_levels 233 = .ok (.istore 10, 2) := by decide +kernel
theorem dX12_levels_235 : decode cX12_levels 235 = .ok (.iload 7, 2) := by decide +kernel
theorem dX12_levels_237 : decode cX12_levels 237 = .ok (.ifCond .eq 37, 3) := by decide +kernel
theorem dX12_levels_240 : decode cX12_levels 240 = .ok (.aload_n 0, 1) := by decide +kernel
theorem dX12_levels_241 : decode cX12_levels 241 = .ok (.getfield 173, 3) := by decide +kernel
theorem dX12_levels_244 : decode cX12_levels 244 = .ok (.iload 8, 2) := by decide +kernel
theorem dX12_levels_246 : decode cX12_levels 246 = .ok (.iaload, 1) := by decide +kernel
theorem dX12_levels_247 : decode cX12_levels 247 = .ok (.aload_n 0, 1) := by decide +kernel
theorem dX12_levels_248 : decode cX12_levels 248 = .ok (.getfield 173, 3) := by decide +kernel
theorem dX12_levels_251 : decode cX12_levels 251 = .ok (.iload 9, 2) := by decide +kernel
theorem dX12_levels_253 : decode cX12_levels 253 = .ok (.iaload, 1) := by decide +kernel
theorem dX12_levels_254 : decode cX12_levels 254 = .ok (.invokestatic 262, 3) := by decide +kernel
theorem dX12_levels_257 : decode cX12_levels 257 = .ok (.iconst 1, 1) := by decide +kernel
theorem dX12_levels_258 : decode cX12_levels 258 = .ok (.if_icmp .ne 12, 3) := by decide +kernel
theorem dX12_levels_261 : decode cX12_levels 261 = .ok (.iload 10, 2) := by decide +kernel
theorem dX12_levels_263 : decode cX12_levels 263 = .ok (.invokestatic 201, 3) := by decide +kernel
theorem dX12_levels_266 : decode cX12_levels 266 = .ok (.iload_n 2, 1) := by decide +kernel
theorem dX12_levels_267 : decode cX12_levels 267 = .ok (.if_icmp .gt 7, 3) := by decide +kernel
theorem dX12_levels_270 : decode cX12_levels 270 = .ok (.iconst 1, 1) := by decide +kernel
theorem dX12_levels_271 : decode cX12_levels 271 = .ok (.goto 4, 3) := by decide +kernel
theorem dX12_levels_274 : decode cX12_levels 274 = .ok (.iconst 0, 1) := by decide +kernel
theorem dX12_levels_275 : decode cX12_levels 275 = .ok (.istore 7, 2) := by decide +kernel
theorem dX12_levels_277 : decode cX12_levels 277 = .ok (.iinc 9 1, 3) := by decide +kernel
theorem dX12_levels_280 : decode cX12_levels 280 = .ok (.goto (-101), 3) := by decide +kernel
theorem dX12_levels_283 : decode cX12_levels 283 = .ok (.iinc 8 1, 3) := by decide +kernel
theorem dX12_levels_286 : decode cX12_levels 286 = .ok (.goto (-159), 3) := by decide +kernel
theorem dX12_levels_289 : decode cX12_levels 289 = .ok (.iload 7, 2) := by decide +kernel
theorem dX12_levels_291 : decode cX12_levels 291 = .ok (.ifCond .eq 12, 3) := by decide +kernel
theorem dX12_levels_294 : decode cX12_levels 294 = .ok (.iload 4, 2) := by decide +kernel
theorem dX12_levels_296 : decode cX12_levels 296 = .ok (.iload 6, 2) := by decide +kernel
theorem dX12_levels_298 : decode cX12_levels 298 = .ok (.invokestatic 211, 3) := by decide +kernel
theorem dX12_levels_301 : decode cX12_levels 301 = .ok (.istore 4, 2) := by decide +kernel
theorem dX12_levels_303 : decode cX12_levels 303 = .ok (.iinc 5 1, 3) := by decide +kernel
theorem dX12_levels_306 : decode cX12_levels 306 = .ok (.goto (-198), 3) := by decide +kernel
theorem dX12_levels_309 : decode cX12_levels 309 = .ok (.iload 4, 2) := by decide +kernel
theorem dX12_levels_311 : decode cX12_levels 311 = .ok (.ireturn, 1) := by decide +kernel
theorem dX12_looksAt_0 : decode cX12_looksAt 0 = .ok (.aload_n 0, 1) := by decide +kernel
theorem dX12_looksAt_1 : decode cX12_looksAt 1 = .ok (.getfield 76, 3) := by decide +kernel
theorem dX12_looksAt_4 : decode cX12_looksAt 4 = .ok (.iconst 0, 1) := by decide +kernel
theorem dX12_looksAt_5 : decode cX12_looksAt 5 = .ok (.aload_n 0, 1) := by decide +kernel
theorem dX12_looksAt_6 : decode cX12_looksAt 6 = .ok (.iload_n 1, 1) := by decide +kernel
theorem dX12_looksAt_7 : decode cX12_looksAt 7 = .ok (.invokevirtual 467, 3) := by decide +kernel
theorem dX12_looksAt_10 : decode cX12_looksAt 10 = .ok (.i2l, 1) := by decide +kernel
theorem dX12_looksAt_11 : decode cX12_looksAt 11 = .ok (.lastore, 1) := by decide +kernel
theorem dX12_looksAt_12 : decode cX12_looksAt 12 = .ok (.aload_n 0, 1) := by decide +kernel
theorem dX12_looksAt_13 : decode cX12_looksAt 13 = .ok (.getfield 76, 3) := by decide +kernel
theorem dX12_looksAt_16 : decode cX12_looksAt 16 = .ok (.iconst 1, 1) := by decide +kernel
theorem dX12_looksAt_17 : decode cX12_looksAt 17 = .ok (.aload_n 0, 1) := by decide +kernel
theorem dX12_looksAt_18 : decode cX12_looksAt 18 = .ok (.getfield 104, 3) := by decide +kernel
theorem dX12_looksAt_21 : decode cX12_looksAt 21 = .ok (.iload_n 1, 1) := by decide +kernel
theorem dX12_looksAt_22 : decode cX12_looksAt 22 = .ok (.iaload, 1) := by decide +kernel
theorem dX12_looksAt_23 : decode cX12_looksAt 23 = .ok (.i2l, 1) := by decide +kernel
theorem dX12_looksAt_24 : decode cX12_looksAt 24 = .ok (.lastore, 1) := by decide +kernel
theorem dX12_looksAt_25 : decode cX12_looksAt 25 = .ok (.aload_n 0, 1) := by decide +kernel
theorem dX12_looksAt_26 : decode cX12_looksAt 26 = .ok (.getfield 76, 3) := by decide +kernel
theorem dX12_looksAt_29 : decode cX12_looksAt 29 = .ok (.iconst 2, 1) := by decide +kernel
theorem dX12_looksAt_30 : decode cX12_looksAt 30 = .ok (.aload_n 0, 1) := by decide +kernel
theorem dX12_looksAt_31 : decode cX12_looksAt 31 = .ok (.getfield 79, 3) := by decide +kernel
theorem dX12_looksAt_34 : decode cX12_looksAt 34 = .ok (.iload_n 1, 1) := by decide +kernel
theorem dX12_looksAt_35 : decode cX12_looksAt 35 = .ok (.iaload, 1) := by decide +kernel
theorem dX12_looksAt_36 : decode cX12_looksAt 36 = .ok (.i2l, 1) := by decide +kernel
theorem dX12_looksAt_37 : decode cX12_looksAt 37 = .ok (.lastore, 1) := by decide +kernel
theorem dX12_looksAt_38 : decode cX12_looksAt 38 = .ok (.aload_n 0, 1) := by decide +kernel
theorem dX12_looksAt_39 : decode cX12_looksAt 39 = .ok (.getfield 76, 3) := by decide +kernel
theorem dX12_looksAt_42 : decode cX12_looksAt 42 = .ok (.iconst 3, 1) := by decide +kernel
theorem dX12_looksAt_43 : decode cX12_looksAt 43 = .ok (.aload_n 0, 1) := by decide +kernel
theorem dX12_looksAt_44 : decode cX12_looksAt 44 = .ok (.getfield 82, 3) := by decide +kernel
theorem dX12_looksAt_47 : decode cX12_looksAt 47 = .ok (.iload_n 1, 1) := by decide +kernel
theorem dX12_looksAt_48 : decode cX12_looksAt 48 = .ok (.iaload, 1) := by decide +kernel
theorem dX12_looksAt_49 : decode cX12_looksAt 49 = .ok (.i2l, 1) := by decide +kernel
theorem dX12_looksAt_50 : decode cX12_looksAt 50 = .ok (.lastore, 1) := by decide +kernel
theorem dX12_looksAt_51 : decode cX12_looksAt 51 = .ok (.aload_n 0, 1) := by decide +kernel
theorem dX12_looksAt_52 : decode cX12_looksAt 52 = .ok (.getfield 76, 3) := by decide +kernel
theorem dX12_looksAt_55 : decode cX12_looksAt 55 = .ok (.iconst 4, 1) := by decide +kernel
theorem dX12_looksAt_56 : decode cX12_looksAt 56 = .ok (.aload_n 0, 1) := by decide +kernel
theorem dX12_looksAt_57 : decode cX12_looksAt 57 = .ok (.getfield 85, 3) := by decide +kernel
theorem dX12_looksAt_60 : decode cX12_looksAt 60 = .ok (.iload_n 1, 1) := by decide +kernel
theorem dX12_looksAt_61 : decode cX12_looksAt 61 = .ok (.iaload, 1) := by decide +kernel
theorem dX12_looksAt_62 : decode cX12_looksAt 62 = .ok (.i2l, 1) := by decide +kernel
theorem dX12_looksAt_63 : decode cX12_looksAt 63 = .ok (.lastore, 1) := by decide +kernel
theorem dX12_looksAt_64 : decode cX12_looksAt 64 = .ok (.aload_n 0, 1) := by decide +kernel
theorem dX12_looksAt_65 : decode cX12_looksAt 65 = .ok (.getfield 76, 3) := by decide +kernel
theorem dX12_looksAt_68 : decode cX12_looksAt 68 = .ok (.iconst 5, 1) := by decide +kernel
theorem dX12_looksAt_69 : decode cX12_looksAt 69 = .ok (.aload_n 0, 1) := by decide +kernel
theorem dX12_looksAt_70 : decode cX12_looksAt 70 = .ok (.getfield 88, 3) := by decide +kernel
theorem dX12_looksAt_73 : decode cX12_looksAt 73 = .ok (.iload_n 1, 1) := by decide +kernel
theorem dX12_looksAt_74 : decode cX12_looksAt 74 = .ok (.iaload, 1) := by decide +kernel
theorem dX12_looksAt_75 : decode cX12_looksAt 75 = .ok (.i2l, 1) := by decide +kernel
theorem dX12_looksAt_76 : decode cX12_looksAt 76 = .ok (.lastore, 1) := by decide +kernel
theorem dX12_looksAt_77 : decode cX12_looksAt 77 = .ok (.aload_n 0, 1) := by decide +kernel
theorem dX12_looksAt_78 : decode cX12_looksAt 78 = .ok (.getfield 76, 3) := by decide +kernel
theorem dX12_looksAt_81 : decode cX12_looksAt 81 = .ok (.bipush 6, 2) := by decide +kernel
theorem dX12_looksAt_83 : decode cX12_looksAt 83 = .ok (.aload_n 0, 1) := by decide +kernel
theorem dX12_looksAt_84 : decode cX12_looksAt 84 = .ok (.getfield 91, 3) := by decide +kernel
theorem dX12_looksAt_87 : decode cX12_looksAt 87 = .ok (.iload_n 1, 1) := by decide +kernel
theorem dX12_looksAt_88 : decode cX12_looksAt 88 = .ok (.baload, 1) := by decide +kernel
theorem dX12_looksAt_89 : decode cX12_looksAt 89 = .ok (.ifCond .eq 7, 3) := by decide +kernel
theorem dX12_looksAt_92 : decode cX12_looksAt 92 = .ok (.lconst 1, 1) := by decide +kernel
theorem dX12_looksAt_93 : decode cX12_looksAt 93 = .ok (.goto 4, 3) := by decide +kernel
theorem dX12_looksAt_96 : decode cX12_looksAt 96 = .ok (.lconst 0, 1) := by decide +kernel
theorem dX12_looksAt_97 : decode cX12_looksAt 97 = .ok (.lastore, 1) := by decide +kernel
theorem dX12_looksAt_98 : decode cX12_looksAt 98 = .ok (.aload_n 0, 1) := by decide +kernel
theorem dX12_looksAt_99 : decode cX12_looksAt 99 = .ok (.getfield 76, 3) := by decide +kernel
theorem dX12_looksAt_102 : decode cX12_looksAt 102 = .ok (.bipush 7, 2) := by decide +kernel
theorem dX12_looksAt_104 : decode cX12_looksAt 104 = .ok (.aload_n 0, 1) := by decide +kernel
theorem dX12_looksAt_105 : decode cX12_looksAt 105 = .ok (.getfield 95, 3) := by decide +kernel
theorem dX12_looksAt_108 : decode cX12_looksAt 108 = .ok (.iload_n 1, 1) := by decide +kernel
theorem dX12_looksAt_109 : decode cX12_looksAt 109 = .ok (.baload, 1) := by decide +kernel
theorem dX12_looksAt_110 : decode cX12_looksAt 110 = .ok (.ifCond .eq 7, 3) := by decide +kernel
theorem dX12_looksAt_113 : decode cX12_looksAt 113 = .ok (.lconst 1, 1) := by decide +kernel
theorem dX12_looksAt_114 : decode cX12_looksAt 114 = .ok (.goto 4, 3) := by decide +kernel
theorem dX12_looksAt_117 : decode cX12_looksAt 117 = .ok (.lconst 0, 1) := by decide +kernel
theorem dX12_looksAt_118 : decode cX12_looksAt 118 = .ok (.lastore, 1) := by decide +kernel
theorem dX12_looksAt_119 : decode cX12_looksAt 119 = .ok (.aload_n 0, 1) := by decide +kernel
theorem dX12_looksAt_120 : decode cX12_looksAt 120 = .ok (.getfield 76, 3) := by decide +kernel
theorem dX12_looksAt_123 : decode cX12_looksAt 123 = .ok (.bipush 8, 2) := by decide +kernel
theorem dX12_looksAt_125 : decode cX12_looksAt 125 = .ok (.aload_n 0, 1) := by decide +kernel
theorem dX12_looksAt_126 : decode cX12_looksAt 126 = .ok (.iload_n 1, 1) := by decide +kernel
theorem dX12_looksAt_127 : decode cX12_looksAt 127 = .ok (.invokevirtual 469, 3) := by decide +kernel
theorem dX12_looksAt_130 : decode cX12_looksAt 130 = .ok (.i2l, 1) := by decide +kernel
theorem dX12_looksAt_131 : decode cX12_looksAt 131 = .ok (.lastore, 1) := by decide +kernel
theorem dX12_looksAt_132 : decode cX12_looksAt 132 = .ok (.aload_n 0, 1) := by decide +kernel
theorem dX12_looksAt_133 : decode cX12_looksAt 133 = .ok (.getfield 76, 3) := by decide +kernel
theorem dX12_looksAt_136 : decode cX12_looksAt 136 = .ok (.bipush 9, 2) := by decide +kernel
theorem dX12_looksAt_138 : decode cX12_looksAt 138 = .ok (.aload_n 0, 1) := by decide +kernel
theorem dX12_looksAt_139 : decode cX12_looksAt 139 = .ok (.getfield 107, 3) := by decide +kernel
theorem dX12_looksAt_142 : decode cX12_looksAt 142 = .ok (.iload_n 1, 1) := by decide +kernel
theorem dX12_looksAt_143 : decode cX12_looksAt 143 = .ok (.iaload, 1) := by decide +kernel
theorem dX12_looksAt_144 : decode cX12_looksAt 144 = .ok (.i2l, 1) := by decide +kernel
theorem dX12_looksAt_145 : decode cX12_looksAt 145 = .ok (.lastore, 1) := by decide +kernel
theorem dX12_looksAt_146 : decode cX12_looksAt 146 = .ok (.return_, 1) := by decide +kernel
theorem dX12_mayBuildOn_0 : decode cX12_mayBuildOn 0 = .ok (.aload_n 0, 1) := by decide +kernel
theorem dX12_mayBuildOn_1 : decode cX12_mayBuildOn 1 = .ok (.bipush 9, 2) := by decide +kernel
theorem dX12_mayBuildOn_3 : decode cX12_mayBuildOn 3 = .ok (.iconst 0, 1) := by decide +kernel
theorem dX12_mayBuildOn_4 : decode cX12_mayBuildOn 4 = .ok (.invokevirtual 492, 3) := by decide +kernel
theorem dX12_mayBuildOn_7 : decode cX12_mayBuildOn 7 = .ok (.istore_n 2, 1) := by decide +kernel
theorem dX12_mayBuildOn_8 : decode cX12_mayBuildOn 8 = .ok (.iconst 1, 1) := by decide +kernel
theorem dX12_mayBuildOn_9 : decode cX12_mayBuildOn 9 = .ok (.istore_n 3, 1) := by decide +kernel
theorem dX12_mayBuildOn_10 : decode cX12_mayBuildOn 10 = .ok (.iconst 0, 1) := by decide +kernel
theorem dX12_mayBuildOn_11 : decode cX12_mayBuildOn 11 = .ok (.istore 4, 2) := by decide +kernel
theorem dX12_mayBuildOn_13 : decode cX12_mayBuildOn 13 = .ok (.iload 4, 2) := by decide +kernel
theorem dX12_mayBuildOn_15 : decode cX12_mayBuildOn 15 = .ok (.aload_n 0, 1) := by decide +kernel
theorem dX12_mayBuildOn_16 : decode cX12_mayBuildOn 16 = .ok (.getfield 9, 3) := by decide +kernel
theorem dX12_mayBuildOn_19 : decode cX12_mayBuildOn 19 = .ok (.sipush 1428, 3) := by decide +kernel
theorem dX12_mayBuildOn_22 : decode cX12_mayBuildOn 22 = .ok (.iaload, 1) := by decide +kernel
theorem dX12_mayBuildOn_23 : decode cX12_mayBuildOn 23 = .ok (.if_icmp .ge 43, 3) := by decide +kernel
theorem dX12_mayBuildOn_26 : decode cX12_mayBuildOn 26 = .ok (.iload_n 3, 1) := by decide +kernel
theorem dX12_mayBuildOn_27 : decode cX12_mayBuildOn 27 = .ok (.ifCond .eq 31, 3) := by decide +kernel
theorem dX12_mayBuildOn_30 : decode cX12_mayBuildOn 30 = .ok (.aload_n 0, 1) := by decide +kernel
theorem dX12_mayBuildOn_31 : decode cX12_mayBuildOn 31 = .ok (.iload 4, 2) := by decide +kernel
theorem dX12_mayBuildOn_33 : decode cX12_mayBuildOn 33 = .ok (.invokevirtual 272, 3) := by decide +kernel
theorem dX12_mayBuildOn_36 : decode cX12_mayBuildOn 36 = .ok (.ifCond .eq 18, 3) := by decide +kernel
theorem dX12_mayBuildOn_39 : decode cX12_mayBuildOn 39 = .ok (.iload_n 1, 1) := by decide +kernel
theorem dX12_mayBuildOn_40 : decode cX12_mayBuildOn 40 = .ok (.aload_n 0, 1) := by decide +kernel
theorem dX12_mayBuildOn_41 : decode cX12_mayBuildOn 41 = .ok (.iload 4, 2) := by decide +kernel
theorem dX12_mayBuildOn_43 : decode cX12_mayBuildOn 43 = .ok (.iconst 1, 1) := by decide +kernel
theorem dX12_mayBuildOn_44 : decode cX12_mayBuildOn 44 = .ok (.invokevirtual 217, 3) := by decide +kernel
theorem dX12_mayBuildOn_47 : decode cX12_mayBuildOn 47 = .ok (.invokestatic 262, 3) := by decide +kernel
theorem dX12_mayBuildOn_50 : decode cX12_mayBuildOn 50 = .ok (.iload_n 2, 1) := by decide +kernel
theorem dX12_mayBuildOn_51 : decode cX12_mayBuildOn 51 = .ok (.if_icmp .lt 7, 3) := by decide +kernel
theorem dX12_mayBuildOn_54 : decode cX12_mayBuildOn 54 = .ok (.iconst 1, 1) := by decide +kernel
theorem dX12_mayBuildOn_55 : decode cX12_mayBuildOn 55 = .ok (.goto 4, 3) := by decide +kernel
theorem dX12_mayBuildOn_58 : decode cX12_mayBuildOn 58 = .ok (.iconst 0, 1) := by decide +kernel
theorem dX12_mayBuildOn_59 : decode cX12_mayBuildOn 59 = .ok (.istore_n 3, 1) := by decide +kernel
theorem dX12_mayBuildOn_60 : decode cX12_mayBuildOn 60 = .ok (.iinc 4 1, 3) := by decide +kernel
theorem dX12_mayBuildOn_63 : decode cX12_mayBuildOn 63 = .ok (.goto (-50), 3) := by decide +kernel
theorem dX12_mayBuildOn_66 : decode cX12_mayBuildOn 66 = .ok (.iload_n 3, 1) := by decide +kernel
theorem dX12_mayBuildOn_67 : decode cX12_mayBuildOn 67 = .ok (.ireturn, 1) := by decide +kernel
theorem dX12_mill_0 : decode cX12_mill 0 = .ok (.aload_n 0, 1) := by decide +kernel
theorem dX12_mill_1 : decode cX12_mill 1 = .ok (.iconst 0, 1) := by decide +kernel
theorem dX12_mill_2 : decode cX12_mill 2 = .ok (.putfield 194, 3) := by decide +kernel
theorem dX12_mill_5 : decode cX12_mill 5 = .ok (.aload_n 0, 1) := by decide +kernel
theorem dX12_mill_6 : decode cX12_mill 6 = .ok (.iload_n 1, 1) := by decide +kernel
theorem dX12_mill_7 : decode cX12_mill 7 = .ok (.invokestatic 220, 3) := by decide +kernel
theorem dX12_mill_10 : decode cX12_mill 10 = .ok (.ifCond .ne 10, 3) := by decide +kernel
theorem dX12_mill_13 : decode cX12_mill 13 = .ok (.iload_n 2, 1) := by decide +kernel
theorem dX12_mill_14 : decode cX12_mill 14 = .ok (.invokestatic 220, 3) := by decide +kernel
theorem dX12_mill_17 : decode cX12_mill 17 = .ok (.ifCond .eq 7, 3) := by decide +kernel
theorem dX12_mill_20 : decode cX12_mill 20 = .ok (.iconst 1, 1) := by decide +kernel
theorem dX12_mill_21 : decode cX12_mill 21 = .ok (.goto 4, 3) := by decide +kernel
theorem dX12_mill_24 : decode cX12_mill 24 = .ok (.iconst 0, 1) := by decide +kernel
theorem dX12_mill_25 : decode cX12_mill 25 = .ok (.iconst 1, 1) := by decide +kernel
theorem dX12_mill_26 : decode cX12_mill 26 = .ok (.invokevirtual 224, 3) := by decide +kernel
theorem dX12_mill_29 : decode cX12_mill 29 = .ok (.ifCond .ne 52, 3) := by decide +kernel
theorem dX12_mill_32 : decode cX12_mill 32 = .ok (.aload_n 0, 1) := by decide +kernel
theorem dX12_mill_33 : decode cX12_mill 33 = .ok (.iload_n 3, 1) := by decide +kernel
theorem dX12_mill_34 : decode cX12_mill 34 = .ok (.iconst 1, 1) := by decide +kernel
theorem dX12_mill_35 : decode cX12_mill 35 = .ok (.bipush 60, 2) := by decide +kernel
theorem dX12_mill_37 : decode cX12_mill 37 = .ok (.invokestatic 197, 3) := by decide +kernel
theorem dX12_mill_40 : decode cX12_mill 40 = .ok (.ifCond .ne 7, 3) := by decide +kernel
theorem dX12_mill_43 : decode cX12_mill 43 = .ok (.iconst 1, 1) := by decide +kernel
theorem dX12_mill_44 : decode cX12_mill 44 = .ok (.goto 4, 3) := by decide +kernel
theorem dX12_mill_47 : decode cX12_mill 47 = .ok (.iconst 0, 1) := by decide +kernel
theorem dX12_mill_48 : decode cX12_mill 48 = .ok (.iconst 2, 1) := by decide +kernel
theorem dX12_mill_49 : decode cX12_mill 49 = .ok (.invokevirtual 224, 3) := by decide +kernel
theorem dX12_mill_52 : decode cX12_mill 52 = .ok (.ifCond .ne 29, 3) := by decide +kernel
theorem dX12_mill_55 : decode cX12_mill 55 = .ok (.aload_n 0, 1) := by decide +kernel
theorem dX12_mill_56 : decode cX12_mill 56 = .ok (.aload_n 0, 1) := by decide +kernel
theorem dX12_mill_57 : decode cX12_mill 57 = .ok (.getfield 9, 3) := by decide +kernel
theorem dX12_mill_60 : decode cX12_mill 60 = .ok (.sipush 1428, 3) := by decide +kernel
theorem dX12_mill_63 : decode cX12_mill 63 = .ok (.iaload, 1) := by decide +kernel
theorem dX12_mill_64 : decode cX12_mill 64 = .ok (.bipush 30, 2) := by decide +kernel
theorem dX12_mill_66 : decode cX12_mill 66 = .ok (.if_icmp .ne 7, 3) := by decide +kernel
theorem dX12_mill_69 : decode cX12_mill 69 = .ok (.iconst 1, 1) := by decide +kernel
theorem dX12_mill_70 : decode cX12_mill 70 = .ok (.goto 4, 3) := by decide +kernel
theorem dX12_mill_73 : decode cX12_mill 73 = .ok (.iconst 0, 1) := by decide +kernel
theorem dX12_mill_74 : decode cX12_mill 74 = .ok (.iconst 3, 1) := by decide +kernel
theorem dX12_mill_75 : decode cX12_mill 75 = .ok (.invokevirtual 224, 3) := by decide +kernel
theorem dX12_mill_78 : decode cX12_mill 78 = .ok (.ifCond .eq 5, 3) := by decide +kernel
theorem dX12_mill_81 : decode cX12_mill 81 = .ok (.iconst 0, 1) := by decide +kernel
theorem dX12_mill_82 : decode cX12_mill 82 = .ok (.ireturn, 1) := by decide +kernel
theorem dX12_mill_83 : decode cX12_mill 83 = .ok (.aload_n 0, 1) := by decide +kernel
theorem dX12_mill_84 : decode cX12_mill 84 = .ok (.iload_n 1, 1) := by decide +kernel
theorem dX12_mill_85 : decode cX12_mill 85 = .ok (.invokevirtual 259, 3) := by decide +kernel
theorem dX12_mill_88 : decode cX12_mill 88 = .ok (.ifCond .ne 20, 3) := by decide +kernel
theorem dX12_mill_91 : decode cX12_mill 91 = .ok (.iload_n 1, 1) := by decide +kernel
theorem dX12_mill_92 : decode cX12_mill 92 = .ok (.iload_n 2, 1) := by decide +kernel
theorem dX12_mill_93 : decode cX12_mill 93 = .ok (.invokestatic 262, 3) := by decide +kernel
theorem dX12_mill_96 : decode cX12_mill 96 = .ok (.iconst 1, 1) := by decide +kernel
theorem dX12_mill_97 : decode cX12_mill 97 = .ok (.if_icmp .ne 11, 3) := by decide +kernel
theorem dX12_mill_100 : decode cX12_mill 100 = .ok (.aload_n 0, 1) := by decide +kernel
theorem dX12_mill_101 : decode cX12_mill 101 = .ok (.iload_n 1, 1) := by decide +kernel
theorem dX12_mill_102 : decode cX12_mill 102 = .ok (.invokevirtual 279, 3) := by decide +kernel
theorem dX12_mill_105 : decode cX12_mill 105 = .ok (.ifCond .ne 5, 3) := by decide +kernel
theorem dX12_mill_108 : decode cX12_mill 108 = .ok (.iconst (-1), 1) := by decide +kernel
theorem dX12_mill_109 : decode cX12_mill 109 = .ok (.ireturn, 1) := by decide +kernel
theorem dX12_mill_110 : decode cX12_mill 110 = .ok (.aload_n 0, 1) := by decide +kernel
theorem dX12_mill_111 : decode cX12_mill 111 = .ok (.iload 4, 2) := by decide +kernel
theorem dX12_mill_113 : decode cX12_mill 113 = .ok (.ifCond .eq 7, 3) := by decide +kernel
theorem dX12_mill_116 : decode cX12_mill 116 = .ok (.iconst 3, 1) := by decide +kernel
theorem dX12_mill_117 : decode cX12_mill 117 = .ok (.goto 4, 3) := by decide +kernel
theorem dX12_mill_120 : decode cX12_mill 120 = .ok (.iconst 2, 1) := by decide +kernel
theorem dX12_mill_121 : decode cX12_mill 121 = .ok (.iload_n 1, 1) := by decide +kernel
theorem dX12_mill_122 : decode cX12_mill 122 = .ok (.iload_n 2, 1) := by decide +kernel
theorem dX12_mill_123 : decode cX12_mill 123 = .ok (.iconst 0, 1) := by decide +kernel
theorem dX12_mill_124 : decode cX12_mill 124 = .ok (.iload_n 3, 1) := by decide +kernel
theorem dX12_mill_125 : decode cX12_mill 125 = .ok (.invokevirtual 265, 3) := by decide +kernel
theorem dX12_mill_128 : decode cX12_mill 128 = .ok (.ireturn, 1) := by decide +kernel
theorem dX12_noSquare_0 : decode cX12_noSquare 0 = .ok (.iload_n 0, 1) := by decide +kernel
theorem dX12_noSquare_1 : decode cX12_noSquare 1 = .ok (.iconst 0, 1) := by decide +kernel
theorem dX12_noSquare_2 : decode cX12_noSquare 2 = .ok (.bipush 95, 2) := by decide +kernel
theorem dX12_noSquare_4 : decode cX12_noSquare 4 = .ok (.invokestatic 197, 3) := by decide +kernel
theorem dX12_noSquare_7 : decode cX12_noSquare 7 = .ok (.ifCond .ne 7, 3) := by decide +kernel
theorem dX12_noSquare_10 : decode cX12_noSquare 10 = .ok (.iconst 1, 1) := by decide +kernel
theorem dX12_noSquare_11 : decode cX12_noSquare 11 = .ok (.goto 4, 3) := by decide +kernel
theorem dX12_noSquare_14 : decode cX12_noSquare 14 = .ok (.iconst 0, 1) := by decide +kernel
theorem dX12_noSquare_15 : decode cX12_noSquare 15 = .ok (.ireturn, 1) := by decide +kernel
theorem dX12_of_0 : decode cX12_of 0 = .ok (.aload_n 0, 1) := by decide +kernel
theorem dX12_of_1 : decode cX12_of 1 = .ok (.getfield 9, 3) := by decide +kernel
theorem dX12_of_4 : decode cX12_of 4 = .ok (.iload_n 1, 1) := by decide +kernel
theorem dX12_of_5 : decode cX12_of 5 = .ok (.iload_n 2, 1) := by decide +kernel
theorem dX12_of_6 : decode cX12_of 6 = .ok (.invokestatic 214, 3) := by decide +kernel
theorem dX12_of_9 : decode cX12_of 9 = .ok (.iaload, 1) := by decide +kernel
theorem dX12_of_10 : decode cX12_of 10 = .ok (.ireturn, 1) := by decide +kernel
theorem dX12_passes_0 : decode cX12_passes 0 = .ok (.aload_n 0, 1) := by decide +kernel
theorem dX12_passes_1 : decode cX12_passes 1 = .ok (.invokevirtual 360, 3) := by decide +kernel
theorem dX12_passes_4 : decode cX12_passes 4 = .ok (.aload_n 0, 1) := by decide +kernel
theorem dX12_passes_5 : decode cX12_passes 5 = .ok (.aload_n 1, 1) := by decide +kernel
theorem dX12_passes_6 : decode cX12_passes 6 = .ok (.invokevirtual 363, 3) := by decide +kernel
theorem dX12_passes_9 : decode cX12_passes 9 = .ok (.ifCond .eq 5, 3) := by decide +kernel
theorem dX12_passes_12 : decode cX12_passes 12 = .ok (.iconst 1, 1) := by decide +kernel
theorem dX12_passes_13 : decode cX12_passes 13 = .ok (.ireturn, 1) := by decide +kernel
theorem dX12_passes_14 : decode cX12_passes 14 = .ok (.aload_n 0, 1) := by decide +kernel
theorem dX12_passes_15 : decode cX12_passes 15 = .ok (.aload_n 0, 1) := by decide +kernel
theorem dX12_passes_16 : decode cX12_passes 16 = .ok (.getfield 345, 3) := by decide +kernel
theorem dX12_passes_19 : decode cX12_passes 19 = .ok (.putfield 335, 3) := by decide +kernel
theorem dX12_passes_22 : decode cX12_passes 22 = .ok (.iconst 0, 1) := by decide +kernel
theorem dX12_passes_23 : decode cX12_passes 23 = .ok (.ireturn, 1) := by decide +kernel
theorem dX12_readLevel_0 : decode cX12_readLevel 0 = .ok (.aload_n 0, 1) := by decide +kernel
theorem dX12_readLevel_1 : decode cX12_readLevel 1 = .ok (.getfield 48, 3) := by decide +kernel
theorem dX12_readLevel_4 : decode cX12_readLevel 4 = .ok (.iload_n 1, 1) := by decide +kernel
theorem dX12_readLevel_5 : decode cX12_readLevel 5 = .ok (.aload_n 0, 1) := by decide +kernel
theorem dX12_readLevel_6 : decode cX12_readLevel 6 = .ok (.sipush 900, 3) := by decide +kernel
theorem dX12_readLevel_9 : decode cX12_readLevel 9 = .ok (.invokevirtual 391, 3) := by decide +kernel
theorem dX12_readLevel_12 : decode cX12_readLevel 12 = .ok (.iastore, 1) := by decide +kernel
theorem dX12_readLevel_13 : decode cX12_readLevel 13 = .ok (.aload_n 0, 1) := by decide +kernel
theorem dX12_readLevel_14 : decode cX12_readLevel 14 = .ok (.getfield 48, 3) := by decide +kernel
theorem dX12_readLevel_17 : decode cX12_readLevel 17 = .ok (.iload_n 1, 1) := by decide +kernel
theorem dX12_readLevel_18 : decode cX12_readLevel 18 = .ok (.iaload, 1) := by decide +kernel
theorem dX12_readLevel_19 : decode cX12_readLevel 19 = .ok (.ifCond .ge 5, 3) := by decide +kernel
theorem dX12_readLevel_22 : decode cX12_readLevel 22 = .ok (.iconst 0, 1) := by decide +kernel
theorem dX12_readLevel_23 : decode cX12_readLevel 23 = .ok (.ireturn, 1) := by decide +kernel
theorem dX12_readLevel_24 : decode cX12_readLevel 24 = .ok (.aload_n 0, 1) := by decide +kernel
theorem dX12_readLevel_25 : decode cX12_readLevel 25 = .ok (.getfield 51, 3) := by decide +kernel
theorem dX12_readLevel_28 : decode cX12_readLevel 28 = .ok (.iload_n 1, 1) := by decide +kernel
theorem dX12_readLevel_29 : decode cX12_readLevel 29 = .ok (.aload_n 0, 1) := by decide +kernel
theorem dX12_readLevel_30 : decode cX12_readLevel 30 = .ok (.sipush 900, 3) := by decide +kernel
theorem dX12_readLevel_33 : decode cX12_readLevel 33 = .ok (.invokevirtual 391, 3) := by decide +kernel
theorem dX12_readLevel_36 : decode cX12_readLevel 36 = .ok (.iastore, 1) := by decide +kernel
theorem dX12_readLevel_37 : decode cX12_readLevel 37 = .ok (.aload_n 0, 1) := by decide +kernel
theorem dX12_readLevel_38 : decode cX12_readLevel 38 = .ok (.getfield 51, 3) := by decide +kernel
theorem dX12_readLevel_41 : decode cX12_readLevel 41 = .ok (.iload_n 1, 1) := by decide +kernel
theorem dX12_readLevel_42 : decode cX12_readLevel 42 = .ok (.iaload, 1) := by decide +kernel
theorem dX12_readLevel_43 : decode cX12_readLevel 43 = .ok (.ifCond .ge 5, 3) := by decide +kernel
theorem dX12_readLevel_46 : decode cX12_readLevel 46 = .ok (.iconst 0, 1) := by decide +kernel
theorem dX12_readLevel_47 : decode cX12_readLevel 47 = .ok (.ireturn, 1) := by decide +kernel
theorem dX12_readLevel_48 : decode cX12_readLevel 48 = .ok (.aload_n 0, 1) := by decide +kernel
theorem dX12_readLevel_49 : decode cX12_readLevel 49 = .ok (.invokevirtual 360, 3) := by decide +kernel
theorem dX12_readLevel_52 : decode cX12_readLevel 52 = .ok (.aload_n 0, 1) := by decide +kernel
theorem dX12_readLevel_53 : decode cX12_readLevel 53 = .ok (.ldc_w 425, 3) := by decide +kernel
theorem dX12_readLevel_56 : decode cX12_readLevel 56 = .ok (.invokevirtual 363, 3) := by decide +kernel
theorem dX12_readLevel_59 : decode cX12_readLevel 59 = .ok (.ifCond .ne 5, 3) := by decide +kernel
theorem dX12_readLevel_62 : decode cX12_readLevel 62 = .ok (.iconst 0, 1) := by decide +kernel
theorem dX12_readLevel_63 : decode cX12_readLevel 63 = .ok (.ireturn, 1) := by decide +kernel
theorem dX12_readLevel_64 : decode cX12_readLevel 64 = .ok (.aload_n 0, 1) := by decide +kernel
theorem dX12_readLevel_65 : decode cX12_readLevel 65 = .ok (.getfield 54, 3) := by decide +kernel
theorem dX12_readLevel_68 : decode cX12_readLevel 68 = .ok (.iload_n 1, 1) := by decide +kernel
theorem dX12_readLevel_69 : decode cX12_readLevel 69 = .ok (.aload_n 0, 1) := by decide +kernel
theorem dX12_readLevel_70 : decode cX12_readLevel 70 = .ok (.bipush 95, 2) := by decide +kernel
theorem dX12_readLevel_72 : decode cX12_readLevel 72 = .ok (.invokevirtual 391, 3) := by decide +kernel
theorem dX12_readLevel_75 : decode cX12_readLevel 75 = .ok (.iastore, 1) := by decide +kernel
theorem dX12_readLevel_76 : decode cX12_readLevel 76 = .ok (.aload_n 0, 1) := by decide +kernel
theorem dX12_readLevel_77 : decode cX12_readLevel 77 = .ok (.getfield 54, 3) := by decide +kernel
theorem dX12_readLevel_80 : decode cX12_readLevel 80 = .ok (.iload_n 1, 1) := by decide +kernel
theorem dX12_readLevel_81 : decode cX12_readLevel 81 = .ok (.iaload, 1) := by decide +kernel
theorem dX12_readLevel_82 : decode cX12_readLevel 82 = .ok (.ifCond .ge 5, 3) := by decide +kernel
theorem dX12_readLevel_85 : decode cX12_readLevel 85 = .ok (.iconst 0, 1) := by decide +kernel
theorem dX12_readLevel_86 : decode cX12_readLevel 86 = .ok (.ireturn, 1) := by decide +kernel
theorem dX12_readLevel_87 : decode cX12_readLevel 87 = .ok (.aload_n 0, 1) := by decide +kernel
theorem dX12_readLevel_88 : decode cX12_readLevel 88 = .ok (.getfield 57, 3) := by decide +kernel
theorem dX12_readLevel_91 : decode cX12_readLevel 91 = .ok (.iload_n 1, 1) := by decide +kernel
theorem dX12_readLevel_92 : decode cX12_readLevel 92 = .ok (.aload_n 0, 1) := by decide +kernel
theorem dX12_readLevel_93 : decode cX12_readLevel 93 = .ok (.bipush 95, 2) := by decide +kernel
theorem dX12_readLevel_95 : decode cX12_readLevel 95 = .ok (.invokevirtual 391, 3) := by decide +kernel
theorem dX12_readLevel_98 : decode cX12_readLevel 98 = .ok (.iastore, 1) := by decide +kernel
theorem dX12_readLevel_99 : decode cX12_readLevel 99 = .ok (.aload_n 0, 1) := by decide +kernel
theorem dX12_readLevel_100 : decode cX12_readLevel 100 = .ok (.getfield 57, 3) := by decide +kernel
theorem dX12_readLevel_103 : decode cX12_readLevel 103 = .ok (.iload_n 1, 1) := by decide +kernel
theorem dX12_readLevel_104 : decode cX12_readLevel 104 = .ok (.iaload, 1) := by decide +kernel
theorem dX12_readLevel_105 : decode cX12_readLevel 105 = .ok (.ifCond .lt 7, 3) := by decide +kernel
theorem dX12_readLevel_108 : decode cX12_readLevel 108 = .ok (.iconst 1, 1) := by decide +kernel
theorem dX12_readLevel_109 : decode cX12_readLevel 109 = .ok (.goto 4, 3) := by decide +kernel
theorem dX12_readLevel_112 : decode cX12_readLevel 112 = .ok (.iconst 0, 1) := by decide +kernel
theorem dX12_readLevel_113 : decode cX12_readLevel 113 = .ok (.ireturn, 1) := by decide +kernel
theorem dX12_readLine_0 : decode cX12_readLine 0 = .ok (.aload_n 0, 1) := by decide +kernel
theorem dX12_readLine_1 : decode cX12_readLine 1 = .ok (.invokevirtual 360, 3) := by decide +kernel
theorem dX12_readLine_4 : decode cX12_readLine 4 = .ok (.iload_n 1, 1) := by decide +kernel
theorem dX12_readLine_5 : decode cX12_readLine 5 = .ok (.bipush 20, 2) := by decide +kernel
theorem dX12_readLine_7 : decode cX12_readLine 7 = .ok (.if_icmp .ne 5, 3) := by decide +kernel
theorem dX12_readLine_10 : decode cX12_readLine 10 = .ok (.iconst 0, 1) := by decide +kernel
theorem dX12_readLine_11 : decode cX12_readLine 11 = .ok (.ireturn, 1) := by decide +kernel
theorem dX12_readLine_12 : decode cX12_readLine 12 = .ok (.bipush 40, 2) := by decide +kernel
theorem dX12_readLine_14 : decode cX12_readLine 14 = .ok (.iload_n 1, 1) := by decide +kernel
theorem dX12_readLine_15 : decode cX12_readLine 15 = .ok (.iadd, 1) := by decide +kernel
theorem dX12_readLine_16 : decode cX12_readLine 16 = .ok (.istore_n 2, 1) := by decide +kernel
theorem dX12_readLine_17 : decode cX12_readLine 17 = .ok (.aload_n 0, 1) := by decide +kernel
theorem dX12_readLine_18 : decode cX12_readLine 18 = .ok (.getfield 45, 3) := by decide +kernel
theorem dX12_readLine_21 : decode cX12_readLine 21 = .ok (.iload_n 2, 1) := by decide +kernel
theorem dX12_readLine_22 : decode cX12_readLine 22 = .ok (.aload_n 0, 1) := by decide +kernel
theorem dX12_readLine_23 : decode cX12_readLine 23 = .ok (.invokevirtual 443, 3) := by decide +kernel
theorem dX12_readLine_26 : decode cX12_readLine 26 = .ok (.iastore, 1) := by decide +kernel
theorem dX12_readLine_27 : decode cX12_readLine 27 = .ok (.aload_n 0, 1) := by decide +kernel
theorem dX12_readLine_28 : decode cX12_readLine 28 = .ok (.getfield 60, 3) := by decide +kernel
theorem dX12_readLine_31 : decode cX12_readLine 31 = .ok (.iload_n 2, 1) := by decide +kernel
theorem dX12_readLine_32 : decode cX12_readLine 32 = .ok (.aload_n 0, 1) := by decide +kernel
theorem dX12_readLine_33 : decode cX12_readLine 33 = .ok (.getfield 367, 3) := by decide +kernel
theorem dX12_readLine_36 : decode cX12_readLine 36 = .ok (.iastore, 1) := by decide +kernel
theorem dX12_readLine_37 : decode cX12_readLine 37 = .ok (.aload_n 0, 1) := by decide +kernel
theorem dX12_readLine_38 : decode cX12_readLine 38 = .ok (.getfield 63, 3) := by decide +kernel
theorem dX12_readLine_41 : decode cX12_readLine 41 = .ok (.iload_n 2, 1) := by decide +kernel
theorem dX12_readLine_42 : decode cX12_readLine 42 = .ok (.aload_n 0, 1) := by decide +kernel
theorem dX12_readLine_43 : decode cX12_readLine 43 = .ok (.getfield 367, 3) := by decide +kernel
theorem dX12_readLine_46 : decode cX12_readLine 46 = .ok (.iastore, 1) := by decide +kernel
theorem dX12_readLine_47 : decode cX12_readLine 47 = .ok (.aload_n 0, 1) := by decide +kernel
theorem dX12_readLine_48 : decode cX12_readLine 48 = .ok (.getfield 48, 3) := by decide +kernel
theorem dX12_readLine_51 : decode cX12_readLine 51 = .ok (.iload_n 2, 1) := by decide +kernel
theorem dX12_readLine_52 : decode cX12_readLine 52 = .ok (.iconst 0, 1) := by decide +kernel
theorem dX12_readLine_53 : decode cX12_readLine 53 = .ok (.iastore, 1) := by decide +kernel
theorem dX12_readLine_54 : decode cX12_readLine 54 = .ok (.aload_n 0, 1) := by decide +kernel
theorem dX12_readLine_55 : decode cX12_readLine 55 = .ok (.getfield 45, 3) := by decide +kernel
theorem dX12_readLine_58 : decode cX12_readLine 58 = .ok (.iload_n 2, 1) := by decide +kernel
theorem dX12_readLine_59 : decode cX12_readLine 59 = .ok (.iaload, 1) := by decide +kernel
theorem dX12_readLine_60 : decode cX12_readLine 60 = .ok (.ifCond .ge 5, 3) := by decide +kernel
theorem dX12_readLine_63 : decode cX12_readLine 63 = .ok (.iconst 0, 1) := by decide +kernel
theorem dX12_readLine_64 : decode cX12_readLine 64 = .ok (.ireturn, 1) := by decide +kernel
theorem dX12_readLine_65 : decode cX12_readLine 65 = .ok (.aload_n 0, 1) := by decide +kernel
theorem dX12_readLine_66 : decode cX12_readLine 66 = .ok (.getfield 45, 3) := by decide +kernel
theorem dX12_readLine_69 : decode cX12_readLine 69 = .ok (.iload_n 2, 1) := by decide +kernel
theorem dX12_readLine_70 : decode cX12_readLine 70 = .ok (.iaload, 1) := by decide +kernel
theorem dX12_readLine_71 : decode cX12_readLine 71 = .ok (.bipush 7, 2) := by decide +kernel
theorem dX12_readLine_73 : decode cX12_readLine 73 = .ok (.if_icmp .ne 9, 3) := by decide +kernel
theorem dX12_readLine_76 : decode cX12_readLine 76 = .ok (.aload_n 0, 1) := by decide +kernel
theorem dX12_readLine_77 : decode cX12_readLine 77 = .ok (.iload_n 2, 1) := by decide +kernel
theorem dX12_readLine_78 : decode cX12_readLine 78 = .ok (.invokevirtual 446, 3) := by decide +kernel
theorem dX12_readLine_81 : decode cX12_readLine 81 = .ok (.ireturn, 1) := by decide +kernel
theorem dX12_readLine_82 : decode cX12_readLine 82 = .ok (.aload_n 0, 1) := by decide +kernel
theorem dX12_readLine_83 : decode cX12_readLine 83 = .ok (.getfield 45, 3) := by decide +kernel
theorem dX12_readLine_86 : decode cX12_readLine 86 = .ok (.iload_n 2, 1) := by decide +kernel
theorem dX12_readLine_87 : decode cX12_readLine 87 = .ok (.iaload, 1) := by decide +kernel
theorem dX12_readLine_88 : decode cX12_readLine 88 = .ok (.iconst 5, 1) := by decide +kernel
theorem dX12_readLine_89 : decode cX12_readLine 89 = .ok (.if_icmp .eq 70, 3) := by decide +kernel
theorem dX12_readLine_92 : decode cX12_readLine 92 = .ok (.aload_n 0, 1) := by decide +kernel
theorem dX12_readLine_93 : decode cX12_readLine 93 = .ok (.getfield 45, 3) := by decide +kernel
theorem dX12_readLine_96 : decode cX12_readLine 96 = .ok (.iload_n 2, 1) := by decide +kernel
theorem dX12_readLine_97 : decode cX12_readLine 97 = .ok (.iaload, 1) := by decide +kernel
theorem dX12_readLine_98 : decode cX12_readLine 98 = .ok (.bipush 6, 2) := by decide +kernel
theorem dX12_readLine_100 : decode cX12_readLine 100 = .ok (.if_icmp .eq 59, 3) := by decide +kernel
theorem dX12_readLine_103 : decode cX12_readLine 103 = .ok (.aload_n 0, 1) := by decide +kernel
theorem dX12_readLine_104 : decode cX12_readLine 104 = .ok (.getfield 48, 3) := by decide +kernel
theorem dX12_readLine_107 : decode cX12_readLine 107 = .ok (.iload_n 2, 1) := by decide +kernel
theorem dX12_readLine_108 : decode cX12_readLine 108 = .ok (.aload_n 0, 1) := by decide +kernel
theorem dX12_readLine_109 : decode cX12_readLine 109 = .ok (.aload_n 0, 1) := by decide +kernel
theorem dX12_readLine_110 : decode cX12_readLine 110 = .ok (.getfield 45, 3) := by decide +kernel
theorem dX12_readLine_113 : decode cX12_readLine 113 = .ok (.iload_n 2, 1) := by decide +kernel
theorem dX12_readLine_114 : decode cX12_readLine 114 = .ok (.iaload, 1) := by decide +kernel
theorem dX12_readLine_115 : decode cX12_readLine 115 = .ok (.bipush 8, 2) := by decide +kernel
theorem dX12_readLine_117 : decode cX12_readLine 117 = .ok (.if_icmp .ne 8, 3) := by decide +kernel
theorem dX12_readLine_120 : decode cX12_readLine 120 = .ok (.bipush 100, 2) := by decide +kernel
theorem dX12_readLine_122 : decode cX12_readLine 122 = .ok (.goto 22, 3) := by decide +kernel
theorem dX12_readLine_125 : decode cX12_readLine 125 = .ok (.aload_n 0, 1) := by decide +kernel
theorem dX12_readLine_126 : decode cX12_readLine 126 = .ok (.getfield 45, 3) := by decide +kernel
theorem dX12_readLine_129 : decode cX12_readLine 129 = .ok (.iload_n 2, 1) := by decide +kernel
theorem dX12_readLine_130 : decode cX12_readLine 130 = .ok (.iaload, 1) := by decide +kernel
theorem dX12_readLine_131 : decode cX12_readLine 131 = .ok (.bipush 9, 2) := by decide +kernel
theorem dX12_readLine_133 : decode cX12_readLine 133 = .ok (.if_icmp .ne 8, 3) := by decide +kernel
theorem dX12_readLine_136 : decode cX12_readLine 136 = .ok (.bipush 18, 2) := by decide +kernel
theorem dX12_readLine_138 : decode cX12_readLine 138 = .ok (.goto 6, 3) := by decide +kernel
theorem dX12_readLine_141 : decode cX12_readLine 141 = .ok (.ldc_w 390, 3) := by decide +kernel
theorem dX12_readLine_144 : decode cX12_readLine 144 = .ok (.invokevirtual 391, 3) := by decide +kernel
theorem dX12_readLine_147 : decode cX12_readLine 147 = .ok (.iastore, 1) := by decide +kernel
theorem dX12_readLine_148 : decode cX12_readLine 148 = .ok (.aload_n 0, 1) := by decide +kernel
theorem dX12_readLine_149 : decode cX12_readLine 149 = .ok (.getfield 48, 3) := by decide +kernel
theorem dX12_readLine_152 : decode cX12_readLine 152 = .ok (.iload_n 2, 1) := by decide +kernel
theorem dX12_readLine_153 : decode cX12_readLine 153 = .ok (.iaload, 1) := by decide +kernel
theorem dX12_readLine_154 : decode cX12_readLine 154 = .ok (.ifCond .ge 5, 3) := by decide +kernel
theorem dX12_readLine_157 : decode cX12_readLine 157 = .ok (.iconst 0, 1) := by decide +kernel
theorem dX12_readLine_158 : decode cX12_readLine 158 = .ok (.ireturn, 1) := by decide +kernel
theorem dX12_readLine_159 : decode cX12_readLine 159 = .ok (.aload_n 0, 1) := by decide +kernel
theorem dX12_readLine_160 : decode cX12_readLine 160 = .ok (.getfield 45, 3) := by decide +kernel
theorem dX12_readLine_163 : decode cX12_readLine 163 = .ok (.iload_n 2, 1) := by decide +kernel
theorem dX12_readLine_164 : decode cX12_readLine 164 = .ok (.iaload, 1) := by decide +kernel
theorem dX12_readLine_165 : decode cX12_readLine 165 = .ok (.bipush 6, 2) := by decide +kernel
theorem dX12_readLine_167 : decode cX12_readLine 167 = .ok (.if_icmp .le 5, 3) := by decide +kernel
theorem dX12_readLine_170 : decode cX12_readLine 170 = .ok (.iconst 1, 1) := by decide +kernel
theorem dX12_readLine_171 : decode cX12_readLine 171 = .ok (.ireturn, 1) := by decide +kernel
theorem dX12_readLine_172 : decode cX12_readLine 172 = .ok (.aload_n 0, 1) := by decide +kernel
theorem dX12_readLine_173 : decode cX12_readLine 173 = .ok (.ldc_w 449, 3) := by decide +kernel
theorem dX12_readLine_176 : decode cX12_readLine 176 = .ok (.invokevirtual 409, 3) := by decide +kernel
theorem dX12_readLine_179 : decode cX12_readLine 179 = .ok (.ifCond .eq 17, 3) := by decide +kernel
theorem dX12_readLine_182 : decode cX12_readLine 182 = .ok (.aload_n 0, 1) := by decide +kernel
theorem dX12_readLine_183 : decode cX12_readLine 183 = .ok (.iconst 0, 1) := by decide +kernel
theorem dX12_readLine_184 : decode cX12_readLine 184 = .ok (.putfield 401, 3) := by decide +kernel
theorem dX12_readLine_187 : decode cX12_readLine 187 = .ok (.aload_n 0, 1) := by decide +kernel
theorem dX12_readLine_188 : decode cX12_readLine 188 = .ok (.invokevirtual 404, 3) := by decide +kernel
theorem dX12_readLine_191 : decode cX12_readLine 191 = .ok (.ifCond .ne 5, 3) := by decide +kernel
theorem dX12_readLine_194 : decode cX12_readLine 194 = .ok (.iconst 0, 1) := by decide +kernel
theorem dX12_readLine_195 : decode cX12_readLine 195 = .ok (.ireturn, 1) := by decide +kernel
theorem dX12_readLine_196 : decode cX12_readLine 196 = .ok (.aload_n 0, 1) := by decide +kernel
theorem dX12_readLine_197 : decode cX12_readLine 197 = .ok (.getfield 63, 3) := by decide +kernel
theorem dX12_readLine_200 : decode cX12_readLine 200 = .ok (.iload_n 2, 1) := by decide +kernel
theorem dX12_readLine_201 : decode cX12_readLine 201 = .ok (.aload_n 0, 1) := by decide +kernel
theorem dX12_readLine_202 : decode cX12_readLine 202 = .ok (.getfield 367, 3) := by decide +kernel
theorem dX12_readLine_205 : decode cX12_readLine 205 = .ok (.iastore, 1) := by decide +kernel
theorem dX12_readLine_206 : decode cX12_readLine 206 = .ok (.iconst 1, 1) := by decide +kernel
theorem dX12_readLine_207 : decode cX12_readLine 207 = .ok (.ireturn, 1) := by decide +kernel
theorem dX12_square_0 : decode cX12_square 0 = .ok (.aload_n 0, 1) := by decide +kernel
theorem dX12_square_1 : decode cX12_square 1 = .ok (.iconst 0, 1) := by decide +kernel
theorem dX12_square_2 : decode cX12_square 2 = .ok (.putfield 194, 3) := by decide +kernel
theorem dX12_square_5 : decode cX12_square 5 = .ok (.aload_n 0, 1) := by decide +kernel
theorem dX12_square_6 : decode cX12_square 6 = .ok (.iload_n 1, 1) := by decide +kernel
theorem dX12_square_7 : decode cX12_square 7 = .ok (.invokestatic 220, 3) := by decide +kernel
theorem dX12_square_10 : decode cX12_square 10 = .ok (.iconst 1, 1) := by decide +kernel
theorem dX12_square_11 : decode cX12_square 11 = .ok (.invokevirtual 224, 3) := by decide +kernel
theorem dX12_square_14 : decode cX12_square 14 = .ok (.ifCond .eq 5, 3) := by decide +kernel
theorem dX12_square_17 : decode cX12_square 17 = .ok (.iconst 0, 1) := by decide +kernel
theorem dX12_square_18 : decode cX12_square 18 = .ok (.ireturn, 1) := by decide +kernel
theorem dX12_square_19 : decode cX12_square 19 = .ok (.iload_n 2, 1) := by decide +kernel
theorem dX12_square_20 : decode cX12_square 20 = .ok (.tableswitch 163 0 10 #[60, 69, 79, 90, 101, 112, 123, 129, 140, 151, 157], 60) := by decide +kernel
theorem dX12_square_80 : decode cX12_square 80 = .ok (.aload_n 0, 1) := by decide +kernel
theorem dX12_square_81 : decode cX12_square 81 = .ok (.getfield 9, 3) := by decide +kernel
theorem dX12_square_84 : decode cX12_square 84 = .ok (.iconst 0, 1) := by decide +kernel
theorem dX12_square_85 : decode cX12_square 85 = .ok (.iload_n 1, 1) := by decide +kernel
theorem dX12_square_86 : decode cX12_square 86 = .ok (.iadd, 1) := by decide +kernel
theorem dX12_square_87 : decode cX12_square 87 = .ok (.iaload, 1) := by decide +kernel
theorem dX12_square_88 : decode cX12_square 88 = .ok (.ireturn, 1) := by decide +kernel
theorem dX12_square_89 : decode cX12_square 89 = .ok (.aload_n 0, 1) := by decide +kernel
theorem dX12_square_90 : decode cX12_square 90 = .ok (.getfield 9, 3) := by decide +kernel
theorem dX12_square_93 : decode cX12_square 93 = .ok (.bipush 96, 2) := by decide +kernel
theorem dX12_square_95 : decode cX12_square 95 = .ok (.iload_n 1, 1) := by decide +kernel
theorem dX12_square_96 : decode cX12_square 96 = .ok (.iadd, 1) := by decide +kernel
theorem dX12_square_97 : decode cX12_square 97 = .ok (.iaload, 1) := by decide +kernel
theorem dX12_square_98 : decode cX12_square 98 = .ok (.ireturn, 1) := by decide +kernel
theorem dX12_square_99 : decode cX12_square 99 = .ok (.aload_n 0, 1) := by decide +kernel
theorem dX12_square_100 : decode cX12_square 100 = .ok (.getfield 9, 3) := by decide +kernel
theorem dX12_square_103 : decode cX12_square 103 = .ok (.sipush 192, 3) := by decide +kernel
theorem dX12_square_106 : decode cX12_square 106 = .ok (.iload_n 1, 1) := by decide +kernel
theorem dX12_square_107 : decode cX12_square 107 = .ok (.iadd, 1) := by decide +kernel
theorem dX12_square_108 : decode cX12_square 108 = .ok (.iaload, 1) := by decide +kernel
theorem dX12_square_109 : decode cX12_square 109 = .ok (.ireturn, 1) := by decide +kernel
theorem dX12_square_110 : decode cX12_square 110 = .ok (.aload_n 0, 1) := by decide +kernel
theorem dX12_square_111 : decode cX12_square 111 = .ok (.getfield 9, 3) := by decide +kernel
theorem dX12_square_114 : decode cX12_square 114 = .ok (.sipush 288, 3) := by decide +kernel
theorem dX12_square_117 : decode cX12_square 117 = .ok (.iload_n 1, 1) := by decide +kernel
theorem dX12_square_118 : decode cX12_square 118 = .ok (.iadd, 1) := by decide +kernel
theorem dX12_square_119 : decode cX12_square 119 = .ok (.iaload, 1) := by decide +kernel
theorem dX12_square_120 : decode cX12_square 120 = .ok (.ireturn, 1) := by decide +kernel
theorem dX12_square_121 : decode cX12_square 121 = .ok (.aload_n 0, 1) := by decide +kernel
theorem dX12_square_122 : decode cX12_square 122 = .ok (.getfield 9, 3) := by decide +kernel
theorem dX12_square_125 : decode cX12_square 125 = .ok (.sipush 384, 3) := by decide +kernel
theorem dX12_square_128 : decode cX12_square 128 = .ok (.iload_n 1, 1) := by decide +kernel
theorem dX12_square_129 : decode cX12_square 129 = .ok (.iadd, 1) := by decide +kernel
theorem dX12_square_130 : decode cX12_square 130 = .ok (.iaload, 1) := by decide +kernel
theorem dX12_square_131 : decode cX12_square 131 = .ok (.ireturn, 1) := by decide +kernel
theorem dX12_square_132 : decode cX12_square 132 = .ok (.aload_n 0, 1) := by decide +kernel
theorem dX12_square_133 : decode cX12_square 133 = .ok (.getfield 9, 3) := by decide +kernel
theorem dX12_square_136 : decode cX12_square 136 = .ok (.sipush 480, 3) := by decide +kernel
theorem dX12_square_139 : decode cX12_square 139 = .ok (.iload_n 1, 1) := by decide +kernel
theorem dX12_square_140 : decode cX12_square 140 = .ok (.iadd, 1) := by decide +kernel
theorem dX12_square_141 : decode cX12_square 141 = .ok (.iaload, 1) := by decide +kernel
theorem dX12_square_142 : decode cX12_square 142 = .ok (.ireturn, 1) := by decide +kernel
theorem dX12_square_143 : decode cX12_square 143 = .ok (.aload_n 0, 1) := by decide +kernel
theorem dX12_square_144 : decode cX12_square 144 = .ok (.iload_n 1, 1) := by decide +kernel
theorem dX12_square_145 : decode cX12_square 145 = .ok (.invokevirtual 285, 3) := by decide +kernel
theorem dX12_square_148 : decode cX12_square 148 = .ok (.ireturn, 1) := by decide +kernel
theorem dX12_square_149 : decode cX12_square 149 = .ok (.aload_n 0, 1) := by decide +kernel
theorem dX12_square_150 : decode cX12_square 150 = .ok (.getfield 9, 3) := by decide +kernel
theorem dX12_square_153 : decode cX12_square 153 = .ok (.sipush 576, 3) := by decide +kernel
theorem dX12_square_156 : decode cX12_square 156 = .ok (.iload_n 1, 1) := by decide +kernel
theorem dX12_square_157 : decode cX12_square 157 = .ok (.iadd, 1) := by decide +kernel
theorem dX12_square_158 : decode cX12_square 158 = .ok (.iaload, 1) := by decide +kernel
theorem dX12_square_159 : decode cX12_square 159 = .ok (.ireturn, 1) := by decide +kernel
theorem dX12_square_160 : decode cX12_square 160 = .ok (.aload_n 0, 1) := by decide +kernel
theorem dX12_square_161 : decode cX12_square 161 = .ok (.getfield 9, 3) := by decide +kernel
theorem dX12_square_164 : decode cX12_square 164 = .ok (.sipush 672, 3) := by decide +kernel
theorem dX12_square_167 : decode cX12_square 167 = .ok (.iload_n 1, 1) := by decide +kernel
theorem dX12_square_168 : decode cX12_square 168 = .ok (.iadd, 1) := by decide +kernel
theorem dX12_square_169 : decode cX12_square 169 = .ok (.iaload, 1) := by decide +kernel
theorem dX12_square_170 : decode cX12_square 170 = .ok (.ireturn, 1) := by decide +kernel
theorem dX12_square_171 : decode cX12_square 171 = .ok (.aload_n 0, 1) := by decide +kernel
theorem dX12_square_172 : decode cX12_square 172 = .ok (.iload_n 1, 1) := by decide +kernel
theorem dX12_square_173 : decode cX12_square 173 = .ok (.invokevirtual 329, 3) := by decide +kernel
theorem dX12_square_176 : decode cX12_square 176 = .ok (.ireturn, 1) := by decide +kernel
theorem dX12_square_177 : decode cX12_square 177 = .ok (.aload_n 0, 1) := by decide +kernel
theorem dX12_square_178 : decode cX12_square 178 = .ok (.iload_n 1, 1) := by decide +kernel
theorem dX12_square_179 : decode cX12_square 179 = .ok (.invokevirtual 256, 3) := by decide +kernel
theorem dX12_square_182 : decode cX12_square 182 = .ok (.ireturn, 1) := by decide +kernel
theorem dX12_square_183 : decode cX12_square 183 = .ok (.aload_n 0, 1) := by decide +kernel
theorem dX12_square_184 : decode cX12_square 184 = .ok (.iconst 2, 1) := by decide +kernel
theorem dX12_square_185 : decode cX12_square 185 = .ok (.putfield 194, 3) := by decide +kernel
theorem dX12_square_188 : decode cX12_square 188 = .ok (.iconst 0, 1) := by decide +kernel
theorem dX12_square_189 : decode cX12_square 189 = .ok (.ireturn, 1) := by decide +kernel
theorem dX12_sumOf_0 : decode cX12_sumOf 0 = .ok (.aload_n 0, 1) := by decide +kernel
theorem dX12_sumOf_1 : decode cX12_sumOf 1 = .ok (.iload_n 1, 1) := by decide +kernel
theorem dX12_sumOf_2 : decode cX12_sumOf 2 = .ok (.invokevirtual 474, 3) := by decide +kernel
theorem dX12_sumOf_5 : decode cX12_sumOf 5 = .ok (.lconst 0, 1) := by decide +kernel
theorem dX12_sumOf_6 : decode cX12_sumOf 6 = .ok (.lstore_n 3, 1) := by decide +kernel
theorem dX12_sumOf_7 : decode cX12_sumOf 7 = .ok (.iconst 0, 1) := by decide +kernel
theorem dX12_sumOf_8 : decode cX12_sumOf 8 = .ok (.istore 5, 2) := by decide +kernel
theorem dX12_sumOf_10 : decode cX12_sumOf 10 = .ok (.iload 5, 2) := by decide +kernel
theorem dX12_sumOf_12 : decode cX12_sumOf 12 = .ok (.aload_n 0, 1) := by decide +kernel
theorem dX12_sumOf_13 : decode cX12_sumOf 13 = .ok (.getfield 42, 3) := by decide +kernel
theorem dX12_sumOf_16 : decode cX12_sumOf 16 = .ok (.iconst 0, 1) := by decide +kernel
theorem dX12_sumOf_17 : decode cX12_sumOf 17 = .ok (.iaload, 1) := by decide +kernel
theorem dX12_sumOf_18 : decode cX12_sumOf 18 = .ok (.if_icmp .ge 49, 3) := by decide +kernel
theorem dX12_sumOf_21 : decode cX12_sumOf 21 = .ok (.aload_n 0, 1) := by decide +kernel
theorem dX12_sumOf_22 : decode cX12_sumOf 22 = .ok (.getfield 45, 3) := by decide +kernel
theorem dX12_sumOf_25 : decode cX12_sumOf 25 = .ok (.iload 5, 2) := by decide +kernel
theorem dX12_sumOf_27 : decode cX12_sumOf 27 = .ok (.iaload, 1) := by decide +kernel
theorem dX12_sumOf_28 : decode cX12_sumOf 28 = .ok (.iload_n 2, 1) := by decide +kernel
theorem dX12_sumOf_29 : decode cX12_sumOf 29 = .ok (.if_icmp .ne 32, 3) := by decide +kernel
theorem dX12_sumOf_32 : decode cX12_sumOf 32 = .ok (.aload_n 0, 1) := by decide +kernel
theorem dX12_sumOf_33 : decode cX12_sumOf 33 = .ok (.iload 5, 2) := by decide +kernel
theorem dX12_sumOf_35 : decode cX12_sumOf 35 = .ok (.invokevirtual 478, 3) := by decide +kernel
theorem dX12_sumOf_38 : decode cX12_sumOf 38 = .ok (.ifCond .eq 23, 3) := by decide +kernel
theorem dX12_sumOf_41 : decode cX12_sumOf 41 = .ok (.lload_n 3, 1) := by decide +kernel
theorem dX12_sumOf_42 : decode cX12_sumOf 42 = .ok (.iload_n 2, 1) := by decide +kernel
theorem dX12_sumOf_43 : decode cX12_sumOf 43 = .ok (.iconst 5, 1) := by decide +kernel
theorem dX12_sumOf_44 : decode cX12_sumOf 44 = .ok (.if_icmp .ge 14, 3) := by decide +kernel
theorem dX12_sumOf_47 : decode cX12_sumOf 47 = .ok (.aload_n 0, 1) := by decide +kernel
theorem dX12_sumOf_48 : decode cX12_sumOf 48 = .ok (.getfield 48, 3) := by decide +kernel
theorem dX12_sumOf_51 : decode cX12_sumOf 51 = .ok (.iload 5, 2) := by decide +kernel
theorem dX12_sumOf_53 : decode cX12_sumOf 53 = .ok (.iaload, 1) := by decide +kernel
theorem dX12_sumOf_54 : decode cX12_sumOf 54 = .ok (.i2l, 1) := by decide +kernel
theorem dX12_sumOf_55 : decode cX12_sumOf 55 = .ok (.goto 4, 3) := by decide +kernel
theorem dX12_sumOf_58 : decode cX12_sumOf 58 = .ok (.lconst 1, 1) := by decide +kernel
theorem dX12_sumOf_59 : decode cX12_sumOf 59 = .ok (.ladd, 1) := by decide +kernel
theorem dX12_sumOf_60 : decode cX12_sumOf 60 = .ok (.lstore_n 3, 1) := by decide +kernel
theorem dX12_sumOf_61 : decode cX12_sumOf 61 = .ok (.iinc 5 1, 3) := by decide +kernel
theorem dX12_sumOf_64 : decode cX12_sumOf 64 = .ok (.goto (-54), 3) := by decide +kernel
theorem dX12_sumOf_67 : decode cX12_sumOf 67 = .ok (.lload_n 3, 1) := by decide +kernel
theorem dX12_sumOf_68 : decode cX12_sumOf 68 = .ok (.lreturn, 1) := by decide +kernel
theorem dX12_turn_0 : decode cX12_turn 0 = .ok (.aload_n 0, 1) := by decide +kernel
theorem dX12_turn_1 : decode cX12_turn 1 = .ok (.iconst 0, 1) := by decide +kernel
theorem dX12_turn_2 : decode cX12_turn 2 = .ok (.putfield 194, 3) := by decide +kernel
theorem dX12_turn_5 : decode cX12_turn 5 = .ok (.aload_n 0, 1) := by decide +kernel
theorem dX12_turn_6 : decode cX12_turn 6 = .ok (.aload_n 0, 1) := by decide +kernel
theorem dX12_turn_7 : decode cX12_turn 7 = .ok (.iload_n 1, 1) := by decide +kernel
theorem dX12_turn_8 : decode cX12_turn 8 = .ok (.invokevirtual 269, 3) := by decide +kernel
theorem dX12_turn_11 : decode cX12_turn 11 = .ok (.iconst 1, 1) := by decide +kernel
theorem dX12_turn_12 : decode cX12_turn 12 = .ok (.invokevirtual 224, 3) := by decide +kernel
theorem dX12_turn_15 : decode cX12_turn 15 = .ok (.ifCond .ne 26, 3) := by decide +kernel
theorem dX12_turn_18 : decode cX12_turn 18 = .ok (.aload_n 0, 1) := by decide +kernel
theorem dX12_turn_19 : decode cX12_turn 19 = .ok (.aload_n 0, 1) := by decide +kernel
theorem dX12_turn_20 : decode cX12_turn 20 = .ok (.iload_n 1, 1) := by decide +kernel
theorem dX12_turn_21 : decode cX12_turn 21 = .ok (.iconst 0, 1) := by decide +kernel
theorem dX12_turn_22 : decode cX12_turn 22 = .ok (.invokevirtual 217, 3) := by decide +kernel
theorem dX12_turn_25 : decode cX12_turn 25 = .ok (.iconst 3, 1) := by decide +kernel
theorem dX12_turn_26 : decode cX12_turn 26 = .ok (.if_icmp .ge 7, 3) := by decide +kernel
theorem dX12_turn_29 : decode cX12_turn 29 = .ok (.iconst 1, 1) := by decide +kernel
theorem dX12_turn_30 : decode cX12_turn 30 = .ok (.goto 4, 3) := by decide +kernel
theorem dX12_turn_33 : decode cX12_turn 33 = .ok (.iconst 0, 1) := by decide +kernel
theorem dX12_turn_34 : decode cX12_turn 34 = .ok (.iconst 2, 1) := by decide +kernel
theorem dX12_turn_35 : decode cX12_turn 35 = .ok (.invokevirtual 224, 3) := by decide +kernel
theorem dX12_turn_38 : decode cX12_turn 38 = .ok (.ifCond .eq 5, 3) := by decide +kernel
theorem dX12_turn_41 : decode cX12_turn 41 = .ok (.iconst 0, 1) := by decide +kernel
theorem dX12_turn_42 : decode cX12_turn 42 = .ok (.ireturn, 1) := by decide +kernel
theorem dX12_turn_43 : decode cX12_turn 43 = .ok (.aload_n 0, 1) := by decide +kernel
theorem dX12_turn_44 : decode cX12_turn 44 = .ok (.iload_n 1, 1) := by decide +kernel
theorem dX12_turn_45 : decode cX12_turn 45 = .ok (.bipush 19, 2) := by decide +kernel
theorem dX12_turn_47 : decode cX12_turn 47 = .ok (.invokevirtual 217, 3) := by decide +kernel
theorem dX12_turn_50 : decode cX12_turn 50 = .ok (.iconst 1, 1) := by decide +kernel
theorem dX12_turn_51 : decode cX12_turn 51 = .ok (.if_icmp .ne 7, 3) := by decide +kernel
theorem dX12_turn_54 : decode cX12_turn 54 = .ok (.iconst 1, 1) := by decide +kernel
theorem dX12_turn_55 : decode cX12_turn 55 = .ok (.goto 4, 3) := by decide +kernel
theorem dX12_turn_58 : decode cX12_turn 58 = .ok (.iconst 0, 1) := by decide +kernel
theorem dX12_turn_59 : decode cX12_turn 59 = .ok (.istore_n 3, 1) := by decide +kernel
theorem dX12_turn_60 : decode cX12_turn 60 = .ok (.aload_n 0, 1) := by decide +kernel
theorem dX12_turn_61 : decode cX12_turn 61 = .ok (.getfield 9, 3) := by decide +kernel
theorem dX12_turn_64 : decode cX12_turn 64 = .ok (.iload_n 1, 1) := by decide +kernel
theorem dX12_turn_65 : decode cX12_turn 65 = .ok (.bipush 19, 2) := by decide +kernel
theorem dX12_turn_67 : decode cX12_turn 67 = .ok (.invokestatic 214, 3) := by decide +kernel
theorem dX12_turn_70 : decode cX12_turn 70 = .ok (.iload_n 2, 1) := by decide +kernel
theorem dX12_turn_71 : decode cX12_turn 71 = .ok (.ifCond .eq 7, 3) := by decide +kernel
theorem dX12_turn_74 : decode cX12_turn 74 = .ok (.iconst 1, 1) := by decide +kernel
theorem dX12_turn_75 : decode cX12_turn 75 = .ok (.goto 4, 3) := by decide +kernel
theorem dX12_turn_78 : decode cX12_turn 78 = .ok (.iconst 0, 1) := by decide +kernel
theorem dX12_turn_79 : decode cX12_turn 79 = .ok (.iastore, 1) := by decide +kernel
theorem dX12_turn_80 : decode cX12_turn 80 = .ok (.aload_n 0, 1) := by decide +kernel
theorem dX12_turn_81 : decode cX12_turn 81 = .ok (.iconst 0, 1) := by decide +kernel
theorem dX12_turn_82 : decode cX12_turn 82 = .ok (.putfield 238, 3) := by decide +kernel
theorem dX12_turn_85 : decode cX12_turn 85 = .ok (.iload_n 3, 1) := by decide +kernel
theorem dX12_turn_86 : decode cX12_turn 86 = .ok (.iload_n 2, 1) := by decide +kernel
theorem dX12_turn_87 : decode cX12_turn 87 = .ok (.if_icmp .eq 7, 3) := by decide +kernel
theorem dX12_turn_90 : decode cX12_turn 90 = .ok (.iconst 1, 1) := by decide +kernel
theorem dX12_turn_91 : decode cX12_turn 91 = .ok (.goto 4, 3) := by decide +kernel
theorem dX12_turn_94 : decode cX12_turn 94 = .ok (.iconst 0, 1) := by decide +kernel
theorem dX12_turn_95 : decode cX12_turn 95 = .ok (.ireturn, 1) := by decide +kernel
theorem dX12_why_0 : decode cX12_why 0 = .ok (.aload_n 0, 1) := by decide +kernel
theorem dX12_why_1 : decode cX12_why 1 = .ok (.iconst 0, 1) := by decide +kernel
theorem dX12_why_2 : decode cX12_why 2 = .ok (.putfield 194, 3) := by decide +kernel
theorem dX12_why_5 : decode cX12_why 5 = .ok (.aload_n 0, 1) := by decide +kernel
theorem dX12_why_6 : decode cX12_why 6 = .ok (.aload_n 0, 1) := by decide +kernel
theorem dX12_why_7 : decode cX12_why 7 = .ok (.iload_n 1, 1) := by decide +kernel
theorem dX12_why_8 : decode cX12_why 8 = .ok (.invokevirtual 486, 3) := by decide +kernel
theorem dX12_why_11 : decode cX12_why 11 = .ok (.iconst 1, 1) := by decide +kernel
theorem dX12_why_12 : decode cX12_why 12 = .ok (.invokevirtual 224, 3) := by decide +kernel
theorem dX12_why_15 : decode cX12_why 15 = .ok (.ifCond .ne 26, 3) := by decide +kernel
theorem dX12_why_18 : decode cX12_why 18 = .ok (.aload_n 0, 1) := by decide +kernel
theorem dX12_why_19 : decode cX12_why 19 = .ok (.iload_n 2, 1) := by decide +kernel
theorem dX12_why_20 : decode cX12_why 20 = .ok (.iconst 0, 1) := by decide +kernel
theorem dX12_why_21 : decode cX12_why 21 = .ok (.bipush 6, 2) := by decide +kernel
theorem dX12_why_23 : decode cX12_why 23 = .ok (.invokestatic 197, 3) := by decide +kernel
theorem dX12_why_26 : decode cX12_why 26 = .ok (.ifCond .ne 7, 3) := by decide +kernel
theorem dX12_why_29 : decode cX12_why 29 = .ok (.iconst 1, 1) := by decide +kernel
theorem dX12_why_30 : decode cX12_why 30 = .ok (.goto 4, 3) := by decide +kernel
theorem dX12_why_33 : decode cX12_why 33 = .ok (.iconst 0, 1) := by decide +kernel
theorem dX12_why_34 : decode cX12_why 34 = .ok (.iconst 2, 1) := by decide +kernel
theorem dX12_why_35 : decode cX12_why 35 = .ok (.invokevirtual 224, 3) := by decide +kernel
theorem dX12_why_38 : decode cX12_why 38 = .ok (.ifCond .eq 5, 3) := by decide +kernel
theorem dX12_why_41 : decode cX12_why 41 = .ok (.iconst 0, 1) := by decide +kernel
theorem dX12_why_42 : decode cX12_why 42 = .ok (.ireturn, 1) := by decide +kernel
theorem dX12_why_43 : decode cX12_why 43 = .ok (.aload_n 0, 1) := by decide +kernel
theorem dX12_why_44 : decode cX12_why 44 = .ok (.iload_n 1, 1) := by decide +kernel
theorem dX12_why_45 : decode cX12_why 45 = .ok (.invokevirtual 474, 3) := by decide +kernel
theorem dX12_why_48 : decode cX12_why 48 = .ok (.iconst 0, 1) := by decide +kernel
theorem dX12_why_49 : decode cX12_why 49 = .ok (.istore_n 3, 1) := by decide +kernel
theorem dX12_why_50 : decode cX12_why 50 = .ok (.iload_n 3, 1) := by decide +kernel
theorem dX12_why_51 : decode cX12_why 51 = .ok (.aload_n 0, 1) := by decide +kernel
theorem dX12_why_52 : decode cX12_why 52 = .ok (.getfield 42, 3) := by decide +kernel
theorem dX12_why_55 : decode cX12_why 55 = .ok (.iconst 0, 1) := by decide +kernel
theorem dX12_why_56 : decode cX12_why 56 = .ok (.iaload, 1) := by decide +kernel
theorem dX12_why_57 : decode cX12_why 57 = .ok (.if_icmp .ge 29, 3) := by decide +kernel
theorem dX12_why_60 : decode cX12_why 60 = .ok (.aload_n 0, 1) := by decide +kernel
theorem dX12_why_61 : decode cX12_why 61 = .ok (.getfield 45, 3) := by decide +kernel
theorem dX12_why_64 : decode cX12_why 64 = .ok (.iload_n 3, 1) := by decide +kernel
theorem dX12_why_65 : decode cX12_why 65 = .ok (.iaload, 1) := by decide +kernel
theorem dX12_why_66 : decode cX12_why 66 = .ok (.iload_n 2, 1) := by decide +kernel
theorem dX12_why_67 : decode cX12_why 67 = .ok (.if_icmp .ne 13, 3) := by decide +kernel
theorem dX12_why_70 : decode cX12_why 70 = .ok (.aload_n 0, 1) := by decide +kernel
theorem dX12_why_71 : decode cX12_why 71 = .ok (.iload_n 3, 1) := by decide +kernel
theorem dX12_why_72 : decode cX12_why 72 = .ok (.invokevirtual 478, 3) := by decide +kernel
theorem dX12_why_75 : decode cX12_why 75 = .ok (.ifCond .eq 5, 3) := by decide +kernel
theorem dX12_why_78 : decode cX12_why 78 = .ok (.iload_n 3, 1) := by decide +kernel
theorem dX12_why_79 : decode cX12_why 79 = .ok (.ireturn, 1) := by decide +kernel
theorem dX12_why_80 : decode cX12_why 80 = .ok (.iinc 3 1, 3) := by decide +kernel
theorem dX12_why_83 : decode cX12_why 83 = .ok (.goto (-33), 3) := by decide +kernel
theorem dX12_why_86 : decode cX12_why 86 = .ok (.iconst (-1), 1) := by decide +kernel
theorem dX12_why_87 : decode cX12_why 87 = .ok (.ireturn, 1) := by decide +kernel
theorem dX12_work_0 : decode cX12_work 0 = .ok (.aload_n 0, 1) := by decide +kernel
theorem dX12_work_1 : decode cX12_work 1 = .ok (.iconst 0, 1) := by decide +kernel
theorem dX12_work_2 : decode cX12_work 2 = .ok (.putfield 194, 3) := by decide +kernel
theorem dX12_work_5 : decode cX12_work 5 = .ok (.aload_n 0, 1) := by decide +kernel
theorem dX12_work_6 : decode cX12_work 6 = .ok (.aload_n 0, 1) := by decide +kernel
theorem dX12_work_7 : decode cX12_work 7 = .ok (.iload_n 1, 1) := by decide +kernel
theorem dX12_work_8 : decode cX12_work 8 = .ok (.invokevirtual 269, 3) := by decide +kernel
theorem dX12_work_11 : decode cX12_work 11 = .ok (.iconst 1, 1) := by decide +kernel
theorem dX12_work_12 : decode cX12_work 12 = .ok (.invokevirtual 224, 3) := by decide +kernel
theorem dX12_work_15 : decode cX12_work 15 = .ok (.ifCond .eq 5, 3) := by decide +kernel
theorem dX12_work_18 : decode cX12_work 18 = .ok (.iconst 0, 1) := by decide +kernel
theorem dX12_work_19 : decode cX12_work 19 = .ok (.ireturn, 1) := by decide +kernel
theorem dX12_work_20 : decode cX12_work 20 = .ok (.aload_n 0, 1) := by decide +kernel
theorem dX12_work_21 : decode cX12_work 21 = .ok (.iload_n 1, 1) := by decide +kernel
theorem dX12_work_22 : decode cX12_work 22 = .ok (.iconst 0, 1) := by decide +kernel
theorem dX12_work_23 : decode cX12_work 23 = .ok (.invokevirtual 217, 3) := by decide +kernel
theorem dX12_work_26 : decode cX12_work 26 = .ok (.istore_n 3, 1) := by decide +kernel
theorem dX12_work_27 : decode cX12_work 27 = .ok (.iload_n 2, 1) := by decide +kernel
theorem dX12_work_28 : decode cX12_work 28 = .ok (.tableswitch 136 0 7 #[48, 50, 57, 67, 75, 83, 103, 128], 48) := by decide +kernel
theorem dX12_work_76 : decode cX12_work 76 = .ok (.iload_n 3, 1) := by decide +kernel
theorem dX12_work_77 : decode cX12_work 77 = .ok (.ireturn, 1) := by decide +kernel
theorem dX12_work_78 : decode cX12_work 78 = .ok (.aload_n 0, 1) := by decide +kernel
theorem dX12_work_79 : decode cX12_work 79 = .ok (.iload_n 1, 1) := by decide +kernel
theorem dX12_work_80 : decode cX12_work 80 = .ok (.iconst 1, 1) := by decide +kernel
theorem dX12_work_81 : decode cX12_work 81 = .ok (.invokevirtual 217, 3) := by decide +kernel
theorem dX12_work_84 : decode cX12_work 84 = .ok (.ireturn, 1) := by decide +kernel
theorem dX12_work_85 : decode cX12_work 85 = .ok (.iload_n 3, 1) := by decide +kernel
theorem dX12_work_86 : decode cX12_work 86 = .ok (.ifCond .ne 7, 3) := by decide +kernel
theorem dX12_work_89 : decode cX12_work 89 = .ok (.iconst 1, 1) := by decide +kernel
theorem dX12_work_90 : decode cX12_work 90 = .ok (.goto 4, 3) := by decide +kernel
theorem dX12_work_93 : decode cX12_work 93 = .ok (.iconst 0, 1) := by decide +kernel
theorem dX12_work_94 : decode cX12_work 94 = .ok (.ireturn, 1) := by decide +kernel
theorem dX12_work_95 : decode cX12_work 95 = .ok (.aload_n 0, 1) := by decide +kernel
theorem dX12_work_96 : decode cX12_work 96 = .ok (.iload_n 1, 1) := by decide +kernel
theorem dX12_work_97 : decode cX12_work 97 = .ok (.bipush 20, 2) := by decide +kernel
theorem dX12_work_99 : decode cX12_work 99 = .ok (.invokevirtual 217, 3) := by decide +kernel
theorem dX12_work_102 : decode cX12_work 102 = .ok (.ireturn, 1) := by decide +kernel
theorem dX12_work_103 : decode cX12_work 103 = .ok (.aload_n 0, 1) := by decide +kernel
theorem dX12_work_104 : decode cX12_work 104 = .ok (.iload_n 1, 1) := by decide +kernel
theorem dX12_work_105 : decode cX12_work 105 = .ok (.bipush 21, 2) := by decide +kernel
theorem dX12_work_107 : decode cX12_work 107 = .ok (.invokevirtual 217, 3) := by decide +kernel
theorem dX12_work_110 : decode cX12_work 110 = .ok (.ireturn, 1) := by decide +kernel
theorem dX12_work_111 : decode cX12_work 111 = .ok (.iload_n 3, 1) := by decide +kernel
theorem dX12_work_112 : decode cX12_work 112 = .ok (.ifCond .ne 11, 3) := by decide +kernel
theorem dX12_work_115 : decode cX12_work 115 = .ok (.aload_n 0, 1) := by decide +kernel
theorem dX12_work_116 : decode cX12_work 116 = .ok (.iload_n 1, 1) := by decide +kernel
theorem dX12_work_117 : decode cX12_work 117 = .ok (.invokevirtual 282, 3) := by decide +kernel
theorem dX12_work_120 : decode cX12_work 120 = .ok (.goto 10, 3) := by decide +kernel
theorem dX12_work_123 : decode cX12_work 123 = .ok (.aload_n 0, 1) := by decide +kernel
theorem dX12_work_124 : decode cX12_work 124 = .ok (.iload_n 1, 1) := by decide +kernel
theorem dX12_work_125 : decode cX12_work 125 = .ok (.bipush 17, 2) := by decide +kernel
theorem dX12_work_127 : decode cX12_work 127 = .ok (.invokevirtual 217, 3) := by decide +kernel
theorem dX12_work_130 : decode cX12_work 130 = .ok (.ireturn, 1) := by decide +kernel
theorem dX12_work_131 : decode cX12_work 131 = .ok (.aload_n 0, 1) := by decide +kernel
theorem dX12_work_132 : decode cX12_work 132 = .ok (.iload_n 1, 1) := by decide +kernel
theorem dX12_work_133 : decode cX12_work 133 = .ok (.invokevirtual 272, 3) := by decide +kernel
theorem dX12_work_136 : decode cX12_work 136 = .ok (.ifCond .eq 12, 3) := by decide +kernel
theorem dX12_work_139 : decode cX12_work 139 = .ok (.aload_n 0, 1) := by decide +kernel
theorem dX12_work_140 : decode cX12_work 140 = .ok (.iload_n 1, 1) := by decide +kernel
theorem dX12_work_141 : decode cX12_work 141 = .ok (.iconst 4, 1) := by decide +kernel
theorem dX12_work_142 : decode cX12_work 142 = .ok (.invokevirtual 217, 3) := by decide +kernel
theorem dX12_work_145 : decode cX12_work 145 = .ok (.goto 10, 3) := by decide +kernel
theorem dX12_work_148 : decode cX12_work 148 = .ok (.aload_n 0, 1) := by decide +kernel
theorem dX12_work_149 : decode cX12_work 149 = .ok (.iload_n 1, 1) := by decide +kernel
theorem dX12_work_150 : decode cX12_work 150 = .ok (.bipush 18, 2) := by decide +kernel
theorem dX12_work_152 : decode cX12_work 152 = .ok (.invokevirtual 217, 3) := by decide +kernel
theorem dX12_work_155 : decode cX12_work 155 = .ok (.ireturn, 1) := by decide +kernel
theorem dX12_work_156 : decode cX12_work 156 = .ok (.aload_n 0, 1) := by decide +kernel
theorem dX12_work_157 : decode cX12_work 157 = .ok (.iload_n 1, 1) := by decide +kernel
theorem dX12_work_158 : decode cX12_work 158 = .ok (.bipush 19, 2) := by decide +kernel
theorem dX12_work_160 : decode cX12_work 160 = .ok (.invokevirtual 217, 3) := by decide +kernel
theorem dX12_work_163 : decode cX12_work 163 = .ok (.ireturn, 1) := by decide +kernel
theorem dX12_work_164 : decode cX12_work 164 = .ok (.aload_n 0, 1) := by decide +kernel
theorem dX12_work_165 : decode cX12_work 165 = .ok (.iconst 2, 1) := by decide +kernel
theorem dX12_work_166 : decode cX12_work 166 = .ok (.putfield 194, 3) := by decide +kernel
theorem dX12_work_169 : decode cX12_work 169 = .ok (.iconst 0, 1) := by decide +kernel
theorem dX12_work_170 : decode cX12_work 170 = .ok (.ireturn, 1) := by decide +kernel
theorem dX12_workOn_0 : decode cX12_workOn 0 = .ok (.iconst 0, 1) := by decide +kernel
theorem dX12_workOn_1 : decode cX12_workOn 1 = .ok (.istore_n 2, 1) := by decide +kernel
theorem dX12_workOn_2 : decode cX12_workOn 2 = .ok (.iload_n 2, 1) := by decide +kernel
theorem dX12_workOn_3 : decode cX12_workOn 3 = .ok (.aload_n 0, 1) := by decide +kernel
theorem dX12_workOn_4 : decode cX12_workOn 4 = .ok (.getfield 9, 3) := by decide +kernel
theorem dX12_workOn_7 : decode cX12_workOn 7 = .ok (.sipush 1428, 3) := by decide +kernel
theorem dX12_workOn_10 : decode cX12_workOn 10 = .ok (.iaload, 1) := by decide +kernel
theorem dX12_workOn_11 : decode cX12_workOn 11 = .ok (.if_icmp .ge 21, 3) := by decide +kernel
theorem dX12_workOn_14 : decode cX12_workOn 14 = .ok (.aload_n 0, 1) := by decide +kernel
theorem dX12_workOn_15 : decode cX12_workOn 15 = .ok (.iload_n 2, 1) := by decide +kernel
theorem dX12_workOn_16 : decode cX12_workOn 16 = .ok (.iconst 1, 1) := by decide +kernel
theorem dX12_workOn_17 : decode cX12_workOn 17 = .ok (.invokevirtual 217, 3) := by decide +kernel
theorem dX12_workOn_20 : decode cX12_workOn 20 = .ok (.iload_n 1, 1) := by decide +kernel
theorem dX12_workOn_21 : decode cX12_workOn 21 = .ok (.if_icmp .ne 5, 3) := by decide +kernel
theorem dX12_workOn_24 : decode cX12_workOn 24 = .ok (.iload_n 2, 1) := by decide +kernel
theorem dX12_workOn_25 : decode cX12_workOn 25 = .ok (.ireturn, 1) := by decide +kernel
theorem dX12_workOn_26 : decode cX12_workOn 26 = .ok (.iinc 2 1, 3) := by decide +kernel
theorem dX12_workOn_29 : decode cX12_workOn 29 = .ok (.goto (-27), 3) := by decide +kernel
theorem dX12_workOn_32 : decode cX12_workOn 32 = .ok (.iconst (-1), 1) := by decide +kernel
theorem dX12_workOn_33 : decode cX12_workOn 33 = .ok (.ireturn, 1) := by decide +kernel
