theorem dX12_acres_0 : decode cX12_acres 0 = .ok (.iconst 0, 1) := by decide +kernel
theorem dX12_acres_1 : decode cX12_acres 1 = .ok (.istore_n 2, 1) := by decide +kernel
theorem dX12_acres_2 : decode cX12_acres 2 = .ok (.iconst 0, 1) := by decide +kernel
theorem dX12_acres_3 : decode cX12_acres 3 = .ok (.istore_n 3, 1) := by decide +kernel
theorem dX12_acres_4 : decode cX12_acres 4 = .ok (.iload_n 3, 1) := by decide +kernel
theorem dX12_acres_5 : decode cX12_acres 5 = .ok (.bipush 96, 2) := by decide +kernel
theorem dX12_acres_7 : decode cX12_acres 7 = .ok (.if_icmp .ge 55, 3) := by decide +kernel
theorem dX12_acres_10 : decode cX12_acres 10 = .ok (.aload_n 0, 1) := by decide +kernel
theorem dX12_acres_11 : decode cX12_acres 11 = .ok (.getfield 101, 3) := by decide +kernel
theorem dX12_acres_14 : decode cX12_acres 14 = .ok (.iload_n 1, 1) := by decide +kernel
theorem dX12_acres_15 : decode cX12_acres 15 = .ok (.iaload, 1) := by decide +kernel
theorem dX12_acres_16 : decode cX12_acres 16 = .ok (.ifCond .lt 46, 3) := by decide +kernel
theorem dX12_acres_19 : decode cX12_acres 19 = .ok (.iload_n 2, 1) := by decide +kernel
theorem dX12_acres_20 : decode cX12_acres 20 = .ok (.iload_n 3, 1) := by decide +kernel
theorem dX12_acres_21 : decode cX12_acres 21 = .ok (.aload_n 0, 1) := by decide +kernel
theorem dX12_acres_22 : decode cX12_acres 22 = .ok (.getfield 113, 3) := by decide +kernel
theorem dX12_acres_25 : decode cX12_acres 25 = .ok (.aload_n 0, 1) := by decide +kernel
theorem dX12_acres_26 : decode cX12_acres 26 = .ok (.getfield 101, 3) := by decide +kernel
theorem dX12_acres_29 : decode cX12_acres 29 = .ok (.iload_n 1, 1) := by decide +kernel
theorem dX12_acres_30 : decode cX12_acres 30 = .ok (.iaload, 1) := by decide +kernel
theorem dX12_acres_31 : decode cX12_acres 31 = .ok (.iaload, 1) := by decide +kernel
theorem dX12_acres_32 : decode cX12_acres 32 = .ok (.aload_n 0, 1) := by decide +kernel
theorem dX12_acres_33 : decode cX12_acres 33 = .ok (.getfield 116, 3) := by decide +kernel
theorem dX12_acres_36 : decode cX12_acres 36 = .ok (.aload_n 0, 1) := by decide +kernel
theorem dX12_acres_37 : decode cX12_acres 37 = .ok (.getfield 101, 3) := by decide +kernel
theorem dX12_acres_40 : decode cX12_acres 40 = .ok (.iload_n 1, 1) := by decide +kernel
theorem dX12_acres_41 : decode cX12_acres 41 = .ok (.iaload, 1) := by decide +kernel
theorem dX12_acres_42 : decode cX12_acres 42 = .ok (.iaload, 1) := by decide +kernel
theorem dX12_acres_43 : decode cX12_acres 43 = .ok (.invokestatic 232, 3) := by decide +kernel
theorem dX12_acres_46 : decode cX12_acres 46 = .ok (.ifCond .eq 7, 3) := by decide +kernel
theorem dX12_acres_49 : decode cX12_acres 49 = .ok (.iconst 1, 1) := by decide +kernel
theorem dX12_acres_50 : decode cX12_acres 50 = .ok (.goto 4, 3) := by decide +kernel
theorem dX12_acres_53 : decode cX12_acres 53 = .ok (.iconst 0, 1) := by decide +kernel
theorem dX12_acres_54 : decode cX12_acres 54 = .ok (.iadd, 1) := by decide +kernel
theorem dX12_acres_55 : decode cX12_acres 55 = .ok (.istore_n 2, 1) := by decide +kernel
theorem dX12_acres_56 : decode cX12_acres 56 = .ok (.iinc 3 1, 3) := by decide +kernel
theorem dX12_acres_59 : decode cX12_acres 59 = .ok (.goto (-55), 3) := by decide +kernel
theorem dX12_acres_62 : decode cX12_acres 62 = .ok (.iload_n 2, 1) := by decide +kernel
theorem dX12_acres_63 : decode cX12_acres 63 = .ok (.ireturn, 1) := by decide +kernel
theorem dX12_at_0 : decode cX12_at 0 = .ok (.sipush 768, 3) := by decide +kernel
theorem dX12_at_3 : decode cX12_at 3 = .ok (.bipush 22, 2) := by decide +kernel
theorem dX12_at_5 : decode cX12_at 5 = .ok (.iload_n 0, 1) := by decide +kernel
theorem dX12_at_6 : decode cX12_at 6 = .ok (.imul, 1) := by decide +kernel
theorem dX12_at_7 : decode cX12_at 7 = .ok (.iadd, 1) := by decide +kernel
theorem dX12_at_8 : decode cX12_at 8 = .ok (.iload_n 1, 1) := by decide +kernel
theorem dX12_at_9 : decode cX12_at 9 = .ok (.iadd, 1) := by decide +kernel
theorem dX12_at_10 : decode cX12_at 10 = .ok (.ireturn, 1) := by decide +kernel
theorem dX12_beside_0 : decode cX12_beside 0 = .ok (.iload_n 1, 1) := by decide +kernel
theorem dX12_beside_1 : decode cX12_beside 1 = .ok (.tableswitch 74 0 2 #[27, 42, 57], 27) := by decide +kernel
theorem dX12_beside_28 : decode cX12_beside 28 = .ok (.iload_n 0, 1) := by decide +kernel
theorem dX12_beside_29 : decode cX12_beside 29 = .ok (.bipush 12, 2) := by decide +kernel
theorem dX12_beside_31 : decode cX12_beside 31 = .ok (.if_icmp .lt 10, 3) := by decide +kernel
theorem dX12_beside_34 : decode cX12_beside 34 = .ok (.iload_n 0, 1) := by decide +kernel
theorem dX12_beside_35 : decode cX12_beside 35 = .ok (.bipush 12, 2) := by decide +kernel
theorem dX12_beside_37 : decode cX12_beside 37 = .ok (.isub, 1) := by decide +kernel
theorem dX12_beside_38 : decode cX12_beside 38 = .ok (.goto 4, 3) := by decide +kernel
theorem dX12_beside_41 : decode cX12_beside 41 = .ok (.iconst (-1), 1) := by decide +kernel
theorem dX12_beside_42 : decode cX12_beside 42 = .ok (.ireturn, 1) := by decide +kernel
theorem dX12_beside_43 : decode cX12_beside 43 = .ok (.iload_n 0, 1) := by decide +kernel
theorem dX12_beside_44 : decode cX12_beside 44 = .ok (.bipush 12, 2) := by decide +kernel
theorem dX12_beside_46 : decode cX12_beside 46 = .ok (.irem, 1) := by decide +kernel
theorem dX12_beside_47 : decode cX12_beside 47 = .ok (.ifCond .le 9, 3) := by decide +kernel
theorem dX12_beside_50 : decode cX12_beside 50 = .ok (.iload_n 0, 1) := by decide +kernel
theorem dX12_beside_51 : decode cX12_beside 51 = .ok (.iconst 1, 1) := by decide +kernel
theorem dX12_beside_52 : decode cX12_beside 52 = .ok (.isub, 1) := by decide +kernel
theorem dX12_beside_53 : decode cX12_beside 53 = .ok (.goto 4, 3) := by decide +kernel
theorem dX12_beside_56 : decode cX12_beside 56 = .ok (.iconst (-1), 1) := by decide +kernel
theorem dX12_beside_57 : decode cX12_beside 57 = .ok (.ireturn, 1) := by decide +kernel
theorem dX12_beside_58 : decode cX12_beside 58 = .ok (.iload_n 0, 1) := by decide +kernel
theorem dX12_beside_59 : decode cX12_beside 59 = .ok (.bipush 12, 2) := by decide +kernel
theorem dX12_beside_61 : decode cX12_beside 61 = .ok (.irem, 1) := by decide +kernel
theorem dX12_beside_62 : decode cX12_beside 62 = .ok (.bipush 11, 2) := by decide +kernel
theorem dX12_beside_64 : decode cX12_beside 64 = .ok (.if_icmp .ge 9, 3) := by decide +kernel
theorem dX12_beside_67 : decode cX12_beside 67 = .ok (.iload_n 0, 1) := by decide +kernel
theorem dX12_beside_68 : decode cX12_beside 68 = .ok (.iconst 1, 1) := by decide +kernel
theorem dX12_beside_69 : decode cX12_beside 69 = .ok (.iadd, 1) := by decide +kernel
theorem dX12_beside_70 : decode cX12_beside 70 = .ok (.goto 4, 3) := by decide +kernel
theorem dX12_beside_73 : decode cX12_beside 73 = .ok (.iconst (-1), 1) := by decide +kernel
theorem dX12_beside_74 : decode cX12_beside 74 = .ok (.ireturn, 1) := by decide +kernel
theorem dX12_beside_75 : decode cX12_beside 75 = .ok (.iload_n 0, 1) := by decide +kernel
theorem dX12_beside_76 : decode cX12_beside 76 = .ok (.bipush 84, 2) := by decide +kernel
theorem dX12_beside_78 : decode cX12_beside 78 = .ok (.if_icmp .ge 10, 3) := by decide +kernel
theorem dX12_beside_81 : decode cX12_beside 81 = .ok (.iload_n 0, 1) := by decide +kernel
theorem dX12_beside_82 : decode cX12_beside 82 = .ok (.bipush 12, 2) := by decide +kernel
theorem dX12_beside_84 : decode cX12_beside 84 = .ok (.iadd, 1) := by decide +kernel
theorem dX12_beside_85 : decode cX12_beside 85 = .ok (.goto 4, 3) := by decide +kernel
theorem dX12_beside_88 : decode cX12_beside 88 = .ok (.iconst (-1), 1) := by decide +kernel
theorem dX12_beside_89 : decode cX12_beside 89 = .ok (.ireturn, 1) := by decide +kernel
theorem dX12_contract_0 : decode cX12_contract 0 = .ok (.aload_n 0, 1) := by decide +kernel
theorem dX12_contract_1 : decode cX12_contract 1 = .ok (.iconst 0, 1) := by decide +kernel
theorem dX12_contract_2 : decode cX12_contract 2 = .ok (.putfield 194, 3) := by decide +kernel
theorem dX12_contract_5 : decode cX12_contract 5 = .ok (.aload_n 0, 1) := by decide +kernel
theorem dX12_contract_6 : decode cX12_contract 6 = .ok (.aload_n 0, 1) := by decide +kernel
theorem dX12_contract_7 : decode cX12_contract 7 = .ok (.iload_n 1, 1) := by decide +kernel
theorem dX12_contract_8 : decode cX12_contract 8 = .ok (.invokevirtual 269, 3) := by decide +kernel
theorem dX12_contract_11 : decode cX12_contract 11 = .ok (.iconst 1, 1) := by decide +kernel
theorem dX12_contract_12 : decode cX12_contract 12 = .ok (.invokevirtual 224, 3) := by decide +kernel
theorem dX12_contract_15 : decode cX12_contract 15 = .ok (.ifCond .ne 70, 3) := by decide +kernel
theorem dX12_contract_18 : decode cX12_contract 18 = .ok (.aload_n 0, 1) := by decide +kernel
theorem dX12_contract_19 : decode cX12_contract 19 = .ok (.iload_n 2, 1) := by decide +kernel
theorem dX12_contract_20 : decode cX12_contract 20 = .ok (.iconst 0, 1) := by decide +kernel
theorem dX12_contract_21 : decode cX12_contract 21 = .ok (.bipush 9, 2) := by decide +kernel
theorem dX12_contract_23 : decode cX12_contract 23 = .ok (.invokestatic 197, 3) := by decide +kernel
theorem dX12_contract_26 : decode cX12_contract 26 = .ok (.ifCond .eq 26, 3) := by decide +kernel
theorem dX12_contract_29 : decode cX12_contract 29 = .ok (.iload_n 3, 1) := by decide +kernel
theorem dX12_contract_30 : decode cX12_contract 30 = .ok (.iconst 1, 1) := by decide +kernel
theorem dX12_contract_31 : decode cX12_contract 31 = .ok (.sipush 1000, 3) := by decide +kernel
theorem dX12_contract_34 : decode cX12_contract 34 = .ok (.invokestatic 197, 3) := by decide +kernel
theorem dX12_contract_37 : decode cX12_contract 37 = .ok (.ifCond .eq 15, 3) := by decide +kernel
theorem dX12_contract_40 : decode cX12_contract 40 = .ok (.iload 4, 2) := by decide +kernel
theorem dX12_contract_42 : decode cX12_contract 42 = .ok (.iconst 0, 1) := by decide +kernel
theorem dX12_contract_43 : decode cX12_contract 43 = .ok (.sipush 200, 3) := by decide +kernel
theorem dX12_contract_46 : decode cX12_contract 46 = .ok (.invokestatic 197, 3) := by decide +kernel
theorem dX12_contract_49 : decode cX12_contract 49 = .ok (.ifCond .ne 7, 3) := by decide +kernel
theorem dX12_contract_52 : decode cX12_contract 52 = .ok (.iconst 1, 1) := by decide +kernel
theorem dX12_contract_53 : decode cX12_contract 53 = .ok (.goto 4, 3) := by decide +kernel
theorem dX12_contract_56 : decode cX12_contract 56 = .ok (.iconst 0, 1) := by decide +kernel
theorem dX12_contract_57 : decode cX12_contract 57 = .ok (.iconst 2, 1) := by decide +kernel
theorem dX12_contract_58 : decode cX12_contract 58 = .ok (.invokevirtual 224, 3) := by decide +kernel
theorem dX12_contract_61 : decode cX12_contract 61 = .ok (.ifCond .ne 24, 3) := by decide +kernel
theorem dX12_contract_64 : decode cX12_contract 64 = .ok (.aload_n 0, 1) := by decide +kernel
theorem dX12_contract_65 : decode cX12_contract 65 = .ok (.aload_n 0, 1) := by decide +kernel
theorem dX12_contract_66 : decode cX12_contract 66 = .ok (.iload_n 1, 1) := by decide +kernel
theorem dX12_contract_67 : decode cX12_contract 67 = .ok (.invokevirtual 272, 3) := by decide +kernel
theorem dX12_contract_70 : decode cX12_contract 70 = .ok (.ifCond .ne 7, 3) := by decide +kernel
theorem dX12_contract_73 : decode cX12_contract 73 = .ok (.iconst 1, 1) := by decide +kernel
theorem dX12_contract_74 : decode cX12_contract 74 = .ok (.goto 4, 3) := by decide +kernel
theorem dX12_contract_77 : decode cX12_contract 77 = .ok (.iconst 0, 1) := by decide +kernel
theorem dX12_contract_78 : decode cX12_contract 78 = .ok (.iconst 3, 1) := by decide +kernel
theorem dX12_contract_79 : decode cX12_contract 79 = .ok (.invokevirtual 224, 3) := by decide +kernel
theorem dX12_contract_82 : decode cX12_contract 82 = .ok (.ifCond .eq 5, 3) := by decide +kernel
theorem dX12_contract_85 : decode cX12_contract 85 = .ok (.iconst 0, 1) := by decide +kernel
theorem dX12_contract_86 : decode cX12_contract 86 = .ok (.ireturn, 1) := by decide +kernel
theorem dX12_contract_87 : decode cX12_contract 87 = .ok (.aload_n 0, 1) := by decide +kernel
theorem dX12_contract_88 : decode cX12_contract 88 = .ok (.getfield 533, 3) := by decide +kernel
theorem dX12_contract_91 : decode cX12_contract 91 = .ok (.bipush 40, 2) := by decide +kernel
theorem dX12_contract_93 : decode cX12_contract 93 = .ok (.if_icmp .ne 5, 3) := by decide +kernel
theorem dX12_contract_96 : decode cX12_contract 96 = .ok (.iconst (-1), 1) := by decide +kernel
theorem dX12_contract_97 : decode cX12_contract 97 = .ok (.ireturn, 1) := by decide +kernel
theorem dX12_contract_98 : decode cX12_contract 98 = .ok (.aload_n 0, 1) := by decide +kernel
theorem dX12_contract_99 : decode cX12_contract 99 = .ok (.getfield 137, 3) := by decide +kernel
theorem dX12_contract_102 : decode cX12_contract 102 = .ok (.aload_n 0, 1) := by decide +kernel
theorem dX12_contract_103 : decode cX12_contract 103 = .ok (.getfield 533, 3) := by decide +kernel
theorem dX12_contract_106 : decode cX12_contract 106 = .ok (.iload_n 1, 1) := by decide +kernel
theorem dX12_contract_107 : decode cX12_contract 107 = .ok (.iastore, 1) := by decide +kernel
theorem dX12_contract_108 : decode cX12_contract 108 = .ok (.aload_n 0, 1) := by decide +kernel
theorem dX12_contract_109 : decode cX12_contract 109 = .ok (.getfield 140, 3) := by decide +kernel
theorem dX12_contract_112 : decode cX12_contract 112 = .ok (.aload_n 0, 1) := by decide +kernel
theorem dX12_contract_113 : decode cX12_contract 113 = .ok (.getfield 533, 3) := by decide +kernel
theorem dX12_contract_116 : decode cX12_contract 116 = .ok (.iload_n 2, 1) := by decide +kernel
theorem dX12_contract_117 : decode cX12_contract 117 = .ok (.iastore, 1) := by decide +kernel
theorem dX12_contract_118 : decode cX12_contract 118 = .ok (.aload_n 0, 1) := by decide +kernel
theorem dX12_contract_119 : decode cX12_contract 119 = .ok (.getfield 143, 3) := by decide +kernel
theorem dX12_contract_122 : decode cX12_contract 122 = .ok (.aload_n 0, 1) := by decide +kernel
theorem dX12_contract_123 : decode cX12_contract 123 = .ok (.getfield 533, 3) := by decide +kernel
theorem dX12_contract_126 : decode cX12_contract 126 = .ok (.iload_n 3, 1) := by decide +kernel
theorem dX12_contract_127 : decode cX12_contract 127 = .ok (.iastore, 1) := by decide +kernel
theorem dX12_contract_128 : decode cX12_contract 128 = .ok (.aload_n 0, 1) := by decide +kernel
theorem dX12_contract_129 : decode cX12_contract 129 = .ok (.getfield 146, 3) := by decide +kernel
theorem dX12_contract_132 : decode cX12_contract 132 = .ok (.aload_n 0, 1) := by decide +kernel
theorem dX12_contract_133 : decode cX12_contract 133 = .ok (.getfield 533, 3) := by decide +kernel
theorem dX12_contract_136 : decode cX12_contract 136 = .ok (.iload 4, 2) := by decide +kernel
theorem dX12_contract_138 : decode cX12_contract 138 = .ok (.iastore, 1) := by decide +kernel
theorem dX12_contract_139 : decode cX12_contract 139 = .ok (.aload_n 0, 1) := by decide +kernel
theorem dX12_contract_140 : decode cX12_contract 140 = .ok (.getfield 152, 3) := by decide +kernel
theorem dX12_contract_143 : decode cX12_contract 143 = .ok (.aload_n 0, 1) := by decide +kernel
theorem dX12_contract_144 : decode cX12_contract 144 = .ok (.getfield 533, 3) := by decide +kernel
theorem dX12_contract_147 : decode cX12_contract 147 = .ok (.ldc_w 538, 3) := by decide +kernel
theorem dX12_contract_150 : decode cX12_contract 150 = .ok (.iastore, 1) := by decide +kernel
theorem dX12_contract_151 : decode cX12_contract 151 = .ok (.aload_n 0, 1) := by decide +kernel
theorem dX12_contract_152 : decode cX12_contract 152 = .ok (.dup, 1) := by decide +kernel
theorem dX12_contract_153 : decode cX12_contract 153 = .ok (.getfield 533, 3) := by decide +kernel
theorem dX12_contract_156 : decode cX12_contract 156 = .ok (.iconst 1, 1) := by decide +kernel
theorem dX12_contract_157 : decode cX12_contract 157 = .ok (.iadd, 1) := by decide +kernel
theorem dX12_contract_158 : decode cX12_contract 158 = .ok (.putfield 533, 3) := by decide +kernel
theorem dX12_contract_161 : decode cX12_contract 161 = .ok (.aload_n 0, 1) := by decide +kernel
theorem dX12_contract_162 : decode cX12_contract 162 = .ok (.getfield 533, 3) := by decide +kernel
theorem dX12_contract_165 : decode cX12_contract 165 = .ok (.iconst 1, 1) := by decide +kernel
theorem dX12_contract_166 : decode cX12_contract 166 = .ok (.isub, 1) := by decide +kernel
theorem dX12_contract_167 : decode cX12_contract 167 = .ok (.ireturn, 1) := by decide +kernel
theorem dX12_count_0 : decode cX12_count 0 = .ok (.aload_n 0, 1) := by decide +kernel
theorem dX12_count_1 : decode cX12_count 1 = .ok (.iconst 0, 1) := by decide +kernel
theorem dX12_count_2 : decode cX12_count 2 = .ok (.putfield 194, 3) := by decide +kernel
theorem dX12_count_5 : decode cX12_count 5 = .ok (.iconst 0, 1) := by decide +kernel
theorem dX12_count_6 : decode cX12_count 6 = .ok (.istore_n 2, 1) := by decide +kernel
theorem dX12_count_7 : decode cX12_count 7 = .ok (.iload_n 1, 1) := by decide +kernel
theorem dX12_count_8 : decode cX12_count 8 = .ok (.tableswitch 266 0 17 #[88, 93, 101, 110, 150, 158, 166, 173, 178, 183, 188, 193, 220, 225, 234, 243, 252, 261], 88) := by decide +kernel
theorem dX12_count_96 : decode cX12_count 96 = .ok (.aload_n 0, 1) := by decide +kernel
theorem dX12_count_97 : decode cX12_count 97 = .ok (.invokevirtual 228, 3) := by decide +kernel
theorem dX12_count_100 : decode cX12_count 100 = .ok (.ireturn, 1) := by decide +kernel
theorem dX12_count_101 : decode cX12_count 101 = .ok (.aload_n 0, 1) := by decide +kernel
theorem dX12_count_102 : decode cX12_count 102 = .ok (.invokevirtual 228, 3) := by decide +kernel
theorem dX12_count_105 : decode cX12_count 105 = .ok (.bipush 24, 2) := by decide +kernel
theorem dX12_count_107 : decode cX12_count 107 = .ok (.idiv, 1) := by decide +kernel
theorem dX12_count_108 : decode cX12_count 108 = .ok (.ireturn, 1) := by decide +kernel
theorem dX12_count_109 : decode cX12_count 109 = .ok (.aload_n 0, 1) := by decide +kernel
theorem dX12_count_110 : decode cX12_count 110 = .ok (.getfield 9, 3) := by decide +kernel
theorem dX12_count_113 : decode cX12_count 113 = .ok (.sipush 1428, 3) := by decide +kernel
theorem dX12_count_116 : decode cX12_count 116 = .ok (.iaload, 1) := by decide +kernel
theorem dX12_count_117 : decode cX12_count 117 = .ok (.ireturn, 1) := by decide +kernel
theorem dX12_count_118 : decode cX12_count 118 = .ok (.iconst 0, 1) := by decide +kernel
theorem dX12_count_119 : decode cX12_count 119 = .ok (.istore_n 3, 1) := by decide +kernel
theorem dX12_count_120 : decode cX12_count 120 = .ok (.iload_n 3, 1) := by decide +kernel
theorem dX12_count_121 : decode cX12_count 121 = .ok (.aload_n 0, 1) := by decide +kernel
theorem dX12_count_122 : decode cX12_count 122 = .ok (.getfield 9, 3) := by decide +kernel
theorem dX12_count_125 : decode cX12_count 125 = .ok (.sipush 1428, 3) := by decide +kernel
theorem dX12_count_128 : decode cX12_count 128 = .ok (.iaload, 1) := by decide +kernel
theorem dX12_count_129 : decode cX12_count 129 = .ok (.if_icmp .ge 27, 3) := by decide +kernel
theorem dX12_count_132 : decode cX12_count 132 = .ok (.iload_n 2, 1) := by decide +kernel
theorem dX12_count_133 : decode cX12_count 133 = .ok (.aload_n 0, 1) := by decide +kernel
theorem dX12_count_134 : decode cX12_count 134 = .ok (.iload_n 3, 1) := by decide +kernel
theorem dX12_count_135 : decode cX12_count 135 = .ok (.iconst 0, 1) := by decide +kernel
theorem dX12_count_136 : decode cX12_count 136 = .ok (.invokevirtual 217, 3) := by decide +kernel
theorem dX12_count_139 : decode cX12_count 139 = .ok (.iconst 1, 1) := by decide +kernel
theorem dX12_count_140 : decode cX12_count 140 = .ok (.if_icmp .ne 7, 3) := by decide +kernel
theorem dX12_count_143 : decode cX12_count 143 = .ok (.iconst 1, 1) := by decide +kernel
theorem dX12_count_144 : decode cX12_count 144 = .ok (.goto 4, 3) := by decide +kernel
theorem dX12_count_147 : decode cX12_count 147 = .ok (.iconst 0, 1) := by decide +kernel
theorem dX12_count_148 : decode cX12_count 148 = .ok (.iadd, 1) := by decide +kernel
theorem dX12_count_149 : decode cX12_count 149 = .ok (.istore_n 2, 1) := by decide +kernel
theorem dX12_count_150 : decode cX12_count 150 = .ok (.iinc 3 1, 3) := by decide +kernel
theorem dX12_count_153 : decode cX12_count 153 = .ok (.goto (-33), 3) := by decide +kernel
theorem dX12_count_156 : decode cX12_count 156 = .ok (.iload_n 2, 1) := by decide +kernel
theorem dX12_count_157 : decode cX12_count 157 = .ok (.ireturn, 1) := by decide +kernel
theorem dX12_count_158 : decode cX12_count 158 = .ok (.aload_n 0, 1) := by decide +kernel
theorem dX12_count_159 : decode cX12_count 159 = .ok (.sipush 384, 3) := by decide +kernel
theorem dX12_count_162 : decode cX12_count 162 = .ok (.invokevirtual 563, 3) := by decide +kernel
theorem dX12_count_165 : decode cX12_count 165 = .ok (.ireturn, 1) := by decide +kernel
theorem dX12_count_166 : decode cX12_count 166 = .ok (.aload_n 0, 1) := by decide +kernel
theorem dX12_count_167 : decode cX12_count 167 = .ok (.sipush 480, 3) := by decide +kernel
theorem dX12_count_170 : decode cX12_count 170 = .ok (.invokevirtual 563, 3) := by decide +kernel
theorem dX12_count_173 : decode cX12_count 173 = .ok (.ireturn, 1) := by decide +kernel
theorem dX12_count_174 : decode cX12_count 174 = .ok (.aload_n 0, 1) := by decide +kernel
theorem dX12_count_175 : decode cX12_count 175 = .ok (.getfield 42, 3) := by decide +kernel
theorem dX12_count_178 : decode cX12_count 178 = .ok (.iconst 0, 1) := by decide +kernel
theorem dX12_count_179 : decode cX12_count 179 = .ok (.iaload, 1) := by decide +kernel
theorem dX12_count_180 : decode cX12_count 180 = .ok (.ireturn, 1) := by decide +kernel
theorem dX12_count_181 : decode cX12_count 181 = .ok (.aload_n 0, 1) := by decide +kernel
theorem dX12_count_182 : decode cX12_count 182 = .ok (.getfield 495, 3) := by decide +kernel
theorem dX12_count_185 : decode cX12_count 185 = .ok (.ireturn, 1) := by decide +kernel
theorem dX12_count_186 : decode cX12_count 186 = .ok (.aload_n 0, 1) := by decide +kernel
theorem dX12_count_187 : decode cX12_count 187 = .ok (.invokevirtual 460, 3) := by decide +kernel
theorem dX12_count_190 : decode cX12_count 190 = .ok (.ireturn, 1) := by decide +kernel
theorem dX12_count_191 : decode cX12_count 191 = .ok (.aload_n 0, 1) := by decide +kernel
theorem dX12_count_192 : decode cX12_count 192 = .ok (.getfield 498, 3) := by decide +kernel
theorem dX12_count_195 : decode cX12_count 195 = .ok (.ireturn, 1) := by decide +kernel
theorem dX12_count_196 : decode cX12_count 196 = .ok (.aload_n 0, 1) := by decide +kernel
theorem dX12_count_197 : decode cX12_count 197 = .ok (.getfield 519, 3) := by decide +kernel
theorem dX12_count_200 : decode cX12_count 200 = .ok (.ireturn, 1) := by decide +kernel
theorem dX12_count_201 : decode cX12_count 201 = .ok (.iconst 0, 1) := by decide +kernel
theorem dX12_count_202 : decode cX12_count 202 = .ok (.istore_n 3, 1) := by decide +kernel
theorem dX12_count_203 : decode cX12_count 203 = .ok (.iload_n 3, 1) := by decide +kernel
theorem dX12_count_204 : decode cX12_count 204 = .ok (.aload_n 0, 1) := by decide +kernel
theorem dX12_count_205 : decode cX12_count 205 = .ok (.getfield 495, 3) := by decide +kernel
theorem dX12_count_208 : decode cX12_count 208 = .ok (.if_icmp .ge 18, 3) := by decide +kernel
theorem dX12_count_211 : decode cX12_count 211 = .ok (.iload_n 2, 1) := by decide +kernel
theorem dX12_count_212 : decode cX12_count 212 = .ok (.aload_n 0, 1) := by decide +kernel
theorem dX12_count_213 : decode cX12_count 213 = .ok (.getfield 107, 3) := by decide +kernel
theorem dX12_count_216 : decode cX12_count 216 = .ok (.iload_n 3, 1) := by decide +kernel
theorem dX12_count_217 : decode cX12_count 217 = .ok (.iaload, 1) := by decide +kernel
theorem dX12_count_218 : decode cX12_count 218 = .ok (.iadd, 1) := by decide +kernel
theorem dX12_count_219 : decode cX12_count 219 = .ok (.istore_n 2, 1) := by decide +kernel
theorem dX12_count_220 : decode cX12_count 220 = .ok (.iinc 3 1, 3) := by decide +kernel
theorem dX12_count_223 : decode cX12_count 223 = .ok (.goto (-20), 3) := by decide +kernel
theorem dX12_count_226 : decode cX12_count 226 = .ok (.iload_n 2, 1) := by decide +kernel
theorem dX12_count_227 : decode cX12_count 227 = .ok (.ireturn, 1) := by decide +kernel
theorem dX12_count_228 : decode cX12_count 228 = .ok (.aload_n 0, 1) := by decide +kernel
theorem dX12_count_229 : decode cX12_count 229 = .ok (.getfield 533, 3) := by decide +kernel
theorem dX12_count_232 : decode cX12_count 232 = .ok (.ireturn, 1) := by decide +kernel
theorem dX12_count_233 : decode cX12_count 233 = .ok (.aload_n 0, 1) := by decide +kernel
theorem dX12_count_234 : decode cX12_count 234 = .ok (.getfield 9, 3) := by decide +kernel
theorem dX12_count_237 : decode cX12_count 237 = .ok (.sipush 1745, 3) := by decide +kernel
theorem dX12_count_240 : decode cX12_count 240 = .ok (.iaload, 1) := by decide +kernel
theorem dX12_count_241 : decode cX12_count 241 = .ok (.ireturn, 1) := by decide +kernel
theorem dX12_count_242 : decode cX12_count 242 = .ok (.aload_n 0, 1) := by decide +kernel
theorem dX12_count_243 : decode cX12_count 243 = .ok (.getfield 9, 3) := by decide +kernel
theorem dX12_count_246 : decode cX12_count 246 = .ok (.sipush 1746, 3) := by decide +kernel
theorem dX12_count_249 : decode cX12_count 249 = .ok (.iaload, 1) := by decide +kernel
theorem dX12_count_250 : decode cX12_count 250 = .ok (.ireturn, 1) := by decide +kernel
theorem dX12_count_251 : decode cX12_count 251 = .ok (.aload_n 0, 1) := by decide +kernel
theorem dX12_count_252 : decode cX12_count 252 = .ok (.getfield 9, 3) := by decide +kernel
theorem dX12_count_255 : decode cX12_count 255 = .ok (.sipush 1747, 3) := by decide +kernel
theorem dX12_count_258 : decode cX12_count 258 = .ok (.iaload, 1) := by decide +kernel
theorem dX12_count_259 : decode cX12_count 259 = .ok (.ireturn, 1) := by decide +kernel
theorem dX12_count_260 : decode cX12_count 260 = .ok (.aload_n 0, 1) := by decide +kernel
theorem dX12_count_261 : decode cX12_count 261 = .ok (.getfield 9, 3) := by decide +kernel
theorem dX12_count_264 : decode cX12_count 264 = .ok (.sipush 1748, 3) := by decide +kernel
theorem dX12_count_267 : decode cX12_count 267 = .ok (.iaload, 1) := by decide +kernel
theorem dX12_count_268 : decode cX12_count 268 = .ok (.ireturn, 1) := by decide +kernel
theorem dX12_count_269 : decode cX12_count 269 = .ok (.aload_n 0, 1) := by decide +kernel
theorem dX12_count_270 : decode cX12_count 270 = .ok (.getfield 238, 3) := by decide +kernel
theorem dX12_count_273 : decode cX12_count 273 = .ok (.ireturn, 1) := by decide +kernel
theorem dX12_count_274 : decode cX12_count 274 = .ok (.iconst (-1), 1) := by decide +kernel
theorem dX12_count_275 : decode cX12_count 275 = .ok (.ireturn, 1) := by decide +kernel
theorem dX12_crest_0 : decode cX12_crest 0 = .ok (.aload_n 0, 1) := by decide +kernel
theorem dX12_crest_1 : decode cX12_crest 1 = .ok (.getfield 9, 3) := by decide +kernel
theorem dX12_crest_4 : decode cX12_crest 4 = .ok (.bipush 96, 2) := by decide +kernel
theorem dX12_crest_6 : decode cX12_crest 6 = .ok (.aload_n 0, 1) := by decide +kernel
theorem dX12_crest_7 : decode cX12_crest 7 = .ok (.iload_n 1, 1) := by decide +kernel
theorem dX12_crest_8 : decode cX12_crest 8 = .ok (.iconst 1, 1) := by decide +kernel
theorem dX12_crest_9 : decode cX12_crest 9 = .ok (.invokevirtual 217, 3) := by decide +kernel
theorem dX12_crest_12 : decode cX12_crest 12 = .ok (.iadd, 1) := by decide +kernel
theorem dX12_crest_13 : decode cX12_crest 13 = .ok (.iaload, 1) := by decide +kernel
theorem dX12_crest_14 : decode cX12_crest 14 = .ok (.istore_n 2, 1) := by decide +kernel
theorem dX12_crest_15 : decode cX12_crest 15 = .ok (.iconst 0, 1) := by decide +kernel
theorem dX12_crest_16 : decode cX12_crest 16 = .ok (.istore_n 3, 1) := by decide +kernel
theorem dX12_crest_17 : decode cX12_crest 17 = .ok (.iload_n 3, 1) := by decide +kernel
theorem dX12_crest_18 : decode cX12_crest 18 = .ok (.aload_n 0, 1) := by decide +kernel
theorem dX12_crest_19 : decode cX12_crest 19 = .ok (.iload_n 1, 1) := by decide +kernel
theorem dX12_crest_20 : decode cX12_crest 20 = .ok (.iconst 4, 1) := by decide +kernel
theorem dX12_crest_21 : decode cX12_crest 21 = .ok (.invokevirtual 217, 3) := by decide +kernel
theorem dX12_crest_24 : decode cX12_crest 24 = .ok (.if_icmp .ge 20, 3) := by decide +kernel
theorem dX12_crest_27 : decode cX12_crest 27 = .ok (.iload_n 2, 1) := by decide +kernel
theorem dX12_crest_28 : decode cX12_crest 28 = .ok (.aload_n 0, 1) := by decide +kernel
theorem dX12_crest_29 : decode cX12_crest 29 = .ok (.iload_n 1, 1) := by decide +kernel
theorem dX12_crest_30 : decode cX12_crest 30 = .ok (.iconst 5, 1) := by decide +kernel
theorem dX12_crest_31 : decode cX12_crest 31 = .ok (.iload_n 3, 1) := by decide +kernel
theorem dX12_crest_32 : decode cX12_crest 32 = .ok (.iadd, 1) := by decide +kernel
theorem dX12_crest_33 : decode cX12_crest 33 = .ok (.invokevirtual 217, 3) := by decide +kernel
theorem dX12_crest_36 : decode cX12_crest 36 = .ok (.iadd, 1) := by decide +kernel
theorem dX12_crest_37 : decode cX12_crest 37 = .ok (.istore_n 2, 1) := by decide +kernel
theorem dX12_crest_38 : decode cX12_crest 38 = .ok (.iinc 3 1, 3) := by decide +kernel
theorem dX12_crest_41 : decode cX12_crest 41 = .ok (.goto (-24), 3) := by decide +kernel
theorem dX12_crest_44 : decode cX12_crest 44 = .ok (.iload_n 2, 1) := by decide +kernel
theorem dX12_crest_45 : decode cX12_crest 45 = .ok (.ireturn, 1) := by decide +kernel
theorem dX12_duesOf_0 : decode cX12_duesOf 0 = .ok (.aload_n 0, 1) := by decide +kernel
theorem dX12_duesOf_1 : decode cX12_duesOf 1 = .ok (.iload_n 1, 1) := by decide +kernel
theorem dX12_duesOf_2 : decode cX12_duesOf 2 = .ok (.iconst 0, 1) := by decide +kernel
theorem dX12_duesOf_3 : decode cX12_duesOf 3 = .ok (.invokevirtual 480, 3) := by decide +kernel
theorem dX12_duesOf_6 : decode cX12_duesOf 6 = .ok (.aload_n 0, 1) := by decide +kernel
theorem dX12_duesOf_7 : decode cX12_duesOf 7 = .ok (.iload_n 1, 1) := by decide +kernel
theorem dX12_duesOf_8 : decode cX12_duesOf 8 = .ok (.iconst 1, 1) := by decide +kernel
theorem dX12_duesOf_9 : decode cX12_duesOf 9 = .ok (.invokevirtual 480, 3) := by decide +kernel
theorem dX12_duesOf_12 : decode cX12_duesOf 12 = .ok (.aload_n 0, 1) := by decide +kernel
theorem dX12_duesOf_13 : decode cX12_duesOf 13 = .ok (.getfield 104, 3) := by decide +kernel
theorem dX12_duesOf_16 : decode cX12_duesOf 16 = .ok (.iload_n 1, 1) := by decide +kernel
theorem dX12_duesOf_17 : decode cX12_duesOf 17 = .ok (.iaload, 1) := by decide +kernel
theorem dX12_duesOf_18 : decode cX12_duesOf 18 = .ok (.i2l, 1) := by decide +kernel
theorem dX12_duesOf_19 : decode cX12_duesOf 19 = .ok (.lmul, 1) := by decide +kernel
theorem dX12_duesOf_20 : decode cX12_duesOf 20 = .ok (.ldc2_w 484, 3) := by decide +kernel
theorem dX12_duesOf_23 : decode cX12_duesOf 23 = .ok (.ldiv, 1) := by decide +kernel
theorem dX12_duesOf_24 : decode cX12_duesOf 24 = .ok (.ladd, 1) := by decide +kernel
theorem dX12_duesOf_25 : decode cX12_duesOf 25 = .ok (.l2i, 1) := by decide +kernel
theorem dX12_duesOf_26 : decode cX12_duesOf 26 = .ok (.ireturn, 1) := by decide +kernel
theorem dX12_fact_0 : decode cX12_fact 0 = .ok (.iload_n 0, 1) := by decide +kernel
theorem dX12_fact_1 : decode cX12_fact 1 = .ok (.tableswitch 87 0 8 #[51, 55, 59, 63, 67, 71, 75, 79, 83], 51) := by decide +kernel
theorem dX12_fact_52 : decode cX12_fact 52 = .ok (.ldc_w 369, 3) := by decide +kernel
theorem dX12_fact_55 : decode cX12_fact 55 = .ok (.areturn, 1) := by decide +kernel
theorem dX12_fact_56 : decode cX12_fact 56 = .ok (.ldc_w 371, 3) := by decide +kernel
theorem dX12_fact_59 : decode cX12_fact 59 = .ok (.areturn, 1) := by decide +kernel
theorem dX12_fact_60 : decode cX12_fact 60 = .ok (.ldc_w 372, 3) := by decide +kernel
theorem dX12_fact_63 : decode cX12_fact 63 = .ok (.areturn, 1) := by decide +kernel
theorem dX12_fact_64 : decode cX12_fact 64 = .ok (.ldc_w 373, 3) := by decide +kernel
theorem dX12_fact_67 : decode cX12_fact 67 = .ok (.areturn, 1) := by decide +kernel
theorem dX12_fact_68 : decode cX12_fact 68 = .ok (.ldc_w 374, 3) := by decide +kernel
theorem dX12_fact_71 : decode cX12_fact 71 = .ok (.areturn, 1) := by decide +kernel
theorem dX12_fact_72 : decode cX12_fact 72 = .ok (.ldc_w 375, 3) := by decide +kernel
theorem dX12_fact_75 : decode cX12_fact 75 = .ok (.areturn, 1) := by decide +kernel
theorem dX12_fact_76 : decode cX12_fact 76 = .ok (.ldc_w 376, 3) := by decide +kernel
theorem dX12_fact_79 : decode cX12_fact 79 = .ok (.areturn, 1) := by decide +kernel
theorem dX12_fact_80 : decode cX12_fact 80 = .ok (.ldc_w 378, 3) := by decide +kernel
theorem dX12_fact_83 : decode cX12_fact 83 = .ok (.areturn, 1) := by decide +kernel
theorem dX12_fact_84 : decode cX12_fact 84 = .ok (.ldc_w 380, 3) := by decide +kernel
theorem dX12_fact_87 : decode cX12_fact 87 = .ok (.areturn, 1) := by decide +kernel
theorem dX12_fact_88 : decode cX12_fact 88 = .ok (.ldc_w 382, 3) := by decide +kernel
theorem dX12_fact_91 : decode cX12_fact 91 = .ok (.areturn, 1) := by decide +kernel
theorem dX12_farm_0 : decode cX12_farm 0 = .ok (.aload_n 0, 1) := by decide +kernel
theorem dX12_farm_1 : decode cX12_farm 1 = .ok (.iconst 0, 1) := by decide +kernel
theorem dX12_farm_2 : decode cX12_farm 2 = .ok (.putfield 194, 3) := by decide +kernel
theorem dX12_farm_5 : decode cX12_farm 5 = .ok (.aload_n 0, 1) := by decide +kernel
theorem dX12_farm_6 : decode cX12_farm 6 = .ok (.iload_n 1, 1) := by decide +kernel
theorem dX12_farm_7 : decode cX12_farm 7 = .ok (.invokestatic 220, 3) := by decide +kernel
theorem dX12_farm_10 : decode cX12_farm 10 = .ok (.ifCond .ne 10, 3) := by decide +kernel
theorem dX12_farm_13 : decode cX12_farm 13 = .ok (.iload_n 2, 1) := by decide +kernel
theorem dX12_farm_14 : decode cX12_farm 14 = .ok (.invokestatic 220, 3) := by decide +kernel
theorem dX12_farm_17 : decode cX12_farm 17 = .ok (.ifCond .eq 7, 3) := by decide +kernel
theorem dX12_farm_20 : decode cX12_farm 20 = .ok (.iconst 1, 1) := by decide +kernel
theorem dX12_farm_21 : decode cX12_farm 21 = .ok (.goto 4, 3) := by decide +kernel
theorem dX12_farm_24 : decode cX12_farm 24 = .ok (.iconst 0, 1) := by decide +kernel
theorem dX12_farm_25 : decode cX12_farm 25 = .ok (.iconst 1, 1) := by decide +kernel
theorem dX12_farm_26 : decode cX12_farm 26 = .ok (.invokevirtual 224, 3) := by decide +kernel
theorem dX12_farm_29 : decode cX12_farm 29 = .ok (.ifCond .ne 12, 3) := by decide +kernel
theorem dX12_farm_32 : decode cX12_farm 32 = .ok (.aload_n 0, 1) := by decide +kernel
theorem dX12_farm_33 : decode cX12_farm 33 = .ok (.getfield 498, 3) := by decide +kernel
theorem dX12_farm_36 : decode cX12_farm 36 = .ok (.bipush 30, 2) := by decide +kernel
theorem dX12_farm_38 : decode cX12_farm 38 = .ok (.if_icmp .ne 16, 3) := by decide +kernel
theorem dX12_farm_41 : decode cX12_farm 41 = .ok (.aload_n 0, 1) := by decide +kernel
theorem dX12_farm_42 : decode cX12_farm 42 = .ok (.getfield 194, 3) := by decide +kernel
theorem dX12_farm_45 : decode cX12_farm 45 = .ok (.ifCond .eq 7, 3) := by decide +kernel
theorem dX12_farm_48 : decode cX12_farm 48 = .ok (.iconst 0, 1) := by decide +kernel
theorem dX12_farm_49 : decode cX12_farm 49 = .ok (.goto 4, 3) := by decide +kernel
theorem dX12_farm_52 : decode cX12_farm 52 = .ok (.iconst (-1), 1) := by decide +kernel
theorem dX12_farm_53 : decode cX12_farm 53 = .ok (.ireturn, 1) := by decide +kernel
theorem dX12_farm_54 : decode cX12_farm 54 = .ok (.iconst 0, 1) := by decide +kernel
theorem dX12_farm_55 : decode cX12_farm 55 = .ok (.istore_n 3, 1) := by decide +kernel
theorem dX12_farm_56 : decode cX12_farm 56 = .ok (.iload_n 3, 1) := by decide +kernel
theorem dX12_farm_57 : decode cX12_farm 57 = .ok (.bipush 96, 2) := by decide +kernel
theorem dX12_farm_59 : decode cX12_farm 59 = .ok (.if_icmp .ge 36, 3) := by decide +kernel
theorem dX12_farm_62 : decode cX12_farm 62 = .ok (.iload_n 3, 1) := by decide +kernel
theorem dX12_farm_63 : decode cX12_farm 63 = .ok (.iload_n 1, 1) := by decide +kernel
theorem dX12_farm_64 : decode cX12_farm 64 = .ok (.iload_n 2, 1) := by decide +kernel
theorem dX12_farm_65 : decode cX12_farm 65 = .ok (.invokestatic 232, 3) := by decide +kernel
theorem dX12_farm_68 : decode cX12_farm 68 = .ok (.ifCond .eq 21, 3) := by decide +kernel
theorem dX12_farm_71 : decode cX12_farm 71 = .ok (.aload_n 0, 1) := by decide +kernel
theorem dX12_farm_72 : decode cX12_farm 72 = .ok (.iload_n 3, 1) := by decide +kernel
theorem dX12_farm_73 : decode cX12_farm 73 = .ok (.invokevirtual 235, 3) := by decide +kernel
theorem dX12_farm_76 : decode cX12_farm 76 = .ok (.ifCond .eq 11, 3) := by decide +kernel
theorem dX12_farm_79 : decode cX12_farm 79 = .ok (.aload_n 0, 1) := by decide +kernel
theorem dX12_farm_80 : decode cX12_farm 80 = .ok (.iload_n 3, 1) := by decide +kernel
theorem dX12_farm_81 : decode cX12_farm 81 = .ok (.invokevirtual 329, 3) := by decide +kernel
theorem dX12_farm_84 : decode cX12_farm 84 = .ok (.ifCond .lt 5, 3) := by decide +kernel
theorem dX12_farm_87 : decode cX12_farm 87 = .ok (.iconst (-1), 1) := by decide +kernel
theorem dX12_farm_88 : decode cX12_farm 88 = .ok (.ireturn, 1) := by decide +kernel
theorem dX12_farm_89 : decode cX12_farm 89 = .ok (.iinc 3 1, 3) := by decide +kernel
theorem dX12_farm_92 : decode cX12_farm 92 = .ok (.goto (-36), 3) := by decide +kernel
theorem dX12_farm_95 : decode cX12_farm 95 = .ok (.aload_n 0, 1) := by decide +kernel
theorem dX12_farm_96 : decode cX12_farm 96 = .ok (.getfield 113, 3) := by decide +kernel
theorem dX12_farm_99 : decode cX12_farm 99 = .ok (.aload_n 0, 1) := by decide +kernel
theorem dX12_farm_100 : decode cX12_farm 100 = .ok (.getfield 498, 3) := by decide +kernel
theorem dX12_farm_103 : decode cX12_farm 103 = .ok (.iload_n 1, 1) := by decide +kernel
theorem dX12_farm_104 : decode cX12_farm 104 = .ok (.iastore, 1) := by decide +kernel
theorem dX12_farm_105 : decode cX12_farm 105 = .ok (.aload_n 0, 1) := by decide +kernel
theorem dX12_farm_106 : decode cX12_farm 106 = .ok (.getfield 116, 3) := by decide +kernel
theorem dX12_farm_109 : decode cX12_farm 109 = .ok (.aload_n 0, 1) := by decide +kernel
theorem dX12_farm_110 : decode cX12_farm 110 = .ok (.getfield 498, 3) := by decide +kernel
theorem dX12_farm_113 : decode cX12_farm 113 = .ok (.iload_n 2, 1) := by decide +kernel
theorem dX12_farm_114 : decode cX12_farm 114 = .ok (.iastore, 1) := by decide +kernel
theorem dX12_farm_115 : decode cX12_farm 115 = .ok (.aload_n 0, 1) := by decide +kernel
theorem dX12_farm_116 : decode cX12_farm 116 = .ok (.getfield 122, 3) := by decide +kernel
theorem dX12_farm_119 : decode cX12_farm 119 = .ok (.aload_n 0, 1) := by decide +kernel
theorem dX12_farm_120 : decode cX12_farm 120 = .ok (.getfield 498, 3) := by decide +kernel
theorem dX12_farm_123 : decode cX12_farm 123 = .ok (.iconst (-1), 1) := by decide +kernel
theorem dX12_farm_124 : decode cX12_farm 124 = .ok (.iastore, 1) := by decide +kernel
theorem dX12_farm_125 : decode cX12_farm 125 = .ok (.aload_n 0, 1) := by decide +kernel
theorem dX12_farm_126 : decode cX12_farm 126 = .ok (.dup, 1) := by decide +kernel
theorem dX12_farm_127 : decode cX12_farm 127 = .ok (.getfield 498, 3) := by decide +kernel
theorem dX12_farm_130 : decode cX12_farm 130 = .ok (.iconst 1, 1) := by decide +kernel
theorem dX12_farm_131 : decode cX12_farm 131 = .ok (.iadd, 1) := by decide +kernel
theorem dX12_farm_132 : decode cX12_farm 132 = .ok (.putfield 498, 3) := by decide +kernel
theorem dX12_farm_135 : decode cX12_farm 135 = .ok (.aload_n 0, 1) := by decide +kernel
theorem dX12_farm_136 : decode cX12_farm 136 = .ok (.getfield 498, 3) := by decide +kernel
theorem dX12_farm_139 : decode cX12_farm 139 = .ok (.iconst 1, 1) := by decide +kernel
theorem dX12_farm_140 : decode cX12_farm 140 = .ok (.isub, 1) := by decide +kernel
theorem dX12_farm_141 : decode cX12_farm 141 = .ok (.ireturn, 1) := by decide +kernel
theorem dX12_init_0 : decode cX12_init 0 = .ok (.aload_n 0, 1) := by decide +kernel
theorem dX12_init_1 : decode cX12_init 1 = .ok (.invokespecial 1, 3) := by decide +kernel
theorem dX12_init_4 : decode cX12_init 4 = .ok (.aload_n 0, 1) := by decide +kernel
theorem dX12_init_5 : decode cX12_init 5 = .ok (.sipush 1749, 3) := by decide +kernel
theorem dX12_init_8 : decode cX12_init 8 = .ok (.newarray .int, 2) := by decide +kernel
theorem dX12_init_10 : decode cX12_init 10 = .ok (.putfield 9, 3) := by decide +kernel
theorem dX12_init_13 : decode cX12_init 13 = .ok (.aload_n 0, 1) := by decide +kernel
theorem dX12_init_14 : decode cX12_init 14 = .ok (.sipush 1749, 3) := by decide +kernel
theorem dX12_init_17 : decode cX12_init 17 = .ok (.newarray .int, 2) := by decide +kernel
theorem dX12_init_19 : decode cX12_init 19 = .ok (.putfield 13, 3) := by decide +kernel
theorem dX12_init_22 : decode cX12_init 22 = .ok (.aload_n 0, 1) := by decide +kernel
theorem dX12_init_23 : decode cX12_init 23 = .ok (.bipush 96, 2) := by decide +kernel
theorem dX12_init_25 : decode cX12_init 25 = .ok (.newarray .int, 2) := by decide +kernel
theorem dX12_init_27 : decode cX12_init 27 = .ok (.putfield 16, 3) := by decide +kernel
theorem dX12_init_30 : decode cX12_init 30 = .ok (.aload_n 0, 1) := by decide +kernel
theorem dX12_init_31 : decode cX12_init 31 = .ok (.bipush 96, 2) := by decide +kernel
theorem dX12_init_33 : decode cX12_init 33 = .ok (.newarray .int, 2) := by decide +kernel
theorem dX12_init_35 : decode cX12_init 35 = .ok (.putfield 19, 3) := by decide +kernel
theorem dX12_init_38 : decode cX12_init 38 = .ok (.aload_n 0, 1) := by decide +kernel
theorem dX12_init_39 : decode cX12_init 39 = .ok (.bipush 96, 2) := by decide +kernel
theorem dX12_init_41 : decode cX12_init 41 = .ok (.newarray .int, 2) := by decide +kernel
theorem dX12_init_43 : decode cX12_init 43 = .ok (.putfield 22, 3) := by decide +kernel
theorem dX12_init_46 : decode cX12_init 46 = .ok (.aload_n 0, 1) := by decide +kernel
theorem dX12_init_47 : decode cX12_init 47 = .ok (.sipush 2304, 3) := by decide +kernel
theorem dX12_init_50 : decode cX12_init 50 = .ok (.newarray .int, 2) := by decide +kernel
theorem dX12_init_52 : decode cX12_init 52 = .ok (.putfield 25, 3) := by decide +kernel
theorem dX12_init_55 : decode cX12_init 55 = .ok (.aload_n 0, 1) := by decide +kernel
theorem dX12_init_56 : decode cX12_init 56 = .ok (.sipush 2304, 3) := by decide +kernel
theorem dX12_init_59 : decode cX12_init 59 = .ok (.newarray .int, 2) := by decide +kernel
theorem dX12_init_61 : decode cX12_init 61 = .ok (.putfield 28, 3) := by decide +kernel
theorem dX12_init_64 : decode cX12_init 64 = .ok (.aload_n 0, 1) := by decide +kernel
theorem dX12_init_65 : decode cX12_init 65 = .ok (.sipush 400, 3) := by decide +kernel
theorem dX12_init_68 : decode cX12_init 68 = .ok (.newarray .byte, 2) := by decide +kernel
theorem dX12_init_70 : decode cX12_init 70 = .ok (.putfield 31, 3) := by decide +kernel
theorem dX12_init_73 : decode cX12_init 73 = .ok (.aload_n 0, 1) := by decide +kernel
theorem dX12_init_74 : decode cX12_init 74 = .ok (.iconst (-1), 1) := by decide +kernel
theorem dX12_init_75 : decode cX12_init 75 = .ok (.putfield 35, 3) := by decide +kernel
theorem dX12_init_78 : decode cX12_init 78 = .ok (.aload_n 0, 1) := by decide +kernel
theorem dX12_init_79 : decode cX12_init 79 = .ok (.iconst 5, 1) := by decide +kernel
theorem dX12_init_80 : decode cX12_init 80 = .ok (.newarray .int, 2) := by decide +kernel
theorem dX12_init_82 : decode cX12_init 82 = .ok (.putfield 39, 3) := by decide +kernel
theorem dX12_init_85 : decode cX12_init 85 = .ok (.aload_n 0, 1) := by decide +kernel
theorem dX12_init_86 : decode cX12_init 86 = .ok (.iconst 3, 1) := by decide +kernel
theorem dX12_init_87 : decode cX12_init 87 = .ok (.newarray .int, 2) := by decide +kernel
theorem dX12_init_89 : decode cX12_init 89 = .ok (.putfield 42, 3) := by decide +kernel
theorem dX12_init_92 : decode cX12_init 92 = .ok (.aload_n 0, 1) := by decide +kernel
theorem dX12_init_93 : decode cX12_init 93 = .ok (.bipush 60, 2) := by decide +kernel
theorem dX12_init_95 : decode cX12_init 95 = .ok (.newarray .int, 2) := by decide +kernel
theorem dX12_init_97 : decode cX12_init 97 = .ok (.putfield 45, 3) := by decide +kernel
theorem dX12_init_100 : decode cX12_init 100 = .ok (.aload_n 0, 1) := by decide +kernel
theorem dX12_init_101 : decode cX12_init 101 = .ok (.bipush 60, 2) := by decide +kernel
theorem dX12_init_103 : decode cX12_init 103 = .ok (.newarray .int, 2) := by decide +kernel
theorem dX12_init_105 : decode cX12_init 105 = .ok (.putfield 48, 3) := by decide +kernel
theorem dX12_init_108 : decode cX12_init 108 = .ok (.aload_n 0, 1) := by decide +kernel
theorem dX12_init_109 : decode cX12_init 109 = .ok (.bipush 60, 2) := by decide +kernel
theorem dX12_init_111 : decode cX12_init 111 = .ok (.newarray .int, 2) := by decide +kernel
theorem dX12_init_113 : decode cX12_init 113 = .ok (.putfield 51, 3) := by decide +kernel
theorem dX12_init_116 : decode cX12_init 116 = .ok (.aload_n 0, 1) := by decide +kernel
theorem dX12_init_117 : decode cX12_init 117 = .ok (.bipush 60, 2) := by decide +kernel
theorem dX12_init_119 : decode cX12_init 119 = .ok (.newarray .int, 2) := by decide +kernel
theorem dX12_init_121 : decode cX12_init 121 = .ok (.putfield 54, 3) := by decide +kernel
theorem dX12_init_124 : decode cX12_init 124 = .ok (.aload_n 0, 1) := by decide +kernel
theorem dX12_init_125 : decode cX12_init 125 = .ok (.bipush 60, 2) := by decide +kernel
theorem dX12_init_127 : decode cX12_init 127 = .ok (.newarray .int, 2) := by decide +kernel
theorem dX12_init_129 : decode cX12_init 129 = .ok (.putfield 57, 3) := by decide +kernel
theorem dX12_init_132 : decode cX12_init 132 = .ok (.aload_n 0, 1) := by decide +kernel
theorem dX12_init_133 : decode cX12_init 133 = .ok (.bipush 60, 2) := by decide +kernel
theorem dX12_init_135 : decode cX12_init 135 = .ok (.newarray .int, 2) := by decide +kernel
theorem dX12_init_137 : decode cX12_init 137 = .ok (.putfield 60, 3) := by decide +kernel
theorem dX12_init_140 : decode cX12_init 140 = .ok (.aload_n 0, 1) := by decide +kernel
theorem dX12_init_141 : decode cX12_init 141 = .ok (.bipush 60, 2) := by decide +kernel
theorem dX12_init_143 : decode cX12_init 143 = .ok (.newarray .int, 2) := by decide +kernel
theorem dX12_init_145 : decode cX12_init 145 = .ok (.putfield 63, 3) := by decide +kernel
theorem dX12_init_148 : decode cX12_init 148 = .ok (.aload_n 0, 1) := by decide +kernel
theorem dX12_init_149 : decode cX12_init 149 = .ok (.sipush 1200, 3) := by decide +kernel
theorem dX12_init_152 : decode cX12_init 152 = .ok (.newarray .int, 2) := by decide +kernel
theorem dX12_init_154 : decode cX12_init 154 = .ok (.putfield 66, 3) := by decide +kernel
theorem dX12_init_157 : decode cX12_init 157 = .ok (.aload_n 0, 1) := by decide +kernel
theorem dX12_init_158 : decode cX12_init 158 = .ok (.sipush 1200, 3) := by decide +kernel
theorem dX12_init_161 : decode cX12_init 161 = .ok (.newarray .int, 2) := by decide +kernel
theorem dX12_init_163 : decode cX12_init 163 = .ok (.putfield 69, 3) := by decide +kernel
theorem dX12_init_166 : decode cX12_init 166 = .ok (.aload_n 0, 1) := by decide +kernel
theorem dX12_init_167 : decode cX12_init 167 = .ok (.sipush 400, 3) := by decide +kernel
theorem dX12_init_170 : decode cX12_init 170 = .ok (.newarray .long, 2) := by decide +kernel
theorem dX12_init_172 : decode cX12_init 172 = .ok (.putfield 72, 3) := by decide +kernel
theorem dX12_init_175 : decode cX12_init 175 = .ok (.aload_n 0, 1) := by decide +kernel
theorem dX12_init_176 : decode cX12_init 176 = .ok (.bipush 10, 2) := by decide +kernel
theorem dX12_init_178 : decode cX12_init 178 = .ok (.newarray .long, 2) := by decide +kernel
theorem dX12_init_180 : decode cX12_init 180 = .ok (.putfield 76, 3) := by decide +kernel
theorem dX12_init_183 : decode cX12_init 183 = .ok (.aload_n 0, 1) := by decide +kernel
theorem dX12_init_184 : decode cX12_init 184 = .ok (.bipush 60, 2) := by decide +kernel
theorem dX12_init_186 : decode cX12_init 186 = .ok (.newarray .int, 2) := by decide +kernel
theorem dX12_init_188 : decode cX12_init 188 = .ok (.putfield 79, 3) := by decide +kernel
theorem dX12_init_191 : decode cX12_init 191 = .ok (.aload_n 0, 1) := by decide +kernel
theorem dX12_init_192 : decode cX12_init 192 = .ok (.bipush 60, 2) := by decide +kernel
theorem dX12_init_194 : decode cX12_init 194 = .ok (.newarray .int, 2) := by decide +kernel
theorem dX12_init_196 : decode cX12_init 196 = .ok (.putfield 82, 3) := by decide +kernel
theorem dX12_init_199 : decode cX12_init 199 = .ok (.aload_n 0, 1) := by decide +kernel
theorem dX12_init_200 : decode cX12_init 200 = .ok (.bipush 60, 2) := by decide +kernel
theorem dX12_init_202 : decode cX12_init 202 = .ok (.newarray .int, 2) := by decide +kernel
theorem dX12_init_204 : decode cX12_init 204 = .ok (.putfield 85, 3) := by decide +kernel
theorem dX12_init_207 : decode cX12_init 207 = .ok (.aload_n 0, 1) := by decide +kernel
theorem dX12_init_208 : decode cX12_init 208 = .ok (.bipush 60, 2) := by decide +kernel
theorem dX12_init_210 : decode cX12_init 210 = .ok (.newarray .int, 2) := by decide +kernel
theorem dX12_init_212 : decode cX12_init 212 = .ok (.putfield 88, 3) := by decide +kernel
theorem dX12_init_215 : decode cX12_init 215 = .ok (.aload_n 0, 1) := by decide +kernel
theorem dX12_init_216 : decode cX12_init 216 = .ok (.bipush 60, 2) := by decide +kernel
theorem dX12_init_218 : decode cX12_init 218 = .ok (.newarray .boolean, 2) := by decide +kernel
theorem dX12_init_220 : decode cX12_init 220 = .ok (.putfield 91, 3) := by decide +kernel
theorem dX12_init_223 : decode cX12_init 223 = .ok (.aload_n 0, 1) := by decide +kernel
theorem dX12_init_224 : decode cX12_init 224 = .ok (.bipush 60, 2) := by decide +kernel
theorem dX12_init_226 : decode cX12_init 226 = .ok (.newarray .boolean, 2) := by decide +kernel
theorem dX12_init_228 : decode cX12_init 228 = .ok (.putfield 95, 3) := by decide +kernel
theorem dX12_init_231 : decode cX12_init 231 = .ok (.aload_n 0, 1) := by decide +kernel
theorem dX12_init_232 : decode cX12_init 232 = .ok (.bipush 60, 2) := by decide +kernel
theorem dX12_init_234 : decode cX12_init 234 = .ok (.newarray .int, 2) := by decide +kernel
theorem dX12_init_236 : decode cX12_init 236 = .ok (.putfield 98, 3) := by decide +kernel
theorem dX12_init_239 : decode cX12_init 239 = .ok (.aload_n 0, 1) := by decide +kernel
theorem dX12_init_240 : decode cX12_init 240 = .ok (.bipush 60, 2) := by decide +kernel
theorem dX12_init_242 : decode cX12_init 242 = .ok (.newarray .int, 2) := by decide +kernel
theorem dX12_init_244 : decode cX12_init 244 = .ok (.putfield 101, 3) := by decide +kernel
theorem dX12_init_247 : decode cX12_init 247 = .ok (.aload_n 0, 1) := by decide +kernel
theorem dX12_init_248 : decode cX12_init 248 = .ok (.bipush 60, 2) := by decide +kernel
theorem dX12_init_250 : decode cX12_init 250 = .ok (.newarray .int, 2) := by decide +kernel
theorem dX12_init_252 : decode cX12_init 252 = .ok (.putfield 104, 3) := by decide +kernel
theorem dX12_init_255 : decode cX12_init 255 = .ok (.aload_n 0, 1) := by decide +kernel
theorem dX12_init_256 : decode cX12_init 256 = .ok (.bipush 60, 2) := by decide +kernel
theorem dX12_init_258 : decode cX12_init 258 = .ok (.newarray .int, 2) := by decide +kernel
theorem dX12_init_260 : decode cX12_init 260 = .ok (.putfield 107, 3) := by decide +kernel
theorem dX12_init_263 : decode cX12_init 263 = .ok (.aload_n 0, 1) := by decide +kernel
theorem dX12_init_264 : decode cX12_init 264 = .ok (.bipush 60, 2) := by decide +kernel
theorem dX12_init_266 : decode cX12_init 266 = .ok (.newarray .boolean, 2) := by decide +kernel
theorem dX12_init_268 : decode cX12_init 268 = .ok (.putfield 110, 3) := by decide +kernel
theorem dX12_init_271 : decode cX12_init 271 = .ok (.aload_n 0, 1) := by decide +kernel
theorem dX12_init_272 : decode cX12_init 272 = .ok (.bipush 30, 2) := by decide +kernel
theorem dX12_init_274 : decode cX12_init 274 = .ok (.newarray .int, 2) := by decide +kernel
theorem dX12_init_276 : decode cX12_init 276 = .ok (.putfield 113, 3) := by decide +kernel
theorem dX12_init_279 : decode cX12_init 279 = .ok (.aload_n 0, 1) := by decide +kernel
theorem dX12_init_280 : decode cX12_init 280 = .ok (.bipush 30, 2) := by decide +kernel
theorem dX12_init_282 : decode cX12_init 282 = .ok (.newarray .int, 2) := by decide +kernel
theorem dX12_init_284 : decode cX12_init 284 = .ok (.putfield 116, 3) := by decide +kernel
theorem dX12_init_287 : decode cX12_init 287 = .ok (.aload_n 0, 1) := by decide +kernel
theorem dX12_init_288 : decode cX12_init 288 = .ok (.bipush 30, 2) := by decide +kernel
theorem dX12_init_290 : decode cX12_init 290 = .ok (.newarray .int, 2) := by decide +kernel
theorem dX12_init_292 : decode cX12_init 292 = .ok (.putfield 119, 3) := by decide +kernel
theorem dX12_init_295 : decode cX12_init 295 = .ok (.aload_n 0, 1) := by decide +kernel
theorem dX12_init_296 : decode cX12_init 296 = .ok (.bipush 30, 2) := by decide +kernel
theorem dX12_init_298 : decode cX12_init 298 = .ok (.newarray .int, 2) := by decide +kernel
theorem dX12_init_300 : decode cX12_init 300 = .ok (.putfield 122, 3) := by decide +kernel
theorem dX12_init_303 : decode cX12_init 303 = .ok (.aload_n 0, 1) := by decide +kernel
theorem dX12_init_304 : decode cX12_init 304 = .ok (.iconst (-1), 1) := by decide +kernel
theorem dX12_init_305 : decode cX12_init 305 = .ok (.putfield 125, 3) := by decide +kernel
theorem dX12_init_308 : decode cX12_init 308 = .ok (.aload_n 0, 1) := by decide +kernel
theorem dX12_init_309 : decode cX12_init 309 = .ok (.bipush 60, 2) := by decide +kernel
theorem dX12_init_311 : decode cX12_init 311 = .ok (.newarray .long, 2) := by decide +kernel
theorem dX12_init_313 : decode cX12_init 313 = .ok (.putfield 128, 3) := by decide +kernel
theorem dX12_init_316 : decode cX12_init 316 = .ok (.aload_n 0, 1) := by decide +kernel
theorem dX12_init_317 : decode cX12_init 317 = .ok (.bipush 60, 2) := by decide +kernel
theorem dX12_init_319 : decode cX12_init 319 = .ok (.newarray .boolean, 2) := by decide +kernel
theorem dX12_init_321 : decode cX12_init 321 = .ok (.putfield 131, 3) := by decide +kernel
theorem dX12_init_324 : decode cX12_init 324 = .ok (.aload_n 0, 1) := by decide +kernel
theorem dX12_init_325 : decode cX12_init 325 = .ok (.bipush 60, 2) := by decide +kernel
theorem dX12_init_327 : decode cX12_init 327 = .ok (.newarray .boolean, 2) := by decide +kernel
theorem dX12_init_329 : decode cX12_init 329 = .ok (.putfield 134, 3) := by decide +kernel
theorem dX12_init_332 : decode cX12_init 332 = .ok (.aload_n 0, 1) := by decide +kernel
theorem dX12_init_333 : decode cX12_init 333 = .ok (.bipush 40, 2) := by decide +kernel
theorem dX12_init_335 : decode cX12_init 335 = .ok (.newarray .int, 2) := by decide +kernel
theorem dX12_init_337 : decode cX12_init 337 = .ok (.putfield 137, 3) := by decide +kernel
theorem dX12_init_340 : decode cX12_init 340 = .ok (.aload_n 0, 1) := by decide +kernel
theorem dX12_init_341 : decode cX12_init 341 = .ok (.bipush 40, 2) := by decide +kernel
theorem dX12_init_343 : decode cX12_init 343 = .ok (.newarray .int, 2) := by decide +kernel
theorem dX12_init_345 : decode cX12_init 345 = .ok (.putfield 140, 3) := by decide +kernel
theorem dX12_init_348 : decode cX12_init 348 = .ok (.aload_n 0, 1) := by decide +kernel
theorem dX12_init_349 : decode cX12_init 349 = .ok (.bipush 40, 2) := by decide +kernel
theorem dX12_init_351 : decode cX12_init 351 = .ok (.newarray .int, 2) := by decide +kernel
theorem dX12_init_353 : decode cX12_init 353 = .ok (.putfield 143, 3) := by decide +kernel
theorem dX12_init_356 : decode cX12_init 356 = .ok (.aload_n 0, 1) := by decide +kernel
theorem dX12_init_357 : decode cX12_init 357 = .ok (.bipush 40, 2) := by decide +kernel
theorem dX12_init_359 : decode cX12_init 359 = .ok (.newarray .int, 2) := by decide +kernel
theorem dX12_init_361 : decode cX12_init 361 = .ok (.putfield 146, 3) := by decide +kernel
theorem dX12_init_364 : decode cX12_init 364 = .ok (.aload_n 0, 1) := by decide +kernel
theorem dX12_init_365 : decode cX12_init 365 = .ok (.bipush 40, 2) := by decide +kernel
theorem dX12_init_367 : decode cX12_init 367 = .ok (.newarray .int, 2) := by decide +kernel
theorem dX12_init_369 : decode cX12_init 369 = .ok (.putfield 149, 3) := by decide +kernel
theorem dX12_init_372 : decode cX12_init 372 = .ok (.aload_n 0, 1) := by decide +kernel
theorem dX12_init_373 : decode cX12_init 373 = .ok (.bipush 40, 2) := by decide +kernel
theorem dX12_init_375 : decode cX12_init 375 = .ok (.newarray .int, 2) := by decide +kernel
theorem dX12_init_377 : decode cX12_init 377 = .ok (.putfield 152, 3) := by decide +kernel
theorem dX12_init_380 : decode cX12_init 380 = .ok (.aload_n 0, 1) := by decide +kernel
theorem dX12_init_381 : decode cX12_init 381 = .ok (.bipush 40, 2) := by decide +kernel
theorem dX12_init_383 : decode cX12_init 383 = .ok (.newarray .boolean, 2) := by decide +kernel
theorem dX12_init_385 : decode cX12_init 385 = .ok (.putfield 155, 3) := by decide +kernel
theorem dX12_init_388 : decode cX12_init 388 = .ok (.aload_n 0, 1) := by decide +kernel
theorem dX12_init_389 : decode cX12_init 389 = .ok (.bipush 40, 2) := by decide +kernel
theorem dX12_init_391 : decode cX12_init 391 = .ok (.newarray .boolean, 2) := by decide +kernel
theorem dX12_init_393 : decode cX12_init 393 = .ok (.putfield 158, 3) := by decide +kernel
theorem dX12_init_396 : decode cX12_init 396 = .ok (.aload_n 0, 1) := by decide +kernel
theorem dX12_init_397 : decode cX12_init 397 = .ok (.sipush 1001, 3) := by decide +kernel
theorem dX12_init_400 : decode cX12_init 400 = .ok (.newarray .int, 2) := by decide +kernel
theorem dX12_init_402 : decode cX12_init 402 = .ok (.putfield 161, 3) := by decide +kernel
theorem dX12_init_405 : decode cX12_init 405 = .ok (.aload_n 0, 1) := by decide +kernel
theorem dX12_init_406 : decode cX12_init 406 = .ok (.sipush 1001, 3) := by decide +kernel
theorem dX12_init_409 : decode cX12_init 409 = .ok (.newarray .int, 2) := by decide +kernel
theorem dX12_init_411 : decode cX12_init 411 = .ok (.putfield 164, 3) := by decide +kernel
theorem dX12_init_414 : decode cX12_init 414 = .ok (.aload_n 0, 1) := by decide +kernel
theorem dX12_init_415 : decode cX12_init 415 = .ok (.iconst 5, 1) := by decide +kernel
theorem dX12_init_416 : decode cX12_init 416 = .ok (.newarray .int, 2) := by decide +kernel
theorem dX12_init_418 : decode cX12_init 418 = .ok (.putfield 167, 3) := by decide +kernel
theorem dX12_init_421 : decode cX12_init 421 = .ok (.aload_n 0, 1) := by decide +kernel
theorem dX12_init_422 : decode cX12_init 422 = .ok (.bipush 6, 2) := by decide +kernel
theorem dX12_init_424 : decode cX12_init 424 = .ok (.newarray .int, 2) := by decide +kernel
theorem dX12_init_426 : decode cX12_init 426 = .ok (.putfield 170, 3) := by decide +kernel
theorem dX12_init_429 : decode cX12_init 429 = .ok (.aload_n 0, 1) := by decide +kernel
theorem dX12_init_430 : decode cX12_init 430 = .ok (.bipush 6, 2) := by decide +kernel
theorem dX12_init_432 : decode cX12_init 432 = .ok (.newarray .int, 2) := by decide +kernel
theorem dX12_init_434 : decode cX12_init 434 = .ok (.putfield 173, 3) := by decide +kernel
theorem dX12_init_437 : decode cX12_init 437 = .ok (.aload_n 0, 1) := by decide +kernel
theorem dX12_init_438 : decode cX12_init 438 = .ok (.bipush 7, 2) := by decide +kernel
theorem dX12_init_440 : decode cX12_init 440 = .ok (.newarray .int, 2) := by decide +kernel
theorem dX12_init_442 : decode cX12_init 442 = .ok (.putfield 176, 3) := by decide +kernel
theorem dX12_init_445 : decode cX12_init 445 = .ok (.aload_n 0, 1) := by decide +kernel
theorem dX12_init_446 : decode cX12_init 446 = .ok (.bipush 7, 2) := by decide +kernel
theorem dX12_init_448 : decode cX12_init 448 = .ok (.newarray .int, 2) := by decide +kernel
theorem dX12_init_450 : decode cX12_init 450 = .ok (.putfield 179, 3) := by decide +kernel
theorem dX12_init_453 : decode cX12_init 453 = .ok (.aload_n 0, 1) := by decide +kernel
theorem dX12_init_454 : decode cX12_init 454 = .ok (.bipush 7, 2) := by decide +kernel
theorem dX12_init_456 : decode cX12_init 456 = .ok (.newarray .int, 2) := by decide +kernel
theorem dX12_init_458 : decode cX12_init 458 = .ok (.putfield 182, 3) := by decide +kernel
theorem dX12_init_461 : decode cX12_init 461 = .ok (.aload_n 0, 1) := by decide +kernel
theorem dX12_init_462 : decode cX12_init 462 = .ok (.bipush 7, 2) := by decide +kernel
theorem dX12_init_464 : decode cX12_init 464 = .ok (.newarray .int, 2) := by decide +kernel
theorem dX12_init_466 : decode cX12_init 466 = .ok (.putfield 185, 3) := by decide +kernel
theorem dX12_init_469 : decode cX12_init 469 = .ok (.aload_n 0, 1) := by decide +kernel
theorem dX12_init_470 : decode cX12_init 470 = .ok (.bipush 7, 2) := by decide +kernel
theorem dX12_init_472 : decode cX12_init 472 = .ok (.newarray .int, 2) := by decide +kernel
theorem dX12_init_474 : decode cX12_init 474 = .ok (.putfield 188, 3) := by decide +kernel
theorem dX12_init_477 : decode cX12_init 477 = .ok (.aload_n 0, 1) := by decide +kernel
theorem dX12_init_478 : decode cX12_init 478 = .ok (.bipush 7, 2) := by decide +kernel
theorem dX12_init_480 : decode cX12_init 480 = .ok (.newarray .int, 2) := by decide +kernel
theorem dX12_init_482 : decode cX12_init 482 = .ok (.putfield 191, 3) := by decide +kernel
theorem dX12_init_485 : decode cX12_init 485 = .ok (.return_, 1) := by decide +kernel
theorem dX12_job_0 : decode cX12_job 0 = .ok (.aload_n 0, 1) := by decide +kernel
theorem dX12_job_1 : decode cX12_job 1 = .ok (.iconst 0, 1) := by decide +kernel
theorem dX12_job_2 : decode cX12_job 2 = .ok (.putfield 194, 3) := by decide +kernel
theorem dX12_job_5 : decode cX12_job 5 = .ok (.aload_n 0, 1) := by decide +kernel
theorem dX12_job_6 : decode cX12_job 6 = .ok (.iload_n 1, 1) := by decide +kernel
theorem dX12_job_7 : decode cX12_job 7 = .ok (.iconst 0, 1) := by decide +kernel
theorem dX12_job_8 : decode cX12_job 8 = .ok (.ldc_w 536, 3) := by decide +kernel
theorem dX12_job_11 : decode cX12_job 11 = .ok (.invokestatic 197, 3) := by decide +kernel
theorem dX12_job_14 : decode cX12_job 14 = .ok (.ifCond .eq 35, 3) := by decide +kernel
theorem dX12_job_17 : decode cX12_job 17 = .ok (.iload_n 2, 1) := by decide +kernel
theorem dX12_job_18 : decode cX12_job 18 = .ok (.iconst 1, 1) := by decide +kernel
theorem dX12_job_19 : decode cX12_job 19 = .ok (.bipush 20, 2) := by decide +kernel
theorem dX12_job_21 : decode cX12_job 21 = .ok (.invokestatic 197, 3) := by decide +kernel
theorem dX12_job_24 : decode cX12_job 24 = .ok (.ifCond .eq 25, 3) := by decide +kernel
theorem dX12_job_27 : decode cX12_job 27 = .ok (.iload_n 3, 1) := by decide +kernel
theorem dX12_job_28 : decode cX12_job 28 = .ok (.iconst 0, 1) := by decide +kernel
theorem dX12_job_29 : decode cX12_job 29 = .ok (.ldc 241, 2) := by decide +kernel
theorem dX12_job_31 : decode cX12_job 31 = .ok (.invokestatic 197, 3) := by decide +kernel
theorem dX12_job_34 : decode cX12_job 34 = .ok (.ifCond .eq 15, 3) := by decide +kernel
theorem dX12_job_37 : decode cX12_job 37 = .ok (.iload 4, 2) := by decide +kernel
theorem dX12_job_39 : decode cX12_job 39 = .ok (.iconst 0, 1) := by decide +kernel
theorem dX12_job_40 : decode cX12_job 40 = .ok (.sipush 1000, 3) := by decide +kernel
theorem dX12_job_43 : decode cX12_job 43 = .ok (.invokestatic 197, 3) := by decide +kernel
theorem dX12_job_46 : decode cX12_job 46 = .ok (.ifCond .ne 7, 3) := by decide +kernel
theorem dX12_job_49 : decode cX12_job 49 = .ok (.iconst 1, 1) := by decide +kernel
theorem dX12_job_50 : decode cX12_job 50 = .ok (.goto 4, 3) := by decide +kernel
theorem dX12_job_53 : decode cX12_job 53 = .ok (.iconst 0, 1) := by decide +kernel
theorem dX12_job_54 : decode cX12_job 54 = .ok (.iconst 1, 1) := by decide +kernel
theorem dX12_job_55 : decode cX12_job 55 = .ok (.invokevirtual 224, 3) := by decide +kernel
theorem dX12_job_58 : decode cX12_job 58 = .ok (.ifCond .eq 5, 3) := by decide +kernel
theorem dX12_job_61 : decode cX12_job 61 = .ok (.iconst 0, 1) := by decide +kernel
theorem dX12_job_62 : decode cX12_job 62 = .ok (.ireturn, 1) := by decide +kernel
theorem dX12_job_63 : decode cX12_job 63 = .ok (.aload_n 0, 1) := by decide +kernel
theorem dX12_job_64 : decode cX12_job 64 = .ok (.getfield 553, 3) := by decide +kernel
theorem dX12_job_67 : decode cX12_job 67 = .ok (.bipush 7, 2) := by decide +kernel
theorem dX12_job_69 : decode cX12_job 69 = .ok (.if_icmp .ne 5, 3) := by decide +kernel
theorem dX12_job_72 : decode cX12_job 72 = .ok (.iconst (-1), 1) := by decide +kernel
theorem dX12_job_73 : decode cX12_job 73 = .ok (.ireturn, 1) := by decide +kernel
theorem dX12_job_74 : decode cX12_job 74 = .ok (.aload_n 0, 1) := by decide +kernel
theorem dX12_job_75 : decode cX12_job 75 = .ok (.getfield 176, 3) := by decide +kernel
theorem dX12_job_78 : decode cX12_job 78 = .ok (.aload_n 0, 1) := by decide +kernel
theorem dX12_job_79 : decode cX12_job 79 = .ok (.getfield 553, 3) := by decide +kernel
theorem dX12_job_82 : decode cX12_job 82 = .ok (.iload_n 1, 1) := by decide +kernel
theorem dX12_job_83 : decode cX12_job 83 = .ok (.iastore, 1) := by decide +kernel
theorem dX12_job_84 : decode cX12_job 84 = .ok (.aload_n 0, 1) := by decide +kernel
theorem dX12_job_85 : decode cX12_job 85 = .ok (.getfield 179, 3) := by decide +kernel
theorem dX12_job_88 : decode cX12_job 88 = .ok (.aload_n 0, 1) := by decide +kernel
theorem dX12_job_89 : decode cX12_job 89 = .ok (.getfield 553, 3) := by decide +kernel
theorem dX12_job_92 : decode cX12_job 92 = .ok (.iload_n 2, 1) := by decide +kernel
theorem dX12_job_93 : decode cX12_job 93 = .ok (.iastore, 1) := by decide +kernel
theorem dX12_job_94 : decode cX12_job 94 = .ok (.aload_n 0, 1) := by decide +kernel
theorem dX12_job_95 : decode cX12_job 95 = .ok (.getfield 182, 3) := by decide +kernel
theorem dX12_job_98 : decode cX12_job 98 = .ok (.aload_n 0, 1) := by decide +kernel
theorem dX12_job_99 : decode cX12_job 99 = .ok (.getfield 553, 3) := by decide +kernel
theorem dX12_job_102 : decode cX12_job 102 = .ok (.iload_n 3, 1) := by decide +kernel
theorem dX12_job_103 : decode cX12_job 103 = .ok (.iastore, 1) := by decide +kernel
theorem dX12_job_104 : decode cX12_job 104 = .ok (.aload_n 0, 1) := by decide +kernel
theorem dX12_job_105 : decode cX12_job 105 = .ok (.getfield 185, 3) := by decide +kernel
theorem dX12_job_108 : decode cX12_job 108 = .ok (.aload_n 0, 1) := by decide +kernel
theorem dX12_job_109 : decode cX12_job 109 = .ok (.getfield 553, 3) := by decide +kernel
theorem dX12_job_112 : decode cX12_job 112 = .ok (.iload 4, 2) := by decide +kernel
theorem dX12_job_114 : decode cX12_job 114 = .ok (.iastore, 1) := by decide +kernel
theorem dX12_job_115 : decode cX12_job 115 = .ok (.aload_n 0, 1) := by decide +kernel
theorem dX12_job_116 : decode cX12_job 116 = .ok (.dup, 1) := by decide +kernel
theorem dX12_job_117 : decode cX12_job 117 = .ok (.getfield 553, 3) := by decide +kernel
theorem dX12_job_120 : decode cX12_job 120 = .ok (.iconst 1, 1) := by decide +kernel
theorem dX12_job_121 : decode cX12_job 121 = .ok (.iadd, 1) := by decide +kernel
theorem dX12_job_122 : decode cX12_job 122 = .ok (.putfield 553, 3) := by decide +kernel
theorem dX12_job_125 : decode cX12_job 125 = .ok (.aload_n 0, 1) := by decide +kernel
theorem dX12_job_126 : decode cX12_job 126 = .ok (.getfield 553, 3) := by decide +kernel
theorem dX12_job_129 : decode cX12_job 129 = .ok (.ireturn, 1) := by decide +kernel
theorem dX12_level_0 : decode cX12_level 0 = .ok (.aload_n 0, 1) := by decide +kernel
theorem dX12_level_1 : decode cX12_level 1 = .ok (.iload_n 1, 1) := by decide +kernel
theorem dX12_level_2 : decode cX12_level 2 = .ok (.invokevirtual 235, 3) := by decide +kernel
theorem dX12_level_5 : decode cX12_level 5 = .ok (.ifCond .eq 26, 3) := by decide +kernel
theorem dX12_level_8 : decode cX12_level 8 = .ok (.aload_n 0, 1) := by decide +kernel
theorem dX12_level_9 : decode cX12_level 9 = .ok (.getfield 9, 3) := by decide +kernel
theorem dX12_level_12 : decode cX12_level 12 = .ok (.bipush 96, 2) := by decide +kernel
theorem dX12_level_14 : decode cX12_level 14 = .ok (.iload_n 1, 1) := by decide +kernel
theorem dX12_level_15 : decode cX12_level 15 = .ok (.iadd, 1) := by decide +kernel
theorem dX12_level_16 : decode cX12_level 16 = .ok (.iaload, 1) := by decide +kernel
theorem dX12_level_17 : decode cX12_level 17 = .ok (.aload_n 0, 1) := by decide +kernel
theorem dX12_level_18 : decode cX12_level 18 = .ok (.getfield 9, 3) := by decide +kernel
theorem dX12_level_21 : decode cX12_level 21 = .ok (.sipush 384, 3) := by decide +kernel
theorem dX12_level_24 : decode cX12_level 24 = .ok (.iload_n 1, 1) := by decide +kernel
theorem dX12_level_25 : decode cX12_level 25 = .ok (.iadd, 1) := by decide +kernel
theorem dX12_level_26 : decode cX12_level 26 = .ok (.iaload, 1) := by decide +kernel
theorem dX12_level_27 : decode cX12_level 27 = .ok (.iadd, 1) := by decide +kernel
theorem dX12_level_28 : decode cX12_level 28 = .ok (.goto 11, 3) := by decide +kernel
theorem dX12_level_31 : decode cX12_level 31 = .ok (.aload_n 0, 1) := by decide +kernel
theorem dX12_level_32 : decode cX12_level 32 = .ok (.aload_n 0, 1) := by decide +kernel
theorem dX12_level_33 : decode cX12_level 33 = .ok (.invokevirtual 228, 3) := by decide +kernel
theorem dX12_level_36 : decode cX12_level 36 = .ok (.invokevirtual 247, 3) := by decide +kernel
theorem dX12_level_39 : decode cX12_level 39 = .ok (.ireturn, 1) := by decide +kernel
theorem dX12_mayBuild_0 : decode cX12_mayBuild 0 = .ok (.aload_n 0, 1) := by decide +kernel
theorem dX12_mayBuild_1 : decode cX12_mayBuild 1 = .ok (.iconst 0, 1) := by decide +kernel
theorem dX12_mayBuild_2 : decode cX12_mayBuild 2 = .ok (.putfield 194, 3) := by decide +kernel
theorem dX12_mayBuild_5 : decode cX12_mayBuild 5 = .ok (.aload_n 0, 1) := by decide +kernel
theorem dX12_mayBuild_6 : decode cX12_mayBuild 6 = .ok (.iload_n 1, 1) := by decide +kernel
theorem dX12_mayBuild_7 : decode cX12_mayBuild 7 = .ok (.invokestatic 220, 3) := by decide +kernel
theorem dX12_mayBuild_10 : decode cX12_mayBuild 10 = .ok (.iconst 1, 1) := by decide +kernel
theorem dX12_mayBuild_11 : decode cX12_mayBuild 11 = .ok (.invokevirtual 224, 3) := by decide +kernel
theorem dX12_mayBuild_14 : decode cX12_mayBuild 14 = .ok (.ifCond .ne 15, 3) := by decide +kernel
theorem dX12_mayBuild_17 : decode cX12_mayBuild 17 = .ok (.aload_n 0, 1) := by decide +kernel
theorem dX12_mayBuild_18 : decode cX12_mayBuild 18 = .ok (.iload_n 1, 1) := by decide +kernel
theorem dX12_mayBuild_19 : decode cX12_mayBuild 19 = .ok (.invokevirtual 279, 3) := by decide +kernel
theorem dX12_mayBuild_22 : decode cX12_mayBuild 22 = .ok (.ifCond .eq 7, 3) := by decide +kernel
theorem dX12_mayBuild_25 : decode cX12_mayBuild 25 = .ok (.iconst 1, 1) := by decide +kernel
theorem dX12_mayBuild_26 : decode cX12_mayBuild 26 = .ok (.goto 4, 3) := by decide +kernel
theorem dX12_mayBuild_29 : decode cX12_mayBuild 29 = .ok (.iconst 0, 1) := by decide +kernel
theorem dX12_mayBuild_30 : decode cX12_mayBuild 30 = .ok (.ireturn, 1) := by decide +kernel
theorem dX12_noWork_0 : decode cX12_noWork 0 = .ok (.iload_n 1, 1) := by decide +kernel
theorem dX12_noWork_1 : decode cX12_noWork 1 = .ok (.iconst 0, 1) := by decide +kernel
theorem dX12_noWork_2 : decode cX12_noWork 2 = .ok (.aload_n 0, 1) := by decide +kernel
theorem dX12_noWork_3 : decode cX12_noWork 3 = .ok (.getfield 9, 3) := by decide +kernel
theorem dX12_noWork_6 : decode cX12_noWork 6 = .ok (.sipush 1428, 3) := by decide +kernel
theorem dX12_noWork_9 : decode cX12_noWork 9 = .ok (.iaload, 1) := by decide +kernel
theorem dX12_noWork_10 : decode cX12_noWork 10 = .ok (.iconst 1, 1) := by decide +kernel
theorem dX12_noWork_11 : decode cX12_noWork 11 = .ok (.isub, 1) := by decide +kernel
theorem dX12_noWork_12 : decode cX12_noWork 12 = .ok (.invokestatic 197, 3) := by decide +kernel
theorem dX12_noWork_15 : decode cX12_noWork 15 = .ok (.ifCond .ne 7, 3) := by decide +kernel
theorem dX12_noWork_18 : decode cX12_noWork 18 = .ok (.iconst 1, 1) := by decide +kernel
theorem dX12_noWork_19 : decode cX12_noWork 19 = .ok (.goto 4, 3) := by decide +kernel
theorem dX12_noWork_22 : decode cX12_noWork 22 = .ok (.iconst 0, 1) := by decide +kernel
theorem dX12_noWork_23 : decode cX12_noWork 23 = .ok (.ireturn, 1) := by decide +kernel
theorem dX12_nobody_0 : decode cX12_nobody 0 = .ok (.iload_n 1, 1) := by decide +kernel
theorem dX12_nobody_1 : decode cX12_nobody 1 = .ok (.iconst 0, 1) := by decide +kernel
theorem dX12_nobody_2 : decode cX12_nobody 2 = .ok (.aload_n 0, 1) := by decide +kernel
theorem dX12_nobody_3 : decode cX12_nobody 3 = .ok (.getfield 495, 3) := by decide +kernel
theorem dX12_nobody_6 : decode cX12_nobody 6 = .ok (.iconst 1, 1) := by decide +kernel
theorem dX12_nobody_7 : decode cX12_nobody 7 = .ok (.isub, 1) := by decide +kernel
theorem dX12_nobody_8 : decode cX12_nobody 8 = .ok (.invokestatic 197, 3) := by decide +kernel
theorem dX12_nobody_11 : decode cX12_nobody 11 = .ok (.ifCond .ne 7, 3) := by decide +kernel
theorem dX12_nobody_14 : decode cX12_nobody 14 = .ok (.iconst 1, 1) := by decide +kernel
theorem dX12_nobody_15 : decode cX12_nobody 15 = .ok (.goto 4, 3) := by decide +kernel
theorem dX12_nobody_18 : decode cX12_nobody 18 = .ok (.iconst 0, 1) := by decide +kernel
theorem dX12_nobody_19 : decode cX12_nobody 19 = .ok (.ireturn, 1) := by decide +kernel
theorem dX12_readLaw_0 : decode cX12_readLaw 0 = .ok (.aload_n 0, 1) := by decide +kernel
theorem dX12_readLaw_1 : decode cX12_readLaw 1 = .ok (.aload_n 0, 1) := by decide +kernel
theorem dX12_readLaw_2 : decode cX12_readLaw 2 = .ok (.getfield 332, 3) := by decide +kernel
theorem dX12_readLaw_5 : decode cX12_readLaw 5 = .ok (.putfield 338, 3) := by decide +kernel
theorem dX12_readLaw_8 : decode cX12_readLaw 8 = .ok (.aload_n 0, 1) := by decide +kernel
theorem dX12_readLaw_9 : decode cX12_readLaw 9 = .ok (.iconst 0, 1) := by decide +kernel
theorem dX12_readLaw_10 : decode cX12_readLaw 10 = .ok (.putfield 332, 3) := by decide +kernel
theorem dX12_readLaw_13 : decode cX12_readLaw 13 = .ok (.aload_n 0, 1) := by decide +kernel
theorem dX12_readLaw_14 : decode cX12_readLaw 14 = .ok (.iconst 0, 1) := by decide +kernel
theorem dX12_readLaw_15 : decode cX12_readLaw 15 = .ok (.putfield 335, 3) := by decide +kernel
theorem dX12_readLaw_18 : decode cX12_readLaw 18 = .ok (.aload_n 0, 1) := by decide +kernel
theorem dX12_readLaw_19 : decode cX12_readLaw 19 = .ok (.iconst 0, 1) := by decide +kernel
theorem dX12_readLaw_20 : decode cX12_readLaw 20 = .ok (.putfield 367, 3) := by decide +kernel
theorem dX12_readLaw_23 : decode cX12_readLaw 23 = .ok (.aload_n 0, 1) := by decide +kernel
theorem dX12_readLaw_24 : decode cX12_readLaw 24 = .ok (.invokevirtual 348, 3) := by decide +kernel
theorem dX12_readLaw_27 : decode cX12_readLaw 27 = .ok (.aload_n 0, 1) := by decide +kernel
theorem dX12_readLaw_28 : decode cX12_readLaw 28 = .ok (.getfield 335, 3) := by decide +kernel
theorem dX12_readLaw_31 : decode cX12_readLaw 31 = .ok (.aload_n 0, 1) := by decide +kernel
theorem dX12_readLaw_32 : decode cX12_readLaw 32 = .ok (.getfield 338, 3) := by decide +kernel
theorem dX12_readLaw_35 : decode cX12_readLaw 35 = .ok (.if_icmp .ne 5, 3) := by decide +kernel
theorem dX12_readLaw_38 : decode cX12_readLaw 38 = .ok (.iconst 0, 1) := by decide +kernel
theorem dX12_readLaw_39 : decode cX12_readLaw 39 = .ok (.ireturn, 1) := by decide +kernel
theorem dX12_readLaw_40 : decode cX12_readLaw 40 = .ok (.iconst 0, 1) := by decide +kernel
theorem dX12_readLaw_41 : decode cX12_readLaw 41 = .ok (.istore_n 1, 1) := by decide +kernel
theorem dX12_readLaw_42 : decode cX12_readLaw 42 = .ok (.aload_n 0, 1) := by decide +kernel
theorem dX12_readLaw_43 : decode cX12_readLaw 43 = .ok (.iload_n 1, 1) := by decide +kernel
theorem dX12_readLaw_44 : decode cX12_readLaw 44 = .ok (.invokevirtual 451, 3) := by decide +kernel
theorem dX12_readLaw_47 : decode cX12_readLaw 47 = .ok (.ifCond .ne 5, 3) := by decide +kernel
theorem dX12_readLaw_50 : decode cX12_readLaw 50 = .ok (.iconst (-1), 1) := by decide +kernel
theorem dX12_readLaw_51 : decode cX12_readLaw 51 = .ok (.ireturn, 1) := by decide +kernel
theorem dX12_readLaw_52 : decode cX12_readLaw 52 = .ok (.aload_n 0, 1) := by decide +kernel
theorem dX12_readLaw_53 : decode cX12_readLaw 53 = .ok (.invokevirtual 348, 3) := by decide +kernel
theorem dX12_readLaw_56 : decode cX12_readLaw 56 = .ok (.aload_n 0, 1) := by decide +kernel
theorem dX12_readLaw_57 : decode cX12_readLaw 57 = .ok (.getfield 335, 3) := by decide +kernel
theorem dX12_readLaw_60 : decode cX12_readLaw 60 = .ok (.aload_n 0, 1) := by decide +kernel
theorem dX12_readLaw_61 : decode cX12_readLaw 61 = .ok (.getfield 338, 3) := by decide +kernel
theorem dX12_readLaw_64 : decode cX12_readLaw 64 = .ok (.if_icmp .ne 7, 3) := by decide +kernel
theorem dX12_readLaw_67 : decode cX12_readLaw 67 = .ok (.iload_n 1, 1) := by decide +kernel
theorem dX12_readLaw_68 : decode cX12_readLaw 68 = .ok (.iconst 1, 1) := by decide +kernel
theorem dX12_readLaw_69 : decode cX12_readLaw 69 = .ok (.iadd, 1) := by decide +kernel
theorem dX12_readLaw_70 : decode cX12_readLaw 70 = .ok (.ireturn, 1) := by decide +kernel
theorem dX12_readLaw_71 : decode cX12_readLaw 71 = .ok (.aload_n 0, 1) := by decide +kernel
theorem dX12_readLaw_72 : decode cX12_readLaw 72 = .ok (.bipush 59, 2) := by decide +kernel
theorem dX12_readLaw_74 : decode cX12_readLaw 74 = .ok (.bipush 59, 2) := by decide +kernel
theorem dX12_readLaw_76 : decode cX12_readLaw 76 = .ok (.invokevirtual 341, 3) := by decide +kernel
theorem dX12_readLaw_79 : decode cX12_readLaw 79 = .ok (.ifCond .ne 5, 3) := by decide +kernel
theorem dX12_readLaw_82 : decode cX12_readLaw 82 = .ok (.iconst (-1), 1) := by decide +kernel
theorem dX12_readLaw_83 : decode cX12_readLaw 83 = .ok (.ireturn, 1) := by decide +kernel
theorem dX12_readLaw_84 : decode cX12_readLaw 84 = .ok (.aload_n 0, 1) := by decide +kernel
theorem dX12_readLaw_85 : decode cX12_readLaw 85 = .ok (.dup, 1) := by decide +kernel
theorem dX12_readLaw_86 : decode cX12_readLaw 86 = .ok (.getfield 335, 3) := by decide +kernel
theorem dX12_readLaw_89 : decode cX12_readLaw 89 = .ok (.iconst 1, 1) := by decide +kernel
theorem dX12_readLaw_90 : decode cX12_readLaw 90 = .ok (.iadd, 1) := by decide +kernel
theorem dX12_readLaw_91 : decode cX12_readLaw 91 = .ok (.putfield 335, 3) := by decide +kernel
theorem dX12_readLaw_94 : decode cX12_readLaw 94 = .ok (.iinc 1 1, 3) := by decide +kernel
theorem dX12_readLaw_97 : decode cX12_readLaw 97 = .ok (.goto (-55), 3) := by decide +kernel
theorem dX12_row_0 : decode cX12_row 0 = .ok (.aload_n 0, 1) := by decide +kernel
theorem dX12_row_1 : decode cX12_row 1 = .ok (.iconst 0, 1) := by decide +kernel
theorem dX12_row_2 : decode cX12_row 2 = .ok (.putfield 194, 3) := by decide +kernel
theorem dX12_row_5 : decode cX12_row 5 = .ok (.aload_n 0, 1) := by decide +kernel
theorem dX12_row_6 : decode cX12_row 6 = .ok (.iload_n 2, 1) := by decide +kernel
theorem dX12_row_7 : decode cX12_row 7 = .ok (.invokestatic 220, 3) := by decide +kernel
theorem dX12_row_10 : decode cX12_row 10 = .ok (.iconst 1, 1) := by decide +kernel
theorem dX12_row_11 : decode cX12_row 11 = .ok (.invokevirtual 224, 3) := by decide +kernel
theorem dX12_row_14 : decode cX12_row 14 = .ok (.ifCond .ne 30, 3) := by decide +kernel
theorem dX12_row_17 : decode cX12_row 17 = .ok (.aload_n 0, 1) := by decide +kernel
theorem dX12_row_18 : decode cX12_row 18 = .ok (.iload_n 1, 1) := by decide +kernel
theorem dX12_row_19 : decode cX12_row 19 = .ok (.iconst 0, 1) := by decide +kernel
theorem dX12_row_20 : decode cX12_row 20 = .ok (.aload_n 0, 1) := by decide +kernel
theorem dX12_row_21 : decode cX12_row 21 = .ok (.getfield 238, 3) := by decide +kernel
theorem dX12_row_24 : decode cX12_row 24 = .ok (.iconst 1, 1) := by decide +kernel
theorem dX12_row_25 : decode cX12_row 25 = .ok (.isub, 1) := by decide +kernel
theorem dX12_row_26 : decode cX12_row 26 = .ok (.invokestatic 197, 3) := by decide +kernel
theorem dX12_row_29 : decode cX12_row 29 = .ok (.ifCond .ne 7, 3) := by decide +kernel
theorem dX12_row_32 : decode cX12_row 32 = .ok (.iconst 1, 1) := by decide +kernel
theorem dX12_row_33 : decode cX12_row 33 = .ok (.goto 4, 3) := by decide +kernel
theorem dX12_row_36 : decode cX12_row 36 = .ok (.iconst 0, 1) := by decide +kernel
theorem dX12_row_37 : decode cX12_row 37 = .ok (.iconst 2, 1) := by decide +kernel
theorem dX12_row_38 : decode cX12_row 38 = .ok (.invokevirtual 224, 3) := by decide +kernel
theorem dX12_row_41 : decode cX12_row 41 = .ok (.ifCond .eq 7, 3) := by decide +kernel
theorem dX12_row_44 : decode cX12_row 44 = .ok (.iconst 0, 1) := by decide +kernel
theorem dX12_row_45 : decode cX12_row 45 = .ok (.goto 14, 3) := by decide +kernel
theorem dX12_row_48 : decode cX12_row 48 = .ok (.aload_n 0, 1) := by decide +kernel
theorem dX12_row_49 : decode cX12_row 49 = .ok (.getfield 25, 3) := by decide +kernel
theorem dX12_row_52 : decode cX12_row 52 = .ok (.bipush 96, 2) := by decide +kernel
theorem dX12_row_54 : decode cX12_row 54 = .ok (.iload_n 1, 1) := by decide +kernel
theorem dX12_row_55 : decode cX12_row 55 = .ok (.imul, 1) := by decide +kernel
theorem dX12_row_56 : decode cX12_row 56 = .ok (.iload_n 2, 1) := by decide +kernel
theorem dX12_row_57 : decode cX12_row 57 = .ok (.iadd, 1) := by decide +kernel
theorem dX12_row_58 : decode cX12_row 58 = .ok (.iaload, 1) := by decide +kernel
theorem dX12_row_59 : decode cX12_row 59 = .ok (.ireturn, 1) := by decide +kernel
theorem dX12_sluice_0 : decode cX12_sluice 0 = .ok (.aload_n 0, 1) := by decide +kernel
theorem dX12_sluice_1 : decode cX12_sluice 1 = .ok (.iconst 0, 1) := by decide +kernel
theorem dX12_sluice_2 : decode cX12_sluice 2 = .ok (.putfield 194, 3) := by decide +kernel
theorem dX12_sluice_5 : decode cX12_sluice 5 = .ok (.aload_n 0, 1) := by decide +kernel
theorem dX12_sluice_6 : decode cX12_sluice 6 = .ok (.iload_n 1, 1) := by decide +kernel
theorem dX12_sluice_7 : decode cX12_sluice 7 = .ok (.invokestatic 220, 3) := by decide +kernel
theorem dX12_sluice_10 : decode cX12_sluice 10 = .ok (.ifCond .ne 10, 3) := by decide +kernel
theorem dX12_sluice_13 : decode cX12_sluice 13 = .ok (.iload_n 2, 1) := by decide +kernel
theorem dX12_sluice_14 : decode cX12_sluice 14 = .ok (.invokestatic 220, 3) := by decide +kernel
theorem dX12_sluice_17 : decode cX12_sluice 17 = .ok (.ifCond .eq 7, 3) := by decide +kernel
theorem dX12_sluice_20 : decode cX12_sluice 20 = .ok (.iconst 1, 1) := by decide +kernel
theorem dX12_sluice_21 : decode cX12_sluice 21 = .ok (.goto 4, 3) := by decide +kernel
theorem dX12_sluice_24 : decode cX12_sluice 24 = .ok (.iconst 0, 1) := by decide +kernel
theorem dX12_sluice_25 : decode cX12_sluice 25 = .ok (.iconst 1, 1) := by decide +kernel
theorem dX12_sluice_26 : decode cX12_sluice 26 = .ok (.invokevirtual 224, 3) := by decide +kernel
theorem dX12_sluice_29 : decode cX12_sluice 29 = .ok (.ifCond .ne 52, 3) := by decide +kernel
theorem dX12_sluice_32 : decode cX12_sluice 32 = .ok (.aload_n 0, 1) := by decide +kernel
theorem dX12_sluice_33 : decode cX12_sluice 33 = .ok (.iload_n 3, 1) := by decide +kernel
theorem dX12_sluice_34 : decode cX12_sluice 34 = .ok (.iconst 1, 1) := by decide +kernel
theorem dX12_sluice_35 : decode cX12_sluice 35 = .ok (.bipush 60, 2) := by decide +kernel
theorem dX12_sluice_37 : decode cX12_sluice 37 = .ok (.invokestatic 197, 3) := by decide +kernel
theorem dX12_sluice_40 : decode cX12_sluice 40 = .ok (.ifCond .ne 7, 3) := by decide +kernel
theorem dX12_sluice_43 : decode cX12_sluice 43 = .ok (.iconst 1, 1) := by decide +kernel
theorem dX12_sluice_44 : decode cX12_sluice 44 = .ok (.goto 4, 3) := by decide +kernel
theorem dX12_sluice_47 : decode cX12_sluice 47 = .ok (.iconst 0, 1) := by decide +kernel
theorem dX12_sluice_48 : decode cX12_sluice 48 = .ok (.iconst 2, 1) := by decide +kernel
theorem dX12_sluice_49 : decode cX12_sluice 49 = .ok (.invokevirtual 224, 3) := by decide +kernel
theorem dX12_sluice_52 : decode cX12_sluice 52 = .ok (.ifCond .ne 29, 3) := by decide +kernel
theorem dX12_sluice_55 : decode cX12_sluice 55 = .ok (.aload_n 0, 1) := by decide +kernel
theorem dX12_sluice_56 : decode cX12_sluice 56 = .ok (.aload_n 0, 1) := by decide +kernel
theorem dX12_sluice_57 : decode cX12_sluice 57 = .ok (.getfield 9, 3) := by decide +kernel
theorem dX12_sluice_60 : decode cX12_sluice 60 = .ok (.sipush 1428, 3) := by decide +kernel
theorem dX12_sluice_63 : decode cX12_sluice 63 = .ok (.iaload, 1) := by decide +kernel
theorem dX12_sluice_64 : decode cX12_sluice 64 = .ok (.bipush 30, 2) := by decide +kernel
theorem dX12_sluice_66 : decode cX12_sluice 66 = .ok (.if_icmp .ne 7, 3) := by decide +kernel
theorem dX12_sluice_69 : decode cX12_sluice 69 = .ok (.iconst 1, 1) := by decide +kernel
theorem dX12_sluice_70 : decode cX12_sluice 70 = .ok (.goto 4, 3) := by decide +kernel
theorem dX12_sluice_73 : decode cX12_sluice 73 = .ok (.iconst 0, 1) := by decide +kernel
theorem dX12_sluice_74 : decode cX12_sluice 74 = .ok (.iconst 3, 1) := by decide +kernel
theorem dX12_sluice_75 : decode cX12_sluice 75 = .ok (.invokevirtual 224, 3) := by decide +kernel
theorem dX12_sluice_78 : decode cX12_sluice 78 = .ok (.ifCond .eq 5, 3) := by decide +kernel
theorem dX12_sluice_81 : decode cX12_sluice 81 = .ok (.iconst 0, 1) := by decide +kernel
theorem dX12_sluice_82 : decode cX12_sluice 82 = .ok (.ireturn, 1) := by decide +kernel
theorem dX12_sluice_83 : decode cX12_sluice 83 = .ok (.aload_n 0, 1) := by decide +kernel
theorem dX12_sluice_84 : decode cX12_sluice 84 = .ok (.iload_n 1, 1) := by decide +kernel
theorem dX12_sluice_85 : decode cX12_sluice 85 = .ok (.invokevirtual 259, 3) := by decide +kernel
theorem dX12_sluice_88 : decode cX12_sluice 88 = .ok (.ifCond .ne 20, 3) := by decide +kernel
theorem dX12_sluice_91 : decode cX12_sluice 91 = .ok (.aload_n 0, 1) := by decide +kernel
theorem dX12_sluice_92 : decode cX12_sluice 92 = .ok (.iload_n 2, 1) := by decide +kernel
theorem dX12_sluice_93 : decode cX12_sluice 93 = .ok (.invokevirtual 235, 3) := by decide +kernel
theorem dX12_sluice_96 : decode cX12_sluice 96 = .ok (.ifCond .ne 12, 3) := by decide +kernel
theorem dX12_sluice_99 : decode cX12_sluice 99 = .ok (.iload_n 1, 1) := by decide +kernel
theorem dX12_sluice_100 : decode cX12_sluice 100 = .ok (.iload_n 2, 1) := by decide +kernel
theorem dX12_sluice_101 : decode cX12_sluice 101 = .ok (.invokestatic 262, 3) := by decide +kernel
theorem dX12_sluice_104 : decode cX12_sluice 104 = .ok (.iconst 1, 1) := by decide +kernel
theorem dX12_sluice_105 : decode cX12_sluice 105 = .ok (.if_icmp .eq 5, 3) := by decide +kernel
theorem dX12_sluice_108 : decode cX12_sluice 108 = .ok (.iconst (-1), 1) := by decide +kernel
theorem dX12_sluice_109 : decode cX12_sluice 109 = .ok (.ireturn, 1) := by decide +kernel
theorem dX12_sluice_110 : decode cX12_sluice 110 = .ok (.aload_n 0, 1) := by decide +kernel
theorem dX12_sluice_111 : decode cX12_sluice 111 = .ok (.iconst 4, 1) := by decide +kernel
theorem dX12_sluice_112 : decode cX12_sluice 112 = .ok (.iload_n 1, 1) := by decide +kernel
theorem dX12_sluice_113 : decode cX12_sluice 113 = .ok (.iload_n 2, 1) := by decide +kernel
theorem dX12_sluice_114 : decode cX12_sluice 114 = .ok (.iconst 0, 1) := by decide +kernel
theorem dX12_sluice_115 : decode cX12_sluice 115 = .ok (.iload_n 3, 1) := by decide +kernel
theorem dX12_sluice_116 : decode cX12_sluice 116 = .ok (.invokevirtual 265, 3) := by decide +kernel
theorem dX12_sluice_119 : decode cX12_sluice 119 = .ok (.ireturn, 1) := by decide +kernel
theorem dX12_who_0 : decode cX12_who 0 = .ok (.aload_n 0, 1) := by decide +kernel
theorem dX12_who_1 : decode cX12_who 1 = .ok (.iconst 0, 1) := by decide +kernel
theorem dX12_who_2 : decode cX12_who 2 = .ok (.putfield 194, 3) := by decide +kernel
theorem dX12_who_5 : decode cX12_who 5 = .ok (.aload_n 0, 1) := by decide +kernel
theorem dX12_who_6 : decode cX12_who 6 = .ok (.aload_n 0, 1) := by decide +kernel
theorem dX12_who_7 : decode cX12_who 7 = .ok (.iload_n 1, 1) := by decide +kernel
theorem dX12_who_8 : decode cX12_who 8 = .ok (.invokevirtual 486, 3) := by decide +kernel
theorem dX12_who_11 : decode cX12_who 11 = .ok (.iconst 1, 1) := by decide +kernel
theorem dX12_who_12 : decode cX12_who 12 = .ok (.invokevirtual 224, 3) := by decide +kernel
theorem dX12_who_15 : decode cX12_who 15 = .ok (.ifCond .eq 5, 3) := by decide +kernel
theorem dX12_who_18 : decode cX12_who 18 = .ok (.iconst 0, 1) := by decide +kernel
theorem dX12_who_19 : decode cX12_who 19 = .ok (.ireturn, 1) := by decide +kernel
theorem dX12_who_20 : decode cX12_who 20 = .ok (.iload_n 2, 1) := by decide +kernel
theorem dX12_who_21 : decode cX12_who 21 = .ok (.tableswitch 79 0 5 #[39, 46, 53, 60, 67, 73], 39) := by decide +kernel
theorem dX12_who_60 : decode cX12_who 60 = .ok (.aload_n 0, 1) := by decide +kernel
theorem dX12_who_61 : decode cX12_who 61 = .ok (.getfield 101, 3) := by decide +kernel
theorem dX12_who_64 : decode cX12_who 64 = .ok (.iload_n 1, 1) := by decide +kernel
theorem dX12_who_65 : decode cX12_who 65 = .ok (.iaload, 1) := by decide +kernel
theorem dX12_who_66 : decode cX12_who 66 = .ok (.ireturn, 1) := by decide +kernel
theorem dX12_who_67 : decode cX12_who 67 = .ok (.aload_n 0, 1) := by decide +kernel
theorem dX12_who_68 : decode cX12_who 68 = .ok (.getfield 85, 3) := by decide +kernel
theorem dX12_who_71 : decode cX12_who 71 = .ok (.iload_n 1, 1) := by decide +kernel
theorem dX12_who_72 : decode cX12_who 72 = .ok (.iaload, 1) := by decide +kernel
theorem dX12_who_73 : decode cX12_who 73 = .ok (.ireturn, 1) := by decide +kernel
theorem dX12_who_74 : decode cX12_who 74 = .ok (.aload_n 0, 1) := by decide +kernel
theorem dX12_who_75 : decode cX12_who 75 = .ok (.getfield 104, 3) := by decide +kernel
theorem dX12_who_78 : decode cX12_who 78 = .ok (.iload_n 1, 1) := by decide +kernel
theorem dX12_who_79 : decode cX12_who 79 = .ok (.iaload, 1) := by decide +kernel
theorem dX12_who_80 : decode cX12_who 80 = .ok (.ireturn, 1) := by decide +kernel
theorem dX12_who_81 : decode cX12_who 81 = .ok (.aload_n 0, 1) := by decide +kernel
theorem dX12_who_82 : decode cX12_who 82 = .ok (.getfield 107, 3) := by decide +kernel
theorem dX12_who_85 : decode cX12_who 85 = .ok (.iload_n 1, 1) := by decide +kernel
theorem dX12_who_86 : decode cX12_who 86 = .ok (.iaload, 1) := by decide +kernel
theorem dX12_who_87 : decode cX12_who 87 = .ok (.ireturn, 1) := by decide +kernel
theorem dX12_who_88 : decode cX12_who 88 = .ok (.aload_n 0, 1) := by decide +kernel
theorem dX12_who_89 : decode cX12_who 89 = .ok (.iload_n 1, 1) := by decide +kernel
theorem dX12_who_90 : decode cX12_who 90 = .ok (.invokevirtual 467, 3) := by decide +kernel
theorem dX12_who_93 : decode cX12_who 93 = .ok (.ireturn, 1) := by decide +kernel
theorem dX12_who_94 : decode cX12_who 94 = .ok (.aload_n 0, 1) := by decide +kernel
theorem dX12_who_95 : decode cX12_who 95 = .ok (.iload_n 1, 1) := by decide +kernel
theorem dX12_who_96 : decode cX12_who 96 = .ok (.invokevirtual 469, 3) := by decide +kernel
theorem dX12_who_99 : decode cX12_who 99 = .ok (.ireturn, 1) := by decide +kernel
theorem dX12_who_100 : decode cX12_who 100 = .ok (.aload_n 0, 1) := by decide +kernel
theorem dX12_who_101 : decode cX12_who 101 = .ok (.iconst 2, 1) := by decide +kernel
theorem dX12_who_102 : decode cX12_who 102 = .ok (.putfield 194, 3) := by decide +kernel
theorem dX12_who_105 : decode cX12_who 105 = .ok (.iconst 0, 1) := by decide +kernel
theorem dX12_who_106 : decode cX12_who 106 = .ok (.ireturn, 1) := by decide +kernel
theorem dX12_wind_0 : decode cX12_wind 0 = .ok (.aload_n 0, 1) := by decide +kernel
theorem dX12_wind_1 : decode cX12_wind 1 = .ok (.sipush 1503, 3) := by decide +kernel
theorem dX12_wind_4 : decode cX12_wind 4 = .ok (.sipush 1504, 3) := by decide +kernel
theorem dX12_wind_7 : decode cX12_wind 7 = .ok (.iload_n 1, 1) := by decide +kernel
theorem dX12_wind_8 : decode cX12_wind 8 = .ok (.invokevirtual 243, 3) := by decide +kernel
theorem dX12_wind_11 : decode cX12_wind 11 = .ok (.istore_n 2, 1) := by decide +kernel
theorem dX12_wind_12 : decode cX12_wind 12 = .ok (.iload_n 2, 1) := by decide +kernel
theorem dX12_wind_13 : decode cX12_wind 13 = .ok (.ifCond .ge 5, 3) := by decide +kernel
theorem dX12_wind_16 : decode cX12_wind 16 = .ok (.iconst 0, 1) := by decide +kernel
theorem dX12_wind_17 : decode cX12_wind 17 = .ok (.ireturn, 1) := by decide +kernel
theorem dX12_wind_18 : decode cX12_wind 18 = .ok (.aload_n 0, 1) := by decide +kernel
theorem dX12_wind_19 : decode cX12_wind 19 = .ok (.getfield 9, 3) := by decide +kernel
theorem dX12_wind_22 : decode cX12_wind 22 = .ok (.iload_n 2, 1) := by decide +kernel
theorem dX12_wind_23 : decode cX12_wind 23 = .ok (.iconst 1, 1) := by decide +kernel
theorem dX12_wind_24 : decode cX12_wind 24 = .ok (.iadd, 1) := by decide +kernel
theorem dX12_wind_25 : decode cX12_wind 25 = .ok (.iaload, 1) := by decide +kernel
theorem dX12_wind_26 : decode cX12_wind 26 = .ok (.ifCond .lt 12, 3) := by decide +kernel
theorem dX12_wind_29 : decode cX12_wind 29 = .ok (.aload_n 0, 1) := by decide +kernel
theorem dX12_wind_30 : decode cX12_wind 30 = .ok (.getfield 9, 3) := by decide +kernel
theorem dX12_wind_33 : decode cX12_wind 33 = .ok (.iload_n 2, 1) := by decide +kernel
theorem dX12_wind_34 : decode cX12_wind 34 = .ok (.iconst 1, 1) := by decide +kernel
theorem dX12_wind_35 : decode cX12_wind 35 = .ok (.iadd, 1) := by decide +kernel
theorem dX12_wind_36 : decode cX12_wind 36 = .ok (.iaload, 1) := by decide +kernel
theorem dX12_wind_37 : decode cX12_wind 37 = .ok (.ireturn, 1) := by decide +kernel
theorem dX12_wind_38 : decode cX12_wind 38 = .ok (.aload_n 0, 1) := by decide +kernel
theorem dX12_wind_39 : decode cX12_wind 39 = .ok (.getfield 9, 3) := by decide +kernel
theorem dX12_wind_42 : decode cX12_wind 42 = .ok (.iload_n 2, 1) := by decide +kernel
theorem dX12_wind_43 : decode cX12_wind 43 = .ok (.iaload, 1) := by decide +kernel
theorem dX12_wind_44 : decode cX12_wind 44 = .ok (.istore_n 3, 1) := by decide +kernel
theorem dX12_wind_45 : decode cX12_wind 45 = .ok (.iconst (-1), 1) := by decide +kernel
theorem dX12_wind_46 : decode cX12_wind 46 = .ok (.istore 4, 2) := by decide +kernel
theorem dX12_wind_48 : decode cX12_wind 48 = .ok (.iconst (-1), 1) := by decide +kernel
theorem dX12_wind_49 : decode cX12_wind 49 = .ok (.istore 5, 2) := by decide +kernel
theorem dX12_wind_51 : decode cX12_wind 51 = .ok (.sipush 1504, 3) := by decide +kernel
theorem dX12_wind_54 : decode cX12_wind 54 = .ok (.istore 6, 2) := by decide +kernel
theorem dX12_wind_56 : decode cX12_wind 56 = .ok (.iload 6, 2) := by decide +kernel
theorem dX12_wind_58 : decode cX12_wind 58 = .ok (.sipush 1504, 3) := by decide +kernel
theorem dX12_wind_61 : decode cX12_wind 61 = .ok (.iconst 2, 1) := by decide +kernel
theorem dX12_wind_62 : decode cX12_wind 62 = .ok (.aload_n 0, 1) := by decide +kernel
theorem dX12_wind_63 : decode cX12_wind 63 = .ok (.getfield 9, 3) := by decide +kernel
theorem dX12_wind_66 : decode cX12_wind 66 = .ok (.sipush 1503, 3) := by decide +kernel
theorem dX12_wind_69 : decode cX12_wind 69 = .ok (.iaload, 1) := by decide +kernel
theorem dX12_wind_70 : decode cX12_wind 70 = .ok (.imul, 1) := by decide +kernel
theorem dX12_wind_71 : decode cX12_wind 71 = .ok (.iadd, 1) := by decide +kernel
theorem dX12_wind_72 : decode cX12_wind 72 = .ok (.if_icmp .ge 120, 3) := by decide +kernel
theorem dX12_wind_75 : decode cX12_wind 75 = .ok (.aload_n 0, 1) := by decide +kernel
theorem dX12_wind_76 : decode cX12_wind 76 = .ok (.getfield 9, 3) := by decide +kernel
theorem dX12_wind_79 : decode cX12_wind 79 = .ok (.iload 6, 2) := by decide +kernel
theorem dX12_wind_81 : decode cX12_wind 81 = .ok (.iconst 1, 1) := by decide +kernel
theorem dX12_wind_82 : decode cX12_wind 82 = .ok (.iadd, 1) := by decide +kernel
theorem dX12_wind_83 : decode cX12_wind 83 = .ok (.iaload, 1) := by decide +kernel
theorem dX12_wind_84 : decode cX12_wind 84 = .ok (.ifCond .lt 102, 3) := by decide +kernel
theorem dX12_wind_87 : decode cX12_wind 87 = .ok (.aload_n 0, 1) := by decide +kernel
theorem dX12_wind_88 : decode cX12_wind 88 = .ok (.sipush 1503, 3) := by decide +kernel
theorem dX12_wind_91 : decode cX12_wind 91 = .ok (.sipush 1504, 3) := by decide +kernel
theorem dX12_wind_94 : decode cX12_wind 94 = .ok (.aload_n 0, 1) := by decide +kernel
theorem dX12_wind_95 : decode cX12_wind 95 = .ok (.getfield 9, 3) := by decide +kernel
theorem dX12_wind_98 : decode cX12_wind 98 = .ok (.iload 6, 2) := by decide +kernel
theorem dX12_wind_100 : decode cX12_wind 100 = .ok (.iaload, 1) := by decide +kernel
theorem dX12_wind_101 : decode cX12_wind 101 = .ok (.invokevirtual 243, 3) := by decide +kernel
theorem dX12_wind_104 : decode cX12_wind 104 = .ok (.iload 6, 2) := by decide +kernel
theorem dX12_wind_106 : decode cX12_wind 106 = .ok (.if_icmp .eq 6, 3) := by decide +kernel
theorem dX12_wind_109 : decode cX12_wind 109 = .ok (.goto 77, 3) := by decide +kernel
theorem dX12_wind_112 : decode cX12_wind 112 = .ok (.aload_n 0, 1) := by decide +kernel
theorem dX12_wind_113 : decode cX12_wind 113 = .ok (.getfield 9, 3) := by decide +kernel
theorem dX12_wind_116 : decode cX12_wind 116 = .ok (.iload 6, 2) := by decide +kernel
theorem dX12_wind_118 : decode cX12_wind 118 = .ok (.iaload, 1) := by decide +kernel
theorem dX12_wind_119 : decode cX12_wind 119 = .ok (.iload_n 3, 1) := by decide +kernel
theorem dX12_wind_120 : decode cX12_wind 120 = .ok (.if_icmp .ge 29, 3) := by decide +kernel
theorem dX12_wind_123 : decode cX12_wind 123 = .ok (.iload 4, 2) := by decide +kernel
theorem dX12_wind_125 : decode cX12_wind 125 = .ok (.ifCond .lt 20, 3) := by decide +kernel
theorem dX12_wind_128 : decode cX12_wind 128 = .ok (.aload_n 0, 1) := by decide +kernel
theorem dX12_wind_129 : decode cX12_wind 129 = .ok (.getfield 9, 3) := by decide +kernel
theorem dX12_wind_132 : decode cX12_wind 132 = .ok (.iload 6, 2) := by decide +kernel
theorem dX12_wind_134 : decode cX12_wind 134 = .ok (.iaload, 1) := by decide +kernel
theorem dX12_wind_135 : decode cX12_wind 135 = .ok (.aload_n 0, 1) := by decide +kernel
theorem dX12_wind_136 : decode cX12_wind 136 = .ok (.getfield 9, 3) := by decide +kernel
theorem dX12_wind_139 : decode cX12_wind 139 = .ok (.iload 4, 2) := by decide +kernel
theorem dX12_wind_141 : decode cX12_wind 141 = .ok (.iaload, 1) := by decide +kernel
theorem dX12_wind_142 : decode cX12_wind 142 = .ok (.if_icmp .le 7, 3) := by decide +kernel
theorem dX12_wind_145 : decode cX12_wind 145 = .ok (.iload 6, 2) := by decide +kernel
theorem dX12_wind_147 : decode cX12_wind 147 = .ok (.istore 4, 2) := by decide +kernel
theorem dX12_wind_149 : decode cX12_wind 149 = .ok (.aload_n 0, 1) := by decide +kernel
theorem dX12_wind_150 : decode cX12_wind 150 = .ok (.getfield 9, 3) := by decide +kernel
theorem dX12_wind_153 : decode cX12_wind 153 = .ok (.iload 6, 2) := by decide +kernel
theorem dX12_wind_155 : decode cX12_wind 155 = .ok (.iaload, 1) := by decide +kernel
theorem dX12_wind_156 : decode cX12_wind 156 = .ok (.iload_n 3, 1) := by decide +kernel
theorem dX12_wind_157 : decode cX12_wind 157 = .ok (.if_icmp .le 29, 3) := by decide +kernel
theorem dX12_wind_160 : decode cX12_wind 160 = .ok (.iload 5, 2) := by decide +kernel
theorem dX12_wind_162 : decode cX12_wind 162 = .ok (.ifCond .lt 20, 3) := by decide +kernel
theorem dX12_wind_165 : decode cX12_wind 165 = .ok (.aload_n 0, 1) := by decide +kernel
theorem dX12_wind_166 : decode cX12_wind 166 = .ok (.getfield 9, 3) := by decide +kernel
theorem dX12_wind_169 : decode cX12_wind 169 = .ok (.iload 6, 2) := by decide +kernel
theorem dX12_wind_171 : decode cX12_wind 171 = .ok (.iaload, 1) := by decide +kernel
theorem dX12_wind_172 : decode cX12_wind 172 = .ok (.aload_n 0, 1) := by decide +kernel
theorem dX12_wind_173 : decode cX12_wind 173 = .ok (.getfield 9, 3) := by decide +kernel
theorem dX12_wind_176 : decode cX12_wind 176 = .ok (.iload 5, 2) := by decide +kernel
theorem dX12_wind_178 : decode cX12_wind 178 = .ok (.iaload, 1) := by decide +kernel
theorem dX12_wind_179 : decode cX12_wind 179 = .ok (.if_icmp .ge 7, 3) := by decide +kernel
theorem dX12_wind_182 : decode cX12_wind 182 = .ok (.iload 6, 2) := by decide +kernel
theorem dX12_wind_184 : decode cX12_wind 184 = .ok (.istore 5, 2) := by decide +kernel
theorem dX12_wind_186 : decode cX12_wind 186 = .ok (.iinc 6 2, 3) := by decide +kernel
theorem dX12_wind_189 : decode cX12_wind 189 = .ok (.goto (-133), 3) := by decide +kernel
theorem dX12_wind_192 : decode cX12_wind 192 = .ok (.iload 4, 2) := by decide +kernel
theorem dX12_wind_194 : decode cX12_wind 194 = .ok (.ifCond .ge 7, 3) := by decide +kernel
theorem dX12_wind_197 : decode cX12_wind 197 = .ok (.iconst 0, 1) := by decide +kernel
theorem dX12_wind_198 : decode cX12_wind 198 = .ok (.goto 12, 3) := by decide +kernel
theorem dX12_wind_201 : decode cX12_wind 201 = .ok (.aload_n 0, 1) := by decide +kernel
theorem dX12_wind_202 : decode cX12_wind 202 = .ok (.getfield 9, 3) := by decide +kernel
theorem dX12_wind_205 : decode cX12_wind 205 = .ok (.iload 4, 2) := by decide +kernel
theorem dX12_wind_207 : decode cX12_wind 207 = .ok (.iconst 1, 1) := by decide +kernel
theorem dX12_wind_208 : decode cX12_wind 208 = .ok (.iadd, 1) := by decide +kernel
theorem dX12_wind_209 : decode cX12_wind 209 = .ok (.iaload, 1) := by decide +kernel
theorem dX12_wind_210 : decode cX12_wind 210 = .ok (.iload 5, 2) := by decide +kernel
theorem dX12_wind_212 : decode cX12_wind 212 = .ok (.ifCond .ge 7, 3) := by decide +kernel
theorem dX12_wind_215 : decode cX12_wind 215 = .ok (.iconst 0, 1) := by decide +kernel
theorem dX12_wind_216 : decode cX12_wind 216 = .ok (.goto 12, 3) := by decide +kernel
theorem dX12_wind_219 : decode cX12_wind 219 = .ok (.aload_n 0, 1) := by decide +kernel
theorem dX12_wind_220 : decode cX12_wind 220 = .ok (.getfield 9, 3) := by decide +kernel
theorem dX12_wind_223 : decode cX12_wind 223 = .ok (.iload 5, 2) := by decide +kernel
theorem dX12_wind_225 : decode cX12_wind 225 = .ok (.iconst 1, 1) := by decide +kernel
theorem dX12_wind_226 : decode cX12_wind 226 = .ok (.iadd, 1) := by decide +kernel
theorem dX12_wind_227 : decode cX12_wind 227 = .ok (.iaload, 1) := by decide +kernel
theorem dX12_wind_228 : decode cX12_wind 228 = .ok (.invokestatic 211, 3) := by decide +kernel
theorem dX12_wind_231 : decode cX12_wind 231 = .ok (.ireturn, 1) := by decide +kernel
theorem dX12_worthOf_0 : decode cX12_worthOf 0 = .ok (.iconst 0, 1) := by decide +kernel
theorem dX12_worthOf_1 : decode cX12_worthOf 1 = .ok (.istore_n 2, 1) := by decide +kernel
theorem dX12_worthOf_2 : decode cX12_worthOf 2 = .ok (.iconst 0, 1) := by decide +kernel
theorem dX12_worthOf_3 : decode cX12_worthOf 3 = .ok (.istore_n 3, 1) := by decide +kernel
theorem dX12_worthOf_4 : decode cX12_worthOf 4 = .ok (.iload_n 3, 1) := by decide +kernel
theorem dX12_worthOf_5 : decode cX12_worthOf 5 = .ok (.bipush 96, 2) := by decide +kernel
theorem dX12_worthOf_7 : decode cX12_worthOf 7 = .ok (.if_icmp .ge 96, 3) := by decide +kernel
theorem dX12_worthOf_10 : decode cX12_worthOf 10 = .ok (.iload_n 3, 1) := by decide +kernel
theorem dX12_worthOf_11 : decode cX12_worthOf 11 = .ok (.aload_n 0, 1) := by decide +kernel
theorem dX12_worthOf_12 : decode cX12_worthOf 12 = .ok (.getfield 113, 3) := by decide +kernel
theorem dX12_worthOf_15 : decode cX12_worthOf 15 = .ok (.iload_n 1, 1) := by decide +kernel
theorem dX12_worthOf_16 : decode cX12_worthOf 16 = .ok (.iaload, 1) := by decide +kernel
theorem dX12_worthOf_17 : decode cX12_worthOf 17 = .ok (.aload_n 0, 1) := by decide +kernel
theorem dX12_worthOf_18 : decode cX12_worthOf 18 = .ok (.getfield 116, 3) := by decide +kernel
theorem dX12_worthOf_21 : decode cX12_worthOf 21 = .ok (.iload_n 1, 1) := by decide +kernel
theorem dX12_worthOf_22 : decode cX12_worthOf 22 = .ok (.iaload, 1) := by decide +kernel
theorem dX12_worthOf_23 : decode cX12_worthOf 23 = .ok (.invokestatic 232, 3) := by decide +kernel
theorem dX12_worthOf_26 : decode cX12_worthOf 26 = .ok (.ifCond .ne 6, 3) := by decide +kernel
theorem dX12_worthOf_29 : decode cX12_worthOf 29 = .ok (.goto 68, 3) := by decide +kernel
theorem dX12_worthOf_32 : decode cX12_worthOf 32 = .ok (.aload_n 0, 1) := by decide +kernel
theorem dX12_worthOf_33 : decode cX12_worthOf 33 = .ok (.getfield 9, 3) := by decide +kernel
theorem dX12_worthOf_36 : decode cX12_worthOf 36 = .ok (.sipush 192, 3) := by decide +kernel
theorem dX12_worthOf_39 : decode cX12_worthOf 39 = .ok (.iload_n 3, 1) := by decide +kernel
theorem dX12_worthOf_40 : decode cX12_worthOf 40 = .ok (.iadd, 1) := by decide +kernel
theorem dX12_worthOf_41 : decode cX12_worthOf 41 = .ok (.iaload, 1) := by decide +kernel
theorem dX12_worthOf_42 : decode cX12_worthOf 42 = .ok (.ifCond .ne 8, 3) := by decide +kernel
theorem dX12_worthOf_45 : decode cX12_worthOf 45 = .ok (.bipush 100, 2) := by decide +kernel
theorem dX12_worthOf_47 : decode cX12_worthOf 47 = .ok (.goto 25, 3) := by decide +kernel
theorem dX12_worthOf_50 : decode cX12_worthOf 50 = .ok (.aload_n 0, 1) := by decide +kernel
theorem dX12_worthOf_51 : decode cX12_worthOf 51 = .ok (.getfield 9, 3) := by decide +kernel
theorem dX12_worthOf_54 : decode cX12_worthOf 54 = .ok (.sipush 192, 3) := by decide +kernel
theorem dX12_worthOf_57 : decode cX12_worthOf 57 = .ok (.iload_n 3, 1) := by decide +kernel
theorem dX12_worthOf_58 : decode cX12_worthOf 58 = .ok (.iadd, 1) := by decide +kernel
theorem dX12_worthOf_59 : decode cX12_worthOf 59 = .ok (.iaload, 1) := by decide +kernel
theorem dX12_worthOf_60 : decode cX12_worthOf 60 = .ok (.iconst 1, 1) := by decide +kernel
theorem dX12_worthOf_61 : decode cX12_worthOf 61 = .ok (.if_icmp .ne 9, 3) := by decide +kernel
theorem dX12_worthOf_64 : decode cX12_worthOf 64 = .ok (.sipush 150, 3) := by decide +kernel
theorem dX12_worthOf_67 : decode cX12_worthOf 67 = .ok (.goto 5, 3) := by decide +kernel
theorem dX12_worthOf_70 : decode cX12_worthOf 70 = .ok (.bipush 60, 2) := by decide +kernel
theorem dX12_worthOf_72 : decode cX12_worthOf 72 = .ok (.istore 4, 2) := by decide +kernel
theorem dX12_worthOf_74 : decode cX12_worthOf 74 = .ok (.iload_n 2, 1) := by decide +kernel
theorem dX12_worthOf_75 : decode cX12_worthOf 75 = .ok (.iconst 0, 1) := by decide +kernel
theorem dX12_worthOf_76 : decode cX12_worthOf 76 = .ok (.iload 4, 2) := by decide +kernel
theorem dX12_worthOf_78 : decode cX12_worthOf 78 = .ok (.aload_n 0, 1) := by decide +kernel
theorem dX12_worthOf_79 : decode cX12_worthOf 79 = .ok (.getfield 9, 3) := by decide +kernel
theorem dX12_worthOf_82 : decode cX12_worthOf 82 = .ok (.sipush 480, 3) := by decide +kernel
theorem dX12_worthOf_85 : decode cX12_worthOf 85 = .ok (.iload_n 3, 1) := by decide +kernel
theorem dX12_worthOf_86 : decode cX12_worthOf 86 = .ok (.iadd, 1) := by decide +kernel
theorem dX12_worthOf_87 : decode cX12_worthOf 87 = .ok (.iaload, 1) := by decide +kernel
theorem dX12_worthOf_88 : decode cX12_worthOf 88 = .ok (.bipush 100, 2) := by decide +kernel
theorem dX12_worthOf_90 : decode cX12_worthOf 90 = .ok (.idiv, 1) := by decide +kernel
theorem dX12_worthOf_91 : decode cX12_worthOf 91 = .ok (.isub, 1) := by decide +kernel
theorem dX12_worthOf_92 : decode cX12_worthOf 92 = .ok (.invokestatic 211, 3) := by decide +kernel
theorem dX12_worthOf_95 : decode cX12_worthOf 95 = .ok (.iadd, 1) := by decide +kernel
theorem dX12_worthOf_96 : decode cX12_worthOf 96 = .ok (.istore_n 2, 1) := by decide +kernel
theorem dX12_worthOf_97 : decode cX12_worthOf 97 = .ok (.iinc 3 1, 3) := by decide +kernel
theorem dX12_worthOf_100 : decode cX12_worthOf 100 = .ok (.goto (-96), 3) := by decide +kernel
theorem dX12_worthOf_103 : decode cX12_worthOf 103 = .ok (.iload_n 2, 1) := by decide +kernel
theorem dX12_worthOf_104 : decode cX12_worthOf 104 = .ok (.ireturn, 1) := by decide +kernel
