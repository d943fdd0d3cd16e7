theorem dX3_passHour_42 : decode cX3_passHour 42 = .ok (.iload_n 2, 1) := by decide +kernel
theorem dX3_passHour_43 : decode cX3_passHour 43 = .ok (.aload_n 0, 1) := by decide +kernel
theorem dX3_passHour_44 : decode cX3_passHour 44 = .ok (.getfield 47, 3) := by decide +kernel
theorem dX3_passHour_47 : decode cX3_passHour 47 = .ok (.if_icmp .ge 32, 3) := by decide +kernel
theorem dX3_passHour_50 : decode cX3_passHour 50 = .ok (.aload_n 0, 1) := by decide +kernel
theorem dX3_passHour_51 : decode cX3_passHour 51 = .ok (.getfield 27, 3) := by decide +kernel
theorem dX3_passHour_54 : decode cX3_passHour 54 = .ok (.iload_n 2, 1) := by decide +kernel
theorem dX3_passHour_55 : decode cX3_passHour 55 = .ok (.aaload, 1) := by decide +kernel
theorem dX3_passHour_56 : decode cX3_passHour 56 = .ok (.invokevirtual 67, 3) := by decide +kernel
theorem dX3_passHour_59 : decode cX3_passHour 59 = .ok (.ifCond .eq 14, 3) := by decide +kernel
theorem dX3_passHour_62 : decode cX3_passHour 62 = .ok (.aload_n 0, 1) := by decide +kernel
theorem dX3_passHour_63 : decode cX3_passHour 63 = .ok (.aload_n 0, 1) := by decide +kernel
theorem dX3_passHour_64 : decode cX3_passHour 64 = .ok (.getfield 27, 3) := by decide +kernel
theorem dX3_passHour_67 : decode cX3_passHour 67 = .ok (.iload_n 2, 1) := by decide +kernel
theorem dX3_passHour_68 : decode cX3_passHour 68 = .ok (.aaload, 1) := by decide +kernel
theorem dX3_passHour_69 : decode cX3_passHour 69 = .ok (.iload_n 1, 1) := by decide +kernel
theorem dX3_passHour_70 : decode cX3_passHour 70 = .ok (.invokevirtual 110, 3) := by decide +kernel
theorem dX3_passHour_73 : decode cX3_passHour 73 = .ok (.iinc 2 1, 3) := by decide +kernel
theorem dX3_passHour_76 : decode cX3_passHour 76 = .ok (.goto (-34), 3) := by decide +kernel
theorem dX3_passHour_79 : decode cX3_passHour 79 = .ok (.iconst 0, 1) := by decide +kernel
theorem dX3_passHour_80 : decode cX3_passHour 80 = .ok (.istore_n 2, 1) := by decide +kernel
theorem dX3_passHour_81 : decode cX3_passHour 81 = .ok (.iload_n 2, 1) := by decide +kernel
theorem dX3_passHour_82 : decode cX3_passHour 82 = .ok (.aload_n 0, 1) := by decide +kernel
theorem dX3_passHour_83 : decode cX3_passHour 83 = .ok (.getfield 47, 3) := by decide +kernel
theorem dX3_passHour_86 : decode cX3_passHour 86 = .ok (.if_icmp .ge 33, 3) := by decide +kernel
theorem dX3_passHour_89 : decode cX3_passHour 89 = .ok (.aload_n 0, 1) := by decide +kernel
theorem dX3_passHour_90 : decode cX3_passHour 90 = .ok (.getfield 27, 3) := by decide +kernel
theorem dX3_passHour_93 : decode cX3_passHour 93 = .ok (.iload_n 2, 1) := by decide +kernel
theorem dX3_passHour_94 : decode cX3_passHour 94 = .ok (.aaload, 1) := by decide +kernel
theorem dX3_passHour_95 : decode cX3_passHour 95 = .ok (.getfield 64, 3) := by decide +kernel
theorem dX3_passHour_98 : decode cX3_passHour 98 = .ok (.iconst 4, 1) := by decide +kernel
theorem dX3_passHour_99 : decode cX3_passHour 99 = .ok (.if_icmp .ne 14, 3) := by decide +kernel
theorem dX3_passHour_102 : decode cX3_passHour 102 = .ok (.aload_n 0, 1) := by decide +kernel
theorem dX3_passHour_103 : decode cX3_passHour 103 = .ok (.aload_n 0, 1) := by decide +kernel
theorem dX3_passHour_104 : decode cX3_passHour 104 = .ok (.getfield 27, 3) := by decide +kernel
theorem dX3_passHour_107 : decode cX3_passHour 107 = .ok (.iload_n 2, 1) := by decide +kernel
theorem dX3_passHour_108 : decode cX3_passHour 108 = .ok (.aaload, 1) := by decide +kernel
theorem dX3_passHour_109 : decode cX3_passHour 109 = .ok (.iload_n 1, 1) := by decide +kernel
theorem dX3_passHour_110 : decode cX3_passHour 110 = .ok (.invokevirtual 114, 3) := by decide +kernel
theorem dX3_passHour_113 : decode cX3_passHour 113 = .ok (.iinc 2 1, 3) := by decide +kernel
theorem dX3_passHour_116 : decode cX3_passHour 116 = .ok (.goto (-35), 3) := by decide +kernel
theorem dX3_passHour_119 : decode cX3_passHour 119 = .ok (.aload_n 0, 1) := by decide +kernel
theorem dX3_passHour_120 : decode cX3_passHour 120 = .ok (.getfield 21, 3) := by decide +kernel
theorem dX3_passHour_123 : decode cX3_passHour 123 = .ok (.invokevirtual 117, 3) := by decide +kernel
theorem dX3_passHour_126 : decode cX3_passHour 126 = .ok (.aload_n 0, 1) := by decide +kernel
theorem dX3_passHour_127 : decode cX3_passHour 127 = .ok (.aload_n 0, 1) := by decide +kernel
theorem dX3_passHour_128 : decode cX3_passHour 128 = .ok (.getfield 12, 3) := by decide +kernel
theorem dX3_passHour_131 : decode cX3_passHour 131 = .ok (.aload_n 0, 1) := by decide +kernel
theorem dX3_passHour_132 : decode cX3_passHour 132 = .ok (.getfield 32, 3) := by decide +kernel
theorem dX3_passHour_135 : decode cX3_passHour 135 = .ok (.invokevirtual 120, 3) := by decide +kernel
theorem dX3_passHour_138 : decode cX3_passHour 138 = .ok (.invokevirtual 123, 3) := by decide +kernel
theorem dX3_passHour_141 : decode cX3_passHour 141 = .ok (.aload_n 0, 1) := by decide +kernel
theorem dX3_passHour_142 : decode cX3_passHour 142 = .ok (.getfield 32, 3) := by decide +kernel
theorem dX3_passHour_145 : decode cX3_passHour 145 = .ok (.bipush 24, 2) := by decide +kernel
theorem dX3_passHour_147 : decode cX3_passHour 147 = .ok (.irem, 1) := by decide +kernel
theorem dX3_passHour_148 : decode cX3_passHour 148 = .ok (.ifCond .ne 10, 3) := by decide +kernel
theorem dX3_passHour_151 : decode cX3_passHour 151 = .ok (.aload_n 0, 1) := by decide +kernel
theorem dX3_passHour_152 : decode cX3_passHour 152 = .ok (.getfield 21, 3) := by decide +kernel
theorem dX3_passHour_155 : decode cX3_passHour 155 = .ok (.invokevirtual 126, 3) := by decide +kernel
theorem dX3_passHour_158 : decode cX3_passHour 158 = .ok (.return_, 1) := by decide +kernel
theorem dX3_runBank_0 : decode cX3_runBank 0 = .ok (.aload_n 1, 1) := by decide +kernel
theorem dX3_runBank_1 : decode cX3_runBank 1 = .ok (.getfield 64, 3) := by decide +kernel
theorem dX3_runBank_4 : decode cX3_runBank 4 = .ok (.iconst 1, 1) := by decide +kernel
theorem dX3_runBank_5 : decode cX3_runBank 5 = .ok (.if_icmp .ne 10, 3) := by decide +kernel
theorem dX3_runBank_8 : decode cX3_runBank 8 = .ok (.aload_n 1, 1) := by decide +kernel
theorem dX3_runBank_9 : decode cX3_runBank 9 = .ok (.invokevirtual 129, 3) := by decide +kernel
theorem dX3_runBank_12 : decode cX3_runBank 12 = .ok (.goto 49, 3) := by decide +kernel
theorem dX3_runBank_15 : decode cX3_runBank 15 = .ok (.aload_n 0, 1) := by decide +kernel
theorem dX3_runBank_16 : decode cX3_runBank 16 = .ok (.aload_n 1, 1) := by decide +kernel
theorem dX3_runBank_17 : decode cX3_runBank 17 = .ok (.iload_n 2, 1) := by decide +kernel
theorem dX3_runBank_18 : decode cX3_runBank 18 = .ok (.invokevirtual 132, 3) := by decide +kernel
theorem dX3_runBank_21 : decode cX3_runBank 21 = .ok (.istore_n 3, 1) := by decide +kernel
theorem dX3_runBank_22 : decode cX3_runBank 22 = .ok (.iload_n 3, 1) := by decide +kernel
theorem dX3_runBank_23 : decode cX3_runBank 23 = .ok (.aload_n 1, 1) := by decide +kernel
theorem dX3_runBank_24 : decode cX3_runBank 24 = .ok (.getfield 91, 3) := by decide +kernel
theorem dX3_runBank_27 : decode cX3_runBank 27 = .ok (.if_icmp .gt 30, 3) := by decide +kernel
theorem dX3_runBank_30 : decode cX3_runBank 30 = .ok (.iload_n 2, 1) := by decide +kernel
theorem dX3_runBank_31 : decode cX3_runBank 31 = .ok (.aload_n 0, 1) := by decide +kernel
theorem dX3_runBank_32 : decode cX3_runBank 32 = .ok (.aload_n 1, 1) := by decide +kernel
theorem dX3_runBank_33 : decode cX3_runBank 33 = .ok (.invokevirtual 84, 3) := by decide +kernel
theorem dX3_runBank_36 : decode cX3_runBank 36 = .ok (.if_icmp .gt 21, 3) := by decide +kernel
theorem dX3_runBank_39 : decode cX3_runBank 39 = .ok (.aload_n 0, 1) := by decide +kernel
theorem dX3_runBank_40 : decode cX3_runBank 40 = .ok (.getfield 21, 3) := by decide +kernel
theorem dX3_runBank_43 : decode cX3_runBank 43 = .ok (.aload_n 1, 1) := by decide +kernel
theorem dX3_runBank_44 : decode cX3_runBank 44 = .ok (.getfield 94, 3) := by decide +kernel
theorem dX3_runBank_47 : decode cX3_runBank 47 = .ok (.iload_n 3, 1) := by decide +kernel
theorem dX3_runBank_48 : decode cX3_runBank 48 = .ok (.invokevirtual 136, 3) := by decide +kernel
theorem dX3_runBank_51 : decode cX3_runBank 51 = .ok (.aload_n 1, 1) := by decide +kernel
theorem dX3_runBank_52 : decode cX3_runBank 52 = .ok (.iload_n 3, 1) := by decide +kernel
theorem dX3_runBank_53 : decode cX3_runBank 53 = .ok (.invokevirtual 140, 3) := by decide +kernel
theorem dX3_runBank_56 : decode cX3_runBank 56 = .ok (.return_, 1) := by decide +kernel
theorem dX3_runBank_57 : decode cX3_runBank 57 = .ok (.aload_n 1, 1) := by decide +kernel
theorem dX3_runBank_58 : decode cX3_runBank 58 = .ok (.invokevirtual 143, 3) := by decide +kernel
theorem dX3_runBank_61 : decode cX3_runBank 61 = .ok (.aload_n 0, 1) := by decide +kernel
theorem dX3_runBank_62 : decode cX3_runBank 62 = .ok (.aload_n 1, 1) := by decide +kernel
theorem dX3_runBank_63 : decode cX3_runBank 63 = .ok (.iload_n 2, 1) := by decide +kernel
theorem dX3_runBank_64 : decode cX3_runBank 64 = .ok (.invokevirtual 146, 3) := by decide +kernel
theorem dX3_runBank_67 : decode cX3_runBank 67 = .ok (.return_, 1) := by decide +kernel
theorem dX3_runBreach_0 : decode cX3_runBreach 0 = .ok (.iload_n 2, 1) := by decide +kernel
theorem dX3_runBreach_1 : decode cX3_runBreach 1 = .ok (.aload_n 0, 1) := by decide +kernel
theorem dX3_runBreach_2 : decode cX3_runBreach 2 = .ok (.getfield 21, 3) := by decide +kernel
theorem dX3_runBreach_5 : decode cX3_runBreach 5 = .ok (.aload_n 1, 1) := by decide +kernel
theorem dX3_runBreach_6 : decode cX3_runBreach 6 = .ok (.getfield 94, 3) := by decide +kernel
theorem dX3_runBreach_9 : decode cX3_runBreach 9 = .ok (.invokevirtual 40, 3) := by decide +kernel
theorem dX3_runBreach_12 : decode cX3_runBreach 12 = .ok (.isub, 1) := by decide +kernel
theorem dX3_runBreach_13 : decode cX3_runBreach 13 = .ok (.i2l, 1) := by decide +kernel
theorem dX3_runBreach_14 : decode cX3_runBreach 14 = .ok (.aload_n 1, 1) := by decide +kernel
theorem dX3_runBreach_15 : decode cX3_runBreach 15 = .ok (.getfield 88, 3) := by decide +kernel
theorem dX3_runBreach_18 : decode cX3_runBreach 18 = .ok (.i2l, 1) := by decide +kernel
theorem dX3_runBreach_19 : decode cX3_runBreach 19 = .ok (.lmul, 1) := by decide +kernel
theorem dX3_runBreach_20 : decode cX3_runBreach 20 = .ok (.ldc2_w 149, 3) := by decide +kernel
theorem dX3_runBreach_23 : decode cX3_runBreach 23 = .ok (.ldiv, 1) := by decide +kernel
theorem dX3_runBreach_24 : decode cX3_runBreach 24 = .ok (.l2i, 1) := by decide +kernel
theorem dX3_runBreach_25 : decode cX3_runBreach 25 = .ok (.istore_n 3, 1) := by decide +kernel
theorem dX3_runBreach_26 : decode cX3_runBreach 26 = .ok (.iload_n 3, 1) := by decide +kernel
theorem dX3_runBreach_27 : decode cX3_runBreach 27 = .ok (.ifCond .lt 18, 3) := by decide +kernel
theorem dX3_runBreach_30 : decode cX3_runBreach 30 = .ok (.aload_n 0, 1) := by decide +kernel
theorem dX3_runBreach_31 : decode cX3_runBreach 31 = .ok (.getfield 21, 3) := by decide +kernel
theorem dX3_runBreach_34 : decode cX3_runBreach 34 = .ok (.aload_n 1, 1) := by decide +kernel
theorem dX3_runBreach_35 : decode cX3_runBreach 35 = .ok (.getfield 94, 3) := by decide +kernel
theorem dX3_runBreach_38 : decode cX3_runBreach 38 = .ok (.iload_n 3, 1) := by decide +kernel
theorem dX3_runBreach_39 : decode cX3_runBreach 39 = .ok (.invokevirtual 136, 3) := by decide +kernel
theorem dX3_runBreach_42 : decode cX3_runBreach 42 = .ok (.goto 35, 3) := by decide +kernel
theorem dX3_runBreach_45 : decode cX3_runBreach 45 = .ok (.iload_n 3, 1) := by decide +kernel
theorem dX3_runBreach_46 : decode cX3_runBreach 46 = .ok (.ineg, 1) := by decide +kernel
theorem dX3_runBreach_47 : decode cX3_runBreach 47 = .ok (.aload_n 0, 1) := by decide +kernel
theorem dX3_runBreach_48 : decode cX3_runBreach 48 = .ok (.getfield 21, 3) := by decide +kernel
theorem dX3_runBreach_51 : decode cX3_runBreach 51 = .ok (.getfield 151, 3) := by decide +kernel
theorem dX3_runBreach_54 : decode cX3_runBreach 54 = .ok (.aload_n 1, 1) := by decide +kernel
theorem dX3_runBreach_55 : decode cX3_runBreach 55 = .ok (.getfield 94, 3) := by decide +kernel
theorem dX3_runBreach_58 : decode cX3_runBreach 58 = .ok (.iaload, 1) := by decide +kernel
theorem dX3_runBreach_59 : decode cX3_runBreach 59 = .ok (.invokestatic 71, 3) := by decide +kernel
theorem dX3_runBreach_62 : decode cX3_runBreach 62 = .ok (.ineg, 1) := by decide +kernel
theorem dX3_runBreach_63 : decode cX3_runBreach 63 = .ok (.istore_n 3, 1) := by decide +kernel
theorem dX3_runBreach_64 : decode cX3_runBreach 64 = .ok (.aload_n 0, 1) := by decide +kernel
theorem dX3_runBreach_65 : decode cX3_runBreach 65 = .ok (.getfield 21, 3) := by decide +kernel
theorem dX3_runBreach_68 : decode cX3_runBreach 68 = .ok (.aload_n 1, 1) := by decide +kernel
theorem dX3_runBreach_69 : decode cX3_runBreach 69 = .ok (.getfield 94, 3) := by decide +kernel
theorem dX3_runBreach_72 : decode cX3_runBreach 72 = .ok (.iload_n 3, 1) := by decide +kernel
theorem dX3_runBreach_73 : decode cX3_runBreach 73 = .ok (.ineg, 1) := by decide +kernel
theorem dX3_runBreach_74 : decode cX3_runBreach 74 = .ok (.invokevirtual 154, 3) := by decide +kernel
theorem dX3_runBreach_77 : decode cX3_runBreach 77 = .ok (.aload_n 1, 1) := by decide +kernel
theorem dX3_runBreach_78 : decode cX3_runBreach 78 = .ok (.iload_n 3, 1) := by decide +kernel
theorem dX3_runBreach_79 : decode cX3_runBreach 79 = .ok (.invokevirtual 140, 3) := by decide +kernel
theorem dX3_runBreach_82 : decode cX3_runBreach 82 = .ok (.return_, 1) := by decide +kernel
theorem dX3_runSluice_0 : decode cX3_runSluice 0 = .ok (.aload_n 0, 1) := by decide +kernel
theorem dX3_runSluice_1 : decode cX3_runSluice 1 = .ok (.getfield 21, 3) := by decide +kernel
theorem dX3_runSluice_4 : decode cX3_runSluice 4 = .ok (.aload_n 1, 1) := by decide +kernel
theorem dX3_runSluice_5 : decode cX3_runSluice 5 = .ok (.getfield 50, 3) := by decide +kernel
theorem dX3_runSluice_8 : decode cX3_runSluice 8 = .ok (.invokevirtual 40, 3) := by decide +kernel
theorem dX3_runSluice_11 : decode cX3_runSluice 11 = .ok (.iload_n 2, 1) := by decide +kernel
theorem dX3_runSluice_12 : decode cX3_runSluice 12 = .ok (.isub, 1) := by decide +kernel
theorem dX3_runSluice_13 : decode cX3_runSluice 13 = .ok (.istore_n 3, 1) := by decide +kernel
theorem dX3_runSluice_14 : decode cX3_runSluice 14 = .ok (.iconst 0, 1) := by decide +kernel
theorem dX3_runSluice_15 : decode cX3_runSluice 15 = .ok (.istore 4, 2) := by decide +kernel
theorem dX3_runSluice_17 : decode cX3_runSluice 17 = .ok (.aload_n 1, 1) := by decide +kernel
theorem dX3_runSluice_18 : decode cX3_runSluice 18 = .ok (.getfield 157, 3) := by decide +kernel
theorem dX3_runSluice_21 : decode cX3_runSluice 21 = .ok (.ifCond .eq 47, 3) := by decide +kernel
theorem dX3_runSluice_24 : decode cX3_runSluice 24 = .ok (.iload_n 3, 1) := by decide +kernel
theorem dX3_runSluice_25 : decode cX3_runSluice 25 = .ok (.ifCond .le 43, 3) := by decide +kernel
theorem dX3_runSluice_28 : decode cX3_runSluice 28 = .ok (.iload_n 3, 1) := by decide +kernel
theorem dX3_runSluice_29 : decode cX3_runSluice 29 = .ok (.iconst 4, 1) := by decide +kernel
theorem dX3_runSluice_30 : decode cX3_runSluice 30 = .ok (.idiv, 1) := by decide +kernel
theorem dX3_runSluice_31 : decode cX3_runSluice 31 = .ok (.aload_n 0, 1) := by decide +kernel
theorem dX3_runSluice_32 : decode cX3_runSluice 32 = .ok (.getfield 21, 3) := by decide +kernel
theorem dX3_runSluice_35 : decode cX3_runSluice 35 = .ok (.getfield 151, 3) := by decide +kernel
theorem dX3_runSluice_38 : decode cX3_runSluice 38 = .ok (.aload_n 1, 1) := by decide +kernel
theorem dX3_runSluice_39 : decode cX3_runSluice 39 = .ok (.getfield 50, 3) := by decide +kernel
theorem dX3_runSluice_42 : decode cX3_runSluice 42 = .ok (.iaload, 1) := by decide +kernel
theorem dX3_runSluice_43 : decode cX3_runSluice 43 = .ok (.aload_n 1, 1) := by decide +kernel
theorem dX3_runSluice_44 : decode cX3_runSluice 44 = .ok (.getfield 91, 3) := by decide +kernel
theorem dX3_runSluice_47 : decode cX3_runSluice 47 = .ok (.invokestatic 71, 3) := by decide +kernel
theorem dX3_runSluice_50 : decode cX3_runSluice 50 = .ok (.invokestatic 71, 3) := by decide +kernel
theorem dX3_runSluice_53 : decode cX3_runSluice 53 = .ok (.istore 4, 2) := by decide +kernel
theorem dX3_runSluice_55 : decode cX3_runSluice 55 = .ok (.aload_n 0, 1) := by decide +kernel
theorem dX3_runSluice_56 : decode cX3_runSluice 56 = .ok (.getfield 21, 3) := by decide +kernel
theorem dX3_runSluice_59 : decode cX3_runSluice 59 = .ok (.aload_n 1, 1) := by decide +kernel
theorem dX3_runSluice_60 : decode cX3_runSluice 60 = .ok (.getfield 50, 3) := by decide +kernel
theorem dX3_runSluice_63 : decode cX3_runSluice 63 = .ok (.iload 4, 2) := by decide +kernel
theorem dX3_runSluice_65 : decode cX3_runSluice 65 = .ok (.invokevirtual 154, 3) := by decide +kernel
theorem dX3_runSluice_68 : decode cX3_runSluice 68 = .ok (.aload_n 1, 1) := by decide +kernel
theorem dX3_runSluice_69 : decode cX3_runSluice 69 = .ok (.iload 4, 2) := by decide +kernel
theorem dX3_runSluice_71 : decode cX3_runSluice 71 = .ok (.invokevirtual 140, 3) := by decide +kernel
theorem dX3_runSluice_74 : decode cX3_runSluice 74 = .ok (.return_, 1) := by decide +kernel
theorem dX3_runMills_0 : decode cX3_runMills 0 = .ok (.iconst 0, 1) := by decide +kernel
theorem dX3_runMills_1 : decode cX3_runMills 1 = .ok (.istore_n 2, 1) := by decide +kernel
theorem dX3_runMills_2 : decode cX3_runMills 2 = .ok (.iload_n 2, 1) := by decide +kernel
theorem dX3_runMills_3 : decode cX3_runMills 3 = .ok (.aload_n 0, 1) := by decide +kernel
theorem dX3_runMills_4 : decode cX3_runMills 4 = .ok (.getfield 47, 3) := by decide +kernel
theorem dX3_runMills_7 : decode cX3_runMills 7 = .ok (.if_icmp .ge 72, 3) := by decide +kernel
theorem dX3_runMills_10 : decode cX3_runMills 10 = .ok (.aload_n 0, 1) := by decide +kernel
theorem dX3_runMills_11 : decode cX3_runMills 11 = .ok (.getfield 27, 3) := by decide +kernel
theorem dX3_runMills_14 : decode cX3_runMills 14 = .ok (.iload_n 2, 1) := by decide +kernel
theorem dX3_runMills_15 : decode cX3_runMills 15 = .ok (.aaload, 1) := by decide +kernel
theorem dX3_runMills_16 : decode cX3_runMills 16 = .ok (.getfield 64, 3) := by decide +kernel
theorem dX3_runMills_19 : decode cX3_runMills 19 = .ok (.iconst 2, 1) := by decide +kernel
theorem dX3_runMills_20 : decode cX3_runMills 20 = .ok (.if_icmp .ne 30, 3) := by decide +kernel
theorem dX3_runMills_23 : decode cX3_runMills 23 = .ok (.aload_n 0, 1) := by decide +kernel
theorem dX3_runMills_24 : decode cX3_runMills 24 = .ok (.aload_n 0, 1) := by decide +kernel
theorem dX3_runMills_25 : decode cX3_runMills 25 = .ok (.getfield 27, 3) := by decide +kernel
theorem dX3_runMills_28 : decode cX3_runMills 28 = .ok (.iload_n 2, 1) := by decide +kernel
theorem dX3_runMills_29 : decode cX3_runMills 29 = .ok (.aaload, 1) := by decide +kernel
theorem dX3_runMills_30 : decode cX3_runMills 30 = .ok (.aload_n 0, 1) := by decide +kernel
theorem dX3_runMills_31 : decode cX3_runMills 31 = .ok (.getfield 27, 3) := by decide +kernel
theorem dX3_runMills_34 : decode cX3_runMills 34 = .ok (.iload_n 2, 1) := by decide +kernel
theorem dX3_runMills_35 : decode cX3_runMills 35 = .ok (.aaload, 1) := by decide +kernel
theorem dX3_runMills_36 : decode cX3_runMills 36 = .ok (.getfield 91, 3) := by decide +kernel
theorem dX3_runMills_39 : decode cX3_runMills 39 = .ok (.iload_n 1, 1) := by decide +kernel
theorem dX3_runMills_40 : decode cX3_runMills 40 = .ok (.imul, 1) := by decide +kernel
theorem dX3_runMills_41 : decode cX3_runMills 41 = .ok (.bipush 10, 2) := by decide +kernel
theorem dX3_runMills_43 : decode cX3_runMills 43 = .ok (.idiv, 1) := by decide +kernel
theorem dX3_runMills_44 : decode cX3_runMills 44 = .ok (.invokevirtual 161, 3) := by decide +kernel
theorem dX3_runMills_47 : decode cX3_runMills 47 = .ok (.goto 26, 3) := by decide +kernel
theorem dX3_runMills_50 : decode cX3_runMills 50 = .ok (.aload_n 0, 1) := by decide +kernel
theorem dX3_runMills_51 : decode cX3_runMills 51 = .ok (.getfield 27, 3) := by decide +kernel
theorem dX3_runMills_54 : decode cX3_runMills 54 = .ok (.iload_n 2, 1) := by decide +kernel
theorem dX3_runMills_55 : decode cX3_runMills 55 = .ok (.aaload, 1) := by decide +kernel
theorem dX3_runMills_56 : decode cX3_runMills 56 = .ok (.getfield 64, 3) := by decide +kernel
theorem dX3_runMills_59 : decode cX3_runMills 59 = .ok (.iconst 3, 1) := by decide +kernel
theorem dX3_runMills_60 : decode cX3_runMills 60 = .ok (.if_icmp .ne 13, 3) := by decide +kernel
theorem dX3_runMills_63 : decode cX3_runMills 63 = .ok (.aload_n 0, 1) := by decide +kernel
theorem dX3_runMills_64 : decode cX3_runMills 64 = .ok (.aload_n 0, 1) := by decide +kernel
theorem dX3_runMills_65 : decode cX3_runMills 65 = .ok (.getfield 27, 3) := by decide +kernel
theorem dX3_runMills_68 : decode cX3_runMills 68 = .ok (.iload_n 2, 1) := by decide +kernel
theorem dX3_runMills_69 : decode cX3_runMills 69 = .ok (.aaload, 1) := by decide +kernel
theorem dX3_runMills_70 : decode cX3_runMills 70 = .ok (.invokevirtual 164, 3) := by decide +kernel
theorem dX3_runMills_73 : decode cX3_runMills 73 = .ok (.iinc 2 1, 3) := by decide +kernel
theorem dX3_runMills_76 : decode cX3_runMills 76 = .ok (.goto (-74), 3) := by decide +kernel
theorem dX3_runMills_79 : decode cX3_runMills 79 = .ok (.return_, 1) := by decide +kernel
theorem dX3_runEngine_0 : decode cX3_runEngine 0 = .ok (.aload_n 1, 1) := by decide +kernel
theorem dX3_runEngine_1 : decode cX3_runEngine 1 = .ok (.getfield 157, 3) := by decide +kernel
theorem dX3_runEngine_4 : decode cX3_runEngine 4 = .ok (.ifCond .eq 14, 3) := by decide +kernel
theorem dX3_runEngine_7 : decode cX3_runEngine 7 = .ok (.aload_n 1, 1) := by decide +kernel
theorem dX3_runEngine_8 : decode cX3_runEngine 8 = .ok (.getfield 168, 3) := by decide +kernel
theorem dX3_runEngine_11 : decode cX3_runEngine 11 = .ok (.ifCond .le 7, 3) := by decide +kernel
theorem dX3_runEngine_14 : decode cX3_runEngine 14 = .ok (.iconst 1, 1) := by decide +kernel
theorem dX3_runEngine_15 : decode cX3_runEngine 15 = .ok (.goto 4, 3) := by decide +kernel
theorem dX3_runEngine_18 : decode cX3_runEngine 18 = .ok (.iconst 0, 1) := by decide +kernel
theorem dX3_runEngine_19 : decode cX3_runEngine 19 = .ok (.istore_n 2, 1) := by decide +kernel
theorem dX3_runEngine_20 : decode cX3_runEngine 20 = .ok (.aload_n 1, 1) := by decide +kernel
theorem dX3_runEngine_21 : decode cX3_runEngine 21 = .ok (.dup, 1) := by decide +kernel
theorem dX3_runEngine_22 : decode cX3_runEngine 22 = .ok (.getfield 168, 3) := by decide +kernel
theorem dX3_runEngine_25 : decode cX3_runEngine 25 = .ok (.iload_n 2, 1) := by decide +kernel
theorem dX3_runEngine_26 : decode cX3_runEngine 26 = .ok (.ifCond .eq 7, 3) := by decide +kernel
theorem dX3_runEngine_29 : decode cX3_runEngine 29 = .ok (.iconst 1, 1) := by decide +kernel
theorem dX3_runEngine_30 : decode cX3_runEngine 30 = .ok (.goto 4, 3) := by decide +kernel
theorem dX3_runEngine_33 : decode cX3_runEngine 33 = .ok (.iconst 0, 1) := by decide +kernel
theorem dX3_runEngine_34 : decode cX3_runEngine 34 = .ok (.isub, 1) := by decide +kernel
theorem dX3_runEngine_35 : decode cX3_runEngine 35 = .ok (.putfield 168, 3) := by decide +kernel
theorem dX3_runEngine_38 : decode cX3_runEngine 38 = .ok (.aload_n 0, 1) := by decide +kernel
theorem dX3_runEngine_39 : decode cX3_runEngine 39 = .ok (.aload_n 1, 1) := by decide +kernel
theorem dX3_runEngine_40 : decode cX3_runEngine 40 = .ok (.iload_n 2, 1) := by decide +kernel
theorem dX3_runEngine_41 : decode cX3_runEngine 41 = .ok (.ifCond .eq 10, 3) := by decide +kernel
theorem dX3_runEngine_44 : decode cX3_runEngine 44 = .ok (.aload_n 1, 1) := by decide +kernel
theorem dX3_runEngine_45 : decode cX3_runEngine 45 = .ok (.getfield 91, 3) := by decide +kernel
theorem dX3_runEngine_48 : decode cX3_runEngine 48 = .ok (.goto 4, 3) := by decide +kernel
theorem dX3_runEngine_51 : decode cX3_runEngine 51 = .ok (.iconst 0, 1) := by decide +kernel
theorem dX3_runEngine_52 : decode cX3_runEngine 52 = .ok (.invokevirtual 161, 3) := by decide +kernel
theorem dX3_runEngine_55 : decode cX3_runEngine 55 = .ok (.return_, 1) := by decide +kernel
theorem dX3_liftBy_0 : decode cX3_liftBy 0 = .ok (.iload_n 2, 1) := by decide +kernel
theorem dX3_liftBy_1 : decode cX3_liftBy 1 = .ok (.aload_n 0, 1) := by decide +kernel
theorem dX3_liftBy_2 : decode cX3_liftBy 2 = .ok (.getfield 21, 3) := by decide +kernel
theorem dX3_liftBy_5 : decode cX3_liftBy 5 = .ok (.getfield 151, 3) := by decide +kernel
theorem dX3_liftBy_8 : decode cX3_liftBy 8 = .ok (.aload_n 1, 1) := by decide +kernel
theorem dX3_liftBy_9 : decode cX3_liftBy 9 = .ok (.getfield 50, 3) := by decide +kernel
theorem dX3_liftBy_12 : decode cX3_liftBy 12 = .ok (.iaload, 1) := by decide +kernel
theorem dX3_liftBy_13 : decode cX3_liftBy 13 = .ok (.invokestatic 71, 3) := by decide +kernel
theorem dX3_liftBy_16 : decode cX3_liftBy 16 = .ok (.istore_n 3, 1) := by decide +kernel
theorem dX3_liftBy_17 : decode cX3_liftBy 17 = .ok (.aload_n 0, 1) := by decide +kernel
theorem dX3_liftBy_18 : decode cX3_liftBy 18 = .ok (.getfield 21, 3) := by decide +kernel
theorem dX3_liftBy_21 : decode cX3_liftBy 21 = .ok (.aload_n 1, 1) := by decide +kernel
theorem dX3_liftBy_22 : decode cX3_liftBy 22 = .ok (.getfield 50, 3) := by decide +kernel
theorem dX3_liftBy_25 : decode cX3_liftBy 25 = .ok (.aload_n 1, 1) := by decide +kernel
theorem dX3_liftBy_26 : decode cX3_liftBy 26 = .ok (.getfield 94, 3) := by decide +kernel
theorem dX3_liftBy_29 : decode cX3_liftBy 29 = .ok (.iload_n 3, 1) := by decide +kernel
theorem dX3_liftBy_30 : decode cX3_liftBy 30 = .ok (.invokevirtual 171, 3) := by decide +kernel
theorem dX3_liftBy_33 : decode cX3_liftBy 33 = .ok (.aload_n 1, 1) := by decide +kernel
theorem dX3_liftBy_34 : decode cX3_liftBy 34 = .ok (.iload_n 3, 1) := by decide +kernel
theorem dX3_liftBy_35 : decode cX3_liftBy 35 = .ok (.invokevirtual 140, 3) := by decide +kernel
theorem dX3_liftBy_38 : decode cX3_liftBy 38 = .ok (.return_, 1) := by decide +kernel
theorem dX3_allMillsLift_0 : decode cX3_allMillsLift 0 = .ok (.aload_n 0, 1) := by decide +kernel
theorem dX3_allMillsLift_1 : decode cX3_allMillsLift 1 = .ok (.getfield 12, 3) := by decide +kernel
theorem dX3_allMillsLift_4 : decode cX3_allMillsLift 4 = .ok (.iload_n 1, 1) := by decide +kernel
theorem dX3_allMillsLift_5 : decode cX3_allMillsLift 5 = .ok (.invokevirtual 120, 3) := by decide +kernel
theorem dX3_allMillsLift_8 : decode cX3_allMillsLift 8 = .ok (.istore_n 2, 1) := by decide +kernel
theorem dX3_allMillsLift_9 : decode cX3_allMillsLift 9 = .ok (.iconst 0, 1) := by decide +kernel
theorem dX3_allMillsLift_10 : decode cX3_allMillsLift 10 = .ok (.istore_n 3, 1) := by decide +kernel
theorem dX3_allMillsLift_11 : decode cX3_allMillsLift 11 = .ok (.iconst 0, 1) := by decide +kernel
theorem dX3_allMillsLift_12 : decode cX3_allMillsLift 12 = .ok (.istore 4, 2) := by decide +kernel
theorem dX3_allMillsLift_14 : decode cX3_allMillsLift 14 = .ok (.iload 4, 2) := by decide +kernel
theorem dX3_allMillsLift_16 : decode cX3_allMillsLift 16 = .ok (.aload_n 0, 1) := by decide +kernel
theorem dX3_allMillsLift_17 : decode cX3_allMillsLift 17 = .ok (.getfield 47, 3) := by decide +kernel
theorem dX3_allMillsLift_20 : decode cX3_allMillsLift 20 = .ok (.if_icmp .ge 45, 3) := by decide +kernel
theorem dX3_allMillsLift_23 : decode cX3_allMillsLift 23 = .ok (.iload_n 3, 1) := by decide +kernel
theorem dX3_allMillsLift_24 : decode cX3_allMillsLift 24 = .ok (.aload_n 0, 1) := by decide +kernel
theorem dX3_allMillsLift_25 : decode cX3_allMillsLift 25 = .ok (.getfield 27, 3) := by decide +kernel
theorem dX3_allMillsLift_28 : decode cX3_allMillsLift 28 = .ok (.iload 4, 2) := by decide +kernel
theorem dX3_allMillsLift_30 : decode cX3_allMillsLift 30 = .ok (.aaload, 1) := by decide +kernel
theorem dX3_allMillsLift_31 : decode cX3_allMillsLift 31 = .ok (.getfield 64, 3) := by decide +kernel
theorem dX3_allMillsLift_34 : decode cX3_allMillsLift 34 = .ok (.iconst 2, 1) := by decide +kernel
theorem dX3_allMillsLift_35 : decode cX3_allMillsLift 35 = .ok (.if_icmp .ne 21, 3) := by decide +kernel
theorem dX3_allMillsLift_38 : decode cX3_allMillsLift 38 = .ok (.aload_n 0, 1) := by decide +kernel
theorem dX3_allMillsLift_39 : decode cX3_allMillsLift 39 = .ok (.getfield 27, 3) := by decide +kernel
theorem dX3_allMillsLift_42 : decode cX3_allMillsLift 42 = .ok (.iload 4, 2) := by decide +kernel
theorem dX3_allMillsLift_44 : decode cX3_allMillsLift 44 = .ok (.aaload, 1) := by decide +kernel
theorem dX3_allMillsLift_45 : decode cX3_allMillsLift 45 = .ok (.getfield 91, 3) := by decide +kernel
theorem dX3_allMillsLift_48 : decode cX3_allMillsLift 48 = .ok (.iload_n 2, 1) := by decide +kernel
theorem dX3_allMillsLift_49 : decode cX3_allMillsLift 49 = .ok (.imul, 1) := by decide +kernel
theorem dX3_allMillsLift_50 : decode cX3_allMillsLift 50 = .ok (.bipush 10, 2) := by decide +kernel
theorem dX3_allMillsLift_52 : decode cX3_allMillsLift 52 = .ok (.idiv, 1) := by decide +kernel
theorem dX3_allMillsLift_53 : decode cX3_allMillsLift 53 = .ok (.goto 4, 3) := by decide +kernel
theorem dX3_allMillsLift_56 : decode cX3_allMillsLift 56 = .ok (.iconst 0, 1) := by decide +kernel
theorem dX3_allMillsLift_57 : decode cX3_allMillsLift 57 = .ok (.iadd, 1) := by decide +kernel
theorem dX3_allMillsLift_58 : decode cX3_allMillsLift 58 = .ok (.istore_n 3, 1) := by decide +kernel
theorem dX3_allMillsLift_59 : decode cX3_allMillsLift 59 = .ok (.iinc 4 1, 3) := by decide +kernel
theorem dX3_allMillsLift_62 : decode cX3_allMillsLift 62 = .ok (.goto (-48), 3) := by decide +kernel
theorem dX3_allMillsLift_65 : decode cX3_allMillsLift 65 = .ok (.iload_n 3, 1) := by decide +kernel
theorem dX3_allMillsLift_66 : decode cX3_allMillsLift 66 = .ok (.ireturn, 1) := by decide +kernel
theorem dX3_copyFrom_0 : decode cX3_copyFrom 0 = .ok (.aload_n 0, 1) := by decide +kernel
theorem dX3_copyFrom_1 : decode cX3_copyFrom 1 = .ok (.getfield 12, 3) := by decide +kernel
theorem dX3_copyFrom_4 : decode cX3_copyFrom 4 = .ok (.aload_n 1, 1) := by decide +kernel
theorem dX3_copyFrom_5 : decode cX3_copyFrom 5 = .ok (.getfield 12, 3) := by decide +kernel
theorem dX3_copyFrom_8 : decode cX3_copyFrom 8 = .ok (.invokevirtual 175, 3) := by decide +kernel
theorem dX3_copyFrom_11 : decode cX3_copyFrom 11 = .ok (.aload_n 0, 1) := by decide +kernel
theorem dX3_copyFrom_12 : decode cX3_copyFrom 12 = .ok (.getfield 21, 3) := by decide +kernel
theorem dX3_copyFrom_15 : decode cX3_copyFrom 15 = .ok (.aload_n 1, 1) := by decide +kernel
theorem dX3_copyFrom_16 : decode cX3_copyFrom 16 = .ok (.getfield 21, 3) := by decide +kernel
theorem dX3_copyFrom_19 : decode cX3_copyFrom 19 = .ok (.invokevirtual 179, 3) := by decide +kernel
theorem dX3_copyFrom_22 : decode cX3_copyFrom 22 = .ok (.iconst 0, 1) := by decide +kernel
theorem dX3_copyFrom_23 : decode cX3_copyFrom 23 = .ok (.istore_n 2, 1) := by decide +kernel
theorem dX3_copyFrom_24 : decode cX3_copyFrom 24 = .ok (.iload_n 2, 1) := by decide +kernel
theorem dX3_copyFrom_25 : decode cX3_copyFrom 25 = .ok (.aload_n 1, 1) := by decide +kernel
theorem dX3_copyFrom_26 : decode cX3_copyFrom 26 = .ok (.getfield 47, 3) := by decide +kernel
theorem dX3_copyFrom_29 : decode cX3_copyFrom 29 = .ok (.if_icmp .ge 24, 3) := by decide +kernel
theorem dX3_copyFrom_32 : decode cX3_copyFrom 32 = .ok (.aload_n 0, 1) := by decide +kernel
theorem dX3_copyFrom_33 : decode cX3_copyFrom 33 = .ok (.getfield 27, 3) := by decide +kernel
theorem dX3_copyFrom_36 : decode cX3_copyFrom 36 = .ok (.iload_n 2, 1) := by decide +kernel
theorem dX3_copyFrom_37 : decode cX3_copyFrom 37 = .ok (.aaload, 1) := by decide +kernel
theorem dX3_copyFrom_38 : decode cX3_copyFrom 38 = .ok (.aload_n 1, 1) := by decide +kernel
theorem dX3_copyFrom_39 : decode cX3_copyFrom 39 = .ok (.getfield 27, 3) := by decide +kernel
theorem dX3_copyFrom_42 : decode cX3_copyFrom 42 = .ok (.iload_n 2, 1) := by decide +kernel
theorem dX3_copyFrom_43 : decode cX3_copyFrom 43 = .ok (.aaload, 1) := by decide +kernel
theorem dX3_copyFrom_44 : decode cX3_copyFrom 44 = .ok (.invokevirtual 182, 3) := by decide +kernel
theorem dX3_copyFrom_47 : decode cX3_copyFrom 47 = .ok (.iinc 2 1, 3) := by decide +kernel
theorem dX3_copyFrom_50 : decode cX3_copyFrom 50 = .ok (.goto (-26), 3) := by decide +kernel
theorem dX3_copyFrom_53 : decode cX3_copyFrom 53 = .ok (.aload_n 0, 1) := by decide +kernel
theorem dX3_copyFrom_54 : decode cX3_copyFrom 54 = .ok (.aload_n 1, 1) := by decide +kernel
theorem dX3_copyFrom_55 : decode cX3_copyFrom 55 = .ok (.getfield 47, 3) := by decide +kernel
theorem dX3_copyFrom_58 : decode cX3_copyFrom 58 = .ok (.putfield 47, 3) := by decide +kernel
theorem dX3_copyFrom_61 : decode cX3_copyFrom 61 = .ok (.aload_n 0, 1) := by decide +kernel
theorem dX3_copyFrom_62 : decode cX3_copyFrom 62 = .ok (.aload_n 1, 1) := by decide +kernel
theorem dX3_copyFrom_63 : decode cX3_copyFrom 63 = .ok (.getfield 32, 3) := by decide +kernel
theorem dX3_copyFrom_66 : decode cX3_copyFrom 66 = .ok (.putfield 32, 3) := by decide +kernel
theorem dX3_copyFrom_69 : decode cX3_copyFrom 69 = .ok (.return_, 1) := by decide +kernel
theorem dX4_init_0 : decode cX4_init 0 = .ok (.aload_n 0, 1) := by decide +kernel
theorem dX4_init_1 : decode cX4_init 1 = .ok (.invokespecial 5, 3) := by decide +kernel
theorem dX4_init_4 : decode cX4_init 4 = .ok (.aload_n 0, 1) := by decide +kernel
theorem dX4_init_5 : decode cX4_init 5 = .ok (.sipush 401, 3) := by decide +kernel
theorem dX4_init_8 : decode cX4_init 8 = .ok (.newarray .int, 2) := by decide +kernel
theorem dX4_init_10 : decode cX4_init 10 = .ok (.putfield 11, 3) := by decide +kernel
theorem dX4_init_13 : decode cX4_init 13 = .ok (.aload_n 0, 1) := by decide +kernel
theorem dX4_init_14 : decode cX4_init 14 = .ok (.sipush 401, 3) := by decide +kernel
theorem dX4_init_17 : decode cX4_init 17 = .ok (.newarray .int, 2) := by decide +kernel
theorem dX4_init_19 : decode cX4_init 19 = .ok (.putfield 15, 3) := by decide +kernel
theorem dX4_init_22 : decode cX4_init 22 = .ok (.aload_n 0, 1) := by decide +kernel
theorem dX4_init_23 : decode cX4_init 23 = .ok (.bipush 20, 2) := by decide +kernel
theorem dX4_init_25 : decode cX4_init 25 = .ok (.newarray .int, 2) := by decide +kernel
theorem dX4_init_27 : decode cX4_init 27 = .ok (.putfield 18, 3) := by decide +kernel
theorem dX4_init_30 : decode cX4_init 30 = .ok (.aload_n 0, 1) := by decide +kernel
theorem dX4_init_31 : decode cX4_init 31 = .ok (.bipush 20, 2) := by decide +kernel
theorem dX4_init_33 : decode cX4_init 33 = .ok (.newarray .int, 2) := by decide +kernel
theorem dX4_init_35 : decode cX4_init 35 = .ok (.putfield 21, 3) := by decide +kernel
theorem dX4_init_38 : decode cX4_init 38 = .ok (.aload_n 0, 1) := by decide +kernel
theorem dX4_init_39 : decode cX4_init 39 = .ok (.bipush 20, 2) := by decide +kernel
theorem dX4_init_41 : decode cX4_init 41 = .ok (.newarray .int, 2) := by decide +kernel
theorem dX4_init_43 : decode cX4_init 43 = .ok (.putfield 24, 3) := by decide +kernel
theorem dX4_init_46 : decode cX4_init 46 = .ok (.aload_n 0, 1) := by decide +kernel
theorem dX4_init_47 : decode cX4_init 47 = .ok (.bipush 20, 2) := by decide +kernel
theorem dX4_init_49 : decode cX4_init 49 = .ok (.newarray .int, 2) := by decide +kernel
theorem dX4_init_51 : decode cX4_init 51 = .ok (.putfield 27, 3) := by decide +kernel
theorem dX4_init_54 : decode cX4_init 54 = .ok (.aload_n 0, 1) := by decide +kernel
theorem dX4_init_55 : decode cX4_init 55 = .ok (.bipush 20, 2) := by decide +kernel
theorem dX4_init_57 : decode cX4_init 57 = .ok (.newarray .int, 2) := by decide +kernel
theorem dX4_init_59 : decode cX4_init 59 = .ok (.putfield 30, 3) := by decide +kernel
theorem dX4_init_62 : decode cX4_init 62 = .ok (.aload_n 0, 1) := by decide +kernel
theorem dX4_init_63 : decode cX4_init 63 = .ok (.bipush 20, 2) := by decide +kernel
theorem dX4_init_65 : decode cX4_init 65 = .ok (.newarray .int, 2) := by decide +kernel
theorem dX4_init_67 : decode cX4_init 67 = .ok (.putfield 33, 3) := by decide +kernel
theorem dX4_init_70 : decode cX4_init 70 = .ok (.aload_n 0, 1) := by decide +kernel
theorem dX4_init_71 : decode cX4_init 71 = .ok (.bipush 20, 2) := by decide +kernel
theorem dX4_init_73 : decode cX4_init 73 = .ok (.newarray .int, 2) := by decide +kernel
theorem dX4_init_75 : decode cX4_init 75 = .ok (.putfield 36, 3) := by decide +kernel
theorem dX4_init_78 : decode cX4_init 78 = .ok (.aload_n 0, 1) := by decide +kernel
theorem dX4_init_79 : decode cX4_init 79 = .ok (.sipush 400, 3) := by decide +kernel
theorem dX4_init_82 : decode cX4_init 82 = .ok (.newarray .int, 2) := by decide +kernel
theorem dX4_init_84 : decode cX4_init 84 = .ok (.putfield 39, 3) := by decide +kernel
theorem dX4_init_87 : decode cX4_init 87 = .ok (.aload_n 0, 1) := by decide +kernel
theorem dX4_init_88 : decode cX4_init 88 = .ok (.bipush 20, 2) := by decide +kernel
theorem dX4_init_90 : decode cX4_init 90 = .ok (.newarray .long, 2) := by decide +kernel
theorem dX4_init_92 : decode cX4_init 92 = .ok (.putfield 42, 3) := by decide +kernel
theorem dX4_init_95 : decode cX4_init 95 = .ok (.return_, 1) := by decide +kernel
theorem dX4_read_0 : decode cX4_read 0 = .ok (.aload_n 0, 1) := by decide +kernel
theorem dX4_read_1 : decode cX4_read 1 = .ok (.aload_n 1, 1) := by decide +kernel
theorem dX4_read_2 : decode cX4_read 2 = .ok (.iload_n 2, 1) := by decide +kernel
theorem dX4_read_3 : decode cX4_read 3 = .ok (.sipush 400, 3) := by decide +kernel
theorem dX4_read_6 : decode cX4_read 6 = .ok (.invokestatic 46, 3) := by decide +kernel
theorem dX4_read_9 : decode cX4_read 9 = .ok (.invokevirtual 52, 3) := by decide +kernel
theorem dX4_read_12 : decode cX4_read 12 = .ok (.aload_n 0, 1) := by decide +kernel
theorem dX4_read_13 : decode cX4_read 13 = .ok (.iconst 0, 1) := by decide +kernel
theorem dX4_read_14 : decode cX4_read 14 = .ok (.putfield 56, 3) := by decide +kernel
theorem dX4_read_17 : decode cX4_read 17 = .ok (.aload_n 0, 1) := by decide +kernel
theorem dX4_read_18 : decode cX4_read 18 = .ok (.iconst 0, 1) := by decide +kernel
theorem dX4_read_19 : decode cX4_read 19 = .ok (.putfield 60, 3) := by decide +kernel
theorem dX4_read_22 : decode cX4_read 22 = .ok (.aload_n 0, 1) := by decide +kernel
theorem dX4_read_23 : decode cX4_read 23 = .ok (.iconst 0, 1) := by decide +kernel
theorem dX4_read_24 : decode cX4_read 24 = .ok (.putfield 63, 3) := by decide +kernel
theorem dX4_read_27 : decode cX4_read 27 = .ok (.aload_n 0, 1) := by decide +kernel
theorem dX4_read_28 : decode cX4_read 28 = .ok (.getfield 11, 3) := by decide +kernel
theorem dX4_read_31 : decode cX4_read 31 = .ok (.iconst 0, 1) := by decide +kernel
theorem dX4_read_32 : decode cX4_read 32 = .ok (.iaload, 1) := by decide +kernel
theorem dX4_read_33 : decode cX4_read 33 = .ok (.bipush 21, 2) := by decide +kernel
theorem dX4_read_35 : decode cX4_read 35 = .ok (.if_icmp .eq 7, 3) := by decide +kernel
theorem dX4_read_38 : decode cX4_read 38 = .ok (.iconst 1, 1) := by decide +kernel
theorem dX4_read_39 : decode cX4_read 39 = .ok (.goto 4, 3) := by decide +kernel
theorem dX4_read_42 : decode cX4_read 42 = .ok (.iconst 0, 1) := by decide +kernel
theorem dX4_read_43 : decode cX4_read 43 = .ok (.istore_n 3, 1) := by decide +kernel
theorem dX4_read_44 : decode cX4_read 44 = .ok (.iload_n 3, 1) := by decide +kernel
theorem dX4_read_45 : decode cX4_read 45 = .ok (.ifCond .eq 49, 3) := by decide +kernel
theorem dX4_read_48 : decode cX4_read 48 = .ok (.aload_n 0, 1) := by decide +kernel
theorem dX4_read_49 : decode cX4_read 49 = .ok (.getfield 60, 3) := by decide +kernel
theorem dX4_read_52 : decode cX4_read 52 = .ok (.bipush 20, 2) := by decide +kernel
theorem dX4_read_54 : decode cX4_read 54 = .ok (.if_icmp .ge 40, 3) := by decide +kernel
theorem dX4_read_57 : decode cX4_read 57 = .ok (.aload_n 0, 1) := by decide +kernel
theorem dX4_read_58 : decode cX4_read 58 = .ok (.invokevirtual 66, 3) := by decide +kernel
theorem dX4_read_61 : decode cX4_read 61 = .ok (.ifCond .ne 13, 3) := by decide +kernel
theorem dX4_read_64 : decode cX4_read 64 = .ok (.aload_n 0, 1) := by decide +kernel
theorem dX4_read_65 : decode cX4_read 65 = .ok (.getfield 15, 3) := by decide +kernel
theorem dX4_read_68 : decode cX4_read 68 = .ok (.aload_n 0, 1) := by decide +kernel
theorem dX4_read_69 : decode cX4_read 69 = .ok (.getfield 56, 3) := by decide +kernel
theorem dX4_read_72 : decode cX4_read 72 = .ok (.iaload, 1) := by decide +kernel
theorem dX4_read_73 : decode cX4_read 73 = .ok (.ireturn, 1) := by decide +kernel
theorem dX4_read_74 : decode cX4_read 74 = .ok (.aload_n 0, 1) := by decide +kernel
theorem dX4_read_75 : decode cX4_read 75 = .ok (.dup, 1) := by decide +kernel
theorem dX4_read_76 : decode cX4_read 76 = .ok (.getfield 60, 3) := by decide +kernel
theorem dX4_read_79 : decode cX4_read 79 = .ok (.iconst 1, 1) := by decide +kernel
theorem dX4_read_80 : decode cX4_read 80 = .ok (.iadd, 1) := by decide +kernel
theorem dX4_read_81 : decode cX4_read 81 = .ok (.putfield 60, 3) := by decide +kernel
theorem dX4_read_84 : decode cX4_read 84 = .ok (.aload_n 0, 1) := by decide +kernel
theorem dX4_read_85 : decode cX4_read 85 = .ok (.bipush 18, 2) := by decide +kernel
theorem dX4_read_87 : decode cX4_read 87 = .ok (.invokevirtual 70, 3) := by decide +kernel
theorem dX4_read_90 : decode cX4_read 90 = .ok (.istore_n 3, 1) := by decide +kernel
theorem dX4_read_91 : decode cX4_read 91 = .ok (.goto (-47), 3) := by decide +kernel
theorem dX4_read_94 : decode cX4_read 94 = .ok (.iload_n 3, 1) := by decide +kernel
theorem dX4_read_95 : decode cX4_read 95 = .ok (.ifCond .ne 17, 3) := by decide +kernel
theorem dX4_read_98 : decode cX4_read 98 = .ok (.aload_n 0, 1) := by decide +kernel
theorem dX4_read_99 : decode cX4_read 99 = .ok (.getfield 11, 3) := by decide +kernel
theorem dX4_read_102 : decode cX4_read 102 = .ok (.aload_n 0, 1) := by decide +kernel
theorem dX4_read_103 : decode cX4_read 103 = .ok (.getfield 56, 3) := by decide +kernel
theorem dX4_read_106 : decode cX4_read 106 = .ok (.iaload, 1) := by decide +kernel
theorem dX4_read_107 : decode cX4_read 107 = .ok (.bipush 21, 2) := by decide +kernel
theorem dX4_read_109 : decode cX4_read 109 = .ok (.if_icmp .eq 15, 3) := by decide +kernel
theorem dX4_read_112 : decode cX4_read 112 = .ok (.aload_n 0, 1) := by decide +kernel
theorem dX4_read_113 : decode cX4_read 113 = .ok (.getfield 15, 3) := by decide +kernel
theorem dX4_read_116 : decode cX4_read 116 = .ok (.aload_n 0, 1) := by decide +kernel
theorem dX4_read_117 : decode cX4_read 117 = .ok (.getfield 56, 3) := by decide +kernel
theorem dX4_read_120 : decode cX4_read 120 = .ok (.iaload, 1) := by decide +kernel
theorem dX4_read_121 : decode cX4_read 121 = .ok (.goto 4, 3) := by decide +kernel
theorem dX4_read_124 : decode cX4_read 124 = .ok (.iconst (-1), 1) := by decide +kernel
theorem dX4_read_125 : decode cX4_read 125 = .ok (.ireturn, 1) := by decide +kernel
theorem dX4_scan_0 : decode cX4_scan 0 = .ok (.iconst 0, 1) := by decide +kernel
theorem dX4_scan_1 : decode cX4_scan 1 = .ok (.istore_n 3, 1) := by decide +kernel
theorem dX4_scan_2 : decode cX4_scan 2 = .ok (.iconst 0, 1) := by decide +kernel
theorem dX4_scan_3 : decode cX4_scan 3 = .ok (.istore 4, 2) := by decide +kernel
theorem dX4_scan_5 : decode cX4_scan 5 = .ok (.iconst 0, 1) := by decide +kernel
theorem dX4_scan_6 : decode cX4_scan 6 = .ok (.istore 5, 2) := by decide +kernel
theorem dX4_scan_8 : decode cX4_scan 8 = .ok (.iload 5, 2) := by decide +kernel
theorem dX4_scan_10 : decode cX4_scan 10 = .ok (.iload_n 2, 1) := by decide +kernel
theorem dX4_scan_11 : decode cX4_scan 11 = .ok (.if_icmp .ge 59, 3) := by decide +kernel
theorem dX4_scan_14 : decode cX4_scan 14 = .ok (.iload 5, 2) := by decide +kernel
theorem dX4_scan_16 : decode cX4_scan 16 = .ok (.iload 4, 2) := by decide +kernel
theorem dX4_scan_18 : decode cX4_scan 18 = .ok (.if_icmp .lt 46, 3) := by decide +kernel
theorem dX4_scan_21 : decode cX4_scan 21 = .ok (.aload_n 1, 1) := by decide +kernel
theorem dX4_scan_22 : decode cX4_scan 22 = .ok (.iload 5, 2) := by decide +kernel
theorem dX4_scan_24 : decode cX4_scan 24 = .ok (.iaload, 1) := by decide +kernel
theorem dX4_scan_25 : decode cX4_scan 25 = .ok (.bipush 32, 2) := by decide +kernel
theorem dX4_scan_27 : decode cX4_scan 27 = .ok (.if_icmp .eq 37, 3) := by decide +kernel
theorem dX4_scan_30 : decode cX4_scan 30 = .ok (.aload_n 1, 1) := by decide +kernel
theorem dX4_scan_31 : decode cX4_scan 31 = .ok (.iload 5, 2) := by decide +kernel
theorem dX4_scan_33 : decode cX4_scan 33 = .ok (.iload_n 2, 1) := by decide +kernel
theorem dX4_scan_34 : decode cX4_scan 34 = .ok (.invokestatic 74, 3) := by decide +kernel
theorem dX4_scan_37 : decode cX4_scan 37 = .ok (.istore 4, 2) := by decide +kernel
theorem dX4_scan_39 : decode cX4_scan 39 = .ok (.aload_n 0, 1) := by decide +kernel
theorem dX4_scan_40 : decode cX4_scan 40 = .ok (.getfield 11, 3) := by decide +kernel
theorem dX4_scan_43 : decode cX4_scan 43 = .ok (.iload_n 3, 1) := by decide +kernel
theorem dX4_scan_44 : decode cX4_scan 44 = .ok (.aload_n 1, 1) := by decide +kernel
theorem dX4_scan_45 : decode cX4_scan 45 = .ok (.iload 5, 2) := by decide +kernel
theorem dX4_scan_47 : decode cX4_scan 47 = .ok (.iload 4, 2) := by decide +kernel
theorem dX4_scan_49 : decode cX4_scan 49 = .ok (.invokestatic 78, 3) := by decide +kernel
theorem dX4_scan_52 : decode cX4_scan 52 = .ok (.iastore, 1) := by decide +kernel
theorem dX4_scan_53 : decode cX4_scan 53 = .ok (.aload_n 0, 1) := by decide +kernel
theorem dX4_scan_54 : decode cX4_scan 54 = .ok (.getfield 15, 3) := by decide +kernel
theorem dX4_scan_57 : decode cX4_scan 57 = .ok (.iload_n 3, 1) := by decide +kernel
theorem dX4_scan_58 : decode cX4_scan 58 = .ok (.iload 5, 2) := by decide +kernel
theorem dX4_scan_60 : decode cX4_scan 60 = .ok (.iastore, 1) := by decide +kernel
theorem dX4_scan_61 : decode cX4_scan 61 = .ok (.iinc 3 1, 3) := by decide +kernel
theorem dX4_scan_64 : decode cX4_scan 64 = .ok (.iinc 5 1, 3) := by decide +kernel
theorem dX4_scan_67 : decode cX4_scan 67 = .ok (.goto (-59), 3) := by decide +kernel
theorem dX4_scan_70 : decode cX4_scan 70 = .ok (.aload_n 0, 1) := by decide +kernel
theorem dX4_scan_71 : decode cX4_scan 71 = .ok (.getfield 11, 3) := by decide +kernel
theorem dX4_scan_74 : decode cX4_scan 74 = .ok (.iload_n 3, 1) := by decide +kernel
theorem dX4_scan_75 : decode cX4_scan 75 = .ok (.bipush 21, 2) := by decide +kernel
theorem dX4_scan_77 : decode cX4_scan 77 = .ok (.iastore, 1) := by decide +kernel
theorem dX4_scan_78 : decode cX4_scan 78 = .ok (.aload_n 0, 1) := by decide +kernel
theorem dX4_scan_79 : decode cX4_scan 79 = .ok (.getfield 15, 3) := by decide +kernel
theorem dX4_scan_82 : decode cX4_scan 82 = .ok (.iload_n 3, 1) := by decide +kernel
theorem dX4_scan_83 : decode cX4_scan 83 = .ok (.iload_n 2, 1) := by decide +kernel
theorem dX4_scan_84 : decode cX4_scan 84 = .ok (.iastore, 1) := by decide +kernel
theorem dX4_scan_85 : decode cX4_scan 85 = .ok (.return_, 1) := by decide +kernel
theorem dX4_isLetter_0 : decode cX4_isLetter 0 = .ok (.bipush 97, 2) := by decide +kernel
theorem dX4_isLetter_2 : decode cX4_isLetter 2 = .ok (.iload_n 0, 1) := by decide +kernel
theorem dX4_isLetter_3 : decode cX4_isLetter 3 = .ok (.if_icmp .gt 13, 3) := by decide +kernel
theorem dX4_isLetter_6 : decode cX4_isLetter 6 = .ok (.iload_n 0, 1) := by decide +kernel
theorem dX4_isLetter_7 : decode cX4_isLetter 7 = .ok (.bipush 122, 2) := by decide +kernel
theorem dX4_isLetter_9 : decode cX4_isLetter 9 = .ok (.if_icmp .gt 7, 3) := by decide +kernel
theorem dX4_isLetter_12 : decode cX4_isLetter 12 = .ok (.iconst 1, 1) := by decide +kernel
theorem dX4_isLetter_13 : decode cX4_isLetter 13 = .ok (.goto 4, 3) := by decide +kernel
theorem dX4_isLetter_16 : decode cX4_isLetter 16 = .ok (.iconst 0, 1) := by decide +kernel
theorem dX4_isLetter_17 : decode cX4_isLetter 17 = .ok (.ireturn, 1) := by decide +kernel
theorem dX4_isDigit_0 : decode cX4_isDigit 0 = .ok (.bipush 48, 2) := by decide +kernel
theorem dX4_isDigit_2 : decode cX4_isDigit 2 = .ok (.iload_n 0, 1) := by decide +kernel
theorem dX4_isDigit_3 : decode cX4_isDigit 3 = .ok (.if_icmp .gt 13, 3) := by decide +kernel
theorem dX4_isDigit_6 : decode cX4_isDigit 6 = .ok (.iload_n 0, 1) := by decide +kernel
theorem dX4_isDigit_7 : decode cX4_isDigit 7 = .ok (.bipush 57, 2) := by decide +kernel
theorem dX4_isDigit_9 : decode cX4_isDigit 9 = .ok (.if_icmp .gt 7, 3) := by decide +kernel
theorem dX4_isDigit_12 : decode cX4_isDigit 12 = .ok (.iconst 1, 1) := by decide +kernel
theorem dX4_isDigit_13 : decode cX4_isDigit 13 = .ok (.goto 4, 3) := by decide +kernel
theorem dX4_isDigit_16 : decode cX4_isDigit 16 = .ok (.iconst 0, 1) := by decide +kernel
theorem dX4_isDigit_17 : decode cX4_isDigit 17 = .ok (.ireturn, 1) := by decide +kernel
theorem dX4_thingEnd_0 : decode cX4_thingEnd 0 = .ok (.aload_n 0, 1) := by decide +kernel
theorem dX4_thingEnd_1 : decode cX4_thingEnd 1 = .ok (.iload_n 1, 1) := by decide +kernel
theorem dX4_thingEnd_2 : decode cX4_thingEnd 2 = .ok (.iaload, 1) := by decide +kernel
theorem dX4_thingEnd_3 : decode cX4_thingEnd 3 = .ok (.invokestatic 81, 3) := by decide +kernel
theorem dX4_thingEnd_6 : decode cX4_thingEnd 6 = .ok (.istore_n 3, 1) := by decide +kernel
theorem dX4_thingEnd_7 : decode cX4_thingEnd 7 = .ok (.aload_n 0, 1) := by decide +kernel
theorem dX4_thingEnd_8 : decode cX4_thingEnd 8 = .ok (.iload_n 1, 1) := by decide +kernel
theorem dX4_thingEnd_9 : decode cX4_thingEnd 9 = .ok (.iaload, 1) := by decide +kernel
theorem dX4_thingEnd_10 : decode cX4_thingEnd 10 = .ok (.invokestatic 84, 3) := by decide +kernel
theorem dX4_thingEnd_13 : decode cX4_thingEnd 13 = .ok (.istore 4, 2) := by decide +kernel
theorem dX4_thingEnd_15 : decode cX4_thingEnd 15 = .ok (.iload_n 1, 1) := by decide +kernel
theorem dX4_thingEnd_16 : decode cX4_thingEnd 16 = .ok (.iconst 1, 1) := by decide +kernel
theorem dX4_thingEnd_17 : decode cX4_thingEnd 17 = .ok (.iadd, 1) := by decide +kernel
theorem dX4_thingEnd_18 : decode cX4_thingEnd 18 = .ok (.istore 5, 2) := by decide +kernel
theorem dX4_thingEnd_20 : decode cX4_thingEnd 20 = .ok (.iload 5, 2) := by decide +kernel
theorem dX4_thingEnd_22 : decode cX4_thingEnd 22 = .ok (.iload_n 2, 1) := by decide +kernel
theorem dX4_thingEnd_23 : decode cX4_thingEnd 23 = .ok (.if_icmp .ge 38, 3) := by decide +kernel
theorem dX4_thingEnd_26 : decode cX4_thingEnd 26 = .ok (.iload_n 3, 1) := by decide +kernel
theorem dX4_thingEnd_27 : decode cX4_thingEnd 27 = .ok (.ifCond .eq 13, 3) := by decide +kernel
theorem dX4_thingEnd_30 : decode cX4_thingEnd 30 = .ok (.aload_n 0, 1) := by decide +kernel
theorem dX4_thingEnd_31 : decode cX4_thingEnd 31 = .ok (.iload 5, 2) := by decide +kernel
theorem dX4_thingEnd_33 : decode cX4_thingEnd 33 = .ok (.iaload, 1) := by decide +kernel
theorem dX4_thingEnd_34 : decode cX4_thingEnd 34 = .ok (.invokestatic 81, 3) := by decide +kernel
theorem dX4_thingEnd_37 : decode cX4_thingEnd 37 = .ok (.ifCond .ne 18, 3) := by decide +kernel
theorem dX4_thingEnd_40 : decode cX4_thingEnd 40 = .ok (.iload 4, 2) := by decide +kernel
theorem dX4_thingEnd_42 : decode cX4_thingEnd 42 = .ok (.ifCond .eq 19, 3) := by decide +kernel
theorem dX4_thingEnd_45 : decode cX4_thingEnd 45 = .ok (.aload_n 0, 1) := by decide +kernel
theorem dX4_thingEnd_46 : decode cX4_thingEnd 46 = .ok (.iload 5, 2) := by decide +kernel
theorem dX4_thingEnd_48 : decode cX4_thingEnd 48 = .ok (.iaload, 1) := by decide +kernel
theorem dX4_thingEnd_49 : decode cX4_thingEnd 49 = .ok (.invokestatic 84, 3) := by decide +kernel
theorem dX4_thingEnd_52 : decode cX4_thingEnd 52 = .ok (.ifCond .eq 9, 3) := by decide +kernel
theorem dX4_thingEnd_55 : decode cX4_thingEnd 55 = .ok (.iinc 5 1, 3) := by decide +kernel
theorem dX4_thingEnd_58 : decode cX4_thingEnd 58 = .ok (.goto (-38), 3) := by decide +kernel
theorem dX4_thingEnd_61 : decode cX4_thingEnd 61 = .ok (.iload 5, 2) := by decide +kernel
theorem dX4_thingEnd_63 : decode cX4_thingEnd 63 = .ok (.ireturn, 1) := by decide +kernel
theorem dX4_thingAt_0 : decode cX4_thingAt 0 = .ok (.aload_n 0, 1) := by decide +kernel
theorem dX4_thingAt_1 : decode cX4_thingAt 1 = .ok (.iload_n 1, 1) := by decide +kernel
theorem dX4_thingAt_2 : decode cX4_thingAt 2 = .ok (.iaload, 1) := by decide +kernel
theorem dX4_thingAt_3 : decode cX4_thingAt 3 = .ok (.invokestatic 81, 3) := by decide +kernel
theorem dX4_thingAt_6 : decode cX4_thingAt 6 = .ok (.ifCond .eq 10, 3) := by decide +kernel
theorem dX4_thingAt_9 : decode cX4_thingAt 9 = .ok (.aload_n 0, 1) := by decide +kernel
theorem dX4_thingAt_10 : decode cX4_thingAt 10 = .ok (.iload_n 1, 1) := by decide +kernel
theorem dX4_thingAt_11 : decode cX4_thingAt 11 = .ok (.iload_n 2, 1) := by decide +kernel
theorem dX4_thingAt_12 : decode cX4_thingAt 12 = .ok (.invokestatic 87, 3) := by decide +kernel
theorem dX4_thingAt_15 : decode cX4_thingAt 15 = .ok (.ireturn, 1) := by decide +kernel
theorem dX4_thingAt_16 : decode cX4_thingAt 16 = .ok (.aload_n 0, 1) := by decide +kernel
theorem dX4_thingAt_17 : decode cX4_thingAt 17 = .ok (.iload_n 1, 1) := by decide +kernel
theorem dX4_thingAt_18 : decode cX4_thingAt 18 = .ok (.iaload, 1) := by decide +kernel
theorem dX4_thingAt_19 : decode cX4_thingAt 19 = .ok (.invokestatic 84, 3) := by decide +kernel
theorem dX4_thingAt_22 : decode cX4_thingAt 22 = .ok (.ifCond .eq 12, 3) := by decide +kernel
theorem dX4_thingAt_25 : decode cX4_thingAt 25 = .ok (.aload_n 0, 1) := by decide +kernel
theorem dX4_thingAt_26 : decode cX4_thingAt 26 = .ok (.iload_n 1, 1) := by decide +kernel
theorem dX4_thingAt_27 : decode cX4_thingAt 27 = .ok (.iload_n 2, 1) := by decide +kernel
theorem dX4_thingAt_28 : decode cX4_thingAt 28 = .ok (.invokestatic 90, 3) := by decide +kernel
theorem dX4_thingAt_31 : decode cX4_thingAt 31 = .ok (.goto 9, 3) := by decide +kernel
theorem dX4_thingAt_34 : decode cX4_thingAt 34 = .ok (.aload_n 0, 1) := by decide +kernel
theorem dX4_thingAt_35 : decode cX4_thingAt 35 = .ok (.iload_n 1, 1) := by decide +kernel
theorem dX4_thingAt_36 : decode cX4_thingAt 36 = .ok (.iaload, 1) := by decide +kernel
theorem dX4_thingAt_37 : decode cX4_thingAt 37 = .ok (.invokestatic 93, 3) := by decide +kernel
theorem dX4_thingAt_40 : decode cX4_thingAt 40 = .ok (.ireturn, 1) := by decide +kernel
theorem dX4_numberThing_0 : decode cX4_numberThing 0 = .ok (.iload_n 2, 1) := by decide +kernel
theorem dX4_numberThing_1 : decode cX4_numberThing 1 = .ok (.iload_n 1, 1) := by decide +kernel
theorem dX4_numberThing_2 : decode cX4_numberThing 2 = .ok (.isub, 1) := by decide +kernel
theorem dX4_numberThing_3 : decode cX4_numberThing 3 = .ok (.iconst 5, 1) := by decide +kernel
theorem dX4_numberThing_4 : decode cX4_numberThing 4 = .ok (.if_icmp .le 6, 3) := by decide +kernel
theorem dX4_numberThing_7 : decode cX4_numberThing 7 = .ok (.bipush 22, 2) := by decide +kernel
theorem dX4_numberThing_9 : decode cX4_numberThing 9 = .ok (.ireturn, 1) := by decide +kernel
theorem dX4_numberThing_10 : decode cX4_numberThing 10 = .ok (.iconst 0, 1) := by decide +kernel
theorem dX4_numberThing_11 : decode cX4_numberThing 11 = .ok (.istore_n 3, 1) := by decide +kernel
theorem dX4_numberThing_12 : decode cX4_numberThing 12 = .ok (.iload_n 1, 1) := by decide +kernel
theorem dX4_numberThing_13 : decode cX4_numberThing 13 = .ok (.istore 4, 2) := by decide +kernel
theorem dX4_numberThing_15 : decode cX4_numberThing 15 = .ok (.iload 4, 2) := by decide +kernel
theorem dX4_numberThing_17 : decode cX4_numberThing 17 = .ok (.iload_n 2, 1) := by decide +kernel
theorem dX4_numberThing_18 : decode cX4_numberThing 18 = .ok (.if_icmp .ge 22, 3) := by decide +kernel
theorem dX4_numberThing_21 : decode cX4_numberThing 21 = .ok (.iload_n 3, 1) := by decide +kernel
theorem dX4_numberThing_22 : decode cX4_numberThing 22 = .ok (.bipush 10, 2) := by decide +kernel
theorem dX4_numberThing_24 : decode cX4_numberThing 24 = .ok (.imul, 1) := by decide +kernel
theorem dX4_numberThing_25 : decode cX4_numberThing 25 = .ok (.aload_n 0, 1) := by decide +kernel
theorem dX4_numberThing_26 : decode cX4_numberThing 26 = .ok (.iload 4, 2) := by decide +kernel
theorem dX4_numberThing_28 : decode cX4_numberThing 28 = .ok (.iaload, 1) := by decide +kernel
theorem dX4_numberThing_29 : decode cX4_numberThing 29 = .ok (.iadd, 1) := by decide +kernel
theorem dX4_numberThing_30 : decode cX4_numberThing 30 = .ok (.bipush 48, 2) := by decide +kernel
theorem dX4_numberThing_32 : decode cX4_numberThing 32 = .ok (.isub, 1) := by decide +kernel
theorem dX4_numberThing_33 : decode cX4_numberThing 33 = .ok (.istore_n 3, 1) := by decide +kernel
theorem dX4_numberThing_34 : decode cX4_numberThing 34 = .ok (.iinc 4 1, 3) := by decide +kernel
theorem dX4_numberThing_37 : decode cX4_numberThing 37 = .ok (.goto (-22), 3) := by decide +kernel
theorem dX4_numberThing_40 : decode cX4_numberThing 40 = .ok (.bipush 40, 2) := by decide +kernel
theorem dX4_numberThing_42 : decode cX4_numberThing 42 = .ok (.iload_n 3, 1) := by decide +kernel
theorem dX4_numberThing_43 : decode cX4_numberThing 43 = .ok (.iadd, 1) := by decide +kernel
theorem dX4_numberThing_44 : decode cX4_numberThing 44 = .ok (.ireturn, 1) := by decide +kernel
theorem dX4_signThing_0 : decode cX4_signThing 0 = .ok (.iload_n 0, 1) := by decide +kernel
theorem dX4_signThing_1 : decode cX4_signThing 1 = .ok (.lookupswitch 77 #[(40, 68), (41, 71), (43, 59), (59, 74), (60, 62), (62, 65)], 59) := by decide +kernel
theorem dX4_signThing_60 : decode cX4_signThing 60 = .ok (.bipush 10, 2) := by decide +kernel
theorem dX4_signThing_62 : decode cX4_signThing 62 = .ok (.ireturn, 1) := by decide +kernel
theorem dX4_signThing_63 : decode cX4_signThing 63 = .ok (.bipush 11, 2) := by decide +kernel
theorem dX4_signThing_65 : decode cX4_signThing 65 = .ok (.ireturn, 1) := by decide +kernel
theorem dX4_signThing_66 : decode cX4_signThing 66 = .ok (.bipush 12, 2) := by decide +kernel
theorem dX4_signThing_68 : decode cX4_signThing 68 = .ok (.ireturn, 1) := by decide +kernel
theorem dX4_signThing_69 : decode cX4_signThing 69 = .ok (.bipush 16, 2) := by decide +kernel
theorem dX4_signThing_71 : decode cX4_signThing 71 = .ok (.ireturn, 1) := by decide +kernel
theorem dX4_signThing_72 : decode cX4_signThing 72 = .ok (.bipush 17, 2) := by decide +kernel
theorem dX4_signThing_74 : decode cX4_signThing 74 = .ok (.ireturn, 1) := by decide +kernel
theorem dX4_signThing_75 : decode cX4_signThing 75 = .ok (.bipush 18, 2) := by decide +kernel
theorem dX4_signThing_77 : decode cX4_signThing 77 = .ok (.ireturn, 1) := by decide +kernel
theorem dX4_signThing_78 : decode cX4_signThing 78 = .ok (.bipush 22, 2) := by decide +kernel
theorem dX4_signThing_80 : decode cX4_signThing 80 = .ok (.ireturn, 1) := by decide +kernel
theorem dX4_wordThing_0 : decode cX4_wordThing 0 = .ok (.aload_n 0, 1) := by decide +kernel
theorem dX4_wordThing_1 : decode cX4_wordThing 1 = .ok (.iload_n 1, 1) := by decide +kernel
theorem dX4_wordThing_2 : decode cX4_wordThing 2 = .ok (.iload_n 2, 1) := by decide +kernel
theorem dX4_wordThing_3 : decode cX4_wordThing 3 = .ok (.invokestatic 97, 3) := by decide +kernel
theorem dX4_wordThing_6 : decode cX4_wordThing 6 = .ok (.istore_n 3, 1) := by decide +kernel
theorem dX4_wordThing_7 : decode cX4_wordThing 7 = .ok (.iload_n 3, 1) := by decide +kernel
theorem dX4_wordThing_8 : decode cX4_wordThing 8 = .ok (.iconst (-1), 1) := by decide +kernel
theorem dX4_wordThing_9 : decode cX4_wordThing 9 = .ok (.if_icmp .ne 10, 3) := by decide +kernel
theorem dX4_wordThing_12 : decode cX4_wordThing 12 = .ok (.aload_n 0, 1) := by decide +kernel
theorem dX4_wordThing_13 : decode cX4_wordThing 13 = .ok (.iload_n 1, 1) := by decide +kernel
theorem dX4_wordThing_14 : decode cX4_wordThing 14 = .ok (.iload_n 2, 1) := by decide +kernel
theorem dX4_wordThing_15 : decode cX4_wordThing 15 = .ok (.invokestatic 100, 3) := by decide +kernel
theorem dX4_wordThing_18 : decode cX4_wordThing 18 = .ok (.istore_n 3, 1) := by decide +kernel
theorem dX4_wordThing_19 : decode cX4_wordThing 19 = .ok (.iload_n 3, 1) := by decide +kernel
theorem dX4_wordThing_20 : decode cX4_wordThing 20 = .ok (.iconst (-1), 1) := by decide +kernel
theorem dX4_wordThing_21 : decode cX4_wordThing 21 = .ok (.if_icmp .ne 86, 3) := by decide +kernel
theorem dX4_wordThing_24 : decode cX4_wordThing 24 = .ok (.ldc 103, 2) := by decide +kernel
theorem dX4_wordThing_26 : decode cX4_wordThing 26 = .ok (.aload_n 0, 1) := by decide +kernel
theorem dX4_wordThing_27 : decode cX4_wordThing 27 = .ok (.iload_n 1, 1) := by decide +kernel
theorem dX4_wordThing_28 : decode cX4_wordThing 28 = .ok (.iload_n 2, 1) := by decide +kernel
theorem dX4_wordThing_29 : decode cX4_wordThing 29 = .ok (.invokestatic 105, 3) := by decide +kernel
theorem dX4_wordThing_32 : decode cX4_wordThing 32 = .ok (.ifCond .eq 8, 3) := by decide +kernel
theorem dX4_wordThing_35 : decode cX4_wordThing 35 = .ok (.bipush 19, 2) := by decide +kernel
theorem dX4_wordThing_37 : decode cX4_wordThing 37 = .ok (.goto 69, 3) := by decide +kernel
theorem dX4_wordThing_40 : decode cX4_wordThing 40 = .ok (.ldc 109, 2) := by decide +kernel
theorem dX4_wordThing_42 : decode cX4_wordThing 42 = .ok (.aload_n 0, 1) := by decide +kernel
theorem dX4_wordThing_43 : decode cX4_wordThing 43 = .ok (.iload_n 1, 1) := by decide +kernel
theorem dX4_wordThing_44 : decode cX4_wordThing 44 = .ok (.iload_n 2, 1) := by decide +kernel
theorem dX4_wordThing_45 : decode cX4_wordThing 45 = .ok (.invokestatic 105, 3) := by decide +kernel
theorem dX4_wordThing_48 : decode cX4_wordThing 48 = .ok (.ifCond .eq 8, 3) := by decide +kernel
theorem dX4_wordThing_51 : decode cX4_wordThing 51 = .ok (.bipush 20, 2) := by decide +kernel
theorem dX4_wordThing_53 : decode cX4_wordThing 53 = .ok (.goto 53, 3) := by decide +kernel
theorem dX4_wordThing_56 : decode cX4_wordThing 56 = .ok (.ldc 111, 2) := by decide +kernel
theorem dX4_wordThing_58 : decode cX4_wordThing 58 = .ok (.aload_n 0, 1) := by decide +kernel
theorem dX4_wordThing_59 : decode cX4_wordThing 59 = .ok (.iload_n 1, 1) := by decide +kernel
theorem dX4_wordThing_60 : decode cX4_wordThing 60 = .ok (.iload_n 2, 1) := by decide +kernel
theorem dX4_wordThing_61 : decode cX4_wordThing 61 = .ok (.invokestatic 105, 3) := by decide +kernel
theorem dX4_wordThing_64 : decode cX4_wordThing 64 = .ok (.ifCond .eq 8, 3) := by decide +kernel
theorem dX4_wordThing_67 : decode cX4_wordThing 67 = .ok (.bipush 13, 2) := by decide +kernel
theorem dX4_wordThing_69 : decode cX4_wordThing 69 = .ok (.goto 37, 3) := by decide +kernel
theorem dX4_wordThing_72 : decode cX4_wordThing 72 = .ok (.ldc 113, 2) := by decide +kernel
theorem dX4_wordThing_74 : decode cX4_wordThing 74 = .ok (.aload_n 0, 1) := by decide +kernel
theorem dX4_wordThing_75 : decode cX4_wordThing 75 = .ok (.iload_n 1, 1) := by decide +kernel
theorem dX4_wordThing_76 : decode cX4_wordThing 76 = .ok (.iload_n 2, 1) := by decide +kernel
theorem dX4_wordThing_77 : decode cX4_wordThing 77 = .ok (.invokestatic 105, 3) := by decide +kernel
theorem dX4_wordThing_80 : decode cX4_wordThing 80 = .ok (.ifCond .eq 8, 3) := by decide +kernel
theorem dX4_wordThing_83 : decode cX4_wordThing 83 = .ok (.bipush 14, 2) := by decide +kernel
theorem dX4_wordThing_85 : decode cX4_wordThing 85 = .ok (.goto 21, 3) := by decide +kernel
theorem dX4_wordThing_88 : decode cX4_wordThing 88 = .ok (.ldc 115, 2) := by decide +kernel
theorem dX4_wordThing_90 : decode cX4_wordThing 90 = .ok (.aload_n 0, 1) := by decide +kernel
theorem dX4_wordThing_91 : decode cX4_wordThing 91 = .ok (.iload_n 1, 1) := by decide +kernel
theorem dX4_wordThing_92 : decode cX4_wordThing 92 = .ok (.iload_n 2, 1) := by decide +kernel
theorem dX4_wordThing_93 : decode cX4_wordThing 93 = .ok (.invokestatic 105, 3) := by decide +kernel
theorem dX4_wordThing_96 : decode cX4_wordThing 96 = .ok (.ifCond .eq 8, 3) := by decide +kernel
theorem dX4_wordThing_99 : decode cX4_wordThing 99 = .ok (.bipush 15, 2) := by decide +kernel
theorem dX4_wordThing_101 : decode cX4_wordThing 101 = .ok (.goto 5, 3) := by decide +kernel
theorem dX4_wordThing_104 : decode cX4_wordThing 104 = .ok (.bipush 22, 2) := by decide +kernel
theorem dX4_wordThing_106 : decode cX4_wordThing 106 = .ok (.istore_n 3, 1) := by decide +kernel
theorem dX4_wordThing_107 : decode cX4_wordThing 107 = .ok (.iload_n 3, 1) := by decide +kernel
theorem dX4_wordThing_108 : decode cX4_wordThing 108 = .ok (.ireturn, 1) := by decide +kernel
theorem dX4_factThing_0 : decode cX4_factThing 0 = .ok (.ldc 117, 2) := by decide +kernel
theorem dX4_factThing_2 : decode cX4_factThing 2 = .ok (.aload_n 0, 1) := by decide +kernel
theorem dX4_factThing_3 : decode cX4_factThing 3 = .ok (.iload_n 1, 1) := by decide +kernel
theorem dX4_factThing_4 : decode cX4_factThing 4 = .ok (.iload_n 2, 1) := by decide +kernel
theorem dX4_factThing_5 : decode cX4_factThing 5 = .ok (.invokestatic 105, 3) := by decide +kernel
theorem dX4_factThing_8 : decode cX4_factThing 8 = .ok (.ifCond .eq 7, 3) := by decide +kernel
theorem dX4_factThing_11 : decode cX4_factThing 11 = .ok (.iconst 0, 1) := by decide +kernel
theorem dX4_factThing_12 : decode cX4_factThing 12 = .ok (.goto 143, 3) := by decide +kernel
theorem dX4_factThing_15 : decode cX4_factThing 15 = .ok (.ldc 119, 2) := by decide +kernel
theorem dX4_factThing_17 : decode cX4_factThing 17 = .ok (.aload_n 0, 1) := by decide +kernel
theorem dX4_factThing_18 : decode cX4_factThing 18 = .ok (.iload_n 1, 1) := by decide +kernel
theorem dX4_factThing_19 : decode cX4_factThing 19 = .ok (.iload_n 2, 1) := by decide +kernel
theorem dX4_factThing_20 : decode cX4_factThing 20 = .ok (.invokestatic 105, 3) := by decide +kernel
theorem dX4_factThing_23 : decode cX4_factThing 23 = .ok (.ifCond .eq 7, 3) := by decide +kernel
theorem dX4_factThing_26 : decode cX4_factThing 26 = .ok (.iconst 1, 1) := by decide +kernel
theorem dX4_factThing_27 : decode cX4_factThing 27 = .ok (.goto 128, 3) := by decide +kernel
theorem dX4_factThing_30 : decode cX4_factThing 30 = .ok (.ldc 121, 2) := by decide +kernel
theorem dX4_factThing_32 : decode cX4_factThing 32 = .ok (.aload_n 0, 1) := by decide +kernel
theorem dX4_factThing_33 : decode cX4_factThing 33 = .ok (.iload_n 1, 1) := by decide +kernel
theorem dX4_factThing_34 : decode cX4_factThing 34 = .ok (.iload_n 2, 1) := by decide +kernel
theorem dX4_factThing_35 : decode cX4_factThing 35 = .ok (.invokestatic 105, 3) := by decide +kernel
theorem dX4_factThing_38 : decode cX4_factThing 38 = .ok (.ifCond .eq 7, 3) := by decide +kernel
theorem dX4_factThing_41 : decode cX4_factThing 41 = .ok (.iconst 2, 1) := by decide +kernel
theorem dX4_factThing_42 : decode cX4_factThing 42 = .ok (.goto 113, 3) := by decide +kernel
theorem dX4_factThing_45 : decode cX4_factThing 45 = .ok (.ldc 123, 2) := by decide +kernel
theorem dX4_factThing_47 : decode cX4_factThing 47 = .ok (.aload_n 0, 1) := by decide +kernel
theorem dX4_factThing_48 : decode cX4_factThing 48 = .ok (.iload_n 1, 1) := by decide +kernel
theorem dX4_factThing_49 : decode cX4_factThing 49 = .ok (.iload_n 2, 1) := by decide +kernel
theorem dX4_factThing_50 : decode cX4_factThing 50 = .ok (.invokestatic 105, 3) := by decide +kernel
theorem dX4_factThing_53 : decode cX4_factThing 53 = .ok (.ifCond .eq 7, 3) := by decide +kernel
theorem dX4_factThing_56 : decode cX4_factThing 56 = .ok (.iconst 3, 1) := by decide +kernel
theorem dX4_factThing_57 : decode cX4_factThing 57 = .ok (.goto 98, 3) := by decide +kernel
theorem dX4_factThing_60 : decode cX4_factThing 60 = .ok (.ldc 125, 2) := by decide +kernel
theorem dX4_factThing_62 : decode cX4_factThing 62 = .ok (.aload_n 0, 1) := by decide +kernel
theorem dX4_factThing_63 : decode cX4_factThing 63 = .ok (.iload_n 1, 1) := by decide +kernel
theorem dX4_factThing_64 : decode cX4_factThing 64 = .ok (.iload_n 2, 1) := by decide +kernel
theorem dX4_factThing_65 : decode cX4_factThing 65 = .ok (.invokestatic 105, 3) := by decide +kernel
theorem dX4_factThing_68 : decode cX4_factThing 68 = .ok (.ifCond .eq 7, 3) := by decide +kernel
theorem dX4_factThing_71 : decode cX4_factThing 71 = .ok (.iconst 4, 1) := by decide +kernel
theorem dX4_factThing_72 : decode cX4_factThing 72 = .ok (.goto 83, 3) := by decide +kernel
theorem dX4_factThing_75 : decode cX4_factThing 75 = .ok (.ldc 127, 2) := by decide +kernel
theorem dX4_factThing_77 : decode cX4_factThing 77 = .ok (.aload_n 0, 1) := by decide +kernel
theorem dX4_factThing_78 : decode cX4_factThing 78 = .ok (.iload_n 1, 1) := by decide +kernel
theorem dX4_factThing_79 : decode cX4_factThing 79 = .ok (.iload_n 2, 1) := by decide +kernel
theorem dX4_factThing_80 : decode cX4_factThing 80 = .ok (.invokestatic 105, 3) := by decide +kernel
theorem dX4_factThing_83 : decode cX4_factThing 83 = .ok (.ifCond .eq 7, 3) := by decide +kernel
theorem dX4_factThing_86 : decode cX4_factThing 86 = .ok (.iconst 5, 1) := by decide +kernel
theorem dX4_factThing_87 : decode cX4_factThing 87 = .ok (.goto 68, 3) := by decide +kernel
theorem dX4_factThing_90 : decode cX4_factThing 90 = .ok (.ldc 129, 2) := by decide +kernel
theorem dX4_factThing_92 : decode cX4_factThing 92 = .ok (.aload_n 0, 1) := by decide +kernel
theorem dX4_factThing_93 : decode cX4_factThing 93 = .ok (.iload_n 1, 1) := by decide +kernel
theorem dX4_factThing_94 : decode cX4_factThing 94 = .ok (.iload_n 2, 1) := by decide +kernel
theorem dX4_factThing_95 : decode cX4_factThing 95 = .ok (.invokestatic 105, 3) := by decide +kernel
theorem dX4_factThing_98 : decode cX4_factThing 98 = .ok (.ifCond .eq 8, 3) := by decide +kernel
theorem dX4_factThing_101 : decode cX4_factThing 101 = .ok (.bipush 6, 2) := by decide +kernel
theorem dX4_factThing_103 : decode cX4_factThing 103 = .ok (.goto 52, 3) := by decide +kernel
theorem dX4_factThing_106 : decode cX4_factThing 106 = .ok (.ldc 131, 2) := by decide +kernel
theorem dX4_factThing_108 : decode cX4_factThing 108 = .ok (.aload_n 0, 1) := by decide +kernel
theorem dX4_factThing_109 : decode cX4_factThing 109 = .ok (.iload_n 1, 1) := by decide +kernel
theorem dX4_factThing_110 : decode cX4_factThing 110 = .ok (.iload_n 2, 1) := by decide +kernel
theorem dX4_factThing_111 : decode cX4_factThing 111 = .ok (.invokestatic 105, 3) := by decide +kernel
theorem dX4_factThing_114 : decode cX4_factThing 114 = .ok (.ifCond .eq 8, 3) := by decide +kernel
theorem dX4_factThing_117 : decode cX4_factThing 117 = .ok (.bipush 7, 2) := by decide +kernel
theorem dX4_factThing_119 : decode cX4_factThing 119 = .ok (.goto 36, 3) := by decide +kernel
theorem dX4_factThing_122 : decode cX4_factThing 122 = .ok (.ldc 133, 2) := by decide +kernel
theorem dX4_factThing_124 : decode cX4_factThing 124 = .ok (.aload_n 0, 1) := by decide +kernel
theorem dX4_factThing_125 : decode cX4_factThing 125 = .ok (.iload_n 1, 1) := by decide +kernel
theorem dX4_factThing_126 : decode cX4_factThing 126 = .ok (.iload_n 2, 1) := by decide +kernel
theorem dX4_factThing_127 : decode cX4_factThing 127 = .ok (.invokestatic 105, 3) := by decide +kernel
theorem dX4_factThing_130 : decode cX4_factThing 130 = .ok (.ifCond .eq 8, 3) := by decide +kernel
theorem dX4_factThing_133 : decode cX4_factThing 133 = .ok (.bipush 8, 2) := by decide +kernel
theorem dX4_factThing_135 : decode cX4_factThing 135 = .ok (.goto 20, 3) := by decide +kernel
theorem dX4_factThing_138 : decode cX4_factThing 138 = .ok (.ldc 135, 2) := by decide +kernel
theorem dX4_factThing_140 : decode cX4_factThing 140 = .ok (.aload_n 0, 1) := by decide +kernel
theorem dX4_factThing_141 : decode cX4_factThing 141 = .ok (.iload_n 1, 1) := by decide +kernel
theorem dX4_factThing_142 : decode cX4_factThing 142 = .ok (.iload_n 2, 1) := by decide +kernel
theorem dX4_factThing_143 : decode cX4_factThing 143 = .ok (.invokestatic 105, 3) := by decide +kernel
theorem dX4_factThing_146 : decode cX4_factThing 146 = .ok (.ifCond .eq 8, 3) := by decide +kernel
theorem dX4_factThing_149 : decode cX4_factThing 149 = .ok (.bipush 9, 2) := by decide +kernel
theorem dX4_factThing_151 : decode cX4_factThing 151 = .ok (.goto 4, 3) := by decide +kernel
theorem dX4_factThing_154 : decode cX4_factThing 154 = .ok (.iconst (-1), 1) := by decide +kernel
theorem dX4_factThing_155 : decode cX4_factThing 155 = .ok (.ireturn, 1) := by decide +kernel
theorem dX4_lineThing_0 : decode cX4_lineThing 0 = .ok (.ldc 137, 2) := by decide +kernel
theorem dX4_lineThing_2 : decode cX4_lineThing 2 = .ok (.aload_n 0, 1) := by decide +kernel
theorem dX4_lineThing_3 : decode cX4_lineThing 3 = .ok (.iload_n 1, 1) := by decide +kernel
theorem dX4_lineThing_4 : decode cX4_lineThing 4 = .ok (.iload_n 2, 1) := by decide +kernel
theorem dX4_lineThing_5 : decode cX4_lineThing 5 = .ok (.invokestatic 105, 3) := by decide +kernel
theorem dX4_lineThing_8 : decode cX4_lineThing 8 = .ok (.ifCond .eq 7, 3) := by decide +kernel
theorem dX4_lineThing_11 : decode cX4_lineThing 11 = .ok (.iconst 0, 1) := by decide +kernel
theorem dX4_lineThing_12 : decode cX4_lineThing 12 = .ok (.goto 128, 3) := by decide +kernel
theorem dX4_lineThing_15 : decode cX4_lineThing 15 = .ok (.ldc 139, 2) := by decide +kernel
theorem dX4_lineThing_17 : decode cX4_lineThing 17 = .ok (.aload_n 0, 1) := by decide +kernel
theorem dX4_lineThing_18 : decode cX4_lineThing 18 = .ok (.iload_n 1, 1) := by decide +kernel
theorem dX4_lineThing_19 : decode cX4_lineThing 19 = .ok (.iload_n 2, 1) := by decide +kernel
theorem dX4_lineThing_20 : decode cX4_lineThing 20 = .ok (.invokestatic 105, 3) := by decide +kernel
theorem dX4_lineThing_23 : decode cX4_lineThing 23 = .ok (.ifCond .eq 7, 3) := by decide +kernel
theorem dX4_lineThing_26 : decode cX4_lineThing 26 = .ok (.iconst 2, 1) := by decide +kernel
theorem dX4_lineThing_27 : decode cX4_lineThing 27 = .ok (.goto 113, 3) := by decide +kernel
theorem dX4_lineThing_30 : decode cX4_lineThing 30 = .ok (.ldc 141, 2) := by decide +kernel
theorem dX4_lineThing_32 : decode cX4_lineThing 32 = .ok (.aload_n 0, 1) := by decide +kernel
theorem dX4_lineThing_33 : decode cX4_lineThing 33 = .ok (.iload_n 1, 1) := by decide +kernel
theorem dX4_lineThing_34 : decode cX4_lineThing 34 = .ok (.iload_n 2, 1) := by decide +kernel
theorem dX4_lineThing_35 : decode cX4_lineThing 35 = .ok (.invokestatic 105, 3) := by decide +kernel
theorem dX4_lineThing_38 : decode cX4_lineThing 38 = .ok (.ifCond .eq 7, 3) := by decide +kernel
theorem dX4_lineThing_41 : decode cX4_lineThing 41 = .ok (.iconst 3, 1) := by decide +kernel
theorem dX4_lineThing_42 : decode cX4_lineThing 42 = .ok (.goto 98, 3) := by decide +kernel
theorem dX4_lineThing_45 : decode cX4_lineThing 45 = .ok (.ldc 143, 2) := by decide +kernel
theorem dX4_lineThing_47 : decode cX4_lineThing 47 = .ok (.aload_n 0, 1) := by decide +kernel
theorem dX4_lineThing_48 : decode cX4_lineThing 48 = .ok (.iload_n 1, 1) := by decide +kernel
theorem dX4_lineThing_49 : decode cX4_lineThing 49 = .ok (.iload_n 2, 1) := by decide +kernel
theorem dX4_lineThing_50 : decode cX4_lineThing 50 = .ok (.invokestatic 105, 3) := by decide +kernel
theorem dX4_lineThing_53 : decode cX4_lineThing 53 = .ok (.ifCond .eq 7, 3) := by decide +kernel
theorem dX4_lineThing_56 : decode cX4_lineThing 56 = .ok (.iconst 4, 1) := by decide +kernel
theorem dX4_lineThing_57 : decode cX4_lineThing 57 = .ok (.goto 83, 3) := by decide +kernel
theorem dX4_lineThing_60 : decode cX4_lineThing 60 = .ok (.ldc 145, 2) := by decide +kernel
theorem dX4_lineThing_62 : decode cX4_lineThing 62 = .ok (.aload_n 0, 1) := by decide +kernel
theorem dX4_lineThing_63 : decode cX4_lineThing 63 = .ok (.iload_n 1, 1) := by decide +kernel
theorem dX4_lineThing_64 : decode cX4_lineThing 64 = .ok (.iload_n 2, 1) := by decide +kernel
theorem dX4_lineThing_65 : decode cX4_lineThing 65 = .ok (.invokestatic 105, 3) := by decide +kernel
theorem dX4_lineThing_68 : decode cX4_lineThing 68 = .ok (.ifCond .eq 7, 3) := by decide +kernel
theorem dX4_lineThing_71 : decode cX4_lineThing 71 = .ok (.iconst 5, 1) := by decide +kernel
theorem dX4_lineThing_72 : decode cX4_lineThing 72 = .ok (.goto 68, 3) := by decide +kernel
theorem dX4_lineThing_75 : decode cX4_lineThing 75 = .ok (.ldc 147, 2) := by decide +kernel
theorem dX4_lineThing_77 : decode cX4_lineThing 77 = .ok (.aload_n 0, 1) := by decide +kernel
theorem dX4_lineThing_78 : decode cX4_lineThing 78 = .ok (.iload_n 1, 1) := by decide +kernel
theorem dX4_lineThing_79 : decode cX4_lineThing 79 = .ok (.iload_n 2, 1) := by decide +kernel
theorem dX4_lineThing_80 : decode cX4_lineThing 80 = .ok (.invokestatic 105, 3) := by decide +kernel
theorem dX4_lineThing_83 : decode cX4_lineThing 83 = .ok (.ifCond .eq 8, 3) := by decide +kernel
theorem dX4_lineThing_86 : decode cX4_lineThing 86 = .ok (.bipush 6, 2) := by decide +kernel
theorem dX4_lineThing_88 : decode cX4_lineThing 88 = .ok (.goto 52, 3) := by decide +kernel
theorem dX4_lineThing_91 : decode cX4_lineThing 91 = .ok (.ldc 149, 2) := by decide +kernel
theorem dX4_lineThing_93 : decode cX4_lineThing 93 = .ok (.aload_n 0, 1) := by decide +kernel
theorem dX4_lineThing_94 : decode cX4_lineThing 94 = .ok (.iload_n 1, 1) := by decide +kernel
theorem dX4_lineThing_95 : decode cX4_lineThing 95 = .ok (.iload_n 2, 1) := by decide +kernel
theorem dX4_lineThing_96 : decode cX4_lineThing 96 = .ok (.invokestatic 105, 3) := by decide +kernel
theorem dX4_lineThing_99 : decode cX4_lineThing 99 = .ok (.ifCond .eq 8, 3) := by decide +kernel
theorem dX4_lineThing_102 : decode cX4_lineThing 102 = .ok (.bipush 7, 2) := by decide +kernel
theorem dX4_lineThing_104 : decode cX4_lineThing 104 = .ok (.goto 36, 3) := by decide +kernel
theorem dX4_lineThing_107 : decode cX4_lineThing 107 = .ok (.ldc 151, 2) := by decide +kernel
theorem dX4_lineThing_109 : decode cX4_lineThing 109 = .ok (.aload_n 0, 1) := by decide +kernel
theorem dX4_lineThing_110 : decode cX4_lineThing 110 = .ok (.iload_n 1, 1) := by decide +kernel
theorem dX4_lineThing_111 : decode cX4_lineThing 111 = .ok (.iload_n 2, 1) := by decide +kernel
theorem dX4_lineThing_112 : decode cX4_lineThing 112 = .ok (.invokestatic 105, 3) := by decide +kernel
theorem dX4_lineThing_115 : decode cX4_lineThing 115 = .ok (.ifCond .eq 8, 3) := by decide +kernel
theorem dX4_lineThing_118 : decode cX4_lineThing 118 = .ok (.bipush 8, 2) := by decide +kernel
theorem dX4_lineThing_120 : decode cX4_lineThing 120 = .ok (.goto 20, 3) := by decide +kernel
theorem dX4_lineThing_123 : decode cX4_lineThing 123 = .ok (.ldc 153, 2) := by decide +kernel
theorem dX4_lineThing_125 : decode cX4_lineThing 125 = .ok (.aload_n 0, 1) := by decide +kernel
theorem dX4_lineThing_126 : decode cX4_lineThing 126 = .ok (.iload_n 1, 1) := by decide +kernel
theorem dX4_lineThing_127 : decode cX4_lineThing 127 = .ok (.iload_n 2, 1) := by decide +kernel
theorem dX4_lineThing_128 : decode cX4_lineThing 128 = .ok (.invokestatic 105, 3) := by decide +kernel
theorem dX4_lineThing_131 : decode cX4_lineThing 131 = .ok (.ifCond .eq 8, 3) := by decide +kernel
theorem dX4_lineThing_134 : decode cX4_lineThing 134 = .ok (.bipush 9, 2) := by decide +kernel
theorem dX4_lineThing_136 : decode cX4_lineThing 136 = .ok (.goto 4, 3) := by decide +kernel
theorem dX4_lineThing_139 : decode cX4_lineThing 139 = .ok (.iconst (-1), 1) := by decide +kernel
theorem dX4_lineThing_140 : decode cX4_lineThing 140 = .ok (.istore_n 3, 1) := by decide +kernel
theorem dX4_lineThing_141 : decode cX4_lineThing 141 = .ok (.iload_n 3, 1) := by decide +kernel
theorem dX4_lineThing_142 : decode cX4_lineThing 142 = .ok (.iconst (-1), 1) := by decide +kernel
theorem dX4_lineThing_143 : decode cX4_lineThing 143 = .ok (.if_icmp .ne 7, 3) := by decide +kernel
theorem dX4_lineThing_146 : decode cX4_lineThing 146 = .ok (.iconst (-1), 1) := by decide +kernel
theorem dX4_lineThing_147 : decode cX4_lineThing 147 = .ok (.goto 7, 3) := by decide +kernel
theorem dX4_lineThing_150 : decode cX4_lineThing 150 = .ok (.bipush 30, 2) := by decide +kernel
theorem dX4_lineThing_152 : decode cX4_lineThing 152 = .ok (.iload_n 3, 1) := by decide +kernel
theorem dX4_lineThing_153 : decode cX4_lineThing 153 = .ok (.iadd, 1) := by decide +kernel
theorem dX4_lineThing_154 : decode cX4_lineThing 154 = .ok (.ireturn, 1) := by decide +kernel
theorem dX4_wordIs_0 : decode cX4_wordIs 0 = .ok (.iload_n 3, 1) := by decide +kernel
theorem dX4_wordIs_1 : decode cX4_wordIs 1 = .ok (.iload_n 2, 1) := by decide +kernel
theorem dX4_wordIs_2 : decode cX4_wordIs 2 = .ok (.isub, 1) := by decide +kernel
theorem dX4_wordIs_3 : decode cX4_wordIs 3 = .ok (.aload_n 0, 1) := by decide +kernel
theorem dX4_wordIs_4 : decode cX4_wordIs 4 = .ok (.invokevirtual 155, 3) := by decide +kernel
theorem dX4_wordIs_7 : decode cX4_wordIs 7 = .ok (.if_icmp .eq 5, 3) := by decide +kernel
theorem dX4_wordIs_10 : decode cX4_wordIs 10 = .ok (.iconst 0, 1) := by decide +kernel
theorem dX4_wordIs_11 : decode cX4_wordIs 11 = .ok (.ireturn, 1) := by decide +kernel
theorem dX4_wordIs_12 : decode cX4_wordIs 12 = .ok (.iconst 0, 1) := by decide +kernel
theorem dX4_wordIs_13 : decode cX4_wordIs 13 = .ok (.istore 4, 2) := by decide +kernel
theorem dX4_wordIs_15 : decode cX4_wordIs 15 = .ok (.iload 4, 2) := by decide +kernel
theorem dX4_wordIs_17 : decode cX4_wordIs 17 = .ok (.aload_n 0, 1) := by decide +kernel
theorem dX4_wordIs_18 : decode cX4_wordIs 18 = .ok (.invokevirtual 155, 3) := by decide +kernel
theorem dX4_wordIs_21 : decode cX4_wordIs 21 = .ok (.if_icmp .ge 26, 3) := by decide +kernel
theorem dX4_wordIs_24 : decode cX4_wordIs 24 = .ok (.aload_n 1, 1) := by decide +kernel
theorem dX4_wordIs_25 : decode cX4_wordIs 25 = .ok (.iload_n 2, 1) := by decide +kernel
theorem dX4_wordIs_26 : decode cX4_wordIs 26 = .ok (.iload 4, 2) := by decide +kernel
theorem dX4_wordIs_28 : decode cX4_wordIs 28 = .ok (.iadd, 1) := by decide +kernel
theorem dX4_wordIs_29 : decode cX4_wordIs 29 = .ok (.iaload, 1) := by decide +kernel
theorem dX4_wordIs_30 : decode cX4_wordIs 30 = .ok (.aload_n 0, 1) := by decide +kernel
theorem dX4_wordIs_31 : decode cX4_wordIs 31 = .ok (.iload 4, 2) := by decide +kernel
theorem dX4_wordIs_33 : decode cX4_wordIs 33 = .ok (.invokevirtual 161, 3) := by decide +kernel
theorem dX4_wordIs_36 : decode cX4_wordIs 36 = .ok (.if_icmp .eq 5, 3) := by decide +kernel
theorem dX4_wordIs_39 : decode cX4_wordIs 39 = .ok (.iconst 0, 1) := by decide +kernel
theorem dX4_wordIs_40 : decode cX4_wordIs 40 = .ok (.ireturn, 1) := by decide +kernel
theorem dX4_wordIs_41 : decode cX4_wordIs 41 = .ok (.iinc 4 1, 3) := by decide +kernel
theorem dX4_wordIs_44 : decode cX4_wordIs 44 = .ok (.goto (-29), 3) := by decide +kernel
theorem dX4_wordIs_47 : decode cX4_wordIs 47 = .ok (.iconst 1, 1) := by decide +kernel
theorem dX4_wordIs_48 : decode cX4_wordIs 48 = .ok (.ireturn, 1) := by decide +kernel
theorem dX4_take_0 : decode cX4_take 0 = .ok (.aload_n 0, 1) := by decide +kernel
theorem dX4_take_1 : decode cX4_take 1 = .ok (.getfield 11, 3) := by decide +kernel
theorem dX4_take_4 : decode cX4_take 4 = .ok (.aload_n 0, 1) := by decide +kernel
theorem dX4_take_5 : decode cX4_take 5 = .ok (.getfield 56, 3) := by decide +kernel
theorem dX4_take_8 : decode cX4_take 8 = .ok (.iaload, 1) := by decide +kernel
theorem dX4_take_9 : decode cX4_take 9 = .ok (.iload_n 1, 1) := by decide +kernel
theorem dX4_take_10 : decode cX4_take 10 = .ok (.if_icmp .eq 5, 3) := by decide +kernel
theorem dX4_take_13 : decode cX4_take 13 = .ok (.iconst 0, 1) := by decide +kernel
theorem dX4_take_14 : decode cX4_take 14 = .ok (.ireturn, 1) := by decide +kernel
theorem dX4_take_15 : decode cX4_take 15 = .ok (.aload_n 0, 1) := by decide +kernel
theorem dX4_take_16 : decode cX4_take 16 = .ok (.dup, 1) := by decide +kernel
theorem dX4_take_17 : decode cX4_take 17 = .ok (.getfield 56, 3) := by decide +kernel
theorem dX4_take_20 : decode cX4_take 20 = .ok (.iconst 1, 1) := by decide +kernel
theorem dX4_take_21 : decode cX4_take 21 = .ok (.iadd, 1) := by decide +kernel
theorem dX4_take_22 : decode cX4_take 22 = .ok (.putfield 56, 3) := by decide +kernel
theorem dX4_take_25 : decode cX4_take 25 = .ok (.iconst 1, 1) := by decide +kernel
theorem dX4_take_26 : decode cX4_take 26 = .ok (.ireturn, 1) := by decide +kernel
theorem dX4_takeNumber_0 : decode cX4_takeNumber 0 = .ok (.aload_n 0, 1) := by decide +kernel
theorem dX4_takeNumber_1 : decode cX4_takeNumber 1 = .ok (.getfield 11, 3) := by decide +kernel
theorem dX4_takeNumber_4 : decode cX4_takeNumber 4 = .ok (.aload_n 0, 1) := by decide +kernel
theorem dX4_takeNumber_5 : decode cX4_takeNumber 5 = .ok (.getfield 56, 3) := by decide +kernel
theorem dX4_takeNumber_8 : decode cX4_takeNumber 8 = .ok (.iaload, 1) := by decide +kernel
theorem dX4_takeNumber_9 : decode cX4_takeNumber 9 = .ok (.bipush 40, 2) := by decide +kernel
theorem dX4_takeNumber_11 : decode cX4_takeNumber 11 = .ok (.isub, 1) := by decide +kernel
theorem dX4_takeNumber_12 : decode cX4_takeNumber 12 = .ok (.istore_n 3, 1) := by decide +kernel
theorem dX4_takeNumber_13 : decode cX4_takeNumber 13 = .ok (.iload_n 3, 1) := by decide +kernel
theorem dX4_takeNumber_14 : decode cX4_takeNumber 14 = .ok (.ifCond .lt 8, 3) := by decide +kernel
theorem dX4_takeNumber_17 : decode cX4_takeNumber 17 = .ok (.iload_n 3, 1) := by decide +kernel
theorem dX4_takeNumber_18 : decode cX4_takeNumber 18 = .ok (.iload_n 1, 1) := by decide +kernel
theorem dX4_takeNumber_19 : decode cX4_takeNumber 19 = .ok (.if_icmp .le 5, 3) := by decide +kernel
theorem dX4_takeNumber_22 : decode cX4_takeNumber 22 = .ok (.iconst 0, 1) := by decide +kernel
theorem dX4_takeNumber_23 : decode cX4_takeNumber 23 = .ok (.ireturn, 1) := by decide +kernel
theorem dX4_takeNumber_24 : decode cX4_takeNumber 24 = .ok (.aload_n 2, 1) := by decide +kernel
theorem dX4_takeNumber_25 : decode cX4_takeNumber 25 = .ok (.aload_n 0, 1) := by decide +kernel
theorem dX4_takeNumber_26 : decode cX4_takeNumber 26 = .ok (.getfield 60, 3) := by decide +kernel
theorem dX4_takeNumber_29 : decode cX4_takeNumber 29 = .ok (.iload_n 3, 1) := by decide +kernel
theorem dX4_takeNumber_30 : decode cX4_takeNumber 30 = .ok (.iastore, 1) := by decide +kernel
theorem dX4_takeNumber_31 : decode cX4_takeNumber 31 = .ok (.aload_n 0, 1) := by decide +kernel
theorem dX4_takeNumber_32 : decode cX4_takeNumber 32 = .ok (.dup, 1) := by decide +kernel
theorem dX4_takeNumber_33 : decode cX4_takeNumber 33 = .ok (.getfield 56, 3) := by decide +kernel
theorem dX4_takeNumber_36 : decode cX4_takeNumber 36 = .ok (.iconst 1, 1) := by decide +kernel
theorem dX4_takeNumber_37 : decode cX4_takeNumber 37 = .ok (.iadd, 1) := by decide +kernel
theorem dX4_takeNumber_38 : decode cX4_takeNumber 38 = .ok (.putfield 56, 3) := by decide +kernel
theorem dX4_takeNumber_41 : decode cX4_takeNumber 41 = .ok (.iconst 1, 1) := by decide +kernel
theorem dX4_takeNumber_42 : decode cX4_takeNumber 42 = .ok (.ireturn, 1) := by decide +kernel
theorem dX4_lineKind_0 : decode cX4_lineKind 0 = .ok (.iload_n 0, 1) := by decide +kernel
theorem dX4_lineKind_1 : decode cX4_lineKind 1 = .ok (.iconst 1, 1) := by decide +kernel
theorem dX4_lineKind_2 : decode cX4_lineKind 2 = .ok (.if_icmp .ne 5, 3) := by decide +kernel
theorem dX4_lineKind_5 : decode cX4_lineKind 5 = .ok (.iconst 1, 1) := by decide +kernel
theorem dX4_lineKind_6 : decode cX4_lineKind 6 = .ok (.ireturn, 1) := by decide +kernel
theorem dX4_lineKind_7 : decode cX4_lineKind 7 = .ok (.bipush 30, 2) := by decide +kernel
theorem dX4_lineKind_9 : decode cX4_lineKind 9 = .ok (.iload_n 0, 1) := by decide +kernel
theorem dX4_lineKind_10 : decode cX4_lineKind 10 = .ok (.if_icmp .gt 16, 3) := by decide +kernel
theorem dX4_lineKind_13 : decode cX4_lineKind 13 = .ok (.iload_n 0, 1) := by decide +kernel
theorem dX4_lineKind_14 : decode cX4_lineKind 14 = .ok (.bipush 39, 2) := by decide +kernel
theorem dX4_lineKind_16 : decode cX4_lineKind 16 = .ok (.if_icmp .gt 10, 3) := by decide +kernel
theorem dX4_lineKind_19 : decode cX4_lineKind 19 = .ok (.iload_n 0, 1) := by decide +kernel
theorem dX4_lineKind_20 : decode cX4_lineKind 20 = .ok (.bipush 30, 2) := by decide +kernel
theorem dX4_lineKind_22 : decode cX4_lineKind 22 = .ok (.isub, 1) := by decide +kernel
theorem dX4_lineKind_23 : decode cX4_lineKind 23 = .ok (.goto 4, 3) := by decide +kernel
theorem dX4_lineKind_26 : decode cX4_lineKind 26 = .ok (.iconst (-1), 1) := by decide +kernel
theorem dX4_lineKind_27 : decode cX4_lineKind 27 = .ok (.ireturn, 1) := by decide +kernel
theorem dX4_readLine_0 : decode cX4_readLine 0 = .ok (.aload_n 0, 1) := by decide +kernel
theorem dX4_readLine_1 : decode cX4_readLine 1 = .ok (.getfield 11, 3) := by decide +kernel
theorem dX4_readLine_4 : decode cX4_readLine 4 = .ok (.aload_n 0, 1) := by decide +kernel
theorem dX4_readLine_5 : decode cX4_readLine 5 = .ok (.getfield 56, 3) := by decide +kernel
theorem dX4_readLine_8 : decode cX4_readLine 8 = .ok (.iaload, 1) := by decide +kernel
theorem dX4_readLine_9 : decode cX4_readLine 9 = .ok (.invokestatic 165, 3) := by decide +kernel
theorem dX4_readLine_12 : decode cX4_readLine 12 = .ok (.istore_n 1, 1) := by decide +kernel
theorem dX4_readLine_13 : decode cX4_readLine 13 = .ok (.iload_n 1, 1) := by decide +kernel
theorem dX4_readLine_14 : decode cX4_readLine 14 = .ok (.iconst (-1), 1) := by decide +kernel
theorem dX4_readLine_15 : decode cX4_readLine 15 = .ok (.if_icmp .ne 5, 3) := by decide +kernel
theorem dX4_readLine_18 : decode cX4_readLine 18 = .ok (.iconst 0, 1) := by decide +kernel
theorem dX4_readLine_19 : decode cX4_readLine 19 = .ok (.ireturn, 1) := by decide +kernel
theorem dX4_readLine_20 : decode cX4_readLine 20 = .ok (.aload_n 0, 1) := by decide +kernel
theorem dX4_readLine_21 : decode cX4_readLine 21 = .ok (.dup, 1) := by decide +kernel
theorem dX4_readLine_22 : decode cX4_readLine 22 = .ok (.getfield 56, 3) := by decide +kernel
theorem dX4_readLine_25 : decode cX4_readLine 25 = .ok (.iconst 1, 1) := by decide +kernel
theorem dX4_readLine_26 : decode cX4_readLine 26 = .ok (.iadd, 1) := by decide +kernel
theorem dX4_readLine_27 : decode cX4_readLine 27 = .ok (.putfield 56, 3) := by decide +kernel
theorem dX4_readLine_30 : decode cX4_readLine 30 = .ok (.aload_n 0, 1) := by decide +kernel
theorem dX4_readLine_31 : decode cX4_readLine 31 = .ok (.getfield 18, 3) := by decide +kernel
theorem dX4_readLine_34 : decode cX4_readLine 34 = .ok (.aload_n 0, 1) := by decide +kernel
theorem dX4_readLine_35 : decode cX4_readLine 35 = .ok (.getfield 60, 3) := by decide +kernel
theorem dX4_readLine_38 : decode cX4_readLine 38 = .ok (.iload_n 1, 1) := by decide +kernel
theorem dX4_readLine_39 : decode cX4_readLine 39 = .ok (.iastore, 1) := by decide +kernel
theorem dX4_readLine_40 : decode cX4_readLine 40 = .ok (.aload_n 0, 1) := by decide +kernel
theorem dX4_readLine_41 : decode cX4_readLine 41 = .ok (.getfield 33, 3) := by decide +kernel
theorem dX4_readLine_44 : decode cX4_readLine 44 = .ok (.aload_n 0, 1) := by decide +kernel
theorem dX4_readLine_45 : decode cX4_readLine 45 = .ok (.getfield 60, 3) := by decide +kernel
theorem dX4_readLine_48 : decode cX4_readLine 48 = .ok (.aload_n 0, 1) := by decide +kernel
theorem dX4_readLine_49 : decode cX4_readLine 49 = .ok (.getfield 63, 3) := by decide +kernel
theorem dX4_readLine_52 : decode cX4_readLine 52 = .ok (.iastore, 1) := by decide +kernel
theorem dX4_readLine_53 : decode cX4_readLine 53 = .ok (.iload_n 1, 1) := by decide +kernel
