theorem dX12_arrears_0 : decode cX12_arrears 0 = .ok (.aload_n 0, 1) := by decide +kernel
theorem dX12_arrears_1 : decode cX12_arrears 1 = .ok (.iconst 0, 1) := by decide +kernel
theorem dX12_arrears_2 : decode cX12_arrears 2 = .ok (.putfield 194, 3) := by decide +kernel
theorem dX12_arrears_5 : decode cX12_arrears 5 = .ok (.iload_n 1, 1) := by decide +kernel
theorem dX12_arrears_6 : decode cX12_arrears 6 = .ok (.ifCond .lt 11, 3) := by decide +kernel
theorem dX12_arrears_9 : decode cX12_arrears 9 = .ok (.iload_n 1, 1) := by decide +kernel
theorem dX12_arrears_10 : decode cX12_arrears 10 = .ok (.aload_n 0, 1) := by decide +kernel
theorem dX12_arrears_11 : decode cX12_arrears 11 = .ok (.getfield 495, 3) := by decide +kernel
theorem dX12_arrears_14 : decode cX12_arrears 14 = .ok (.if_icmp .lt 5, 3) := by decide +kernel
theorem dX12_arrears_17 : decode cX12_arrears 17 = .ok (.iconst (-1), 1) := by decide +kernel
theorem dX12_arrears_18 : decode cX12_arrears 18 = .ok (.ireturn, 1) := by decide +kernel
theorem dX12_arrears_19 : decode cX12_arrears 19 = .ok (.iconst 0, 1) := by decide +kernel
theorem dX12_arrears_20 : decode cX12_arrears 20 = .ok (.istore_n 2, 1) := by decide +kernel
theorem dX12_arrears_21 : decode cX12_arrears 21 = .ok (.iload_n 2, 1) := by decide +kernel
theorem dX12_arrears_22 : decode cX12_arrears 22 = .ok (.aload_n 0, 1) := by decide +kernel
theorem dX12_arrears_23 : decode cX12_arrears 23 = .ok (.getfield 495, 3) := by decide +kernel
theorem dX12_arrears_26 : decode cX12_arrears 26 = .ok (.if_icmp .ge 38, 3) := by decide +kernel
theorem dX12_arrears_29 : decode cX12_arrears 29 = .ok (.aload_n 0, 1) := by decide +kernel
theorem dX12_arrears_30 : decode cX12_arrears 30 = .ok (.getfield 131, 3) := by decide +kernel
theorem dX12_arrears_33 : decode cX12_arrears 33 = .ok (.iload_n 2, 1) := by decide +kernel
theorem dX12_arrears_34 : decode cX12_arrears 34 = .ok (.aload_n 0, 1) := by decide +kernel
theorem dX12_arrears_35 : decode cX12_arrears 35 = .ok (.getfield 101, 3) := by decide +kernel
theorem dX12_arrears_38 : decode cX12_arrears 38 = .ok (.iload_n 2, 1) := by decide +kernel
theorem dX12_arrears_39 : decode cX12_arrears 39 = .ok (.iaload, 1) := by decide +kernel
theorem dX12_arrears_40 : decode cX12_arrears 40 = .ok (.ifCond .lt 16, 3) := by decide +kernel
theorem dX12_arrears_43 : decode cX12_arrears 43 = .ok (.aload_n 0, 1) := by decide +kernel
theorem dX12_arrears_44 : decode cX12_arrears 44 = .ok (.getfield 107, 3) := by decide +kernel
theorem dX12_arrears_47 : decode cX12_arrears 47 = .ok (.iload_n 2, 1) := by decide +kernel
theorem dX12_arrears_48 : decode cX12_arrears 48 = .ok (.iaload, 1) := by decide +kernel
theorem dX12_arrears_49 : decode cX12_arrears 49 = .ok (.ifCond .le 7, 3) := by decide +kernel
theorem dX12_arrears_52 : decode cX12_arrears 52 = .ok (.iconst 1, 1) := by decide +kernel
theorem dX12_arrears_53 : decode cX12_arrears 53 = .ok (.goto 4, 3) := by decide +kernel
theorem dX12_arrears_56 : decode cX12_arrears 56 = .ok (.iconst 0, 1) := by decide +kernel
theorem dX12_arrears_57 : decode cX12_arrears 57 = .ok (.bastore, 1) := by decide +kernel
theorem dX12_arrears_58 : decode cX12_arrears 58 = .ok (.iinc 2 1, 3) := by decide +kernel
theorem dX12_arrears_61 : decode cX12_arrears 61 = .ok (.goto (-40), 3) := by decide +kernel
theorem dX12_arrears_64 : decode cX12_arrears 64 = .ok (.iconst (-1), 1) := by decide +kernel
theorem dX12_arrears_65 : decode cX12_arrears 65 = .ok (.istore_n 2, 1) := by decide +kernel
theorem dX12_arrears_66 : decode cX12_arrears 66 = .ok (.iconst 0, 1) := by decide +kernel
theorem dX12_arrears_67 : decode cX12_arrears 67 = .ok (.istore_n 3, 1) := by decide +kernel
theorem dX12_arrears_68 : decode cX12_arrears 68 = .ok (.iload_n 3, 1) := by decide +kernel
theorem dX12_arrears_69 : decode cX12_arrears 69 = .ok (.iload_n 1, 1) := by decide +kernel
theorem dX12_arrears_70 : decode cX12_arrears 70 = .ok (.if_icmp .gt 75, 3) := by decide +kernel
theorem dX12_arrears_73 : decode cX12_arrears 73 = .ok (.iconst (-1), 1) := by decide +kernel
theorem dX12_arrears_74 : decode cX12_arrears 74 = .ok (.istore_n 2, 1) := by decide +kernel
theorem dX12_arrears_75 : decode cX12_arrears 75 = .ok (.iconst 0, 1) := by decide +kernel
theorem dX12_arrears_76 : decode cX12_arrears 76 = .ok (.istore 4, 2) := by decide +kernel
theorem dX12_arrears_78 : decode cX12_arrears 78 = .ok (.iload 4, 2) := by decide +kernel
theorem dX12_arrears_80 : decode cX12_arrears 80 = .ok (.aload_n 0, 1) := by decide +kernel
theorem dX12_arrears_81 : decode cX12_arrears 81 = .ok (.getfield 495, 3) := by decide +kernel
theorem dX12_arrears_84 : decode cX12_arrears 84 = .ok (.if_icmp .ge 42, 3) := by decide +kernel
theorem dX12_arrears_87 : decode cX12_arrears 87 = .ok (.aload_n 0, 1) := by decide +kernel
theorem dX12_arrears_88 : decode cX12_arrears 88 = .ok (.getfield 131, 3) := by decide +kernel
theorem dX12_arrears_91 : decode cX12_arrears 91 = .ok (.iload 4, 2) := by decide +kernel
theorem dX12_arrears_93 : decode cX12_arrears 93 = .ok (.baload, 1) := by decide +kernel
theorem dX12_arrears_94 : decode cX12_arrears 94 = .ok (.ifCond .eq 26, 3) := by decide +kernel
theorem dX12_arrears_97 : decode cX12_arrears 97 = .ok (.iload_n 2, 1) := by decide +kernel
theorem dX12_arrears_98 : decode cX12_arrears 98 = .ok (.ifCond .lt 19, 3) := by decide +kernel
theorem dX12_arrears_101 : decode cX12_arrears 101 = .ok (.aload_n 0, 1) := by decide +kernel
theorem dX12_arrears_102 : decode cX12_arrears 102 = .ok (.getfield 107, 3) := by decide +kernel
theorem dX12_arrears_105 : decode cX12_arrears 105 = .ok (.iload 4, 2) := by decide +kernel
theorem dX12_arrears_107 : decode cX12_arrears 107 = .ok (.iaload, 1) := by decide +kernel
theorem dX12_arrears_108 : decode cX12_arrears 108 = .ok (.aload_n 0, 1) := by decide +kernel
theorem dX12_arrears_109 : decode cX12_arrears 109 = .ok (.getfield 107, 3) := by decide +kernel
theorem dX12_arrears_112 : decode cX12_arrears 112 = .ok (.iload_n 2, 1) := by decide +kernel
theorem dX12_arrears_113 : decode cX12_arrears 113 = .ok (.iaload, 1) := by decide +kernel
theorem dX12_arrears_114 : decode cX12_arrears 114 = .ok (.if_icmp .le 6, 3) := by decide +kernel
theorem dX12_arrears_117 : decode cX12_arrears 117 = .ok (.iload 4, 2) := by decide +kernel
theorem dX12_arrears_119 : decode cX12_arrears 119 = .ok (.istore_n 2, 1) := by decide +kernel
theorem dX12_arrears_120 : decode cX12_arrears 120 = .ok (.iinc 4 1, 3) := by decide +kernel
theorem dX12_arrears_123 : decode cX12_arrears 123 = .ok (.goto (-45), 3) := by decide +kernel
theorem dX12_arrears_126 : decode cX12_arrears 126 = .ok (.iload_n 2, 1) := by decide +kernel
theorem dX12_arrears_127 : decode cX12_arrears 127 = .ok (.ifCond .ge 5, 3) := by decide +kernel
theorem dX12_arrears_130 : decode cX12_arrears 130 = .ok (.iconst (-1), 1) := by decide +kernel
theorem dX12_arrears_131 : decode cX12_arrears 131 = .ok (.ireturn, 1) := by decide +kernel
theorem dX12_arrears_132 : decode cX12_arrears 132 = .ok (.aload_n 0, 1) := by decide +kernel
theorem dX12_arrears_133 : decode cX12_arrears 133 = .ok (.getfield 131, 3) := by decide +kernel
theorem dX12_arrears_136 : decode cX12_arrears 136 = .ok (.iload_n 2, 1) := by decide +kernel
theorem dX12_arrears_137 : decode cX12_arrears 137 = .ok (.iconst 0, 1) := by decide +kernel
theorem dX12_arrears_138 : decode cX12_arrears 138 = .ok (.bastore, 1) := by decide +kernel
theorem dX12_arrears_139 : decode cX12_arrears 139 = .ok (.iinc 3 1, 3) := by decide +kernel
theorem dX12_arrears_142 : decode cX12_arrears 142 = .ok (.goto (-74), 3) := by decide +kernel
theorem dX12_arrears_145 : decode cX12_arrears 145 = .ok (.iload_n 2, 1) := by decide +kernel
theorem dX12_arrears_146 : decode cX12_arrears 146 = .ok (.ireturn, 1) := by decide +kernel
theorem dX12_coal_0 : decode cX12_coal 0 = .ok (.aload_n 0, 1) := by decide +kernel
theorem dX12_coal_1 : decode cX12_coal 1 = .ok (.iconst 0, 1) := by decide +kernel
theorem dX12_coal_2 : decode cX12_coal 2 = .ok (.putfield 194, 3) := by decide +kernel
theorem dX12_coal_5 : decode cX12_coal 5 = .ok (.aload_n 0, 1) := by decide +kernel
theorem dX12_coal_6 : decode cX12_coal 6 = .ok (.aload_n 0, 1) := by decide +kernel
theorem dX12_coal_7 : decode cX12_coal 7 = .ok (.iload_n 1, 1) := by decide +kernel
theorem dX12_coal_8 : decode cX12_coal 8 = .ok (.invokevirtual 269, 3) := by decide +kernel
theorem dX12_coal_11 : decode cX12_coal 11 = .ok (.iconst 1, 1) := by decide +kernel
theorem dX12_coal_12 : decode cX12_coal 12 = .ok (.invokevirtual 224, 3) := by decide +kernel
theorem dX12_coal_15 : decode cX12_coal 15 = .ok (.ifCond .ne 74, 3) := by decide +kernel
theorem dX12_coal_18 : decode cX12_coal 18 = .ok (.aload_n 0, 1) := by decide +kernel
theorem dX12_coal_19 : decode cX12_coal 19 = .ok (.iload_n 2, 1) := by decide +kernel
theorem dX12_coal_20 : decode cX12_coal 20 = .ok (.iconst 0, 1) := by decide +kernel
theorem dX12_coal_21 : decode cX12_coal 21 = .ok (.sipush 10000, 3) := by decide +kernel
theorem dX12_coal_24 : decode cX12_coal 24 = .ok (.invokestatic 197, 3) := by decide +kernel
theorem dX12_coal_27 : decode cX12_coal 27 = .ok (.ifCond .eq 27, 3) := by decide +kernel
theorem dX12_coal_30 : decode cX12_coal 30 = .ok (.aload_n 0, 1) := by decide +kernel
theorem dX12_coal_31 : decode cX12_coal 31 = .ok (.iload_n 1, 1) := by decide +kernel
theorem dX12_coal_32 : decode cX12_coal 32 = .ok (.iconst 0, 1) := by decide +kernel
theorem dX12_coal_33 : decode cX12_coal 33 = .ok (.invokevirtual 217, 3) := by decide +kernel
theorem dX12_coal_36 : decode cX12_coal 36 = .ok (.iconst 3, 1) := by decide +kernel
theorem dX12_coal_37 : decode cX12_coal 37 = .ok (.if_icmp .ne 21, 3) := by decide +kernel
theorem dX12_coal_40 : decode cX12_coal 40 = .ok (.aload_n 0, 1) := by decide +kernel
theorem dX12_coal_41 : decode cX12_coal 41 = .ok (.iload_n 1, 1) := by decide +kernel
theorem dX12_coal_42 : decode cX12_coal 42 = .ok (.bipush 18, 2) := by decide +kernel
theorem dX12_coal_44 : decode cX12_coal 44 = .ok (.invokevirtual 217, 3) := by decide +kernel
theorem dX12_coal_47 : decode cX12_coal 47 = .ok (.iload_n 2, 1) := by decide +kernel
theorem dX12_coal_48 : decode cX12_coal 48 = .ok (.iadd, 1) := by decide +kernel
theorem dX12_coal_49 : decode cX12_coal 49 = .ok (.ldc 241, 2) := by decide +kernel
theorem dX12_coal_51 : decode cX12_coal 51 = .ok (.if_icmp .le 7, 3) := by decide +kernel
theorem dX12_coal_54 : decode cX12_coal 54 = .ok (.iconst 1, 1) := by decide +kernel
theorem dX12_coal_55 : decode cX12_coal 55 = .ok (.goto 4, 3) := by decide +kernel
theorem dX12_coal_58 : decode cX12_coal 58 = .ok (.iconst 0, 1) := by decide +kernel
theorem dX12_coal_59 : decode cX12_coal 59 = .ok (.iconst 2, 1) := by decide +kernel
theorem dX12_coal_60 : decode cX12_coal 60 = .ok (.invokevirtual 224, 3) := by decide +kernel
theorem dX12_coal_63 : decode cX12_coal 63 = .ok (.ifCond .ne 26, 3) := by decide +kernel
theorem dX12_coal_66 : decode cX12_coal 66 = .ok (.aload_n 0, 1) := by decide +kernel
theorem dX12_coal_67 : decode cX12_coal 67 = .ok (.aload_n 0, 1) := by decide +kernel
theorem dX12_coal_68 : decode cX12_coal 68 = .ok (.iload_n 1, 1) := by decide +kernel
theorem dX12_coal_69 : decode cX12_coal 69 = .ok (.iconst 0, 1) := by decide +kernel
theorem dX12_coal_70 : decode cX12_coal 70 = .ok (.invokevirtual 217, 3) := by decide +kernel
theorem dX12_coal_73 : decode cX12_coal 73 = .ok (.iconst 3, 1) := by decide +kernel
theorem dX12_coal_74 : decode cX12_coal 74 = .ok (.if_icmp .eq 7, 3) := by decide +kernel
theorem dX12_coal_77 : decode cX12_coal 77 = .ok (.iconst 1, 1) := by decide +kernel
theorem dX12_coal_78 : decode cX12_coal 78 = .ok (.goto 4, 3) := by decide +kernel
theorem dX12_coal_81 : decode cX12_coal 81 = .ok (.iconst 0, 1) := by decide +kernel
theorem dX12_coal_82 : decode cX12_coal 82 = .ok (.iconst 3, 1) := by decide +kernel
theorem dX12_coal_83 : decode cX12_coal 83 = .ok (.invokevirtual 224, 3) := by decide +kernel
theorem dX12_coal_86 : decode cX12_coal 86 = .ok (.ifCond .eq 5, 3) := by decide +kernel
theorem dX12_coal_89 : decode cX12_coal 89 = .ok (.iconst 0, 1) := by decide +kernel
theorem dX12_coal_90 : decode cX12_coal 90 = .ok (.ireturn, 1) := by decide +kernel
theorem dX12_coal_91 : decode cX12_coal 91 = .ok (.aload_n 0, 1) := by decide +kernel
theorem dX12_coal_92 : decode cX12_coal 92 = .ok (.getfield 9, 3) := by decide +kernel
theorem dX12_coal_95 : decode cX12_coal 95 = .ok (.iload_n 1, 1) := by decide +kernel
theorem dX12_coal_96 : decode cX12_coal 96 = .ok (.bipush 18, 2) := by decide +kernel
theorem dX12_coal_98 : decode cX12_coal 98 = .ok (.invokestatic 214, 3) := by decide +kernel
theorem dX12_coal_101 : decode cX12_coal 101 = .ok (.dup2, 1) := by decide +kernel
theorem dX12_coal_102 : decode cX12_coal 102 = .ok (.iaload, 1) := by decide +kernel
theorem dX12_coal_103 : decode cX12_coal 103 = .ok (.iload_n 2, 1) := by decide +kernel
theorem dX12_coal_104 : decode cX12_coal 104 = .ok (.iadd, 1) := by decide +kernel
theorem dX12_coal_105 : decode cX12_coal 105 = .ok (.iastore, 1) := by decide +kernel
theorem dX12_coal_106 : decode cX12_coal 106 = .ok (.aload_n 0, 1) := by decide +kernel
theorem dX12_coal_107 : decode cX12_coal 107 = .ok (.iconst 0, 1) := by decide +kernel
theorem dX12_coal_108 : decode cX12_coal 108 = .ok (.putfield 238, 3) := by decide +kernel
theorem dX12_coal_111 : decode cX12_coal 111 = .ok (.aload_n 0, 1) := by decide +kernel
theorem dX12_coal_112 : decode cX12_coal 112 = .ok (.iload_n 1, 1) := by decide +kernel
theorem dX12_coal_113 : decode cX12_coal 113 = .ok (.bipush 18, 2) := by decide +kernel
theorem dX12_coal_115 : decode cX12_coal 115 = .ok (.invokevirtual 217, 3) := by decide +kernel
theorem dX12_coal_118 : decode cX12_coal 118 = .ok (.ireturn, 1) := by decide +kernel
theorem dX12_coin_0 : decode cX12_coin 0 = .ok (.aload_n 0, 1) := by decide +kernel
theorem dX12_coin_1 : decode cX12_coin 1 = .ok (.iconst 0, 1) := by decide +kernel
theorem dX12_coin_2 : decode cX12_coin 2 = .ok (.putfield 194, 3) := by decide +kernel
theorem dX12_coin_5 : decode cX12_coin 5 = .ok (.aload_n 0, 1) := by decide +kernel
theorem dX12_coin_6 : decode cX12_coin 6 = .ok (.iload_n 1, 1) := by decide +kernel
theorem dX12_coin_7 : decode cX12_coin 7 = .ok (.iconst 0, 1) := by decide +kernel
theorem dX12_coin_8 : decode cX12_coin 8 = .ok (.ldc_w 536, 3) := by decide +kernel
theorem dX12_coin_11 : decode cX12_coin 11 = .ok (.invokestatic 197, 3) := by decide +kernel
theorem dX12_coin_14 : decode cX12_coin 14 = .ok (.ifCond .eq 15, 3) := by decide +kernel
theorem dX12_coin_17 : decode cX12_coin 17 = .ok (.aload_n 0, 1) := by decide +kernel
theorem dX12_coin_18 : decode cX12_coin 18 = .ok (.getfield 519, 3) := by decide +kernel
theorem dX12_coin_21 : decode cX12_coin 21 = .ok (.ldc_w 537, 3) := by decide +kernel
theorem dX12_coin_24 : decode cX12_coin 24 = .ok (.iload_n 1, 1) := by decide +kernel
theorem dX12_coin_25 : decode cX12_coin 25 = .ok (.isub, 1) := by decide +kernel
theorem dX12_coin_26 : decode cX12_coin 26 = .ok (.if_icmp .le 7, 3) := by decide +kernel
theorem dX12_coin_29 : decode cX12_coin 29 = .ok (.iconst 1, 1) := by decide +kernel
theorem dX12_coin_30 : decode cX12_coin 30 = .ok (.goto 4, 3) := by decide +kernel
theorem dX12_coin_33 : decode cX12_coin 33 = .ok (.iconst 0, 1) := by decide +kernel
theorem dX12_coin_34 : decode cX12_coin 34 = .ok (.iconst 1, 1) := by decide +kernel
theorem dX12_coin_35 : decode cX12_coin 35 = .ok (.invokevirtual 224, 3) := by decide +kernel
theorem dX12_coin_38 : decode cX12_coin 38 = .ok (.ifCond .eq 5, 3) := by decide +kernel
theorem dX12_coin_41 : decode cX12_coin 41 = .ok (.iconst 0, 1) := by decide +kernel
theorem dX12_coin_42 : decode cX12_coin 42 = .ok (.ireturn, 1) := by decide +kernel
theorem dX12_coin_43 : decode cX12_coin 43 = .ok (.aload_n 0, 1) := by decide +kernel
theorem dX12_coin_44 : decode cX12_coin 44 = .ok (.dup, 1) := by decide +kernel
theorem dX12_coin_45 : decode cX12_coin 45 = .ok (.getfield 519, 3) := by decide +kernel
theorem dX12_coin_48 : decode cX12_coin 48 = .ok (.iload_n 1, 1) := by decide +kernel
theorem dX12_coin_49 : decode cX12_coin 49 = .ok (.iadd, 1) := by decide +kernel
theorem dX12_coin_50 : decode cX12_coin 50 = .ok (.putfield 519, 3) := by decide +kernel
theorem dX12_coin_53 : decode cX12_coin 53 = .ok (.aload_n 0, 1) := by decide +kernel
theorem dX12_coin_54 : decode cX12_coin 54 = .ok (.getfield 519, 3) := by decide +kernel
theorem dX12_coin_57 : decode cX12_coin 57 = .ok (.ireturn, 1) := by decide +kernel
theorem dX12_dayEnds_0 : decode cX12_dayEnds 0 = .ok (.iconst 0, 1) := by decide +kernel
theorem dX12_dayEnds_1 : decode cX12_dayEnds 1 = .ok (.istore_n 1, 1) := by decide +kernel
theorem dX12_dayEnds_2 : decode cX12_dayEnds 2 = .ok (.iload_n 1, 1) := by decide +kernel
theorem dX12_dayEnds_3 : decode cX12_dayEnds 3 = .ok (.bipush 96, 2) := by decide +kernel
theorem dX12_dayEnds_5 : decode cX12_dayEnds 5 = .ok (.if_icmp .ge 163, 3) := by decide +kernel
theorem dX12_dayEnds_8 : decode cX12_dayEnds 8 = .ok (.aload_n 0, 1) := by decide +kernel
theorem dX12_dayEnds_9 : decode cX12_dayEnds 9 = .ok (.iload_n 1, 1) := by decide +kernel
theorem dX12_dayEnds_10 : decode cX12_dayEnds 10 = .ok (.invokevirtual 235, 3) := by decide +kernel
theorem dX12_dayEnds_13 : decode cX12_dayEnds 13 = .ok (.ifCond .ne 6, 3) := by decide +kernel
theorem dX12_dayEnds_16 : decode cX12_dayEnds 16 = .ok (.goto 146, 3) := by decide +kernel
theorem dX12_dayEnds_19 : decode cX12_dayEnds 19 = .ok (.aload_n 0, 1) := by decide +kernel
theorem dX12_dayEnds_20 : decode cX12_dayEnds 20 = .ok (.getfield 9, 3) := by decide +kernel
theorem dX12_dayEnds_23 : decode cX12_dayEnds 23 = .ok (.sipush 384, 3) := by decide +kernel
theorem dX12_dayEnds_26 : decode cX12_dayEnds 26 = .ok (.iload_n 1, 1) := by decide +kernel
theorem dX12_dayEnds_27 : decode cX12_dayEnds 27 = .ok (.iadd, 1) := by decide +kernel
theorem dX12_dayEnds_28 : decode cX12_dayEnds 28 = .ok (.iaload, 1) := by decide +kernel
theorem dX12_dayEnds_29 : decode cX12_dayEnds 29 = .ok (.ifCond .le 31, 3) := by decide +kernel
theorem dX12_dayEnds_32 : decode cX12_dayEnds 32 = .ok (.aload_n 0, 1) := by decide +kernel
theorem dX12_dayEnds_33 : decode cX12_dayEnds 33 = .ok (.getfield 9, 3) := by decide +kernel
theorem dX12_dayEnds_36 : decode cX12_dayEnds 36 = .ok (.sipush 576, 3) := by decide +kernel
theorem dX12_dayEnds_39 : decode cX12_dayEnds 39 = .ok (.iload_n 1, 1) := by decide +kernel
theorem dX12_dayEnds_40 : decode cX12_dayEnds 40 = .ok (.iadd, 1) := by decide +kernel
theorem dX12_dayEnds_41 : decode cX12_dayEnds 41 = .ok (.iconst 0, 1) := by decide +kernel
theorem dX12_dayEnds_42 : decode cX12_dayEnds 42 = .ok (.iastore, 1) := by decide +kernel
theorem dX12_dayEnds_43 : decode cX12_dayEnds 43 = .ok (.aload_n 0, 1) := by decide +kernel
theorem dX12_dayEnds_44 : decode cX12_dayEnds 44 = .ok (.getfield 9, 3) := by decide +kernel
theorem dX12_dayEnds_47 : decode cX12_dayEnds 47 = .ok (.sipush 672, 3) := by decide +kernel
theorem dX12_dayEnds_50 : decode cX12_dayEnds 50 = .ok (.iload_n 1, 1) := by decide +kernel
theorem dX12_dayEnds_51 : decode cX12_dayEnds 51 = .ok (.iadd, 1) := by decide +kernel
theorem dX12_dayEnds_52 : decode cX12_dayEnds 52 = .ok (.dup2, 1) := by decide +kernel
theorem dX12_dayEnds_53 : decode cX12_dayEnds 53 = .ok (.iaload, 1) := by decide +kernel
theorem dX12_dayEnds_54 : decode cX12_dayEnds 54 = .ok (.iconst 1, 1) := by decide +kernel
theorem dX12_dayEnds_55 : decode cX12_dayEnds 55 = .ok (.iadd, 1) := by decide +kernel
theorem dX12_dayEnds_56 : decode cX12_dayEnds 56 = .ok (.iastore, 1) := by decide +kernel
theorem dX12_dayEnds_57 : decode cX12_dayEnds 57 = .ok (.goto 105, 3) := by decide +kernel
theorem dX12_dayEnds_60 : decode cX12_dayEnds 60 = .ok (.aload_n 0, 1) := by decide +kernel
theorem dX12_dayEnds_61 : decode cX12_dayEnds 61 = .ok (.getfield 9, 3) := by decide +kernel
theorem dX12_dayEnds_64 : decode cX12_dayEnds 64 = .ok (.sipush 576, 3) := by decide +kernel
theorem dX12_dayEnds_67 : decode cX12_dayEnds 67 = .ok (.iload_n 1, 1) := by decide +kernel
theorem dX12_dayEnds_68 : decode cX12_dayEnds 68 = .ok (.iadd, 1) := by decide +kernel
theorem dX12_dayEnds_69 : decode cX12_dayEnds 69 = .ok (.dup2, 1) := by decide +kernel
theorem dX12_dayEnds_70 : decode cX12_dayEnds 70 = .ok (.iaload, 1) := by decide +kernel
theorem dX12_dayEnds_71 : decode cX12_dayEnds 71 = .ok (.iconst 1, 1) := by decide +kernel
theorem dX12_dayEnds_72 : decode cX12_dayEnds 72 = .ok (.iadd, 1) := by decide +kernel
theorem dX12_dayEnds_73 : decode cX12_dayEnds 73 = .ok (.iastore, 1) := by decide +kernel
theorem dX12_dayEnds_74 : decode cX12_dayEnds 74 = .ok (.aload_n 0, 1) := by decide +kernel
theorem dX12_dayEnds_75 : decode cX12_dayEnds 75 = .ok (.getfield 9, 3) := by decide +kernel
theorem dX12_dayEnds_78 : decode cX12_dayEnds 78 = .ok (.sipush 192, 3) := by decide +kernel
theorem dX12_dayEnds_81 : decode cX12_dayEnds 81 = .ok (.iload_n 1, 1) := by decide +kernel
theorem dX12_dayEnds_82 : decode cX12_dayEnds 82 = .ok (.iadd, 1) := by decide +kernel
theorem dX12_dayEnds_83 : decode cX12_dayEnds 83 = .ok (.iaload, 1) := by decide +kernel
theorem dX12_dayEnds_84 : decode cX12_dayEnds 84 = .ok (.iconst 2, 1) := by decide +kernel
theorem dX12_dayEnds_85 : decode cX12_dayEnds 85 = .ok (.if_icmp .ne 7, 3) := by decide +kernel
theorem dX12_dayEnds_88 : decode cX12_dayEnds 88 = .ok (.iconst 3, 1) := by decide +kernel
theorem dX12_dayEnds_89 : decode cX12_dayEnds 89 = .ok (.goto 5, 3) := by decide +kernel
theorem dX12_dayEnds_92 : decode cX12_dayEnds 92 = .ok (.bipush 10, 2) := by decide +kernel
theorem dX12_dayEnds_94 : decode cX12_dayEnds 94 = .ok (.istore_n 2, 1) := by decide +kernel
theorem dX12_dayEnds_95 : decode cX12_dayEnds 95 = .ok (.aload_n 0, 1) := by decide +kernel
theorem dX12_dayEnds_96 : decode cX12_dayEnds 96 = .ok (.getfield 9, 3) := by decide +kernel
theorem dX12_dayEnds_99 : decode cX12_dayEnds 99 = .ok (.sipush 192, 3) := by decide +kernel
theorem dX12_dayEnds_102 : decode cX12_dayEnds 102 = .ok (.iload_n 1, 1) := by decide +kernel
theorem dX12_dayEnds_103 : decode cX12_dayEnds 103 = .ok (.iadd, 1) := by decide +kernel
theorem dX12_dayEnds_104 : decode cX12_dayEnds 104 = .ok (.iaload, 1) := by decide +kernel
theorem dX12_dayEnds_105 : decode cX12_dayEnds 105 = .ok (.ifCond .le 31, 3) := by decide +kernel
theorem dX12_dayEnds_108 : decode cX12_dayEnds 108 = .ok (.aload_n 0, 1) := by decide +kernel
theorem dX12_dayEnds_109 : decode cX12_dayEnds 109 = .ok (.getfield 9, 3) := by decide +kernel
theorem dX12_dayEnds_112 : decode cX12_dayEnds 112 = .ok (.sipush 576, 3) := by decide +kernel
theorem dX12_dayEnds_115 : decode cX12_dayEnds 115 = .ok (.iload_n 1, 1) := by decide +kernel
theorem dX12_dayEnds_116 : decode cX12_dayEnds 116 = .ok (.iadd, 1) := by decide +kernel
theorem dX12_dayEnds_117 : decode cX12_dayEnds 117 = .ok (.iaload, 1) := by decide +kernel
theorem dX12_dayEnds_118 : decode cX12_dayEnds 118 = .ok (.iload_n 2, 1) := by decide +kernel
theorem dX12_dayEnds_119 : decode cX12_dayEnds 119 = .ok (.irem, 1) := by decide +kernel
theorem dX12_dayEnds_120 : decode cX12_dayEnds 120 = .ok (.ifCond .ne 16, 3) := by decide +kernel
theorem dX12_dayEnds_123 : decode cX12_dayEnds 123 = .ok (.aload_n 0, 1) := by decide +kernel
theorem dX12_dayEnds_124 : decode cX12_dayEnds 124 = .ok (.getfield 9, 3) := by decide +kernel
theorem dX12_dayEnds_127 : decode cX12_dayEnds 127 = .ok (.bipush 96, 2) := by decide +kernel
theorem dX12_dayEnds_129 : decode cX12_dayEnds 129 = .ok (.iload_n 1, 1) := by decide +kernel
theorem dX12_dayEnds_130 : decode cX12_dayEnds 130 = .ok (.iadd, 1) := by decide +kernel
theorem dX12_dayEnds_131 : decode cX12_dayEnds 131 = .ok (.dup2, 1) := by decide +kernel
theorem dX12_dayEnds_132 : decode cX12_dayEnds 132 = .ok (.iaload, 1) := by decide +kernel
theorem dX12_dayEnds_133 : decode cX12_dayEnds 133 = .ok (.iconst 1, 1) := by decide +kernel
theorem dX12_dayEnds_134 : decode cX12_dayEnds 134 = .ok (.isub, 1) := by decide +kernel
theorem dX12_dayEnds_135 : decode cX12_dayEnds 135 = .ok (.iastore, 1) := by decide +kernel
theorem dX12_dayEnds_136 : decode cX12_dayEnds 136 = .ok (.aload_n 0, 1) := by decide +kernel
theorem dX12_dayEnds_137 : decode cX12_dayEnds 137 = .ok (.getfield 9, 3) := by decide +kernel
theorem dX12_dayEnds_140 : decode cX12_dayEnds 140 = .ok (.sipush 480, 3) := by decide +kernel
theorem dX12_dayEnds_143 : decode cX12_dayEnds 143 = .ok (.iload_n 1, 1) := by decide +kernel
theorem dX12_dayEnds_144 : decode cX12_dayEnds 144 = .ok (.iadd, 1) := by decide +kernel
theorem dX12_dayEnds_145 : decode cX12_dayEnds 145 = .ok (.dup2, 1) := by decide +kernel
theorem dX12_dayEnds_146 : decode cX12_dayEnds 146 = .ok (.iaload, 1) := by decide +kernel
theorem dX12_dayEnds_147 : decode cX12_dayEnds 147 = .ok (.aload_n 0, 1) := by decide +kernel
theorem dX12_dayEnds_148 : decode cX12_dayEnds 148 = .ok (.getfield 9, 3) := by decide +kernel
theorem dX12_dayEnds_151 : decode cX12_dayEnds 151 = .ok (.sipush 480, 3) := by decide +kernel
theorem dX12_dayEnds_154 : decode cX12_dayEnds 154 = .ok (.iload_n 1, 1) := by decide +kernel
theorem dX12_dayEnds_155 : decode cX12_dayEnds 155 = .ok (.iadd, 1) := by decide +kernel
theorem dX12_dayEnds_156 : decode cX12_dayEnds 156 = .ok (.iaload, 1) := by decide +kernel
theorem dX12_dayEnds_157 : decode cX12_dayEnds 157 = .ok (.bipush 100, 2) := by decide +kernel
theorem dX12_dayEnds_159 : decode cX12_dayEnds 159 = .ok (.idiv, 1) := by decide +kernel
theorem dX12_dayEnds_160 : decode cX12_dayEnds 160 = .ok (.isub, 1) := by decide +kernel
theorem dX12_dayEnds_161 : decode cX12_dayEnds 161 = .ok (.iastore, 1) := by decide +kernel
theorem dX12_dayEnds_162 : decode cX12_dayEnds 162 = .ok (.iinc 1 1, 3) := by decide +kernel
theorem dX12_dayEnds_165 : decode cX12_dayEnds 165 = .ok (.goto (-163), 3) := by decide +kernel
theorem dX12_dayEnds_168 : decode cX12_dayEnds 168 = .ok (.return_, 1) := by decide +kernel
theorem dX12_dikes_0 : decode cX12_dikes 0 = .ok (.aload_n 0, 1) := by decide +kernel
theorem dX12_dikes_1 : decode cX12_dikes 1 = .ok (.iload_n 1, 1) := by decide +kernel
theorem dX12_dikes_2 : decode cX12_dikes 2 = .ok (.iconst 2, 1) := by decide +kernel
theorem dX12_dikes_3 : decode cX12_dikes 3 = .ok (.invokevirtual 217, 3) := by decide +kernel
theorem dX12_dikes_6 : decode cX12_dikes 6 = .ok (.istore_n 3, 1) := by decide +kernel
theorem dX12_dikes_7 : decode cX12_dikes 7 = .ok (.aload_n 0, 1) := by decide +kernel
theorem dX12_dikes_8 : decode cX12_dikes 8 = .ok (.iload_n 1, 1) := by decide +kernel
theorem dX12_dikes_9 : decode cX12_dikes 9 = .ok (.iconst 0, 1) := by decide +kernel
theorem dX12_dikes_10 : decode cX12_dikes 10 = .ok (.invokevirtual 217, 3) := by decide +kernel
theorem dX12_dikes_13 : decode cX12_dikes 13 = .ok (.ifCond .ne 57, 3) := by decide +kernel
theorem dX12_dikes_16 : decode cX12_dikes 16 = .ok (.aload_n 0, 1) := by decide +kernel
theorem dX12_dikes_17 : decode cX12_dikes 17 = .ok (.iload_n 1, 1) := by decide +kernel
theorem dX12_dikes_18 : decode cX12_dikes 18 = .ok (.iload_n 2, 1) := by decide +kernel
theorem dX12_dikes_19 : decode cX12_dikes 19 = .ok (.invokevirtual 288, 3) := by decide +kernel
theorem dX12_dikes_22 : decode cX12_dikes 22 = .ok (.istore 4, 2) := by decide +kernel
theorem dX12_dikes_24 : decode cX12_dikes 24 = .ok (.iload 4, 2) := by decide +kernel
theorem dX12_dikes_26 : decode cX12_dikes 26 = .ok (.aload_n 0, 1) := by decide +kernel
theorem dX12_dikes_27 : decode cX12_dikes 27 = .ok (.iload_n 1, 1) := by decide +kernel
theorem dX12_dikes_28 : decode cX12_dikes 28 = .ok (.iconst 3, 1) := by decide +kernel
theorem dX12_dikes_29 : decode cX12_dikes 29 = .ok (.invokevirtual 217, 3) := by decide +kernel
theorem dX12_dikes_32 : decode cX12_dikes 32 = .ok (.if_icmp .gt 12, 3) := by decide +kernel
theorem dX12_dikes_35 : decode cX12_dikes 35 = .ok (.iload_n 2, 1) := by decide +kernel
theorem dX12_dikes_36 : decode cX12_dikes 36 = .ok (.aload_n 0, 1) := by decide +kernel
theorem dX12_dikes_37 : decode cX12_dikes 37 = .ok (.iload_n 1, 1) := by decide +kernel
theorem dX12_dikes_38 : decode cX12_dikes 38 = .ok (.invokevirtual 282, 3) := by decide +kernel
theorem dX12_dikes_41 : decode cX12_dikes 41 = .ok (.if_icmp .le 32, 3) := by decide +kernel
theorem dX12_dikes_44 : decode cX12_dikes 44 = .ok (.aload_n 0, 1) := by decide +kernel
theorem dX12_dikes_45 : decode cX12_dikes 45 = .ok (.getfield 9, 3) := by decide +kernel
theorem dX12_dikes_48 : decode cX12_dikes 48 = .ok (.iload_n 1, 1) := by decide +kernel
theorem dX12_dikes_49 : decode cX12_dikes 49 = .ok (.iconst 0, 1) := by decide +kernel
theorem dX12_dikes_50 : decode cX12_dikes 50 = .ok (.invokestatic 214, 3) := by decide +kernel
theorem dX12_dikes_53 : decode cX12_dikes 53 = .ok (.iconst 1, 1) := by decide +kernel
theorem dX12_dikes_54 : decode cX12_dikes 54 = .ok (.iastore, 1) := by decide +kernel
theorem dX12_dikes_55 : decode cX12_dikes 55 = .ok (.aload_n 0, 1) := by decide +kernel
theorem dX12_dikes_56 : decode cX12_dikes 56 = .ok (.getfield 9, 3) := by decide +kernel
theorem dX12_dikes_59 : decode cX12_dikes 59 = .ok (.iload_n 1, 1) := by decide +kernel
theorem dX12_dikes_60 : decode cX12_dikes 60 = .ok (.bipush 17, 2) := by decide +kernel
theorem dX12_dikes_62 : decode cX12_dikes 62 = .ok (.invokestatic 214, 3) := by decide +kernel
theorem dX12_dikes_65 : decode cX12_dikes 65 = .ok (.iconst 2, 1) := by decide +kernel
theorem dX12_dikes_66 : decode cX12_dikes 66 = .ok (.iastore, 1) := by decide +kernel
theorem dX12_dikes_67 : decode cX12_dikes 67 = .ok (.goto 6, 3) := by decide +kernel
theorem dX12_dikes_70 : decode cX12_dikes 70 = .ok (.iconst 0, 1) := by decide +kernel
theorem dX12_dikes_71 : decode cX12_dikes 71 = .ok (.istore 4, 2) := by decide +kernel
theorem dX12_dikes_73 : decode cX12_dikes 73 = .ok (.aload_n 0, 1) := by decide +kernel
theorem dX12_dikes_74 : decode cX12_dikes 74 = .ok (.iload_n 1, 1) := by decide +kernel
theorem dX12_dikes_75 : decode cX12_dikes 75 = .ok (.iconst 0, 1) := by decide +kernel
theorem dX12_dikes_76 : decode cX12_dikes 76 = .ok (.invokevirtual 217, 3) := by decide +kernel
theorem dX12_dikes_79 : decode cX12_dikes 79 = .ok (.iconst 1, 1) := by decide +kernel
theorem dX12_dikes_80 : decode cX12_dikes 80 = .ok (.if_icmp .ne 62, 3) := by decide +kernel
theorem dX12_dikes_83 : decode cX12_dikes 83 = .ok (.aload_n 0, 1) := by decide +kernel
theorem dX12_dikes_84 : decode cX12_dikes 84 = .ok (.getfield 9, 3) := by decide +kernel
theorem dX12_dikes_87 : decode cX12_dikes 87 = .ok (.iload_n 1, 1) := by decide +kernel
theorem dX12_dikes_88 : decode cX12_dikes 88 = .ok (.bipush 17, 2) := by decide +kernel
theorem dX12_dikes_90 : decode cX12_dikes 90 = .ok (.invokestatic 214, 3) := by decide +kernel
theorem dX12_dikes_93 : decode cX12_dikes 93 = .ok (.bipush 60, 2) := by decide +kernel
theorem dX12_dikes_95 : decode cX12_dikes 95 = .ok (.aload_n 0, 1) := by decide +kernel
theorem dX12_dikes_96 : decode cX12_dikes 96 = .ok (.iload_n 1, 1) := by decide +kernel
theorem dX12_dikes_97 : decode cX12_dikes 97 = .ok (.bipush 17, 2) := by decide +kernel
theorem dX12_dikes_99 : decode cX12_dikes 99 = .ok (.invokevirtual 217, 3) := by decide +kernel
theorem dX12_dikes_102 : decode cX12_dikes 102 = .ok (.iconst 2, 1) := by decide +kernel
theorem dX12_dikes_103 : decode cX12_dikes 103 = .ok (.iadd, 1) := by decide +kernel
theorem dX12_dikes_104 : decode cX12_dikes 104 = .ok (.invokestatic 207, 3) := by decide +kernel
theorem dX12_dikes_107 : decode cX12_dikes 107 = .ok (.iastore, 1) := by decide +kernel
theorem dX12_dikes_108 : decode cX12_dikes 108 = .ok (.aload_n 0, 1) := by decide +kernel
theorem dX12_dikes_109 : decode cX12_dikes 109 = .ok (.getfield 9, 3) := by decide +kernel
theorem dX12_dikes_112 : decode cX12_dikes 112 = .ok (.sipush 384, 3) := by decide +kernel
theorem dX12_dikes_115 : decode cX12_dikes 115 = .ok (.iload_n 3, 1) := by decide +kernel
theorem dX12_dikes_116 : decode cX12_dikes 116 = .ok (.iadd, 1) := by decide +kernel
theorem dX12_dikes_117 : decode cX12_dikes 117 = .ok (.iaload, 1) := by decide +kernel
theorem dX12_dikes_118 : decode cX12_dikes 118 = .ok (.ineg, 1) := by decide +kernel
theorem dX12_dikes_119 : decode cX12_dikes 119 = .ok (.iload_n 2, 1) := by decide +kernel
theorem dX12_dikes_120 : decode cX12_dikes 120 = .ok (.aload_n 0, 1) := by decide +kernel
theorem dX12_dikes_121 : decode cX12_dikes 121 = .ok (.iload_n 3, 1) := by decide +kernel
theorem dX12_dikes_122 : decode cX12_dikes 122 = .ok (.invokevirtual 285, 3) := by decide +kernel
theorem dX12_dikes_125 : decode cX12_dikes 125 = .ok (.isub, 1) := by decide +kernel
theorem dX12_dikes_126 : decode cX12_dikes 126 = .ok (.aload_n 0, 1) := by decide +kernel
theorem dX12_dikes_127 : decode cX12_dikes 127 = .ok (.iload_n 1, 1) := by decide +kernel
theorem dX12_dikes_128 : decode cX12_dikes 128 = .ok (.bipush 17, 2) := by decide +kernel
theorem dX12_dikes_130 : decode cX12_dikes 130 = .ok (.invokevirtual 217, 3) := by decide +kernel
theorem dX12_dikes_133 : decode cX12_dikes 133 = .ok (.imul, 1) := by decide +kernel
theorem dX12_dikes_134 : decode cX12_dikes 134 = .ok (.bipush 120, 2) := by decide +kernel
theorem dX12_dikes_136 : decode cX12_dikes 136 = .ok (.idiv, 1) := by decide +kernel
theorem dX12_dikes_137 : decode cX12_dikes 137 = .ok (.invokestatic 211, 3) := by decide +kernel
theorem dX12_dikes_140 : decode cX12_dikes 140 = .ok (.istore 4, 2) := by decide +kernel
theorem dX12_dikes_142 : decode cX12_dikes 142 = .ok (.iload 4, 2) := by decide +kernel
theorem dX12_dikes_144 : decode cX12_dikes 144 = .ok (.ifCond .lt 52, 3) := by decide +kernel
theorem dX12_dikes_147 : decode cX12_dikes 147 = .ok (.aload_n 0, 1) := by decide +kernel
theorem dX12_dikes_148 : decode cX12_dikes 148 = .ok (.getfield 9, 3) := by decide +kernel
theorem dX12_dikes_151 : decode cX12_dikes 151 = .ok (.sipush 384, 3) := by decide +kernel
theorem dX12_dikes_154 : decode cX12_dikes 154 = .ok (.iload_n 3, 1) := by decide +kernel
theorem dX12_dikes_155 : decode cX12_dikes 155 = .ok (.iadd, 1) := by decide +kernel
theorem dX12_dikes_156 : decode cX12_dikes 156 = .ok (.dup2, 1) := by decide +kernel
theorem dX12_dikes_157 : decode cX12_dikes 157 = .ok (.iaload, 1) := by decide +kernel
theorem dX12_dikes_158 : decode cX12_dikes 158 = .ok (.iload 4, 2) := by decide +kernel
theorem dX12_dikes_160 : decode cX12_dikes 160 = .ok (.iadd, 1) := by decide +kernel
theorem dX12_dikes_161 : decode cX12_dikes 161 = .ok (.iastore, 1) := by decide +kernel
theorem dX12_dikes_162 : decode cX12_dikes 162 = .ok (.aload_n 0, 1) := by decide +kernel
theorem dX12_dikes_163 : decode cX12_dikes 163 = .ok (.getfield 9, 3) := by decide +kernel
theorem dX12_dikes_166 : decode cX12_dikes 166 = .ok (.sipush 480, 3) := by decide +kernel
theorem dX12_dikes_169 : decode cX12_dikes 169 = .ok (.iload_n 3, 1) := by decide +kernel
theorem dX12_dikes_170 : decode cX12_dikes 170 = .ok (.iadd, 1) := by decide +kernel
theorem dX12_dikes_171 : decode cX12_dikes 171 = .ok (.dup2, 1) := by decide +kernel
theorem dX12_dikes_172 : decode cX12_dikes 172 = .ok (.iaload, 1) := by decide +kernel
theorem dX12_dikes_173 : decode cX12_dikes 173 = .ok (.bipush 30, 2) := by decide +kernel
theorem dX12_dikes_175 : decode cX12_dikes 175 = .ok (.iload 4, 2) := by decide +kernel
theorem dX12_dikes_177 : decode cX12_dikes 177 = .ok (.imul, 1) := by decide +kernel
theorem dX12_dikes_178 : decode cX12_dikes 178 = .ok (.iadd, 1) := by decide +kernel
theorem dX12_dikes_179 : decode cX12_dikes 179 = .ok (.iastore, 1) := by decide +kernel
theorem dX12_dikes_180 : decode cX12_dikes 180 = .ok (.aload_n 0, 1) := by decide +kernel
theorem dX12_dikes_181 : decode cX12_dikes 181 = .ok (.getfield 9, 3) := by decide +kernel
theorem dX12_dikes_184 : decode cX12_dikes 184 = .ok (.sipush 1746, 3) := by decide +kernel
theorem dX12_dikes_187 : decode cX12_dikes 187 = .ok (.dup2, 1) := by decide +kernel
theorem dX12_dikes_188 : decode cX12_dikes 188 = .ok (.iaload, 1) := by decide +kernel
theorem dX12_dikes_189 : decode cX12_dikes 189 = .ok (.iload 4, 2) := by decide +kernel
theorem dX12_dikes_191 : decode cX12_dikes 191 = .ok (.iadd, 1) := by decide +kernel
theorem dX12_dikes_192 : decode cX12_dikes 192 = .ok (.iastore, 1) := by decide +kernel
theorem dX12_dikes_193 : decode cX12_dikes 193 = .ok (.goto 26, 3) := by decide +kernel
theorem dX12_dikes_196 : decode cX12_dikes 196 = .ok (.aload_n 0, 1) := by decide +kernel
theorem dX12_dikes_197 : decode cX12_dikes 197 = .ok (.iload_n 3, 1) := by decide +kernel
theorem dX12_dikes_198 : decode cX12_dikes 198 = .ok (.iload 4, 2) := by decide +kernel
theorem dX12_dikes_200 : decode cX12_dikes 200 = .ok (.ineg, 1) := by decide +kernel
theorem dX12_dikes_201 : decode cX12_dikes 201 = .ok (.invokevirtual 291, 3) := by decide +kernel
theorem dX12_dikes_204 : decode cX12_dikes 204 = .ok (.istore 5, 2) := by decide +kernel
theorem dX12_dikes_206 : decode cX12_dikes 206 = .ok (.aload_n 0, 1) := by decide +kernel
theorem dX12_dikes_207 : decode cX12_dikes 207 = .ok (.getfield 9, 3) := by decide +kernel
theorem dX12_dikes_210 : decode cX12_dikes 210 = .ok (.sipush 1747, 3) := by decide +kernel
theorem dX12_dikes_213 : decode cX12_dikes 213 = .ok (.dup2, 1) := by decide +kernel
theorem dX12_dikes_214 : decode cX12_dikes 214 = .ok (.iaload, 1) := by decide +kernel
theorem dX12_dikes_215 : decode cX12_dikes 215 = .ok (.iload 4, 2) := by decide +kernel
theorem dX12_dikes_217 : decode cX12_dikes 217 = .ok (.isub, 1) := by decide +kernel
theorem dX12_dikes_218 : decode cX12_dikes 218 = .ok (.iastore, 1) := by decide +kernel
theorem dX12_dikes_219 : decode cX12_dikes 219 = .ok (.aload_n 0, 1) := by decide +kernel
theorem dX12_dikes_220 : decode cX12_dikes 220 = .ok (.iload_n 1, 1) := by decide +kernel
theorem dX12_dikes_221 : decode cX12_dikes 221 = .ok (.iload 4, 2) := by decide +kernel
theorem dX12_dikes_223 : decode cX12_dikes 223 = .ok (.invokevirtual 294, 3) := by decide +kernel
theorem dX12_dikes_226 : decode cX12_dikes 226 = .ok (.return_, 1) := by decide +kernel
theorem dX12_end_0 : decode cX12_end 0 = .ok (.aload_n 0, 1) := by decide +kernel
theorem dX12_end_1 : decode cX12_end 1 = .ok (.iconst 0, 1) := by decide +kernel
theorem dX12_end_2 : decode cX12_end 2 = .ok (.putfield 194, 3) := by decide +kernel
theorem dX12_end_5 : decode cX12_end 5 = .ok (.iload_n 1, 1) := by decide +kernel
theorem dX12_end_6 : decode cX12_end 6 = .ok (.ifCond .lt 11, 3) := by decide +kernel
theorem dX12_end_9 : decode cX12_end 9 = .ok (.iload_n 1, 1) := by decide +kernel
theorem dX12_end_10 : decode cX12_end 10 = .ok (.aload_n 0, 1) := by decide +kernel
theorem dX12_end_11 : decode cX12_end 11 = .ok (.getfield 332, 3) := by decide +kernel
theorem dX12_end_14 : decode cX12_end 14 = .ok (.if_icmp .le 5, 3) := by decide +kernel
theorem dX12_end_17 : decode cX12_end 17 = .ok (.iconst 0, 1) := by decide +kernel
theorem dX12_end_18 : decode cX12_end 18 = .ok (.ireturn, 1) := by decide +kernel
theorem dX12_end_19 : decode cX12_end 19 = .ok (.aload_n 0, 1) := by decide +kernel
theorem dX12_end_20 : decode cX12_end 20 = .ok (.iload_n 1, 1) := by decide +kernel
theorem dX12_end_21 : decode cX12_end 21 = .ok (.putfield 332, 3) := by decide +kernel
theorem dX12_end_24 : decode cX12_end 24 = .ok (.iconst 1, 1) := by decide +kernel
theorem dX12_end_25 : decode cX12_end 25 = .ok (.ireturn, 1) := by decide +kernel
theorem dX12_harvest_0 : decode cX12_harvest 0 = .ok (.aload_n 0, 1) := by decide +kernel
theorem dX12_harvest_1 : decode cX12_harvest 1 = .ok (.iconst 0, 1) := by decide +kernel
theorem dX12_harvest_2 : decode cX12_harvest 2 = .ok (.putfield 194, 3) := by decide +kernel
theorem dX12_harvest_5 : decode cX12_harvest 5 = .ok (.aload_n 0, 1) := by decide +kernel
theorem dX12_harvest_6 : decode cX12_harvest 6 = .ok (.invokevirtual 228, 3) := by decide +kernel
theorem dX12_harvest_9 : decode cX12_harvest 9 = .ok (.bipush 24, 2) := by decide +kernel
theorem dX12_harvest_11 : decode cX12_harvest 11 = .ok (.idiv, 1) := by decide +kernel
theorem dX12_harvest_12 : decode cX12_harvest 12 = .ok (.sipush 360, 3) := by decide +kernel
theorem dX12_harvest_15 : decode cX12_harvest 15 = .ok (.idiv, 1) := by decide +kernel
theorem dX12_harvest_16 : decode cX12_harvest 16 = .ok (.istore_n 1, 1) := by decide +kernel
theorem dX12_harvest_17 : decode cX12_harvest 17 = .ok (.aload_n 0, 1) := by decide +kernel
theorem dX12_harvest_18 : decode cX12_harvest 18 = .ok (.getfield 125, 3) := by decide +kernel
theorem dX12_harvest_21 : decode cX12_harvest 21 = .ok (.iload_n 1, 1) := by decide +kernel
theorem dX12_harvest_22 : decode cX12_harvest 22 = .ok (.if_icmp .ne 5, 3) := by decide +kernel
theorem dX12_harvest_25 : decode cX12_harvest 25 = .ok (.iconst (-1), 1) := by decide +kernel
theorem dX12_harvest_26 : decode cX12_harvest 26 = .ok (.ireturn, 1) := by decide +kernel
theorem dX12_harvest_27 : decode cX12_harvest 27 = .ok (.aload_n 0, 1) := by decide +kernel
theorem dX12_harvest_28 : decode cX12_harvest 28 = .ok (.iload_n 1, 1) := by decide +kernel
theorem dX12_harvest_29 : decode cX12_harvest 29 = .ok (.putfield 125, 3) := by decide +kernel
theorem dX12_harvest_32 : decode cX12_harvest 32 = .ok (.iconst 0, 1) := by decide +kernel
theorem dX12_harvest_33 : decode cX12_harvest 33 = .ok (.istore_n 2, 1) := by decide +kernel
theorem dX12_harvest_34 : decode cX12_harvest 34 = .ok (.iconst 0, 1) := by decide +kernel
theorem dX12_harvest_35 : decode cX12_harvest 35 = .ok (.istore_n 3, 1) := by decide +kernel
theorem dX12_harvest_36 : decode cX12_harvest 36 = .ok (.iload_n 3, 1) := by decide +kernel
theorem dX12_harvest_37 : decode cX12_harvest 37 = .ok (.aload_n 0, 1) := by decide +kernel
theorem dX12_harvest_38 : decode cX12_harvest 38 = .ok (.getfield 495, 3) := by decide +kernel
theorem dX12_harvest_41 : decode cX12_harvest 41 = .ok (.if_icmp .ge 61, 3) := by decide +kernel
theorem dX12_harvest_44 : decode cX12_harvest 44 = .ok (.aload_n 0, 1) := by decide +kernel
theorem dX12_harvest_45 : decode cX12_harvest 45 = .ok (.getfield 101, 3) := by decide +kernel
theorem dX12_harvest_48 : decode cX12_harvest 48 = .ok (.iload_n 3, 1) := by decide +kernel
theorem dX12_harvest_49 : decode cX12_harvest 49 = .ok (.iaload, 1) := by decide +kernel
theorem dX12_harvest_50 : decode cX12_harvest 50 = .ok (.ifCond .ge 6, 3) := by decide +kernel
theorem dX12_harvest_53 : decode cX12_harvest 53 = .ok (.goto 43, 3) := by decide +kernel
theorem dX12_harvest_56 : decode cX12_harvest 56 = .ok (.aload_n 0, 1) := by decide +kernel
theorem dX12_harvest_57 : decode cX12_harvest 57 = .ok (.getfield 104, 3) := by decide +kernel
theorem dX12_harvest_60 : decode cX12_harvest 60 = .ok (.iload_n 3, 1) := by decide +kernel
theorem dX12_harvest_61 : decode cX12_harvest 61 = .ok (.aload_n 0, 1) := by decide +kernel
theorem dX12_harvest_62 : decode cX12_harvest 62 = .ok (.aload_n 0, 1) := by decide +kernel
theorem dX12_harvest_63 : decode cX12_harvest 63 = .ok (.getfield 101, 3) := by decide +kernel
theorem dX12_harvest_66 : decode cX12_harvest 66 = .ok (.iload_n 3, 1) := by decide +kernel
theorem dX12_harvest_67 : decode cX12_harvest 67 = .ok (.iaload, 1) := by decide +kernel
theorem dX12_harvest_68 : decode cX12_harvest 68 = .ok (.invokevirtual 514, 3) := by decide +kernel
theorem dX12_harvest_71 : decode cX12_harvest 71 = .ok (.iastore, 1) := by decide +kernel
theorem dX12_harvest_72 : decode cX12_harvest 72 = .ok (.aload_n 0, 1) := by decide +kernel
theorem dX12_harvest_73 : decode cX12_harvest 73 = .ok (.getfield 85, 3) := by decide +kernel
theorem dX12_harvest_76 : decode cX12_harvest 76 = .ok (.iload_n 3, 1) := by decide +kernel
theorem dX12_harvest_77 : decode cX12_harvest 77 = .ok (.dup2, 1) := by decide +kernel
theorem dX12_harvest_78 : decode cX12_harvest 78 = .ok (.iaload, 1) := by decide +kernel
theorem dX12_harvest_79 : decode cX12_harvest 79 = .ok (.aload_n 0, 1) := by decide +kernel
theorem dX12_harvest_80 : decode cX12_harvest 80 = .ok (.getfield 104, 3) := by decide +kernel
theorem dX12_harvest_83 : decode cX12_harvest 83 = .ok (.iload_n 3, 1) := by decide +kernel
theorem dX12_harvest_84 : decode cX12_harvest 84 = .ok (.iaload, 1) := by decide +kernel
theorem dX12_harvest_85 : decode cX12_harvest 85 = .ok (.iadd, 1) := by decide +kernel
theorem dX12_harvest_86 : decode cX12_harvest 86 = .ok (.iastore, 1) := by decide +kernel
theorem dX12_harvest_87 : decode cX12_harvest 87 = .ok (.iload_n 2, 1) := by decide +kernel
theorem dX12_harvest_88 : decode cX12_harvest 88 = .ok (.aload_n 0, 1) := by decide +kernel
theorem dX12_harvest_89 : decode cX12_harvest 89 = .ok (.getfield 104, 3) := by decide +kernel
theorem dX12_harvest_92 : decode cX12_harvest 92 = .ok (.iload_n 3, 1) := by decide +kernel
theorem dX12_harvest_93 : decode cX12_harvest 93 = .ok (.iaload, 1) := by decide +kernel
theorem dX12_harvest_94 : decode cX12_harvest 94 = .ok (.iadd, 1) := by decide +kernel
theorem dX12_harvest_95 : decode cX12_harvest 95 = .ok (.istore_n 2, 1) := by decide +kernel
theorem dX12_harvest_96 : decode cX12_harvest 96 = .ok (.iinc 3 1, 3) := by decide +kernel
theorem dX12_harvest_99 : decode cX12_harvest 99 = .ok (.goto (-63), 3) := by decide +kernel
theorem dX12_harvest_102 : decode cX12_harvest 102 = .ok (.iconst 0, 1) := by decide +kernel
theorem dX12_harvest_103 : decode cX12_harvest 103 = .ok (.istore_n 3, 1) := by decide +kernel
theorem dX12_harvest_104 : decode cX12_harvest 104 = .ok (.iload_n 3, 1) := by decide +kernel
theorem dX12_harvest_105 : decode cX12_harvest 105 = .ok (.bipush 96, 2) := by decide +kernel
theorem dX12_harvest_107 : decode cX12_harvest 107 = .ok (.if_icmp .ge 20, 3) := by decide +kernel
theorem dX12_harvest_110 : decode cX12_harvest 110 = .ok (.aload_n 0, 1) := by decide +kernel
theorem dX12_harvest_111 : decode cX12_harvest 111 = .ok (.getfield 9, 3) := by decide +kernel
theorem dX12_harvest_114 : decode cX12_harvest 114 = .ok (.sipush 672, 3) := by decide +kernel
theorem dX12_harvest_117 : decode cX12_harvest 117 = .ok (.iload_n 3, 1) := by decide +kernel
theorem dX12_harvest_118 : decode cX12_harvest 118 = .ok (.iadd, 1) := by decide +kernel
theorem dX12_harvest_119 : decode cX12_harvest 119 = .ok (.iconst 0, 1) := by decide +kernel
theorem dX12_harvest_120 : decode cX12_harvest 120 = .ok (.iastore, 1) := by decide +kernel
theorem dX12_harvest_121 : decode cX12_harvest 121 = .ok (.iinc 3 1, 3) := by decide +kernel
theorem dX12_harvest_124 : decode cX12_harvest 124 = .ok (.goto (-20), 3) := by decide +kernel
theorem dX12_harvest_127 : decode cX12_harvest 127 = .ok (.iconst 0, 1) := by decide +kernel
theorem dX12_harvest_128 : decode cX12_harvest 128 = .ok (.istore_n 3, 1) := by decide +kernel
theorem dX12_harvest_129 : decode cX12_harvest 129 = .ok (.iload_n 3, 1) := by decide +kernel
theorem dX12_harvest_130 : decode cX12_harvest 130 = .ok (.aload_n 0, 1) := by decide +kernel
theorem dX12_harvest_131 : decode cX12_harvest 131 = .ok (.getfield 495, 3) := by decide +kernel
theorem dX12_harvest_134 : decode cX12_harvest 134 = .ok (.if_icmp .ge 132, 3) := by decide +kernel
theorem dX12_harvest_137 : decode cX12_harvest 137 = .ok (.aload_n 0, 1) := by decide +kernel
theorem dX12_harvest_138 : decode cX12_harvest 138 = .ok (.getfield 101, 3) := by decide +kernel
theorem dX12_harvest_141 : decode cX12_harvest 141 = .ok (.iload_n 3, 1) := by decide +kernel
theorem dX12_harvest_142 : decode cX12_harvest 142 = .ok (.iaload, 1) := by decide +kernel
theorem dX12_harvest_143 : decode cX12_harvest 143 = .ok (.ifCond .ge 6, 3) := by decide +kernel
theorem dX12_harvest_146 : decode cX12_harvest 146 = .ok (.goto 114, 3) := by decide +kernel
theorem dX12_harvest_149 : decode cX12_harvest 149 = .ok (.aload_n 0, 1) := by decide +kernel
theorem dX12_harvest_150 : decode cX12_harvest 150 = .ok (.iload_n 3, 1) := by decide +kernel
theorem dX12_harvest_151 : decode cX12_harvest 151 = .ok (.invokevirtual 489, 3) := by decide +kernel
theorem dX12_harvest_154 : decode cX12_harvest 154 = .ok (.aload_n 0, 1) := by decide +kernel
theorem dX12_harvest_155 : decode cX12_harvest 155 = .ok (.iload_n 3, 1) := by decide +kernel
theorem dX12_harvest_156 : decode cX12_harvest 156 = .ok (.iconst 5, 1) := by decide +kernel
theorem dX12_harvest_157 : decode cX12_harvest 157 = .ok (.invokevirtual 480, 3) := by decide +kernel
theorem dX12_harvest_160 : decode cX12_harvest 160 = .ok (.lconst 0, 1) := by decide +kernel
theorem dX12_harvest_161 : decode cX12_harvest 161 = .ok (.lcmp, 1) := by decide +kernel
theorem dX12_harvest_162 : decode cX12_harvest 162 = .ok (.ifCond .le 22, 3) := by decide +kernel
theorem dX12_harvest_165 : decode cX12_harvest 165 = .ok (.aload_n 0, 1) := by decide +kernel
theorem dX12_harvest_166 : decode cX12_harvest 166 = .ok (.getfield 110, 3) := by decide +kernel
theorem dX12_harvest_169 : decode cX12_harvest 169 = .ok (.iload_n 3, 1) := by decide +kernel
theorem dX12_harvest_170 : decode cX12_harvest 170 = .ok (.baload, 1) := by decide +kernel
theorem dX12_harvest_171 : decode cX12_harvest 171 = .ok (.ifCond .ne 13, 3) := by decide +kernel
theorem dX12_harvest_174 : decode cX12_harvest 174 = .ok (.aload_n 0, 1) := by decide +kernel
theorem dX12_harvest_175 : decode cX12_harvest 175 = .ok (.iload_n 3, 1) := by decide +kernel
theorem dX12_harvest_176 : decode cX12_harvest 176 = .ok (.iconst 3, 1) := by decide +kernel
theorem dX12_harvest_177 : decode cX12_harvest 177 = .ok (.invokevirtual 480, 3) := by decide +kernel
theorem dX12_harvest_180 : decode cX12_harvest 180 = .ok (.l2i, 1) := by decide +kernel
theorem dX12_harvest_181 : decode cX12_harvest 181 = .ok (.goto 4, 3) := by decide +kernel
theorem dX12_harvest_184 : decode cX12_harvest 184 = .ok (.iconst 0, 1) := by decide +kernel
theorem dX12_harvest_185 : decode cX12_harvest 185 = .ok (.iadd, 1) := by decide +kernel
theorem dX12_harvest_186 : decode cX12_harvest 186 = .ok (.istore 4, 2) := by decide +kernel
theorem dX12_harvest_188 : decode cX12_harvest 188 = .ok (.aload_n 0, 1) := by decide +kernel
theorem dX12_harvest_189 : decode cX12_harvest 189 = .ok (.getfield 85, 3) := by decide +kernel
theorem dX12_harvest_192 : decode cX12_harvest 192 = .ok (.iload_n 3, 1) := by decide +kernel
theorem dX12_harvest_193 : decode cX12_harvest 193 = .ok (.iaload, 1) := by decide +kernel
theorem dX12_harvest_194 : decode cX12_harvest 194 = .ok (.aload_n 0, 1) := by decide +kernel
theorem dX12_harvest_195 : decode cX12_harvest 195 = .ok (.getfield 107, 3) := by decide +kernel
theorem dX12_harvest_198 : decode cX12_harvest 198 = .ok (.iload_n 3, 1) := by decide +kernel
theorem dX12_harvest_199 : decode cX12_harvest 199 = .ok (.iaload, 1) := by decide +kernel
theorem dX12_harvest_200 : decode cX12_harvest 200 = .ok (.iload 4, 2) := by decide +kernel
theorem dX12_harvest_202 : decode cX12_harvest 202 = .ok (.iadd, 1) := by decide +kernel
theorem dX12_harvest_203 : decode cX12_harvest 203 = .ok (.invokestatic 207, 3) := by decide +kernel
theorem dX12_harvest_206 : decode cX12_harvest 206 = .ok (.istore 5, 2) := by decide +kernel
theorem dX12_harvest_208 : decode cX12_harvest 208 = .ok (.aload_n 0, 1) := by decide +kernel
theorem dX12_harvest_209 : decode cX12_harvest 209 = .ok (.getfield 85, 3) := by decide +kernel
theorem dX12_harvest_212 : decode cX12_harvest 212 = .ok (.iload_n 3, 1) := by decide +kernel
theorem dX12_harvest_213 : decode cX12_harvest 213 = .ok (.dup2, 1) := by decide +kernel
theorem dX12_harvest_214 : decode cX12_harvest 214 = .ok (.iaload, 1) := by decide +kernel
theorem dX12_harvest_215 : decode cX12_harvest 215 = .ok (.iload 5, 2) := by decide +kernel
theorem dX12_harvest_217 : decode cX12_harvest 217 = .ok (.isub, 1) := by decide +kernel
theorem dX12_harvest_218 : decode cX12_harvest 218 = .ok (.iastore, 1) := by decide +kernel
theorem dX12_harvest_219 : decode cX12_harvest 219 = .ok (.aload_n 0, 1) := by decide +kernel
theorem dX12_harvest_220 : decode cX12_harvest 220 = .ok (.getfield 107, 3) := by decide +kernel
theorem dX12_harvest_223 : decode cX12_harvest 223 = .ok (.iload_n 3, 1) := by decide +kernel
theorem dX12_harvest_224 : decode cX12_harvest 224 = .ok (.dup2, 1) := by decide +kernel
theorem dX12_harvest_225 : decode cX12_harvest 225 = .ok (.iaload, 1) := by decide +kernel
theorem dX12_harvest_226 : decode cX12_harvest 226 = .ok (.iload 4, 2) := by decide +kernel
theorem dX12_harvest_228 : decode cX12_harvest 228 = .ok (.iload 5, 2) := by decide +kernel
theorem dX12_harvest_230 : decode cX12_harvest 230 = .ok (.isub, 1) := by decide +kernel
theorem dX12_harvest_231 : decode cX12_harvest 231 = .ok (.iadd, 1) := by decide +kernel
theorem dX12_harvest_232 : decode cX12_harvest 232 = .ok (.iastore, 1) := by decide +kernel
theorem dX12_harvest_233 : decode cX12_harvest 233 = .ok (.aload_n 0, 1) := by decide +kernel
theorem dX12_harvest_234 : decode cX12_harvest 234 = .ok (.ldc2_w 517, 3) := by decide +kernel
theorem dX12_harvest_237 : decode cX12_harvest 237 = .ok (.aload_n 0, 1) := by decide +kernel
theorem dX12_harvest_238 : decode cX12_harvest 238 = .ok (.getfield 519, 3) := by decide +kernel
theorem dX12_harvest_241 : decode cX12_harvest 241 = .ok (.i2l, 1) := by decide +kernel
theorem dX12_harvest_242 : decode cX12_harvest 242 = .ok (.iload 5, 2) := by decide +kernel
theorem dX12_harvest_244 : decode cX12_harvest 244 = .ok (.i2l, 1) := by decide +kernel
theorem dX12_harvest_245 : decode cX12_harvest 245 = .ok (.ladd, 1) := by decide +kernel
theorem dX12_harvest_246 : decode cX12_harvest 246 = .ok (.invokestatic 521, 3) := by decide +kernel
theorem dX12_harvest_249 : decode cX12_harvest 249 = .ok (.l2i, 1) := by decide +kernel
theorem dX12_harvest_250 : decode cX12_harvest 250 = .ok (.putfield 519, 3) := by decide +kernel
theorem dX12_harvest_253 : decode cX12_harvest 253 = .ok (.aload_n 0, 1) := by decide +kernel
theorem dX12_harvest_254 : decode cX12_harvest 254 = .ok (.getfield 110, 3) := by decide +kernel
theorem dX12_harvest_257 : decode cX12_harvest 257 = .ok (.iload_n 3, 1) := by decide +kernel
theorem dX12_harvest_258 : decode cX12_harvest 258 = .ok (.iconst 0, 1) := by decide +kernel
theorem dX12_harvest_259 : decode cX12_harvest 259 = .ok (.bastore, 1) := by decide +kernel
theorem dX12_harvest_260 : decode cX12_harvest 260 = .ok (.iinc 3 1, 3) := by decide +kernel
theorem dX12_harvest_263 : decode cX12_harvest 263 = .ok (.goto (-134), 3) := by decide +kernel
theorem dX12_harvest_266 : decode cX12_harvest 266 = .ok (.iload_n 2, 1) := by decide +kernel
theorem dX12_harvest_267 : decode cX12_harvest 267 = .ok (.ireturn, 1) := by decide +kernel
theorem dX12_isAt_0 : decode cX12_isAt 0 = .ok (.aload_n 0, 1) := by decide +kernel
theorem dX12_isAt_1 : decode cX12_isAt 1 = .ok (.getfield 335, 3) := by decide +kernel
theorem dX12_isAt_4 : decode cX12_isAt 4 = .ok (.aload_n 0, 1) := by decide +kernel
theorem dX12_isAt_5 : decode cX12_isAt 5 = .ok (.getfield 338, 3) := by decide +kernel
theorem dX12_isAt_8 : decode cX12_isAt 8 = .ok (.if_icmp .ge 33, 3) := by decide +kernel
theorem dX12_isAt_11 : decode cX12_isAt 11 = .ok (.aload_n 0, 1) := by decide +kernel
theorem dX12_isAt_12 : decode cX12_isAt 12 = .ok (.getfield 31, 3) := by decide +kernel
theorem dX12_isAt_15 : decode cX12_isAt 15 = .ok (.aload_n 0, 1) := by decide +kernel
theorem dX12_isAt_16 : decode cX12_isAt 16 = .ok (.getfield 335, 3) := by decide +kernel
theorem dX12_isAt_19 : decode cX12_isAt 19 = .ok (.baload, 1) := by decide +kernel
theorem dX12_isAt_20 : decode cX12_isAt 20 = .ok (.iload_n 1, 1) := by decide +kernel
theorem dX12_isAt_21 : decode cX12_isAt 21 = .ok (.if_icmp .lt 20, 3) := by decide +kernel
theorem dX12_isAt_24 : decode cX12_isAt 24 = .ok (.aload_n 0, 1) := by decide +kernel
theorem dX12_isAt_25 : decode cX12_isAt 25 = .ok (.getfield 31, 3) := by decide +kernel
theorem dX12_isAt_28 : decode cX12_isAt 28 = .ok (.aload_n 0, 1) := by decide +kernel
theorem dX12_isAt_29 : decode cX12_isAt 29 = .ok (.getfield 335, 3) := by decide +kernel
theorem dX12_isAt_32 : decode cX12_isAt 32 = .ok (.baload, 1) := by decide +kernel
theorem dX12_isAt_33 : decode cX12_isAt 33 = .ok (.iload_n 2, 1) := by decide +kernel
theorem dX12_isAt_34 : decode cX12_isAt 34 = .ok (.if_icmp .gt 7, 3) := by decide +kernel
theorem dX12_isAt_37 : decode cX12_isAt 37 = .ok (.iconst 1, 1) := by decide +kernel
theorem dX12_isAt_38 : decode cX12_isAt 38 = .ok (.goto 4, 3) := by decide +kernel
theorem dX12_isAt_41 : decode cX12_isAt 41 = .ok (.iconst 0, 1) := by decide +kernel
theorem dX12_isAt_42 : decode cX12_isAt 42 = .ok (.ireturn, 1) := by decide +kernel
theorem dX12_isIn_0 : decode cX12_isIn 0 = .ok (.iload_n 0, 1) := by decide +kernel
theorem dX12_isIn_1 : decode cX12_isIn 1 = .ok (.bipush 12, 2) := by decide +kernel
theorem dX12_isIn_3 : decode cX12_isIn 3 = .ok (.irem, 1) := by decide +kernel
theorem dX12_isIn_4 : decode cX12_isIn 4 = .ok (.istore_n 3, 1) := by decide +kernel
theorem dX12_isIn_5 : decode cX12_isIn 5 = .ok (.iload_n 0, 1) := by decide +kernel
theorem dX12_isIn_6 : decode cX12_isIn 6 = .ok (.bipush 12, 2) := by decide +kernel
theorem dX12_isIn_8 : decode cX12_isIn 8 = .ok (.idiv, 1) := by decide +kernel
theorem dX12_isIn_9 : decode cX12_isIn 9 = .ok (.istore 4, 2) := by decide +kernel
theorem dX12_isIn_11 : decode cX12_isIn 11 = .ok (.iload_n 3, 1) := by decide +kernel
theorem dX12_isIn_12 : decode cX12_isIn 12 = .ok (.iload_n 1, 1) := by decide +kernel
theorem dX12_isIn_13 : decode cX12_isIn 13 = .ok (.bipush 12, 2) := by decide +kernel
theorem dX12_isIn_15 : decode cX12_isIn 15 = .ok (.irem, 1) := by decide +kernel
theorem dX12_isIn_16 : decode cX12_isIn 16 = .ok (.iload_n 2, 1) := by decide +kernel
theorem dX12_isIn_17 : decode cX12_isIn 17 = .ok (.bipush 12, 2) := by decide +kernel
theorem dX12_isIn_19 : decode cX12_isIn 19 = .ok (.irem, 1) := by decide +kernel
theorem dX12_isIn_20 : decode cX12_isIn 20 = .ok (.invokestatic 207, 3) := by decide +kernel
theorem dX12_isIn_23 : decode cX12_isIn 23 = .ok (.iload_n 1, 1) := by decide +kernel
theorem dX12_isIn_24 : decode cX12_isIn 24 = .ok (.bipush 12, 2) := by decide +kernel
theorem dX12_isIn_26 : decode cX12_isIn 26 = .ok (.irem, 1) := by decide +kernel
theorem dX12_isIn_27 : decode cX12_isIn 27 = .ok (.iload_n 2, 1) := by decide +kernel
theorem dX12_isIn_28 : decode cX12_isIn 28 = .ok (.bipush 12, 2) := by decide +kernel
theorem dX12_isIn_30 : decode cX12_isIn 30 = .ok (.irem, 1) := by decide +kernel
theorem dX12_isIn_31 : decode cX12_isIn 31 = .ok (.invokestatic 211, 3) := by decide +kernel
theorem dX12_isIn_34 : decode cX12_isIn 34 = .ok (.invokestatic 197, 3) := by decide +kernel
theorem dX12_isIn_37 : decode cX12_isIn 37 = .ok (.ifCond .eq 37, 3) := by decide +kernel
theorem dX12_isIn_40 : decode cX12_isIn 40 = .ok (.iload 4, 2) := by decide +kernel
theorem dX12_isIn_42 : decode cX12_isIn 42 = .ok (.iload_n 1, 1) := by decide +kernel
theorem dX12_isIn_43 : decode cX12_isIn 43 = .ok (.bipush 12, 2) := by decide +kernel
theorem dX12_isIn_45 : decode cX12_isIn 45 = .ok (.idiv, 1) := by decide +kernel
theorem dX12_isIn_46 : decode cX12_isIn 46 = .ok (.iload_n 2, 1) := by decide +kernel
theorem dX12_isIn_47 : decode cX12_isIn 47 = .ok (.bipush 12, 2) := by decide +kernel
theorem dX12_isIn_49 : decode cX12_isIn 49 = .ok (.idiv, 1) := by decide +kernel
theorem dX12_isIn_50 : decode cX12_isIn 50 = .ok (.invokestatic 207, 3) := by decide +kernel
theorem dX12_isIn_53 : decode cX12_isIn 53 = .ok (.iload_n 1, 1) := by decide +kernel
theorem dX12_isIn_54 : decode cX12_isIn 54 = .ok (.bipush 12, 2) := by decide +kernel
theorem dX12_isIn_56 : decode cX12_isIn 56 = .ok (.idiv, 1) := by decide +kernel
theorem dX12_isIn_57 : decode cX12_isIn 57 = .ok (.iload_n 2, 1) := by decide +kernel
theorem dX12_isIn_58 : decode cX12_isIn 58 = .ok (.bipush 12, 2) := by decide +kernel
theorem dX12_isIn_60 : decode cX12_isIn 60 = .ok (.idiv, 1) := by decide +kernel
theorem dX12_isIn_61 : decode cX12_isIn 61 = .ok (.invokestatic 211, 3) := by decide +kernel
theorem dX12_isIn_64 : decode cX12_isIn 64 = .ok (.invokestatic 197, 3) := by decide +kernel
theorem dX12_isIn_67 : decode cX12_isIn 67 = .ok (.ifCond .eq 7, 3) := by decide +kernel
theorem dX12_isIn_70 : decode cX12_isIn 70 = .ok (.iconst 1, 1) := by decide +kernel
theorem dX12_isIn_71 : decode cX12_isIn 71 = .ok (.goto 4, 3) := by decide +kernel
theorem dX12_isIn_74 : decode cX12_isIn 74 = .ok (.iconst 0, 1) := by decide +kernel
theorem dX12_isIn_75 : decode cX12_isIn 75 = .ok (.ireturn, 1) := by decide +kernel
theorem dX12_isLand_0 : decode cX12_isLand 0 = .ok (.aload_n 0, 1) := by decide +kernel
theorem dX12_isLand_1 : decode cX12_isLand 1 = .ok (.getfield 9, 3) := by decide +kernel
theorem dX12_isLand_4 : decode cX12_isLand 4 = .ok (.iconst 0, 1) := by decide +kernel
theorem dX12_isLand_5 : decode cX12_isLand 5 = .ok (.iload_n 1, 1) := by decide +kernel
theorem dX12_isLand_6 : decode cX12_isLand 6 = .ok (.iadd, 1) := by decide +kernel
theorem dX12_isLand_7 : decode cX12_isLand 7 = .ok (.iaload, 1) := by decide +kernel
theorem dX12_isLand_8 : decode cX12_isLand 8 = .ok (.iconst 1, 1) := by decide +kernel
theorem dX12_isLand_9 : decode cX12_isLand 9 = .ok (.if_icmp .ne 7, 3) := by decide +kernel
theorem dX12_isLand_12 : decode cX12_isLand 12 = .ok (.iconst 1, 1) := by decide +kernel
theorem dX12_isLand_13 : decode cX12_isLand 13 = .ok (.goto 4, 3) := by decide +kernel
theorem dX12_isLand_16 : decode cX12_isLand 16 = .ok (.iconst 0, 1) := by decide +kernel
theorem dX12_isLand_17 : decode cX12_isLand 17 = .ok (.ireturn, 1) := by decide +kernel
theorem dX12_keep_0 : decode cX12_keep 0 = .ok (.aload_n 0, 1) := by decide +kernel
theorem dX12_keep_1 : decode cX12_keep 1 = .ok (.iconst 0, 1) := by decide +kernel
theorem dX12_keep_2 : decode cX12_keep 2 = .ok (.putfield 194, 3) := by decide +kernel
theorem dX12_keep_5 : decode cX12_keep 5 = .ok (.aload_n 0, 1) := by decide +kernel
theorem dX12_keep_6 : decode cX12_keep 6 = .ok (.invokevirtual 228, 3) := by decide +kernel
theorem dX12_keep_9 : decode cX12_keep 9 = .ok (.ifCond .ne 5, 3) := by decide +kernel
theorem dX12_keep_12 : decode cX12_keep 12 = .ok (.iconst 0, 1) := by decide +kernel
theorem dX12_keep_13 : decode cX12_keep 13 = .ok (.ireturn, 1) := by decide +kernel
theorem dX12_keep_14 : decode cX12_keep 14 = .ok (.iconst 0, 1) := by decide +kernel
theorem dX12_keep_15 : decode cX12_keep 15 = .ok (.istore_n 1, 1) := by decide +kernel
theorem dX12_keep_16 : decode cX12_keep 16 = .ok (.iload_n 1, 1) := by decide +kernel
theorem dX12_keep_17 : decode cX12_keep 17 = .ok (.sipush 1749, 3) := by decide +kernel
theorem dX12_keep_20 : decode cX12_keep 20 = .ok (.if_icmp .ge 21, 3) := by decide +kernel
theorem dX12_keep_23 : decode cX12_keep 23 = .ok (.aload_n 0, 1) := by decide +kernel
theorem dX12_keep_24 : decode cX12_keep 24 = .ok (.getfield 13, 3) := by decide +kernel
theorem dX12_keep_27 : decode cX12_keep 27 = .ok (.iload_n 1, 1) := by decide +kernel
theorem dX12_keep_28 : decode cX12_keep 28 = .ok (.aload_n 0, 1) := by decide +kernel
theorem dX12_keep_29 : decode cX12_keep 29 = .ok (.getfield 9, 3) := by decide +kernel
theorem dX12_keep_32 : decode cX12_keep 32 = .ok (.iload_n 1, 1) := by decide +kernel
theorem dX12_keep_33 : decode cX12_keep 33 = .ok (.iaload, 1) := by decide +kernel
theorem dX12_keep_34 : decode cX12_keep 34 = .ok (.iastore, 1) := by decide +kernel
theorem dX12_keep_35 : decode cX12_keep 35 = .ok (.iinc 1 1, 3) := by decide +kernel
theorem dX12_keep_38 : decode cX12_keep 38 = .ok (.goto (-22), 3) := by decide +kernel
theorem dX12_keep_41 : decode cX12_keep 41 = .ok (.aload_n 0, 1) := by decide +kernel
theorem dX12_keep_42 : decode cX12_keep 42 = .ok (.iconst 1, 1) := by decide +kernel
theorem dX12_keep_43 : decode cX12_keep 43 = .ok (.putfield 325, 3) := by decide +kernel
theorem dX12_keep_46 : decode cX12_keep 46 = .ok (.iconst 1, 1) := by decide +kernel
theorem dX12_keep_47 : decode cX12_keep 47 = .ok (.ireturn, 1) := by decide +kernel
theorem dX12_noContract_0 : decode cX12_noContract 0 = .ok (.iload_n 1, 1) := by decide +kernel
theorem dX12_noContract_1 : decode cX12_noContract 1 = .ok (.iconst 0, 1) := by decide +kernel
theorem dX12_noContract_2 : decode cX12_noContract 2 = .ok (.aload_n 0, 1) := by decide +kernel
theorem dX12_noContract_3 : decode cX12_noContract 3 = .ok (.getfield 533, 3) := by decide +kernel
theorem dX12_noContract_6 : decode cX12_noContract 6 = .ok (.iconst 1, 1) := by decide +kernel
theorem dX12_noContract_7 : decode cX12_noContract 7 = .ok (.isub, 1) := by decide +kernel
theorem dX12_noContract_8 : decode cX12_noContract 8 = .ok (.invokestatic 197, 3) := by decide +kernel
theorem dX12_noContract_11 : decode cX12_noContract 11 = .ok (.ifCond .ne 7, 3) := by decide +kernel
theorem dX12_noContract_14 : decode cX12_noContract 14 = .ok (.iconst 1, 1) := by decide +kernel
theorem dX12_noContract_15 : decode cX12_noContract 15 = .ok (.goto 4, 3) := by decide +kernel
theorem dX12_noContract_18 : decode cX12_noContract 18 = .ok (.iconst 0, 1) := by decide +kernel
theorem dX12_noContract_19 : decode cX12_noContract 19 = .ok (.ireturn, 1) := by decide +kernel
theorem dX12_orders_0 : decode cX12_orders 0 = .ok (.iload_n 1, 1) := by decide +kernel
theorem dX12_orders_1 : decode cX12_orders 1 = .ok (.aload_n 0, 1) := by decide +kernel
theorem dX12_orders_2 : decode cX12_orders 2 = .ok (.getfield 553, 3) := by decide +kernel
theorem dX12_orders_5 : decode cX12_orders 5 = .ok (.if_icmp .ne 56, 3) := by decide +kernel
theorem dX12_orders_8 : decode cX12_orders 8 = .ok (.aload_n 0, 1) := by decide +kernel
theorem dX12_orders_9 : decode cX12_orders 9 = .ok (.getfield 556, 3) := by decide +kernel
theorem dX12_orders_12 : decode cX12_orders 12 = .ok (.ifCond .lt 13, 3) := by decide +kernel
theorem dX12_orders_15 : decode cX12_orders 15 = .ok (.iload 6, 2) := by decide +kernel
theorem dX12_orders_17 : decode cX12_orders 17 = .ok (.aload_n 0, 1) := by decide +kernel
theorem dX12_orders_18 : decode cX12_orders 18 = .ok (.getfield 556, 3) := by decide +kernel
theorem dX12_orders_21 : decode cX12_orders 21 = .ok (.if_icmp .lt 4, 3) := by decide +kernel
theorem dX12_orders_24 : decode cX12_orders 24 = .ok (.return_, 1) := by decide +kernel
theorem dX12_orders_25 : decode cX12_orders 25 = .ok (.aload_n 0, 1) := by decide +kernel
theorem dX12_orders_26 : decode cX12_orders 26 = .ok (.iload 6, 2) := by decide +kernel
theorem dX12_orders_28 : decode cX12_orders 28 = .ok (.putfield 556, 3) := by decide +kernel
theorem dX12_orders_31 : decode cX12_orders 31 = .ok (.iconst 0, 1) := by decide +kernel
theorem dX12_orders_32 : decode cX12_orders 32 = .ok (.istore 7, 2) := by decide +kernel
theorem dX12_orders_34 : decode cX12_orders 34 = .ok (.iload 7, 2) := by decide +kernel
theorem dX12_orders_36 : decode cX12_orders 36 = .ok (.iload_n 1, 1) := by decide +kernel
theorem dX12_orders_37 : decode cX12_orders 37 = .ok (.if_icmp .ge 23, 3) := by decide +kernel
theorem dX12_orders_40 : decode cX12_orders 40 = .ok (.aload_n 0, 1) := by decide +kernel
theorem dX12_orders_41 : decode cX12_orders 41 = .ok (.getfield 191, 3) := by decide +kernel
theorem dX12_orders_44 : decode cX12_orders 44 = .ok (.iload 7, 2) := by decide +kernel
theorem dX12_orders_46 : decode cX12_orders 46 = .ok (.aload_n 0, 1) := by decide +kernel
theorem dX12_orders_47 : decode cX12_orders 47 = .ok (.getfield 188, 3) := by decide +kernel
theorem dX12_orders_50 : decode cX12_orders 50 = .ok (.iload 7, 2) := by decide +kernel
theorem dX12_orders_52 : decode cX12_orders 52 = .ok (.iaload, 1) := by decide +kernel
theorem dX12_orders_53 : decode cX12_orders 53 = .ok (.iastore, 1) := by decide +kernel
theorem dX12_orders_54 : decode cX12_orders 54 = .ok (.iinc 7 1, 3) := by decide +kernel
theorem dX12_orders_57 : decode cX12_orders 57 = .ok (.goto (-23), 3) := by decide +kernel
theorem dX12_orders_60 : decode cX12_orders 60 = .ok (.return_, 1) := by decide +kernel
theorem dX12_orders_61 : decode cX12_orders 61 = .ok (.iconst 0, 1) := by decide +kernel
theorem dX12_orders_62 : decode cX12_orders 62 = .ok (.istore 7, 2) := by decide +kernel
theorem dX12_orders_64 : decode cX12_orders 64 = .ok (.iload 7, 2) := by decide +kernel
theorem dX12_orders_66 : decode cX12_orders 66 = .ok (.aload_n 0, 1) := by decide +kernel
theorem dX12_orders_67 : decode cX12_orders 67 = .ok (.getfield 553, 3) := by decide +kernel
theorem dX12_orders_70 : decode cX12_orders 70 = .ok (.if_icmp .ge 161, 3) := by decide +kernel
theorem dX12_orders_73 : decode cX12_orders 73 = .ok (.iload_n 2, 1) := by decide +kernel
theorem dX12_orders_74 : decode cX12_orders 74 = .ok (.iload 7, 2) := by decide +kernel
theorem dX12_orders_76 : decode cX12_orders 76 = .ok (.ishr, 1) := by decide +kernel
theorem dX12_orders_77 : decode cX12_orders 77 = .ok (.iconst 1, 1) := by decide +kernel
theorem dX12_orders_78 : decode cX12_orders 78 = .ok (.iand, 1) := by decide +kernel
theorem dX12_orders_79 : decode cX12_orders 79 = .ok (.iconst 1, 1) := by decide +kernel
theorem dX12_orders_80 : decode cX12_orders 80 = .ok (.if_icmp .ne 6, 3) := by decide +kernel
theorem dX12_orders_83 : decode cX12_orders 83 = .ok (.goto 142, 3) := by decide +kernel
theorem dX12_orders_86 : decode cX12_orders 86 = .ok (.iload_n 3, 1) := by decide +kernel
theorem dX12_orders_87 : decode cX12_orders 87 = .ok (.istore 8, 2) := by decide +kernel
theorem dX12_orders_89 : decode cX12_orders 89 = .ok (.iload 4, 2) := by decide +kernel
theorem dX12_orders_91 : decode cX12_orders 91 = .ok (.istore 9, 2) := by decide +kernel
theorem dX12_orders_93 : decode cX12_orders 93 = .ok (.iload 9, 2) := by decide +kernel
theorem dX12_orders_95 : decode cX12_orders 95 = .ok (.aload_n 0, 1) := by decide +kernel
theorem dX12_orders_96 : decode cX12_orders 96 = .ok (.getfield 176, 3) := by decide +kernel
theorem dX12_orders_99 : decode cX12_orders 99 = .ok (.iload 7, 2) := by decide +kernel
theorem dX12_orders_101 : decode cX12_orders 101 = .ok (.iaload, 1) := by decide +kernel
theorem dX12_orders_102 : decode cX12_orders 102 = .ok (.if_icmp .ge 24, 3) := by decide +kernel
theorem dX12_orders_105 : decode cX12_orders 105 = .ok (.iload 8, 2) := by decide +kernel
theorem dX12_orders_107 : decode cX12_orders 107 = .ok (.sipush 200, 3) := by decide +kernel
theorem dX12_orders_110 : decode cX12_orders 110 = .ok (.if_icmp .gt 16, 3) := by decide +kernel
theorem dX12_orders_113 : decode cX12_orders 113 = .ok (.iinc 8 1, 3) := by decide +kernel
theorem dX12_orders_116 : decode cX12_orders 116 = .ok (.iload 9, 2) := by decide +kernel
theorem dX12_orders_118 : decode cX12_orders 118 = .ok (.iload 5, 2) := by decide +kernel
theorem dX12_orders_120 : decode cX12_orders 120 = .ok (.iadd, 1) := by decide +kernel
theorem dX12_orders_121 : decode cX12_orders 121 = .ok (.istore 9, 2) := by decide +kernel
theorem dX12_orders_123 : decode cX12_orders 123 = .ok (.goto (-30), 3) := by decide +kernel
theorem dX12_orders_126 : decode cX12_orders 126 = .ok (.iload 9, 2) := by decide +kernel
theorem dX12_orders_128 : decode cX12_orders 128 = .ok (.aload_n 0, 1) := by decide +kernel
theorem dX12_orders_129 : decode cX12_orders 129 = .ok (.getfield 176, 3) := by decide +kernel
theorem dX12_orders_132 : decode cX12_orders 132 = .ok (.iload 7, 2) := by decide +kernel
theorem dX12_orders_134 : decode cX12_orders 134 = .ok (.iaload, 1) := by decide +kernel
theorem dX12_orders_135 : decode cX12_orders 135 = .ok (.isub, 1) := by decide +kernel
theorem dX12_orders_136 : decode cX12_orders 136 = .ok (.istore 9, 2) := by decide +kernel
theorem dX12_orders_138 : decode cX12_orders 138 = .ok (.iload 8, 2) := by decide +kernel
theorem dX12_orders_140 : decode cX12_orders 140 = .ok (.aload_n 0, 1) := by decide +kernel
theorem dX12_orders_141 : decode cX12_orders 141 = .ok (.getfield 179, 3) := by decide +kernel
theorem dX12_orders_144 : decode cX12_orders 144 = .ok (.iload 7, 2) := by decide +kernel
theorem dX12_orders_146 : decode cX12_orders 146 = .ok (.iaload, 1) := by decide +kernel
theorem dX12_orders_147 : decode cX12_orders 147 = .ok (.iadd, 1) := by decide +kernel
theorem dX12_orders_148 : decode cX12_orders 148 = .ok (.istore 8, 2) := by decide +kernel
theorem dX12_orders_150 : decode cX12_orders 150 = .ok (.iload 9, 2) := by decide +kernel
theorem dX12_orders_152 : decode cX12_orders 152 = .ok (.ifCond .lt 73, 3) := by decide +kernel
theorem dX12_orders_155 : decode cX12_orders 155 = .ok (.iload 8, 2) := by decide +kernel
theorem dX12_orders_157 : decode cX12_orders 157 = .ok (.sipush 200, 3) := by decide +kernel
theorem dX12_orders_160 : decode cX12_orders 160 = .ok (.if_icmp .le 6, 3) := by decide +kernel
theorem dX12_orders_163 : decode cX12_orders 163 = .ok (.goto 62, 3) := by decide +kernel
theorem dX12_orders_166 : decode cX12_orders 166 = .ok (.aload_n 0, 1) := by decide +kernel
theorem dX12_orders_167 : decode cX12_orders 167 = .ok (.getfield 188, 3) := by decide +kernel
theorem dX12_orders_170 : decode cX12_orders 170 = .ok (.iload_n 1, 1) := by decide +kernel
theorem dX12_orders_171 : decode cX12_orders 171 = .ok (.iload 7, 2) := by decide +kernel
theorem dX12_orders_173 : decode cX12_orders 173 = .ok (.iastore, 1) := by decide +kernel
theorem dX12_orders_174 : decode cX12_orders 174 = .ok (.aload_n 0, 1) := by decide +kernel
theorem dX12_orders_175 : decode cX12_orders 175 = .ok (.iload_n 1, 1) := by decide +kernel
theorem dX12_orders_176 : decode cX12_orders 176 = .ok (.iconst 1, 1) := by decide +kernel
theorem dX12_orders_177 : decode cX12_orders 177 = .ok (.iadd, 1) := by decide +kernel
theorem dX12_orders_178 : decode cX12_orders 178 = .ok (.iload_n 2, 1) := by decide +kernel
theorem dX12_orders_179 : decode cX12_orders 179 = .ok (.iconst 1, 1) := by decide +kernel
theorem dX12_orders_180 : decode cX12_orders 180 = .ok (.iload 7, 2) := by decide +kernel
theorem dX12_orders_182 : decode cX12_orders 182 = .ok (.ishl, 1) := by decide +kernel
theorem dX12_orders_183 : decode cX12_orders 183 = .ok (.ior, 1) := by decide +kernel
theorem dX12_orders_184 : decode cX12_orders 184 = .ok (.iload 8, 2) := by decide +kernel
theorem dX12_orders_186 : decode cX12_orders 186 = .ok (.iload 9, 2) := by decide +kernel
theorem dX12_orders_188 : decode cX12_orders 188 = .ok (.iload 5, 2) := by decide +kernel
theorem dX12_orders_190 : decode cX12_orders 190 = .ok (.aload_n 0, 1) := by decide +kernel
theorem dX12_orders_191 : decode cX12_orders 191 = .ok (.getfield 179, 3) := by decide +kernel
theorem dX12_orders_194 : decode cX12_orders 194 = .ok (.iload 7, 2) := by decide +kernel
theorem dX12_orders_196 : decode cX12_orders 196 = .ok (.iaload, 1) := by decide +kernel
theorem dX12_orders_197 : decode cX12_orders 197 = .ok (.imul, 1) := by decide +kernel
theorem dX12_orders_198 : decode cX12_orders 198 = .ok (.iadd, 1) := by decide +kernel
theorem dX12_orders_199 : decode cX12_orders 199 = .ok (.iload 5, 2) := by decide +kernel
theorem dX12_orders_201 : decode cX12_orders 201 = .ok (.aload_n 0, 1) := by decide +kernel
theorem dX12_orders_202 : decode cX12_orders 202 = .ok (.getfield 182, 3) := by decide +kernel
theorem dX12_orders_205 : decode cX12_orders 205 = .ok (.iload 7, 2) := by decide +kernel
theorem dX12_orders_207 : decode cX12_orders 207 = .ok (.iaload, 1) := by decide +kernel
theorem dX12_orders_208 : decode cX12_orders 208 = .ok (.iadd, 1) := by decide +kernel
theorem dX12_orders_209 : decode cX12_orders 209 = .ok (.iload 6, 2) := by decide +kernel
theorem dX12_orders_211 : decode cX12_orders 211 = .ok (.aload_n 0, 1) := by decide +kernel
theorem dX12_orders_212 : decode cX12_orders 212 = .ok (.getfield 185, 3) := by decide +kernel
theorem dX12_orders_215 : decode cX12_orders 215 = .ok (.iload 7, 2) := by decide +kernel
theorem dX12_orders_217 : decode cX12_orders 217 = .ok (.iaload, 1) := by decide +kernel
theorem dX12_orders_218 : decode cX12_orders 218 = .ok (.iload 8, 2) := by decide +kernel
theorem dX12_orders_220 : decode cX12_orders 220 = .ok (.imul, 1) := by decide +kernel
theorem dX12_orders_221 : decode cX12_orders 221 = .ok (.iadd, 1) := by decide +kernel
theorem dX12_orders_222 : decode cX12_orders 222 = .ok (.invokevirtual 559, 3) := by decide +kernel
theorem dX12_orders_225 : decode cX12_orders 225 = .ok (.iinc 7 1, 3) := by decide +kernel
theorem dX12_orders_228 : decode cX12_orders 228 = .ok (.goto (-164), 3) := by decide +kernel
theorem dX12_orders_231 : decode cX12_orders 231 = .ok (.return_, 1) := by decide +kernel
theorem dX12_outside_0 : decode cX12_outside 0 = .ok (.aload_n 0, 1) := by decide +kernel
theorem dX12_outside_1 : decode cX12_outside 1 = .ok (.getfield 9, 3) := by decide +kernel
theorem dX12_outside_4 : decode cX12_outside 4 = .ok (.sipush 1430, 3) := by decide +kernel
theorem dX12_outside_7 : decode cX12_outside 7 = .ok (.iload_n 1, 1) := by decide +kernel
theorem dX12_outside_8 : decode cX12_outside 8 = .ok (.bipush 12, 2) := by decide +kernel
theorem dX12_outside_10 : decode cX12_outside 10 = .ok (.irem, 1) := by decide +kernel
theorem dX12_outside_11 : decode cX12_outside 11 = .ok (.iadd, 1) := by decide +kernel
theorem dX12_outside_12 : decode cX12_outside 12 = .ok (.iaload, 1) := by decide +kernel
theorem dX12_outside_13 : decode cX12_outside 13 = .ok (.istore_n 2, 1) := by decide +kernel
theorem dX12_outside_14 : decode cX12_outside 14 = .ok (.sipush 1443, 3) := by decide +kernel
theorem dX12_outside_17 : decode cX12_outside 17 = .ok (.istore_n 3, 1) := by decide +kernel
theorem dX12_outside_18 : decode cX12_outside 18 = .ok (.iload_n 3, 1) := by decide +kernel
theorem dX12_outside_19 : decode cX12_outside 19 = .ok (.sipush 1443, 3) := by decide +kernel
theorem dX12_outside_22 : decode cX12_outside 22 = .ok (.iconst 3, 1) := by decide +kernel
theorem dX12_outside_23 : decode cX12_outside 23 = .ok (.aload_n 0, 1) := by decide +kernel
theorem dX12_outside_24 : decode cX12_outside 24 = .ok (.getfield 9, 3) := by decide +kernel
theorem dX12_outside_27 : decode cX12_outside 27 = .ok (.sipush 1442, 3) := by decide +kernel
theorem dX12_outside_30 : decode cX12_outside 30 = .ok (.iaload, 1) := by decide +kernel
theorem dX12_outside_31 : decode cX12_outside 31 = .ok (.imul, 1) := by decide +kernel
theorem dX12_outside_32 : decode cX12_outside 32 = .ok (.iadd, 1) := by decide +kernel
theorem dX12_outside_33 : decode cX12_outside 33 = .ok (.if_icmp .ge 45, 3) := by decide +kernel
theorem dX12_outside_36 : decode cX12_outside 36 = .ok (.iload_n 2, 1) := by decide +kernel
theorem dX12_outside_37 : decode cX12_outside 37 = .ok (.iload_n 1, 1) := by decide +kernel
theorem dX12_outside_38 : decode cX12_outside 38 = .ok (.aload_n 0, 1) := by decide +kernel
theorem dX12_outside_39 : decode cX12_outside 39 = .ok (.getfield 9, 3) := by decide +kernel
theorem dX12_outside_42 : decode cX12_outside 42 = .ok (.iload_n 3, 1) := by decide +kernel
theorem dX12_outside_43 : decode cX12_outside 43 = .ok (.iaload, 1) := by decide +kernel
theorem dX12_outside_44 : decode cX12_outside 44 = .ok (.aload_n 0, 1) := by decide +kernel
theorem dX12_outside_45 : decode cX12_outside 45 = .ok (.getfield 9, 3) := by decide +kernel
theorem dX12_outside_48 : decode cX12_outside 48 = .ok (.iload_n 3, 1) := by decide +kernel
theorem dX12_outside_49 : decode cX12_outside 49 = .ok (.iconst 1, 1) := by decide +kernel
theorem dX12_outside_50 : decode cX12_outside 50 = .ok (.iadd, 1) := by decide +kernel
theorem dX12_outside_51 : decode cX12_outside 51 = .ok (.iaload, 1) := by decide +kernel
theorem dX12_outside_52 : decode cX12_outside 52 = .ok (.invokestatic 197, 3) := by decide +kernel
theorem dX12_outside_55 : decode cX12_outside 55 = .ok (.ifCond .eq 14, 3) := by decide +kernel
theorem dX12_outside_58 : decode cX12_outside 58 = .ok (.aload_n 0, 1) := by decide +kernel
theorem dX12_outside_59 : decode cX12_outside 59 = .ok (.getfield 9, 3) := by decide +kernel
theorem dX12_outside_62 : decode cX12_outside 62 = .ok (.iload_n 3, 1) := by decide +kernel
theorem dX12_outside_63 : decode cX12_outside 63 = .ok (.iconst 2, 1) := by decide +kernel
theorem dX12_outside_64 : decode cX12_outside 64 = .ok (.iadd, 1) := by decide +kernel
theorem dX12_outside_65 : decode cX12_outside 65 = .ok (.iaload, 1) := by decide +kernel
theorem dX12_outside_66 : decode cX12_outside 66 = .ok (.goto 4, 3) := by decide +kernel
theorem dX12_outside_69 : decode cX12_outside 69 = .ok (.iconst 0, 1) := by decide +kernel
theorem dX12_outside_70 : decode cX12_outside 70 = .ok (.iadd, 1) := by decide +kernel
theorem dX12_outside_71 : decode cX12_outside 71 = .ok (.istore_n 2, 1) := by decide +kernel
theorem dX12_outside_72 : decode cX12_outside 72 = .ok (.iinc 3 3, 3) := by decide +kernel
theorem dX12_outside_75 : decode cX12_outside 75 = .ok (.goto (-57), 3) := by decide +kernel
theorem dX12_outside_78 : decode cX12_outside 78 = .ok (.iload_n 2, 1) := by decide +kernel
theorem dX12_outside_79 : decode cX12_outside 79 = .ok (.ireturn, 1) := by decide +kernel
theorem dX12_rain_0 : decode cX12_rain 0 = .ok (.aload_n 0, 1) := by decide +kernel
theorem dX12_rain_1 : decode cX12_rain 1 = .ok (.sipush 1624, 3) := by decide +kernel
theorem dX12_rain_4 : decode cX12_rain 4 = .ok (.sipush 1625, 3) := by decide +kernel
theorem dX12_rain_7 : decode cX12_rain 7 = .ok (.iload_n 1, 1) := by decide +kernel
theorem dX12_rain_8 : decode cX12_rain 8 = .ok (.invokevirtual 243, 3) := by decide +kernel
theorem dX12_rain_11 : decode cX12_rain 11 = .ok (.istore_n 2, 1) := by decide +kernel
theorem dX12_rain_12 : decode cX12_rain 12 = .ok (.iload_n 2, 1) := by decide +kernel
theorem dX12_rain_13 : decode cX12_rain 13 = .ok (.ifCond .ge 7, 3) := by decide +kernel
theorem dX12_rain_16 : decode cX12_rain 16 = .ok (.iconst 0, 1) := by decide +kernel
theorem dX12_rain_17 : decode cX12_rain 17 = .ok (.goto 11, 3) := by decide +kernel
theorem dX12_rain_20 : decode cX12_rain 20 = .ok (.aload_n 0, 1) := by decide +kernel
theorem dX12_rain_21 : decode cX12_rain 21 = .ok (.getfield 9, 3) := by decide +kernel
theorem dX12_rain_24 : decode cX12_rain 24 = .ok (.iload_n 2, 1) := by decide +kernel
theorem dX12_rain_25 : decode cX12_rain 25 = .ok (.iconst 1, 1) := by decide +kernel
theorem dX12_rain_26 : decode cX12_rain 26 = .ok (.iadd, 1) := by decide +kernel
theorem dX12_rain_27 : decode cX12_rain 27 = .ok (.iaload, 1) := by decide +kernel
theorem dX12_rain_28 : decode cX12_rain 28 = .ok (.ireturn, 1) := by decide +kernel
theorem dX12_readAllOf_0 : decode cX12_readAllOf 0 = .ok (.aload_n 0, 1) := by decide +kernel
theorem dX12_readAllOf_1 : decode cX12_readAllOf 1 = .ok (.invokevirtual 412, 3) := by decide +kernel
theorem dX12_readAllOf_4 : decode cX12_readAllOf 4 = .ok (.ifCond .ne 5, 3) := by decide +kernel
theorem dX12_readAllOf_7 : decode cX12_readAllOf 7 = .ok (.iconst 0, 1) := by decide +kernel
theorem dX12_readAllOf_8 : decode cX12_readAllOf 8 = .ok (.ireturn, 1) := by decide +kernel
theorem dX12_readAllOf_9 : decode cX12_readAllOf 9 = .ok (.aload_n 0, 1) := by decide +kernel
theorem dX12_readAllOf_10 : decode cX12_readAllOf 10 = .ok (.ldc_w 418, 3) := by decide +kernel
theorem dX12_readAllOf_13 : decode cX12_readAllOf 13 = .ok (.invokevirtual 409, 3) := by decide +kernel
theorem dX12_readAllOf_16 : decode cX12_readAllOf 16 = .ok (.ifCond .eq 22, 3) := by decide +kernel
theorem dX12_readAllOf_19 : decode cX12_readAllOf 19 = .ok (.aload_n 0, 1) := by decide +kernel
theorem dX12_readAllOf_20 : decode cX12_readAllOf 20 = .ok (.invokevirtual 412, 3) := by decide +kernel
theorem dX12_readAllOf_23 : decode cX12_readAllOf 23 = .ok (.ifCond .ne 5, 3) := by decide +kernel
theorem dX12_readAllOf_26 : decode cX12_readAllOf 26 = .ok (.iconst 0, 1) := by decide +kernel
theorem dX12_readAllOf_27 : decode cX12_readAllOf 27 = .ok (.ireturn, 1) := by decide +kernel
theorem dX12_readAllOf_28 : decode cX12_readAllOf 28 = .ok (.aload_n 0, 1) := by decide +kernel
theorem dX12_readAllOf_29 : decode cX12_readAllOf 29 = .ok (.bipush 105, 2) := by decide +kernel
theorem dX12_readAllOf_31 : decode cX12_readAllOf 31 = .ok (.iconst 0, 1) := by decide +kernel
theorem dX12_readAllOf_32 : decode cX12_readAllOf 32 = .ok (.invokevirtual 387, 3) := by decide +kernel
theorem dX12_readAllOf_35 : decode cX12_readAllOf 35 = .ok (.goto (-26), 3) := by decide +kernel
theorem dX12_readAllOf_38 : decode cX12_readAllOf 38 = .ok (.iconst 1, 1) := by decide +kernel
theorem dX12_readAllOf_39 : decode cX12_readAllOf 39 = .ok (.ireturn, 1) := by decide +kernel
theorem dX12_reads_0 : decode cX12_reads 0 = .ok (.aload_n 0, 1) := by decide +kernel
theorem dX12_reads_1 : decode cX12_reads 1 = .ok (.invokevirtual 454, 3) := by decide +kernel
theorem dX12_reads_4 : decode cX12_reads 4 = .ok (.istore_n 3, 1) := by decide +kernel
theorem dX12_reads_5 : decode cX12_reads 5 = .ok (.aload_n 0, 1) := by decide +kernel
theorem dX12_reads_6 : decode cX12_reads 6 = .ok (.iload_n 3, 1) := by decide +kernel
theorem dX12_reads_7 : decode cX12_reads 7 = .ok (.ifCond .ge 10, 3) := by decide +kernel
theorem dX12_reads_10 : decode cX12_reads 10 = .ok (.aload_n 0, 1) := by decide +kernel
theorem dX12_reads_11 : decode cX12_reads 11 = .ok (.getfield 345, 3) := by decide +kernel
theorem dX12_reads_14 : decode cX12_reads 14 = .ok (.goto 4, 3) := by decide +kernel
theorem dX12_reads_17 : decode cX12_reads 17 = .ok (.iconst (-1), 1) := by decide +kernel
theorem dX12_reads_18 : decode cX12_reads 18 = .ok (.putfield 35, 3) := by decide +kernel
theorem dX12_reads_21 : decode cX12_reads 21 = .ok (.aload_n 0, 1) := by decide +kernel
theorem dX12_reads_22 : decode cX12_reads 22 = .ok (.iload_n 3, 1) := by decide +kernel
theorem dX12_reads_23 : decode cX12_reads 23 = .ok (.ifCond .ge 7, 3) := by decide +kernel
theorem dX12_reads_26 : decode cX12_reads 26 = .ok (.iconst 1, 1) := by decide +kernel
theorem dX12_reads_27 : decode cX12_reads 27 = .ok (.goto 4, 3) := by decide +kernel
theorem dX12_reads_30 : decode cX12_reads 30 = .ok (.iconst 0, 1) := by decide +kernel
theorem dX12_reads_31 : decode cX12_reads 31 = .ok (.iconst 1, 1) := by decide +kernel
theorem dX12_reads_32 : decode cX12_reads 32 = .ok (.invokevirtual 224, 3) := by decide +kernel
theorem dX12_reads_35 : decode cX12_reads 35 = .ok (.ifCond .ne 12, 3) := by decide +kernel
theorem dX12_reads_38 : decode cX12_reads 38 = .ok (.aload_n 0, 1) := by decide +kernel
theorem dX12_reads_39 : decode cX12_reads 39 = .ok (.iload_n 2, 1) := by decide +kernel
theorem dX12_reads_40 : decode cX12_reads 40 = .ok (.iconst 2, 1) := by decide +kernel
theorem dX12_reads_41 : decode cX12_reads 41 = .ok (.invokevirtual 224, 3) := by decide +kernel
theorem dX12_reads_44 : decode cX12_reads 44 = .ok (.ifCond .eq 5, 3) := by decide +kernel
theorem dX12_reads_47 : decode cX12_reads 47 = .ok (.iconst 0, 1) := by decide +kernel
theorem dX12_reads_48 : decode cX12_reads 48 = .ok (.ireturn, 1) := by decide +kernel
theorem dX12_reads_49 : decode cX12_reads 49 = .ok (.aload_n 0, 1) := by decide +kernel
theorem dX12_reads_50 : decode cX12_reads 50 = .ok (.getfield 42, 3) := by decide +kernel
theorem dX12_reads_53 : decode cX12_reads 53 = .ok (.iconst 2, 1) := by decide +kernel
theorem dX12_reads_54 : decode cX12_reads 54 = .ok (.iload_n 3, 1) := by decide +kernel
theorem dX12_reads_55 : decode cX12_reads 55 = .ok (.iastore, 1) := by decide +kernel
theorem dX12_reads_56 : decode cX12_reads 56 = .ok (.aload_n 0, 1) := by decide +kernel
theorem dX12_reads_57 : decode cX12_reads 57 = .ok (.iconst 2, 1) := by decide +kernel
theorem dX12_reads_58 : decode cX12_reads 58 = .ok (.iload_n 1, 1) := by decide +kernel
theorem dX12_reads_59 : decode cX12_reads 59 = .ok (.invokevirtual 457, 3) := by decide +kernel
theorem dX12_reads_62 : decode cX12_reads 62 = .ok (.iload_n 3, 1) := by decide +kernel
theorem dX12_reads_63 : decode cX12_reads 63 = .ok (.ireturn, 1) := by decide +kernel
theorem dX12_sky_0 : decode cX12_sky 0 = .ok (.aload_n 0, 1) := by decide +kernel
theorem dX12_sky_1 : decode cX12_sky 1 = .ok (.iconst 0, 1) := by decide +kernel
theorem dX12_sky_2 : decode cX12_sky 2 = .ok (.putfield 194, 3) := by decide +kernel
theorem dX12_sky_5 : decode cX12_sky 5 = .ok (.aload_n 0, 1) := by decide +kernel
theorem dX12_sky_6 : decode cX12_sky 6 = .ok (.iload_n 1, 1) := by decide +kernel
theorem dX12_sky_7 : decode cX12_sky 7 = .ok (.iconst 0, 1) := by decide +kernel
theorem dX12_sky_8 : decode cX12_sky 8 = .ok (.ldc 242, 2) := by decide +kernel
theorem dX12_sky_10 : decode cX12_sky 10 = .ok (.invokestatic 197, 3) := by decide +kernel
theorem dX12_sky_13 : decode cX12_sky 13 = .ok (.ifCond .eq 12, 3) := by decide +kernel
theorem dX12_sky_16 : decode cX12_sky 16 = .ok (.iload_n 2, 1) := by decide +kernel
theorem dX12_sky_17 : decode cX12_sky 17 = .ok (.iconst 0, 1) := by decide +kernel
theorem dX12_sky_18 : decode cX12_sky 18 = .ok (.iconst 2, 1) := by decide +kernel
theorem dX12_sky_19 : decode cX12_sky 19 = .ok (.invokestatic 197, 3) := by decide +kernel
theorem dX12_sky_22 : decode cX12_sky 22 = .ok (.ifCond .ne 7, 3) := by decide +kernel
theorem dX12_sky_25 : decode cX12_sky 25 = .ok (.iconst 1, 1) := by decide +kernel
theorem dX12_sky_26 : decode cX12_sky 26 = .ok (.goto 4, 3) := by decide +kernel
theorem dX12_sky_29 : decode cX12_sky 29 = .ok (.iconst 0, 1) := by decide +kernel
theorem dX12_sky_30 : decode cX12_sky 30 = .ok (.iconst 1, 1) := by decide +kernel
theorem dX12_sky_31 : decode cX12_sky 31 = .ok (.invokevirtual 224, 3) := by decide +kernel
theorem dX12_sky_34 : decode cX12_sky 34 = .ok (.ifCond .eq 5, 3) := by decide +kernel
theorem dX12_sky_37 : decode cX12_sky 37 = .ok (.iconst 0, 1) := by decide +kernel
theorem dX12_sky_38 : decode cX12_sky 38 = .ok (.ireturn, 1) := by decide +kernel
theorem dX12_sky_39 : decode cX12_sky 39 = .ok (.iload_n 2, 1) := by decide +kernel
theorem dX12_sky_40 : decode cX12_sky 40 = .ok (.ifCond .ne 11, 3) := by decide +kernel
theorem dX12_sky_43 : decode cX12_sky 43 = .ok (.aload_n 0, 1) := by decide +kernel
theorem dX12_sky_44 : decode cX12_sky 44 = .ok (.iload_n 1, 1) := by decide +kernel
theorem dX12_sky_45 : decode cX12_sky 45 = .ok (.invokevirtual 247, 3) := by decide +kernel
theorem dX12_sky_48 : decode cX12_sky 48 = .ok (.goto 21, 3) := by decide +kernel
theorem dX12_sky_51 : decode cX12_sky 51 = .ok (.iload_n 2, 1) := by decide +kernel
theorem dX12_sky_52 : decode cX12_sky 52 = .ok (.iconst 1, 1) := by decide +kernel
theorem dX12_sky_53 : decode cX12_sky 53 = .ok (.if_icmp .ne 11, 3) := by decide +kernel
theorem dX12_sky_56 : decode cX12_sky 56 = .ok (.aload_n 0, 1) := by decide +kernel
theorem dX12_sky_57 : decode cX12_sky 57 = .ok (.iload_n 1, 1) := by decide +kernel
theorem dX12_sky_58 : decode cX12_sky 58 = .ok (.invokevirtual 250, 3) := by decide +kernel
theorem dX12_sky_61 : decode cX12_sky 61 = .ok (.goto 8, 3) := by decide +kernel
theorem dX12_sky_64 : decode cX12_sky 64 = .ok (.aload_n 0, 1) := by decide +kernel
theorem dX12_sky_65 : decode cX12_sky 65 = .ok (.iload_n 1, 1) := by decide +kernel
theorem dX12_sky_66 : decode cX12_sky 66 = .ok (.invokevirtual 253, 3) := by decide +kernel
theorem dX12_sky_69 : decode cX12_sky 69 = .ok (.ireturn, 1) := by decide +kernel
theorem dX12_sluices_0 : decode cX12_sluices 0 = .ok (.aload_n 0, 1) := by decide +kernel
theorem dX12_sluices_1 : decode cX12_sluices 1 = .ok (.iload_n 1, 1) := by decide +kernel
theorem dX12_sluices_2 : decode cX12_sluices 2 = .ok (.iconst 1, 1) := by decide +kernel
theorem dX12_sluices_3 : decode cX12_sluices 3 = .ok (.invokevirtual 217, 3) := by decide +kernel
theorem dX12_sluices_6 : decode cX12_sluices 6 = .ok (.istore_n 3, 1) := by decide +kernel
theorem dX12_sluices_7 : decode cX12_sluices 7 = .ok (.iconst 0, 1) := by decide +kernel
theorem dX12_sluices_8 : decode cX12_sluices 8 = .ok (.istore 4, 2) := by decide +kernel
theorem dX12_sluices_10 : decode cX12_sluices 10 = .ok (.aload_n 0, 1) := by decide +kernel
theorem dX12_sluices_11 : decode cX12_sluices 11 = .ok (.iload_n 1, 1) := by decide +kernel
theorem dX12_sluices_12 : decode cX12_sluices 12 = .ok (.bipush 19, 2) := by decide +kernel
theorem dX12_sluices_14 : decode cX12_sluices 14 = .ok (.invokevirtual 217, 3) := by decide +kernel
theorem dX12_sluices_17 : decode cX12_sluices 17 = .ok (.iconst 1, 1) := by decide +kernel
theorem dX12_sluices_18 : decode cX12_sluices 18 = .ok (.if_icmp .ne 46, 3) := by decide +kernel
theorem dX12_sluices_21 : decode cX12_sluices 21 = .ok (.iload_n 2, 1) := by decide +kernel
theorem dX12_sluices_22 : decode cX12_sluices 22 = .ok (.aload_n 0, 1) := by decide +kernel
theorem dX12_sluices_23 : decode cX12_sluices 23 = .ok (.iload_n 3, 1) := by decide +kernel
theorem dX12_sluices_24 : decode cX12_sluices 24 = .ok (.invokevirtual 285, 3) := by decide +kernel
theorem dX12_sluices_27 : decode cX12_sluices 27 = .ok (.if_icmp .ge 37, 3) := by decide +kernel
theorem dX12_sluices_30 : decode cX12_sluices 30 = .ok (.aload_n 0, 1) := by decide +kernel
theorem dX12_sluices_31 : decode cX12_sluices 31 = .ok (.iload_n 1, 1) := by decide +kernel
theorem dX12_sluices_32 : decode cX12_sluices 32 = .ok (.bipush 17, 2) := by decide +kernel
theorem dX12_sluices_34 : decode cX12_sluices 34 = .ok (.invokevirtual 217, 3) := by decide +kernel
theorem dX12_sluices_37 : decode cX12_sluices 37 = .ok (.aload_n 0, 1) := by decide +kernel
theorem dX12_sluices_38 : decode cX12_sluices 38 = .ok (.getfield 9, 3) := by decide +kernel
theorem dX12_sluices_41 : decode cX12_sluices 41 = .ok (.sipush 384, 3) := by decide +kernel
theorem dX12_sluices_44 : decode cX12_sluices 44 = .ok (.iload_n 3, 1) := by decide +kernel
theorem dX12_sluices_45 : decode cX12_sluices 45 = .ok (.iadd, 1) := by decide +kernel
theorem dX12_sluices_46 : decode cX12_sluices 46 = .ok (.iaload, 1) := by decide +kernel
theorem dX12_sluices_47 : decode cX12_sluices 47 = .ok (.aload_n 0, 1) := by decide +kernel
theorem dX12_sluices_48 : decode cX12_sluices 48 = .ok (.iload_n 3, 1) := by decide +kernel
theorem dX12_sluices_49 : decode cX12_sluices 49 = .ok (.invokevirtual 285, 3) := by decide +kernel
theorem dX12_sluices_52 : decode cX12_sluices 52 = .ok (.iload_n 2, 1) := by decide +kernel
theorem dX12_sluices_53 : decode cX12_sluices 53 = .ok (.isub, 1) := by decide +kernel
theorem dX12_sluices_54 : decode cX12_sluices 54 = .ok (.iconst 4, 1) := by decide +kernel
theorem dX12_sluices_55 : decode cX12_sluices 55 = .ok (.idiv, 1) := by decide +kernel
theorem dX12_sluices_56 : decode cX12_sluices 56 = .ok (.invokestatic 207, 3) := by decide +kernel
theorem dX12_sluices_59 : decode cX12_sluices 59 = .ok (.invokestatic 207, 3) := by decide +kernel
theorem dX12_sluices_62 : decode cX12_sluices 62 = .ok (.istore 4, 2) := by decide +kernel
theorem dX12_sluices_64 : decode cX12_sluices 64 = .ok (.aload_n 0, 1) := by decide +kernel
theorem dX12_sluices_65 : decode cX12_sluices 65 = .ok (.iload_n 3, 1) := by decide +kernel
theorem dX12_sluices_66 : decode cX12_sluices 66 = .ok (.iload 4, 2) := by decide +kernel
theorem dX12_sluices_68 : decode cX12_sluices 68 = .ok (.invokevirtual 291, 3) := by decide +kernel
theorem dX12_sluices_71 : decode cX12_sluices 71 = .ok (.istore 5, 2) := by decide +kernel
theorem dX12_sluices_73 : decode cX12_sluices 73 = .ok (.aload_n 0, 1) := by decide +kernel
theorem dX12_sluices_74 : decode cX12_sluices 74 = .ok (.getfield 9, 3) := by decide +kernel
theorem dX12_sluices_77 : decode cX12_sluices 77 = .ok (.sipush 1747, 3) := by decide +kernel
theorem dX12_sluices_80 : decode cX12_sluices 80 = .ok (.dup2, 1) := by decide +kernel
theorem dX12_sluices_81 : decode cX12_sluices 81 = .ok (.iaload, 1) := by decide +kernel
theorem dX12_sluices_82 : decode cX12_sluices 82 = .ok (.iload 4, 2) := by decide +kernel
theorem dX12_sluices_84 : decode cX12_sluices 84 = .ok (.iadd, 1) := by decide +kernel
theorem dX12_sluices_85 : decode cX12_sluices 85 = .ok (.iastore, 1) := by decide +kernel
theorem dX12_sluices_86 : decode cX12_sluices 86 = .ok (.aload_n 0, 1) := by decide +kernel
theorem dX12_sluices_87 : decode cX12_sluices 87 = .ok (.iload_n 1, 1) := by decide +kernel
theorem dX12_sluices_88 : decode cX12_sluices 88 = .ok (.iload 4, 2) := by decide +kernel
theorem dX12_sluices_90 : decode cX12_sluices 90 = .ok (.invokevirtual 294, 3) := by decide +kernel
theorem dX12_sluices_93 : decode cX12_sluices 93 = .ok (.return_, 1) := by decide +kernel
theorem dX12_vote_0 : decode cX12_vote 0 = .ok (.aload_n 0, 1) := by decide +kernel
theorem dX12_vote_1 : decode cX12_vote 1 = .ok (.iconst 0, 1) := by decide +kernel
theorem dX12_vote_2 : decode cX12_vote 2 = .ok (.putfield 194, 3) := by decide +kernel
theorem dX12_vote_5 : decode cX12_vote 5 = .ok (.aload_n 0, 1) := by decide +kernel
theorem dX12_vote_6 : decode cX12_vote 6 = .ok (.aload_n 0, 1) := by decide +kernel
theorem dX12_vote_7 : decode cX12_vote 7 = .ok (.iload_n 1, 1) := by decide +kernel
theorem dX12_vote_8 : decode cX12_vote 8 = .ok (.invokevirtual 486, 3) := by decide +kernel
theorem dX12_vote_11 : decode cX12_vote 11 = .ok (.iconst 1, 1) := by decide +kernel
theorem dX12_vote_12 : decode cX12_vote 12 = .ok (.invokevirtual 224, 3) := by decide +kernel
theorem dX12_vote_15 : decode cX12_vote 15 = .ok (.ifCond .ne 41, 3) := by decide +kernel
theorem dX12_vote_18 : decode cX12_vote 18 = .ok (.aload_n 0, 1) := by decide +kernel
theorem dX12_vote_19 : decode cX12_vote 19 = .ok (.aload_n 0, 1) := by decide +kernel
theorem dX12_vote_20 : decode cX12_vote 20 = .ok (.getfield 523, 3) := by decide +kernel
theorem dX12_vote_23 : decode cX12_vote 23 = .ok (.ifCond .ne 7, 3) := by decide +kernel
theorem dX12_vote_26 : decode cX12_vote 26 = .ok (.iconst 1, 1) := by decide +kernel
theorem dX12_vote_27 : decode cX12_vote 27 = .ok (.goto 4, 3) := by decide +kernel
theorem dX12_vote_30 : decode cX12_vote 30 = .ok (.iconst 0, 1) := by decide +kernel
theorem dX12_vote_31 : decode cX12_vote 31 = .ok (.iconst 2, 1) := by decide +kernel
theorem dX12_vote_32 : decode cX12_vote 32 = .ok (.invokevirtual 224, 3) := by decide +kernel
theorem dX12_vote_35 : decode cX12_vote 35 = .ok (.ifCond .ne 21, 3) := by decide +kernel
theorem dX12_vote_38 : decode cX12_vote 38 = .ok (.aload_n 0, 1) := by decide +kernel
theorem dX12_vote_39 : decode cX12_vote 39 = .ok (.getfield 101, 3) := by decide +kernel
theorem dX12_vote_42 : decode cX12_vote 42 = .ok (.iload_n 1, 1) := by decide +kernel
theorem dX12_vote_43 : decode cX12_vote 43 = .ok (.iaload, 1) := by decide +kernel
theorem dX12_vote_44 : decode cX12_vote 44 = .ok (.ifCond .lt 12, 3) := by decide +kernel
theorem dX12_vote_47 : decode cX12_vote 47 = .ok (.aload_n 0, 1) := by decide +kernel
theorem dX12_vote_48 : decode cX12_vote 48 = .ok (.getfield 134, 3) := by decide +kernel
theorem dX12_vote_51 : decode cX12_vote 51 = .ok (.iload_n 1, 1) := by decide +kernel
theorem dX12_vote_52 : decode cX12_vote 52 = .ok (.baload, 1) := by decide +kernel
theorem dX12_vote_53 : decode cX12_vote 53 = .ok (.ifCond .eq 16, 3) := by decide +kernel
theorem dX12_vote_56 : decode cX12_vote 56 = .ok (.aload_n 0, 1) := by decide +kernel
theorem dX12_vote_57 : decode cX12_vote 57 = .ok (.getfield 194, 3) := by decide +kernel
theorem dX12_vote_60 : decode cX12_vote 60 = .ok (.ifCond .eq 7, 3) := by decide +kernel
theorem dX12_vote_63 : decode cX12_vote 63 = .ok (.iconst 0, 1) := by decide +kernel
theorem dX12_vote_64 : decode cX12_vote 64 = .ok (.goto 4, 3) := by decide +kernel
theorem dX12_vote_67 : decode cX12_vote 67 = .ok (.iconst (-1), 1) := by decide +kernel
theorem dX12_vote_68 : decode cX12_vote 68 = .ok (.ireturn, 1) := by decide +kernel
theorem dX12_vote_69 : decode cX12_vote 69 = .ok (.aload_n 0, 1) := by decide +kernel
theorem dX12_vote_70 : decode cX12_vote 70 = .ok (.getfield 134, 3) := by decide +kernel
theorem dX12_vote_73 : decode cX12_vote 73 = .ok (.iload_n 1, 1) := by decide +kernel
theorem dX12_vote_74 : decode cX12_vote 74 = .ok (.iconst 1, 1) := by decide +kernel
theorem dX12_vote_75 : decode cX12_vote 75 = .ok (.bastore, 1) := by decide +kernel
theorem dX12_vote_76 : decode cX12_vote 76 = .ok (.aload_n 0, 1) := by decide +kernel
theorem dX12_vote_77 : decode cX12_vote 77 = .ok (.iload_n 1, 1) := by decide +kernel
theorem dX12_vote_78 : decode cX12_vote 78 = .ok (.iconst 2, 1) := by decide +kernel
theorem dX12_vote_79 : decode cX12_vote 79 = .ok (.invokevirtual 480, 3) := by decide +kernel
theorem dX12_vote_82 : decode cX12_vote 82 = .ok (.lstore_n 3, 1) := by decide +kernel
theorem dX12_vote_83 : decode cX12_vote 83 = .ok (.aload_n 0, 1) := by decide +kernel
theorem dX12_vote_84 : decode cX12_vote 84 = .ok (.dup, 1) := by decide +kernel
theorem dX12_vote_85 : decode cX12_vote 85 = .ok (.getfield 530, 3) := by decide +kernel
theorem dX12_vote_88 : decode cX12_vote 88 = .ok (.lload_n 3, 1) := by decide +kernel
theorem dX12_vote_89 : decode cX12_vote 89 = .ok (.ladd, 1) := by decide +kernel
theorem dX12_vote_90 : decode cX12_vote 90 = .ok (.putfield 530, 3) := by decide +kernel
theorem dX12_vote_93 : decode cX12_vote 93 = .ok (.aload_n 0, 1) := by decide +kernel
theorem dX12_vote_94 : decode cX12_vote 94 = .ok (.dup, 1) := by decide +kernel
theorem dX12_vote_95 : decode cX12_vote 95 = .ok (.getfield 526, 3) := by decide +kernel
theorem dX12_vote_98 : decode cX12_vote 98 = .ok (.iload_n 2, 1) := by decide +kernel
theorem dX12_vote_99 : decode cX12_vote 99 = .ok (.ifCond .eq 7, 3) := by decide +kernel
theorem dX12_vote_102 : decode cX12_vote 102 = .ok (.lload_n 3, 1) := by decide +kernel
theorem dX12_vote_103 : decode cX12_vote 103 = .ok (.goto 4, 3) := by decide +kernel
theorem dX12_vote_106 : decode cX12_vote 106 = .ok (.lconst 0, 1) := by decide +kernel
theorem dX12_vote_107 : decode cX12_vote 107 = .ok (.ladd, 1) := by decide +kernel
theorem dX12_vote_108 : decode cX12_vote 108 = .ok (.putfield 526, 3) := by decide +kernel
theorem dX12_vote_111 : decode cX12_vote 111 = .ok (.lload_n 3, 1) := by decide +kernel
theorem dX12_vote_112 : decode cX12_vote 112 = .ok (.l2i, 1) := by decide +kernel
theorem dX12_vote_113 : decode cX12_vote 113 = .ok (.ireturn, 1) := by decide +kernel
theorem dX12_writesRow_0 : decode cX12_writesRow 0 = .ok (.aload_n 0, 1) := by decide +kernel
theorem dX12_writesRow_1 : decode cX12_writesRow 1 = .ok (.getfield 238, 3) := by decide +kernel
theorem dX12_writesRow_4 : decode cX12_writesRow 4 = .ok (.bipush 24, 2) := by decide +kernel
theorem dX12_writesRow_6 : decode cX12_writesRow 6 = .ok (.if_icmp .ne 59, 3) := by decide +kernel
theorem dX12_writesRow_9 : decode cX12_writesRow 9 = .ok (.bipush 96, 2) := by decide +kernel
theorem dX12_writesRow_11 : decode cX12_writesRow 11 = .ok (.istore_n 1, 1) := by decide +kernel
theorem dX12_writesRow_12 : decode cX12_writesRow 12 = .ok (.iload_n 1, 1) := by decide +kernel
theorem dX12_writesRow_13 : decode cX12_writesRow 13 = .ok (.sipush 2304, 3) := by decide +kernel
theorem dX12_writesRow_16 : decode cX12_writesRow 16 = .ok (.if_icmp .ge 39, 3) := by decide +kernel
theorem dX12_writesRow_19 : decode cX12_writesRow 19 = .ok (.aload_n 0, 1) := by decide +kernel
theorem dX12_writesRow_20 : decode cX12_writesRow 20 = .ok (.getfield 25, 3) := by decide +kernel
theorem dX12_writesRow_23 : decode cX12_writesRow 23 = .ok (.iload_n 1, 1) := by decide +kernel
theorem dX12_writesRow_24 : decode cX12_writesRow 24 = .ok (.bipush 96, 2) := by decide +kernel
theorem dX12_writesRow_26 : decode cX12_writesRow 26 = .ok (.isub, 1) := by decide +kernel
theorem dX12_writesRow_27 : decode cX12_writesRow 27 = .ok (.aload_n 0, 1) := by decide +kernel
theorem dX12_writesRow_28 : decode cX12_writesRow 28 = .ok (.getfield 25, 3) := by decide +kernel
theorem dX12_writesRow_31 : decode cX12_writesRow 31 = .ok (.iload_n 1, 1) := by decide +kernel
theorem dX12_writesRow_32 : decode cX12_writesRow 32 = .ok (.iaload, 1) := by decide +kernel
theorem dX12_writesRow_33 : decode cX12_writesRow 33 = .ok (.iastore, 1) := by decide +kernel
theorem dX12_writesRow_34 : decode cX12_writesRow 34 = .ok (.aload_n 0, 1) := by decide +kernel
theorem dX12_writesRow_35 : decode cX12_writesRow 35 = .ok (.getfield 28, 3) := by decide +kernel
theorem dX12_writesRow_38 : decode cX12_writesRow 38 = .ok (.iload_n 1, 1) := by decide +kernel
theorem dX12_writesRow_39 : decode cX12_writesRow 39 = .ok (.bipush 96, 2) := by decide +kernel
theorem dX12_writesRow_41 : decode cX12_writesRow 41 = .ok (.isub, 1) := by decide +kernel
theorem dX12_writesRow_42 : decode cX12_writesRow 42 = .ok (.aload_n 0, 1) := by decide +kernel
theorem dX12_writesRow_43 : decode cX12_writesRow 43 = .ok (.getfield 28, 3) := by decide +kernel
theorem dX12_writesRow_46 : decode cX12_writesRow 46 = .ok (.iload_n 1, 1) := by decide +kernel
theorem dX12_writesRow_47 : decode cX12_writesRow 47 = .ok (.iaload, 1) := by decide +kernel
theorem dX12_writesRow_48 : decode cX12_writesRow 48 = .ok (.iastore, 1) := by decide +kernel
theorem dX12_writesRow_49 : decode cX12_writesRow 49 = .ok (.iinc 1 1, 3) := by decide +kernel
theorem dX12_writesRow_52 : decode cX12_writesRow 52 = .ok (.goto (-40), 3) := by decide +kernel
theorem dX12_writesRow_55 : decode cX12_writesRow 55 = .ok (.aload_n 0, 1) := by decide +kernel
theorem dX12_writesRow_56 : decode cX12_writesRow 56 = .ok (.dup, 1) := by decide +kernel
theorem dX12_writesRow_57 : decode cX12_writesRow 57 = .ok (.getfield 238, 3) := by decide +kernel
theorem dX12_writesRow_60 : decode cX12_writesRow 60 = .ok (.iconst 1, 1) := by decide +kernel
theorem dX12_writesRow_61 : decode cX12_writesRow 61 = .ok (.isub, 1) := by decide +kernel
theorem dX12_writesRow_62 : decode cX12_writesRow 62 = .ok (.putfield 238, 3) := by decide +kernel
theorem dX12_writesRow_65 : decode cX12_writesRow 65 = .ok (.iconst 0, 1) := by decide +kernel
theorem dX12_writesRow_66 : decode cX12_writesRow 66 = .ok (.istore_n 1, 1) := by decide +kernel
theorem dX12_writesRow_67 : decode cX12_writesRow 67 = .ok (.iload_n 1, 1) := by decide +kernel
theorem dX12_writesRow_68 : decode cX12_writesRow 68 = .ok (.bipush 96, 2) := by decide +kernel
theorem dX12_writesRow_70 : decode cX12_writesRow 70 = .ok (.if_icmp .ge 47, 3) := by decide +kernel
theorem dX12_writesRow_73 : decode cX12_writesRow 73 = .ok (.aload_n 0, 1) := by decide +kernel
theorem dX12_writesRow_74 : decode cX12_writesRow 74 = .ok (.getfield 25, 3) := by decide +kernel
theorem dX12_writesRow_77 : decode cX12_writesRow 77 = .ok (.bipush 96, 2) := by decide +kernel
theorem dX12_writesRow_79 : decode cX12_writesRow 79 = .ok (.aload_n 0, 1) := by decide +kernel
theorem dX12_writesRow_80 : decode cX12_writesRow 80 = .ok (.getfield 238, 3) := by decide +kernel
theorem dX12_writesRow_83 : decode cX12_writesRow 83 = .ok (.imul, 1) := by decide +kernel
theorem dX12_writesRow_84 : decode cX12_writesRow 84 = .ok (.iload_n 1, 1) := by decide +kernel
theorem dX12_writesRow_85 : decode cX12_writesRow 85 = .ok (.iadd, 1) := by decide +kernel
theorem dX12_writesRow_86 : decode cX12_writesRow 86 = .ok (.aload_n 0, 1) := by decide +kernel
theorem dX12_writesRow_87 : decode cX12_writesRow 87 = .ok (.iload_n 1, 1) := by decide +kernel
theorem dX12_writesRow_88 : decode cX12_writesRow 88 = .ok (.invokevirtual 285, 3) := by decide +kernel
theorem dX12_writesRow_91 : decode cX12_writesRow 91 = .ok (.iastore, 1) := by decide +kernel
theorem dX12_writesRow_92 : decode cX12_writesRow 92 = .ok (.aload_n 0, 1) := by decide +kernel
theorem dX12_writesRow_93 : decode cX12_writesRow 93 = .ok (.getfield 28, 3) := by decide +kernel
theorem dX12_writesRow_96 : decode cX12_writesRow 96 = .ok (.bipush 96, 2) := by decide +kernel
theorem dX12_writesRow_98 : decode cX12_writesRow 98 = .ok (.aload_n 0, 1) := by decide +kernel
theorem dX12_writesRow_99 : decode cX12_writesRow 99 = .ok (.getfield 238, 3) := by decide +kernel
theorem dX12_writesRow_102 : decode cX12_writesRow 102 = .ok (.imul, 1) := by decide +kernel
theorem dX12_writesRow_103 : decode cX12_writesRow 103 = .ok (.iload_n 1, 1) := by decide +kernel
theorem dX12_writesRow_104 : decode cX12_writesRow 104 = .ok (.iadd, 1) := by decide +kernel
theorem dX12_writesRow_105 : decode cX12_writesRow 105 = .ok (.aload_n 0, 1) := by decide +kernel
theorem dX12_writesRow_106 : decode cX12_writesRow 106 = .ok (.iload_n 1, 1) := by decide +kernel
theorem dX12_writesRow_107 : decode cX12_writesRow 107 = .ok (.invokevirtual 285, 3) := by decide +kernel
theorem dX12_writesRow_110 : decode cX12_writesRow 110 = .ok (.iastore, 1) := by decide +kernel
theorem dX12_writesRow_111 : decode cX12_writesRow 111 = .ok (.iinc 1 1, 3) := by decide +kernel
theorem dX12_writesRow_114 : decode cX12_writesRow 114 = .ok (.goto (-47), 3) := by decide +kernel
theorem dX12_writesRow_117 : decode cX12_writesRow 117 = .ok (.aload_n 0, 1) := by decide +kernel
theorem dX12_writesRow_118 : decode cX12_writesRow 118 = .ok (.dup, 1) := by decide +kernel
theorem dX12_writesRow_119 : decode cX12_writesRow 119 = .ok (.getfield 238, 3) := by decide +kernel
theorem dX12_writesRow_122 : decode cX12_writesRow 122 = .ok (.iconst 1, 1) := by decide +kernel
theorem dX12_writesRow_123 : decode cX12_writesRow 123 = .ok (.iadd, 1) := by decide +kernel
theorem dX12_writesRow_124 : decode cX12_writesRow 124 = .ok (.putfield 238, 3) := by decide +kernel
theorem dX12_writesRow_127 : decode cX12_writesRow 127 = .ok (.return_, 1) := by decide +kernel
