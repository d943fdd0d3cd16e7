theorem dX11_feed_0 : decode cX11_feed 0 = .ok (.aload_n 0, 1) := by decide +kernel
theorem dX11_feed_1 : decode cX11_feed 1 = .ok (.getfield 47, 3) := by decide +kernel
theorem dX11_feed_4 : decode cX11_feed 4 = .ok (.bipush 20, 2) := by decide +kernel
theorem dX11_feed_6 : decode cX11_feed 6 = .ok (.iadd, 1) := by decide +kernel
theorem dX11_feed_7 : decode cX11_feed 7 = .ok (.sipush 400, 3) := by decide +kernel
theorem dX11_feed_10 : decode cX11_feed 10 = .ok (.if_icmp .le 5, 3) := by decide +kernel
theorem dX11_feed_13 : decode cX11_feed 13 = .ok (.iconst (-1), 1) := by decide +kernel
theorem dX11_feed_14 : decode cX11_feed 14 = .ok (.ireturn, 1) := by decide +kernel
theorem dX11_feed_15 : decode cX11_feed 15 = .ok (.aload_n 0, 1) := by decide +kernel
theorem dX11_feed_16 : decode cX11_feed 16 = .ok (.iload_n 1, 1) := by decide +kernel
theorem dX11_feed_17 : decode cX11_feed 17 = .ok (.invokevirtual 51, 3) := by decide +kernel
theorem dX11_feed_20 : decode cX11_feed 20 = .ok (.aload_n 0, 1) := by decide +kernel
theorem dX11_feed_21 : decode cX11_feed 21 = .ok (.iload_n 2, 1) := by decide +kernel
theorem dX11_feed_22 : decode cX11_feed 22 = .ok (.invokevirtual 51, 3) := by decide +kernel
theorem dX11_feed_25 : decode cX11_feed 25 = .ok (.aload_n 0, 1) := by decide +kernel
theorem dX11_feed_26 : decode cX11_feed 26 = .ok (.iload_n 3, 1) := by decide +kernel
theorem dX11_feed_27 : decode cX11_feed 27 = .ok (.invokevirtual 51, 3) := by decide +kernel
theorem dX11_feed_30 : decode cX11_feed 30 = .ok (.aload_n 0, 1) := by decide +kernel
theorem dX11_feed_31 : decode cX11_feed 31 = .ok (.iload 4, 2) := by decide +kernel
theorem dX11_feed_33 : decode cX11_feed 33 = .ok (.invokevirtual 51, 3) := by decide +kernel
theorem dX11_feed_36 : decode cX11_feed 36 = .ok (.aload_n 0, 1) := by decide +kernel
theorem dX11_feed_37 : decode cX11_feed 37 = .ok (.iload 5, 2) := by decide +kernel
theorem dX11_feed_39 : decode cX11_feed 39 = .ok (.invokevirtual 51, 3) := by decide +kernel
theorem dX11_feed_42 : decode cX11_feed 42 = .ok (.aload_n 0, 1) := by decide +kernel
theorem dX11_feed_43 : decode cX11_feed 43 = .ok (.getfield 47, 3) := by decide +kernel
theorem dX11_feed_46 : decode cX11_feed 46 = .ok (.ireturn, 1) := by decide +kernel
theorem dX11_feedOne_0 : decode cX11_feedOne 0 = .ok (.bipush 24, 2) := by decide +kernel
theorem dX11_feedOne_2 : decode cX11_feedOne 2 = .ok (.istore_n 2, 1) := by decide +kernel
theorem dX11_feedOne_3 : decode cX11_feedOne 3 = .ok (.iload_n 2, 1) := by decide +kernel
theorem dX11_feedOne_4 : decode cX11_feedOne 4 = .ok (.ifCond .lt 35, 3) := by decide +kernel
theorem dX11_feedOne_7 : decode cX11_feedOne 7 = .ok (.aload_n 0, 1) := by decide +kernel
theorem dX11_feedOne_8 : decode cX11_feedOne 8 = .ok (.getfield 9, 3) := by decide +kernel
theorem dX11_feedOne_11 : decode cX11_feedOne 11 = .ok (.aload_n 0, 1) := by decide +kernel
theorem dX11_feedOne_12 : decode cX11_feedOne 12 = .ok (.getfield 47, 3) := by decide +kernel
theorem dX11_feedOne_15 : decode cX11_feedOne 15 = .ok (.iload_n 1, 1) := by decide +kernel
theorem dX11_feedOne_16 : decode cX11_feedOne 16 = .ok (.iload_n 2, 1) := by decide +kernel
theorem dX11_feedOne_17 : decode cX11_feedOne 17 = .ok (.iushr, 1) := by decide +kernel
theorem dX11_feedOne_18 : decode cX11_feedOne 18 = .ok (.sipush 255, 3) := by decide +kernel
theorem dX11_feedOne_21 : decode cX11_feedOne 21 = .ok (.iand, 1) := by decide +kernel
theorem dX11_feedOne_22 : decode cX11_feedOne 22 = .ok (.iastore, 1) := by decide +kernel
theorem dX11_feedOne_23 : decode cX11_feedOne 23 = .ok (.aload_n 0, 1) := by decide +kernel
theorem dX11_feedOne_24 : decode cX11_feedOne 24 = .ok (.dup, 1) := by decide +kernel
theorem dX11_feedOne_25 : decode cX11_feedOne 25 = .ok (.getfield 47, 3) := by decide +kernel
theorem dX11_feedOne_28 : decode cX11_feedOne 28 = .ok (.iconst 1, 1) := by decide +kernel
theorem dX11_feedOne_29 : decode cX11_feedOne 29 = .ok (.iadd, 1) := by decide +kernel
theorem dX11_feedOne_30 : decode cX11_feedOne 30 = .ok (.putfield 47, 3) := by decide +kernel
theorem dX11_feedOne_33 : decode cX11_feedOne 33 = .ok (.iinc 2 (-8), 3) := by decide +kernel
theorem dX11_feedOne_36 : decode cX11_feedOne 36 = .ok (.goto (-33), 3) := by decide +kernel
theorem dX11_feedOne_39 : decode cX11_feedOne 39 = .ok (.return_, 1) := by decide +kernel
theorem dX11_land_0 : decode cX11_land 0 = .ok (.iload_n 1, 1) := by decide +kernel
theorem dX11_land_1 : decode cX11_land 1 = .ok (.invokestatic 55, 3) := by decide +kernel
theorem dX11_land_4 : decode cX11_land 4 = .ok (.iload_n 2, 1) := by decide +kernel
theorem dX11_land_5 : decode cX11_land 5 = .ok (.invokestatic 55, 3) := by decide +kernel
theorem dX11_land_8 : decode cX11_land 8 = .ok (.iload_n 3, 1) := by decide +kernel
theorem dX11_land_9 : decode cX11_land 9 = .ok (.sipush (-900), 3) := by decide +kernel
theorem dX11_land_12 : decode cX11_land 12 = .ok (.sipush 300, 3) := by decide +kernel
theorem dX11_land_15 : decode cX11_land 15 = .ok (.invokestatic 58, 3) := by decide +kernel
theorem dX11_land_18 : decode cX11_land 18 = .ok (.ifCond .eq 28, 3) := by decide +kernel
theorem dX11_land_21 : decode cX11_land 21 = .ok (.iload 4, 2) := by decide +kernel
theorem dX11_land_23 : decode cX11_land 23 = .ok (.iconst 0, 1) := by decide +kernel
theorem dX11_land_24 : decode cX11_land 24 = .ok (.iconst 2, 1) := by decide +kernel
theorem dX11_land_25 : decode cX11_land 25 = .ok (.invokestatic 58, 3) := by decide +kernel
theorem dX11_land_28 : decode cX11_land 28 = .ok (.ifCond .eq 18, 3) := by decide +kernel
theorem dX11_land_31 : decode cX11_land 31 = .ok (.iload 5, 2) := by decide +kernel
theorem dX11_land_33 : decode cX11_land 33 = .ok (.iconst 0, 1) := by decide +kernel
theorem dX11_land_34 : decode cX11_land 34 = .ok (.bipush 20, 2) := by decide +kernel
theorem dX11_land_36 : decode cX11_land 36 = .ok (.invokestatic 58, 3) := by decide +kernel
theorem dX11_land_39 : decode cX11_land 39 = .ok (.ifCond .eq 7, 3) := by decide +kernel
theorem dX11_land_42 : decode cX11_land 42 = .ok (.iconst 1, 1) := by decide +kernel
theorem dX11_land_43 : decode cX11_land 43 = .ok (.goto 4, 3) := by decide +kernel
theorem dX11_land_46 : decode cX11_land 46 = .ok (.iconst 0, 1) := by decide +kernel
theorem dX11_land_47 : decode cX11_land 47 = .ok (.invokestatic 62, 3) := by decide +kernel
theorem dX11_land_50 : decode cX11_land 50 = .ok (.aload_n 0, 1) := by decide +kernel
theorem dX11_land_51 : decode cX11_land 51 = .ok (.getfield 16, 3) := by decide +kernel
theorem dX11_land_54 : decode cX11_land 54 = .ok (.getfield 66, 3) := by decide +kernel
theorem dX11_land_57 : decode cX11_land 57 = .ok (.ifCond .le 13, 3) := by decide +kernel
theorem dX11_land_60 : decode cX11_land 60 = .ok (.new 69, 3) := by decide +kernel
theorem dX11_land_63 : decode cX11_land 63 = .ok (.dup, 1) := by decide +kernel
theorem dX11_land_64 : decode cX11_land 64 = .ok (.ldc 71, 2) := by decide +kernel
theorem dX11_land_66 : decode cX11_land 66 = .ok (.invokespecial 73, 3) := by decide +kernel
theorem dX11_land_69 : decode cX11_land 69 = .ok (.athrow, 1) := by decide +kernel
theorem dX11_land_70 : decode cX11_land 70 = .ok (.aload_n 0, 1) := by decide +kernel
theorem dX11_land_71 : decode cX11_land 71 = .ok (.getfield 23, 3) := by decide +kernel
theorem dX11_land_74 : decode cX11_land 74 = .ok (.invokevirtual 76, 3) := by decide +kernel
theorem dX11_land_77 : decode cX11_land 77 = .ok (.iconst 0, 1) := by decide +kernel
theorem dX11_land_78 : decode cX11_land 78 = .ok (.istore 6, 2) := by decide +kernel
theorem dX11_land_80 : decode cX11_land 80 = .ok (.iconst 0, 1) := by decide +kernel
theorem dX11_land_81 : decode cX11_land 81 = .ok (.istore 7, 2) := by decide +kernel
theorem dX11_land_83 : decode cX11_land 83 = .ok (.iload 7, 2) := by decide +kernel
theorem dX11_land_85 : decode cX11_land 85 = .ok (.bipush 96, 2) := by decide +kernel
theorem dX11_land_87 : decode cX11_land 87 = .ok (.if_icmp .ge 62, 3) := by decide +kernel
theorem dX11_land_90 : decode cX11_land 90 = .ok (.iload 7, 2) := by decide +kernel
theorem dX11_land_92 : decode cX11_land 92 = .ok (.iload_n 1, 1) := by decide +kernel
theorem dX11_land_93 : decode cX11_land 93 = .ok (.iload_n 2, 1) := by decide +kernel
theorem dX11_land_94 : decode cX11_land 94 = .ok (.invokestatic 79, 3) := by decide +kernel
theorem dX11_land_97 : decode cX11_land 97 = .ok (.ifCond .eq 46, 3) := by decide +kernel
theorem dX11_land_100 : decode cX11_land 100 = .ok (.iload 6, 2) := by decide +kernel
theorem dX11_land_102 : decode cX11_land 102 = .ok (.aload_n 0, 1) := by decide +kernel
theorem dX11_land_103 : decode cX11_land 103 = .ok (.getfield 16, 3) := by decide +kernel
theorem dX11_land_106 : decode cX11_land 106 = .ok (.getfield 82, 3) := by decide +kernel
theorem dX11_land_109 : decode cX11_land 109 = .ok (.getfield 86, 3) := by decide +kernel
theorem dX11_land_112 : decode cX11_land 112 = .ok (.iload 7, 2) := by decide +kernel
theorem dX11_land_114 : decode cX11_land 114 = .ok (.baload, 1) := by decide +kernel
theorem dX11_land_115 : decode cX11_land 115 = .ok (.ifCond .eq 7, 3) := by decide +kernel
theorem dX11_land_118 : decode cX11_land 118 = .ok (.iconst 0, 1) := by decide +kernel
theorem dX11_land_119 : decode cX11_land 119 = .ok (.goto 4, 3) := by decide +kernel
theorem dX11_land_122 : decode cX11_land 122 = .ok (.iconst 1, 1) := by decide +kernel
theorem dX11_land_123 : decode cX11_land 123 = .ok (.iadd, 1) := by decide +kernel
theorem dX11_land_124 : decode cX11_land 124 = .ok (.istore 6, 2) := by decide +kernel
theorem dX11_land_126 : decode cX11_land 126 = .ok (.aload_n 0, 1) := by decide +kernel
theorem dX11_land_127 : decode cX11_land 127 = .ok (.getfield 16, 3) := by decide +kernel
theorem dX11_land_130 : decode cX11_land 130 = .ok (.getfield 82, 3) := by decide +kernel
theorem dX11_land_133 : decode cX11_land 133 = .ok (.iload 7, 2) := by decide +kernel
theorem dX11_land_135 : decode cX11_land 135 = .ok (.iload_n 3, 1) := by decide +kernel
theorem dX11_land_136 : decode cX11_land 136 = .ok (.iload 4, 2) := by decide +kernel
theorem dX11_land_138 : decode cX11_land 138 = .ok (.iload 5, 2) := by decide +kernel
theorem dX11_land_140 : decode cX11_land 140 = .ok (.invokevirtual 92, 3) := by decide +kernel
theorem dX11_land_143 : decode cX11_land 143 = .ok (.iinc 7 1, 3) := by decide +kernel
theorem dX11_land_146 : decode cX11_land 146 = .ok (.goto (-63), 3) := by decide +kernel
theorem dX11_land_149 : decode cX11_land 149 = .ok (.iload 6, 2) := by decide +kernel
theorem dX11_land_151 : decode cX11_land 151 = .ok (.ireturn, 1) := by decide +kernel
theorem dX2_tellLand_0 : decode cX2_tellLand 0 = .ok (.aload_n 0, 1) := by decide +kernel
theorem dX2_tellLand_1 : decode cX2_tellLand 1 = .ok (.getfield 9, 3) := by decide +kernel
theorem dX2_tellLand_4 : decode cX2_tellLand 4 = .ok (.iload_n 1, 1) := by decide +kernel
theorem dX2_tellLand_5 : decode cX2_tellLand 5 = .ok (.iconst 1, 1) := by decide +kernel
theorem dX2_tellLand_6 : decode cX2_tellLand 6 = .ok (.bastore, 1) := by decide +kernel
theorem dX2_tellLand_7 : decode cX2_tellLand 7 = .ok (.aload_n 0, 1) := by decide +kernel
theorem dX2_tellLand_8 : decode cX2_tellLand 8 = .ok (.getfield 15, 3) := by decide +kernel
theorem dX2_tellLand_11 : decode cX2_tellLand 11 = .ok (.iload_n 1, 1) := by decide +kernel
theorem dX2_tellLand_12 : decode cX2_tellLand 12 = .ok (.iload_n 2, 1) := by decide +kernel
theorem dX2_tellLand_13 : decode cX2_tellLand 13 = .ok (.iastore, 1) := by decide +kernel
theorem dX2_tellLand_14 : decode cX2_tellLand 14 = .ok (.aload_n 0, 1) := by decide +kernel
theorem dX2_tellLand_15 : decode cX2_tellLand 15 = .ok (.getfield 19, 3) := by decide +kernel
theorem dX2_tellLand_18 : decode cX2_tellLand 18 = .ok (.iload_n 1, 1) := by decide +kernel
theorem dX2_tellLand_19 : decode cX2_tellLand 19 = .ok (.iload_n 3, 1) := by decide +kernel
theorem dX2_tellLand_20 : decode cX2_tellLand 20 = .ok (.iastore, 1) := by decide +kernel
theorem dX2_tellLand_21 : decode cX2_tellLand 21 = .ok (.aload_n 0, 1) := by decide +kernel
theorem dX2_tellLand_22 : decode cX2_tellLand 22 = .ok (.getfield 22, 3) := by decide +kernel
theorem dX2_tellLand_25 : decode cX2_tellLand 25 = .ok (.iload_n 1, 1) := by decide +kernel
theorem dX2_tellLand_26 : decode cX2_tellLand 26 = .ok (.iload 4, 2) := by decide +kernel
theorem dX2_tellLand_28 : decode cX2_tellLand 28 = .ok (.iastore, 1) := by decide +kernel
theorem dX2_tellLand_29 : decode cX2_tellLand 29 = .ok (.aload_n 0, 1) := by decide +kernel
theorem dX2_tellLand_30 : decode cX2_tellLand 30 = .ok (.iload_n 1, 1) := by decide +kernel
theorem dX2_tellLand_31 : decode cX2_tellLand 31 = .ok (.iconst 0, 1) := by decide +kernel
theorem dX2_tellLand_32 : decode cX2_tellLand 32 = .ok (.iconst 0, 1) := by decide +kernel
theorem dX2_tellLand_33 : decode cX2_tellLand 33 = .ok (.invokevirtual 46, 3) := by decide +kernel
theorem dX2_tellLand_36 : decode cX2_tellLand 36 = .ok (.return_, 1) := by decide +kernel
theorem dX2_tellWater_0 : decode cX2_tellWater 0 = .ok (.aload_n 0, 1) := by decide +kernel
theorem dX2_tellWater_1 : decode cX2_tellWater 1 = .ok (.dup, 1) := by decide +kernel
theorem dX2_tellWater_2 : decode cX2_tellWater 2 = .ok (.getfield 50, 3) := by decide +kernel
theorem dX2_tellWater_5 : decode cX2_tellWater 5 = .ok (.iload_n 2, 1) := by decide +kernel
theorem dX2_tellWater_6 : decode cX2_tellWater 6 = .ok (.aload_n 0, 1) := by decide +kernel
theorem dX2_tellWater_7 : decode cX2_tellWater 7 = .ok (.getfield 25, 3) := by decide +kernel
theorem dX2_tellWater_10 : decode cX2_tellWater 10 = .ok (.iload_n 1, 1) := by decide +kernel
theorem dX2_tellWater_11 : decode cX2_tellWater 11 = .ok (.iaload, 1) := by decide +kernel
theorem dX2_tellWater_12 : decode cX2_tellWater 12 = .ok (.isub, 1) := by decide +kernel
theorem dX2_tellWater_13 : decode cX2_tellWater 13 = .ok (.iadd, 1) := by decide +kernel
theorem dX2_tellWater_14 : decode cX2_tellWater 14 = .ok (.putfield 50, 3) := by decide +kernel
theorem dX2_tellWater_17 : decode cX2_tellWater 17 = .ok (.aload_n 0, 1) := by decide +kernel
theorem dX2_tellWater_18 : decode cX2_tellWater 18 = .ok (.getfield 25, 3) := by decide +kernel
theorem dX2_tellWater_21 : decode cX2_tellWater 21 = .ok (.iload_n 1, 1) := by decide +kernel
theorem dX2_tellWater_22 : decode cX2_tellWater 22 = .ok (.iload_n 2, 1) := by decide +kernel
theorem dX2_tellWater_23 : decode cX2_tellWater 23 = .ok (.iastore, 1) := by decide +kernel
theorem dX2_tellWater_24 : decode cX2_tellWater 24 = .ok (.aload_n 0, 1) := by decide +kernel
theorem dX2_tellWater_25 : decode cX2_tellWater 25 = .ok (.getfield 28, 3) := by decide +kernel
theorem dX2_tellWater_28 : decode cX2_tellWater 28 = .ok (.iload_n 1, 1) := by decide +kernel
theorem dX2_tellWater_29 : decode cX2_tellWater 29 = .ok (.iload_n 3, 1) := by decide +kernel
theorem dX2_tellWater_30 : decode cX2_tellWater 30 = .ok (.iastore, 1) := by decide +kernel
theorem dX2_tellWater_31 : decode cX2_tellWater 31 = .ok (.return_, 1) := by decide +kernel
theorem dX11_inRectangle_0 : decode cX11_inRectangle 0 = .ok (.iload_n 0, 1) := by decide +kernel
theorem dX11_inRectangle_1 : decode cX11_inRectangle 1 = .ok (.bipush 12, 2) := by decide +kernel
theorem dX11_inRectangle_3 : decode cX11_inRectangle 3 = .ok (.irem, 1) := by decide +kernel
theorem dX11_inRectangle_4 : decode cX11_inRectangle 4 = .ok (.iload_n 1, 1) := by decide +kernel
theorem dX11_inRectangle_5 : decode cX11_inRectangle 5 = .ok (.bipush 12, 2) := by decide +kernel
theorem dX11_inRectangle_7 : decode cX11_inRectangle 7 = .ok (.irem, 1) := by decide +kernel
theorem dX11_inRectangle_8 : decode cX11_inRectangle 8 = .ok (.iload_n 2, 1) := by decide +kernel
theorem dX11_inRectangle_9 : decode cX11_inRectangle 9 = .ok (.bipush 12, 2) := by decide +kernel
theorem dX11_inRectangle_11 : decode cX11_inRectangle 11 = .ok (.irem, 1) := by decide +kernel
theorem dX11_inRectangle_12 : decode cX11_inRectangle 12 = .ok (.invokestatic 585, 3) := by decide +kernel
theorem dX11_inRectangle_15 : decode cX11_inRectangle 15 = .ok (.ifCond .eq 25, 3) := by decide +kernel
theorem dX11_inRectangle_18 : decode cX11_inRectangle 18 = .ok (.iload_n 0, 1) := by decide +kernel
theorem dX11_inRectangle_19 : decode cX11_inRectangle 19 = .ok (.bipush 12, 2) := by decide +kernel
theorem dX11_inRectangle_21 : decode cX11_inRectangle 21 = .ok (.idiv, 1) := by decide +kernel
theorem dX11_inRectangle_22 : decode cX11_inRectangle 22 = .ok (.iload_n 1, 1) := by decide +kernel
theorem dX11_inRectangle_23 : decode cX11_inRectangle 23 = .ok (.bipush 12, 2) := by decide +kernel
theorem dX11_inRectangle_25 : decode cX11_inRectangle 25 = .ok (.idiv, 1) := by decide +kernel
theorem dX11_inRectangle_26 : decode cX11_inRectangle 26 = .ok (.iload_n 2, 1) := by decide +kernel
theorem dX11_inRectangle_27 : decode cX11_inRectangle 27 = .ok (.bipush 12, 2) := by decide +kernel
theorem dX11_inRectangle_29 : decode cX11_inRectangle 29 = .ok (.idiv, 1) := by decide +kernel
theorem dX11_inRectangle_30 : decode cX11_inRectangle 30 = .ok (.invokestatic 585, 3) := by decide +kernel
theorem dX11_inRectangle_33 : decode cX11_inRectangle 33 = .ok (.ifCond .eq 7, 3) := by decide +kernel
theorem dX11_inRectangle_36 : decode cX11_inRectangle 36 = .ok (.iconst 1, 1) := by decide +kernel
theorem dX11_inRectangle_37 : decode cX11_inRectangle 37 = .ok (.goto 4, 3) := by decide +kernel
theorem dX11_inRectangle_40 : decode cX11_inRectangle 40 = .ok (.iconst 0, 1) := by decide +kernel
theorem dX11_inRectangle_41 : decode cX11_inRectangle 41 = .ok (.ireturn, 1) := by decide +kernel
theorem dX11_isBetween_0 : decode cX11_isBetween 0 = .ok (.iload_n 1, 1) := by decide +kernel
theorem dX11_isBetween_1 : decode cX11_isBetween 1 = .ok (.iload_n 2, 1) := by decide +kernel
theorem dX11_isBetween_2 : decode cX11_isBetween 2 = .ok (.invokestatic 588, 3) := by decide +kernel
theorem dX11_isBetween_5 : decode cX11_isBetween 5 = .ok (.iload_n 0, 1) := by decide +kernel
theorem dX11_isBetween_6 : decode cX11_isBetween 6 = .ok (.if_icmp .gt 16, 3) := by decide +kernel
theorem dX11_isBetween_9 : decode cX11_isBetween 9 = .ok (.iload_n 0, 1) := by decide +kernel
theorem dX11_isBetween_10 : decode cX11_isBetween 10 = .ok (.iload_n 1, 1) := by decide +kernel
theorem dX11_isBetween_11 : decode cX11_isBetween 11 = .ok (.iload_n 2, 1) := by decide +kernel
theorem dX11_isBetween_12 : decode cX11_isBetween 12 = .ok (.invokestatic 591, 3) := by decide +kernel
theorem dX11_isBetween_15 : decode cX11_isBetween 15 = .ok (.if_icmp .gt 7, 3) := by decide +kernel
theorem dX11_isBetween_18 : decode cX11_isBetween 18 = .ok (.iconst 1, 1) := by decide +kernel
theorem dX11_isBetween_19 : decode cX11_isBetween 19 = .ok (.goto 4, 3) := by decide +kernel
theorem dX11_isBetween_22 : decode cX11_isBetween 22 = .ok (.iconst 0, 1) := by decide +kernel
theorem dX11_isBetween_23 : decode cX11_isBetween 23 = .ok (.ireturn, 1) := by decide +kernel
theorem dX11_farm_0 : decode cX11_farm 0 = .ok (.iload_n 1, 1) := by decide +kernel
theorem dX11_farm_1 : decode cX11_farm 1 = .ok (.invokestatic 55, 3) := by decide +kernel
theorem dX11_farm_4 : decode cX11_farm 4 = .ok (.iload_n 2, 1) := by decide +kernel
theorem dX11_farm_5 : decode cX11_farm 5 = .ok (.invokestatic 55, 3) := by decide +kernel
theorem dX11_farm_8 : decode cX11_farm 8 = .ok (.aload_n 0, 1) := by decide +kernel
theorem dX11_farm_9 : decode cX11_farm 9 = .ok (.getfield 30, 3) := by decide +kernel
theorem dX11_farm_12 : decode cX11_farm 12 = .ok (.iload_n 1, 1) := by decide +kernel
theorem dX11_farm_13 : decode cX11_farm 13 = .ok (.iload_n 2, 1) := by decide +kernel
theorem dX11_farm_14 : decode cX11_farm 14 = .ok (.aload_n 0, 1) := by decide +kernel
theorem dX11_farm_15 : decode cX11_farm 15 = .ok (.getfield 16, 3) := by decide +kernel
theorem dX11_farm_18 : decode cX11_farm 18 = .ok (.getfield 82, 3) := by decide +kernel
theorem dX11_farm_21 : decode cX11_farm 21 = .ok (.invokevirtual 359, 3) := by decide +kernel
theorem dX11_farm_24 : decode cX11_farm 24 = .ok (.ifCond .eq 15, 3) := by decide +kernel
theorem dX11_farm_27 : decode cX11_farm 27 = .ok (.aload_n 0, 1) := by decide +kernel
theorem dX11_farm_28 : decode cX11_farm 28 = .ok (.getfield 30, 3) := by decide +kernel
theorem dX11_farm_31 : decode cX11_farm 31 = .ok (.iload_n 1, 1) := by decide +kernel
theorem dX11_farm_32 : decode cX11_farm 32 = .ok (.iload_n 2, 1) := by decide +kernel
theorem dX11_farm_33 : decode cX11_farm 33 = .ok (.invokevirtual 363, 3) := by decide +kernel
theorem dX11_farm_36 : decode cX11_farm 36 = .ok (.goto 4, 3) := by decide +kernel
theorem dX11_farm_39 : decode cX11_farm 39 = .ok (.iconst (-1), 1) := by decide +kernel
theorem dX11_farm_40 : decode cX11_farm 40 = .ok (.ireturn, 1) := by decide +kernel
theorem dX0_farmMayBe_0 : decode cX0_farmMayBe 0 = .ok (.aload_n 0, 1) := by decide +kernel
theorem dX0_farmMayBe_1 : decode cX0_farmMayBe 1 = .ok (.getfield 143, 3) := by decide +kernel
theorem dX0_farmMayBe_4 : decode cX0_farmMayBe 4 = .ok (.bipush 30, 2) := by decide +kernel
theorem dX0_farmMayBe_6 : decode cX0_farmMayBe 6 = .ok (.if_icmp .ge 7, 3) := by decide +kernel
theorem dX0_farmMayBe_9 : decode cX0_farmMayBe 9 = .ok (.iconst 1, 1) := by decide +kernel
theorem dX0_farmMayBe_10 : decode cX0_farmMayBe 10 = .ok (.goto 4, 3) := by decide +kernel
theorem dX0_farmMayBe_13 : decode cX0_farmMayBe 13 = .ok (.iconst 0, 1) := by decide +kernel
theorem dX0_farmMayBe_14 : decode cX0_farmMayBe 14 = .ok (.istore 4, 2) := by decide +kernel
theorem dX0_farmMayBe_16 : decode cX0_farmMayBe 16 = .ok (.iconst 0, 1) := by decide +kernel
theorem dX0_farmMayBe_17 : decode cX0_farmMayBe 17 = .ok (.istore 5, 2) := by decide +kernel
theorem dX0_farmMayBe_19 : decode cX0_farmMayBe 19 = .ok (.iload 5, 2) := by decide +kernel
theorem dX0_farmMayBe_21 : decode cX0_farmMayBe 21 = .ok (.bipush 96, 2) := by decide +kernel
theorem dX0_farmMayBe_23 : decode cX0_farmMayBe 23 = .ok (.if_icmp .ge 52, 3) := by decide +kernel
theorem dX0_farmMayBe_26 : decode cX0_farmMayBe 26 = .ok (.iload 4, 2) := by decide +kernel
theorem dX0_farmMayBe_28 : decode cX0_farmMayBe 28 = .ok (.ifCond .eq 47, 3) := by decide +kernel
theorem dX0_farmMayBe_31 : decode cX0_farmMayBe 31 = .ok (.iload 5, 2) := by decide +kernel
theorem dX0_farmMayBe_33 : decode cX0_farmMayBe 33 = .ok (.iload_n 1, 1) := by decide +kernel
theorem dX0_farmMayBe_34 : decode cX0_farmMayBe 34 = .ok (.iload_n 2, 1) := by decide +kernel
theorem dX0_farmMayBe_35 : decode cX0_farmMayBe 35 = .ok (.invokestatic 146, 3) := by decide +kernel
theorem dX0_farmMayBe_38 : decode cX0_farmMayBe 38 = .ok (.ifCond .eq 31, 3) := by decide +kernel
theorem dX0_farmMayBe_41 : decode cX0_farmMayBe 41 = .ok (.aload_n 3, 1) := by decide +kernel
theorem dX0_farmMayBe_42 : decode cX0_farmMayBe 42 = .ok (.getfield 150, 3) := by decide +kernel
theorem dX0_farmMayBe_45 : decode cX0_farmMayBe 45 = .ok (.iload 5, 2) := by decide +kernel
theorem dX0_farmMayBe_47 : decode cX0_farmMayBe 47 = .ok (.baload, 1) := by decide +kernel
theorem dX0_farmMayBe_48 : decode cX0_farmMayBe 48 = .ok (.ifCond .eq 18, 3) := by decide +kernel
theorem dX0_farmMayBe_51 : decode cX0_farmMayBe 51 = .ok (.aload_n 0, 1) := by decide +kernel
theorem dX0_farmMayBe_52 : decode cX0_farmMayBe 52 = .ok (.getfield 17, 3) := by decide +kernel
theorem dX0_farmMayBe_55 : decode cX0_farmMayBe 55 = .ok (.iload 5, 2) := by decide +kernel
theorem dX0_farmMayBe_57 : decode cX0_farmMayBe 57 = .ok (.iaload, 1) := by decide +kernel
theorem dX0_farmMayBe_58 : decode cX0_farmMayBe 58 = .ok (.iconst (-1), 1) := by decide +kernel
theorem dX0_farmMayBe_59 : decode cX0_farmMayBe 59 = .ok (.if_icmp .ne 7, 3) := by decide +kernel
theorem dX0_farmMayBe_62 : decode cX0_farmMayBe 62 = .ok (.iconst 1, 1) := by decide +kernel
theorem dX0_farmMayBe_63 : decode cX0_farmMayBe 63 = .ok (.goto 4, 3) := by decide +kernel
theorem dX0_farmMayBe_66 : decode cX0_farmMayBe 66 = .ok (.iconst 0, 1) := by decide +kernel
theorem dX0_farmMayBe_67 : decode cX0_farmMayBe 67 = .ok (.istore 4, 2) := by decide +kernel
theorem dX0_farmMayBe_69 : decode cX0_farmMayBe 69 = .ok (.iinc 5 1, 3) := by decide +kernel
theorem dX0_farmMayBe_72 : decode cX0_farmMayBe 72 = .ok (.goto (-53), 3) := by decide +kernel
theorem dX0_farmMayBe_75 : decode cX0_farmMayBe 75 = .ok (.iload 4, 2) := by decide +kernel
theorem dX0_farmMayBe_77 : decode cX0_farmMayBe 77 = .ok (.ireturn, 1) := by decide +kernel
theorem dX11_hours_0 : decode cX11_hours 0 = .ok (.iload_n 1, 1) := by decide +kernel
theorem dX11_hours_1 : decode cX11_hours 1 = .ok (.iconst 0, 1) := by decide +kernel
theorem dX11_hours_2 : decode cX11_hours 2 = .ok (.sipush 240, 3) := by decide +kernel
theorem dX11_hours_5 : decode cX11_hours 5 = .ok (.invokestatic 58, 3) := by decide +kernel
theorem dX11_hours_8 : decode cX11_hours 8 = .ok (.invokestatic 62, 3) := by decide +kernel
theorem dX11_hours_11 : decode cX11_hours 11 = .ok (.iconst 0, 1) := by decide +kernel
theorem dX11_hours_12 : decode cX11_hours 12 = .ok (.istore_n 2, 1) := by decide +kernel
theorem dX11_hours_13 : decode cX11_hours 13 = .ok (.iload_n 2, 1) := by decide +kernel
theorem dX11_hours_14 : decode cX11_hours 14 = .ok (.iload_n 1, 1) := by decide +kernel
theorem dX11_hours_15 : decode cX11_hours 15 = .ok (.if_icmp .ge 39, 3) := by decide +kernel
theorem dX11_hours_18 : decode cX11_hours 18 = .ok (.aload_n 0, 1) := by decide +kernel
theorem dX11_hours_19 : decode cX11_hours 19 = .ok (.getfield 16, 3) := by decide +kernel
theorem dX11_hours_22 : decode cX11_hours 22 = .ok (.getfield 66, 3) := by decide +kernel
theorem dX11_hours_25 : decode cX11_hours 25 = .ok (.ldc 110, 2) := by decide +kernel
theorem dX11_hours_27 : decode cX11_hours 27 = .ok (.if_icmp .ge 27, 3) := by decide +kernel
theorem dX11_hours_30 : decode cX11_hours 30 = .ok (.aload_n 0, 1) := by decide +kernel
theorem dX11_hours_31 : decode cX11_hours 31 = .ok (.getfield 16, 3) := by decide +kernel
theorem dX11_hours_34 : decode cX11_hours 34 = .ok (.invokevirtual 223, 3) := by decide +kernel
theorem dX11_hours_37 : decode cX11_hours 37 = .ok (.aload_n 0, 1) := by decide +kernel
theorem dX11_hours_38 : decode cX11_hours 38 = .ok (.getfield 23, 3) := by decide +kernel
theorem dX11_hours_41 : decode cX11_hours 41 = .ok (.aload_n 0, 1) := by decide +kernel
theorem dX11_hours_42 : decode cX11_hours 42 = .ok (.getfield 16, 3) := by decide +kernel
theorem dX11_hours_45 : decode cX11_hours 45 = .ok (.invokevirtual 226, 3) := by decide +kernel
theorem dX11_hours_48 : decode cX11_hours 48 = .ok (.iinc 2 1, 3) := by decide +kernel
theorem dX11_hours_51 : decode cX11_hours 51 = .ok (.goto (-38), 3) := by decide +kernel
theorem dX11_hours_54 : decode cX11_hours 54 = .ok (.aload_n 0, 1) := by decide +kernel
theorem dX11_hours_55 : decode cX11_hours 55 = .ok (.getfield 16, 3) := by decide +kernel
theorem dX11_hours_58 : decode cX11_hours 58 = .ok (.getfield 66, 3) := by decide +kernel
theorem dX11_hours_61 : decode cX11_hours 61 = .ok (.ireturn, 1) := by decide +kernel
theorem dX3_passHour_0 : decode cX3_passHour 0 = .ok (.aload_n 0, 1) := by decide +kernel
theorem dX3_passHour_1 : decode cX3_passHour 1 = .ok (.dup, 1) := by decide +kernel
theorem dX3_passHour_2 : decode cX3_passHour 2 = .ok (.getfield 32, 3) := by decide +kernel
theorem dX3_passHour_5 : decode cX3_passHour 5 = .ok (.iconst 1, 1) := by decide +kernel
theorem dX3_passHour_6 : decode cX3_passHour 6 = .ok (.iadd, 1) := by decide +kernel
theorem dX3_passHour_7 : decode cX3_passHour 7 = .ok (.putfield 32, 3) := by decide +kernel
theorem dX3_passHour_10 : decode cX3_passHour 10 = .ok (.aload_n 0, 1) := by decide +kernel
theorem dX3_passHour_11 : decode cX3_passHour 11 = .ok (.getfield 12, 3) := by decide +kernel
theorem dX3_passHour_14 : decode cX3_passHour 14 = .ok (.aload_n 0, 1) := by decide +kernel
theorem dX3_passHour_15 : decode cX3_passHour 15 = .ok (.getfield 32, 3) := by decide +kernel
theorem dX3_passHour_18 : decode cX3_passHour 18 = .ok (.invokevirtual 44, 3) := by decide +kernel
theorem dX3_passHour_21 : decode cX3_passHour 21 = .ok (.istore_n 1, 1) := by decide +kernel
theorem dX3_passHour_22 : decode cX3_passHour 22 = .ok (.aload_n 0, 1) := by decide +kernel
theorem dX3_passHour_23 : decode cX3_passHour 23 = .ok (.getfield 21, 3) := by decide +kernel
theorem dX3_passHour_26 : decode cX3_passHour 26 = .ok (.aload_n 0, 1) := by decide +kernel
theorem dX3_passHour_27 : decode cX3_passHour 27 = .ok (.getfield 12, 3) := by decide +kernel
theorem dX3_passHour_30 : decode cX3_passHour 30 = .ok (.aload_n 0, 1) := by decide +kernel
theorem dX3_passHour_31 : decode cX3_passHour 31 = .ok (.getfield 32, 3) := by decide +kernel
theorem dX3_passHour_34 : decode cX3_passHour 34 = .ok (.invokevirtual 103, 3) := by decide +kernel
theorem dX3_passHour_37 : decode cX3_passHour 37 = .ok (.invokevirtual 106, 3) := by decide +kernel
theorem dX3_passHour_40 : decode cX3_passHour 40 = .ok (.iconst 0, 1) := by decide +kernel
theorem dX3_passHour_41 : decode cX3_passHour 41 = .ok (.istore_n 2, 1) := by decide +kernel
theorem dX3_passHour_42 : decode cX3_passHour 42 = .ok (.iload_n 2, 1) := by decide +kernel
theorem dX3_passHour_43 : decode cX3_passHour 43 = .ok (.aload_n 0, 1) := by decide +kernel
theorem dX3_passHour_44 : decode cX3_passHour 44 = .ok (.getfield 47, 3) := by decide +kernel
theorem dX3_passHour_47 : decode cX3_passHour 47 = .ok (.if_icmp .ge 32, 3) := by decide +kernel
theorem dX3_passHour_50 : decode cX3_passHour 50 = .ok (.aload_n 0, 1) := by decide +kernel
theorem dX3_passHour_51 : decode cX3_passHour 51 = .ok (.getfield 27, 3) := by decide +kernel
theorem dX3_passHour_54 : decode cX3_passHour 54 = .ok (.iload_n 2, 1) := by decide +kernel
theorem dX3_passHour_55 : decode cX3_passHour 55 = .ok (.aaload, 1) := by decide +kernel
theorem dX3_passHour_56 : decode cX3_passHour 56 = .ok (.invokevirtual 67, 3) := by decide +kernel
theorem dX3_passHour_59 : decode cX3_passHour 59 = .ok (.ifCond .eq 14, 3) := by decide +kernel
theorem dX3_passHour_62 : decode cX3_passHour 62 = .ok (.aload_n 0, 1) := by decide +kernel
theorem dX3_passHour_63 : decode cX3_passHour 63 = .ok (.aload_n 0, 1) := by decide +kernel
theorem dX3_passHour_64 : decode cX3_passHour 64 = .ok (.getfield 27, 3) := by decide +kernel
theorem dX3_passHour_67 : decode cX3_passHour 67 = .ok (.iload_n 2, 1) := by decide +kernel
theorem dX3_passHour_68 : decode cX3_passHour 68 = .ok (.aaload, 1) := by decide +kernel
theorem dX3_passHour_69 : decode cX3_passHour 69 = .ok (.iload_n 1, 1) := by decide +kernel
theorem dX3_passHour_70 : decode cX3_passHour 70 = .ok (.invokevirtual 110, 3) := by decide +kernel
theorem dX3_passHour_73 : decode cX3_passHour 73 = .ok (.iinc 2 1, 3) := by decide +kernel
theorem dX3_passHour_76 : decode cX3_passHour 76 = .ok (.goto (-34), 3) := by decide +kernel
theorem dX3_passHour_79 : decode cX3_passHour 79 = .ok (.iconst 0, 1) := by decide +kernel
theorem dX3_passHour_80 : decode cX3_passHour 80 = .ok (.istore_n 2, 1) := by decide +kernel
theorem dX3_passHour_81 : decode cX3_passHour 81 = .ok (.iload_n 2, 1) := by decide +kernel
theorem dX3_passHour_82 : decode cX3_passHour 82 = .ok (.aload_n 0, 1) := by decide +kernel
theorem dX3_passHour_83 : decode cX3_passHour 83 = .ok (.getfield 47, 3) := by decide +kernel
theorem dX3_passHour_86 : decode cX3_passHour 86 = .ok (.if_icmp .ge 33, 3) := by decide +kernel
theorem dX3_passHour_89 : decode cX3_passHour 89 = .ok (.aload_n 0, 1) := by decide +kernel
theorem dX3_passHour_90 : decode cX3_passHour 90 = .ok (.getfield 27, 3) := by decide +kernel
theorem dX3_passHour_93 : decode cX3_passHour 93 = .ok (.iload_n 2, 1) := by decide +kernel
theorem dX3_passHour_94 : decode cX3_passHour 94 = .ok (.aaload, 1) := by decide +kernel
theorem dX3_passHour_95 : decode cX3_passHour 95 = .ok (.getfield 64, 3) := by decide +kernel
theorem dX3_passHour_98 : decode cX3_passHour 98 = .ok (.iconst 4, 1) := by decide +kernel
theorem dX3_passHour_99 : decode cX3_passHour 99 = .ok (.if_icmp .ne 14, 3) := by decide +kernel
theorem dX3_passHour_102 : decode cX3_passHour 102 = .ok (.aload_n 0, 1) := by decide +kernel
theorem dX3_passHour_103 : decode cX3_passHour 103 = .ok (.aload_n 0, 1) := by decide +kernel
theorem dX3_passHour_104 : decode cX3_passHour 104 = .ok (.getfield 27, 3) := by decide +kernel
theorem dX3_passHour_107 : decode cX3_passHour 107 = .ok (.iload_n 2, 1) := by decide +kernel
theorem dX3_passHour_108 : decode cX3_passHour 108 = .ok (.aaload, 1) := by decide +kernel
theorem dX3_passHour_109 : decode cX3_passHour 109 = .ok (.iload_n 1, 1) := by decide +kernel
theorem dX3_passHour_110 : decode cX3_passHour 110 = .ok (.invokevirtual 114, 3) := by decide +kernel
theorem dX3_passHour_113 : decode cX3_passHour 113 = .ok (.iinc 2 1, 3) := by decide +kernel
theorem dX3_passHour_116 : decode cX3_passHour 116 = .ok (.goto (-35), 3) := by decide +kernel
theorem dX3_passHour_119 : decode cX3_passHour 119 = .ok (.aload_n 0, 1) := by decide +kernel
theorem dX3_passHour_120 : decode cX3_passHour 120 = .ok (.getfield 21, 3) := by decide +kernel
theorem dX3_passHour_123 : decode cX3_passHour 123 = .ok (.invokevirtual 117, 3) := by decide +kernel
theorem dX3_passHour_126 : decode cX3_passHour 126 = .ok (.aload_n 0, 1) := by decide +kernel
theorem dX3_passHour_127 : decode cX3_passHour 127 = .ok (.aload_n 0, 1) := by decide +kernel
theorem dX3_passHour_128 : decode cX3_passHour 128 = .ok (.getfield 12, 3) := by decide +kernel
theorem dX3_passHour_131 : decode cX3_passHour 131 = .ok (.aload_n 0, 1) := by decide +kernel
theorem dX3_passHour_132 : decode cX3_passHour 132 = .ok (.getfield 32, 3) := by decide +kernel
theorem dX3_passHour_135 : decode cX3_passHour 135 = .ok (.invokevirtual 120, 3) := by decide +kernel
theorem dX3_passHour_138 : decode cX3_passHour 138 = .ok (.invokevirtual 123, 3) := by decide +kernel
theorem dX3_passHour_141 : decode cX3_passHour 141 = .ok (.aload_n 0, 1) := by decide +kernel
theorem dX3_passHour_142 : decode cX3_passHour 142 = .ok (.getfield 32, 3) := by decide +kernel
theorem dX3_passHour_145 : decode cX3_passHour 145 = .ok (.bipush 24, 2) := by decide +kernel
theorem dX3_passHour_147 : decode cX3_passHour 147 = .ok (.irem, 1) := by decide +kernel
theorem dX3_passHour_148 : decode cX3_passHour 148 = .ok (.ifCond .ne 10, 3) := by decide +kernel
theorem dX3_passHour_151 : decode cX3_passHour 151 = .ok (.aload_n 0, 1) := by decide +kernel
theorem dX3_passHour_152 : decode cX3_passHour 152 = .ok (.getfield 21, 3) := by decide +kernel
theorem dX3_passHour_155 : decode cX3_passHour 155 = .ok (.invokevirtual 126, 3) := by decide +kernel
theorem dX3_passHour_158 : decode cX3_passHour 158 = .ok (.return_, 1) := by decide +kernel
theorem dX2_rainOnLand_0 : decode cX2_rainOnLand 0 = .ok (.iconst 0, 1) := by decide +kernel
theorem dX2_rainOnLand_1 : decode cX2_rainOnLand 1 = .ok (.istore_n 2, 1) := by decide +kernel
theorem dX2_rainOnLand_2 : decode cX2_rainOnLand 2 = .ok (.iload_n 2, 1) := by decide +kernel
theorem dX2_rainOnLand_3 : decode cX2_rainOnLand 3 = .ok (.bipush 96, 2) := by decide +kernel
theorem dX2_rainOnLand_5 : decode cX2_rainOnLand 5 = .ok (.if_icmp .ge 38, 3) := by decide +kernel
theorem dX2_rainOnLand_8 : decode cX2_rainOnLand 8 = .ok (.aload_n 0, 1) := by decide +kernel
theorem dX2_rainOnLand_9 : decode cX2_rainOnLand 9 = .ok (.getfield 9, 3) := by decide +kernel
theorem dX2_rainOnLand_12 : decode cX2_rainOnLand 12 = .ok (.iload_n 2, 1) := by decide +kernel
theorem dX2_rainOnLand_13 : decode cX2_rainOnLand 13 = .ok (.baload, 1) := by decide +kernel
theorem dX2_rainOnLand_14 : decode cX2_rainOnLand 14 = .ok (.ifCond .eq 23, 3) := by decide +kernel
theorem dX2_rainOnLand_17 : decode cX2_rainOnLand 17 = .ok (.aload_n 0, 1) := by decide +kernel
theorem dX2_rainOnLand_18 : decode cX2_rainOnLand 18 = .ok (.getfield 25, 3) := by decide +kernel
theorem dX2_rainOnLand_21 : decode cX2_rainOnLand 21 = .ok (.iload_n 2, 1) := by decide +kernel
theorem dX2_rainOnLand_22 : decode cX2_rainOnLand 22 = .ok (.dup2, 1) := by decide +kernel
theorem dX2_rainOnLand_23 : decode cX2_rainOnLand 23 = .ok (.iaload, 1) := by decide +kernel
theorem dX2_rainOnLand_24 : decode cX2_rainOnLand 24 = .ok (.iload_n 1, 1) := by decide +kernel
theorem dX2_rainOnLand_25 : decode cX2_rainOnLand 25 = .ok (.iadd, 1) := by decide +kernel
theorem dX2_rainOnLand_26 : decode cX2_rainOnLand 26 = .ok (.iastore, 1) := by decide +kernel
theorem dX2_rainOnLand_27 : decode cX2_rainOnLand 27 = .ok (.aload_n 0, 1) := by decide +kernel
theorem dX2_rainOnLand_28 : decode cX2_rainOnLand 28 = .ok (.dup, 1) := by decide +kernel
theorem dX2_rainOnLand_29 : decode cX2_rainOnLand 29 = .ok (.getfield 54, 3) := by decide +kernel
theorem dX2_rainOnLand_32 : decode cX2_rainOnLand 32 = .ok (.iload_n 1, 1) := by decide +kernel
theorem dX2_rainOnLand_33 : decode cX2_rainOnLand 33 = .ok (.iadd, 1) := by decide +kernel
theorem dX2_rainOnLand_34 : decode cX2_rainOnLand 34 = .ok (.putfield 54, 3) := by decide +kernel
theorem dX2_rainOnLand_37 : decode cX2_rainOnLand 37 = .ok (.iinc 2 1, 3) := by decide +kernel
theorem dX2_rainOnLand_40 : decode cX2_rainOnLand 40 = .ok (.goto (-38), 3) := by decide +kernel
theorem dX2_rainOnLand_43 : decode cX2_rainOnLand 43 = .ok (.return_, 1) := by decide +kernel
theorem dX2_runDitches_0 : decode cX2_runDitches 0 = .ok (.iconst 0, 1) := by decide +kernel
theorem dX2_runDitches_1 : decode cX2_runDitches 1 = .ok (.istore_n 1, 1) := by decide +kernel
theorem dX2_runDitches_2 : decode cX2_runDitches 2 = .ok (.iload_n 1, 1) := by decide +kernel
theorem dX2_runDitches_3 : decode cX2_runDitches 3 = .ok (.bipush 96, 2) := by decide +kernel
theorem dX2_runDitches_5 : decode cX2_runDitches 5 = .ok (.if_icmp .ge 14, 3) := by decide +kernel
theorem dX2_runDitches_8 : decode cX2_runDitches 8 = .ok (.aload_n 0, 1) := by decide +kernel
theorem dX2_runDitches_9 : decode cX2_runDitches 9 = .ok (.iload_n 1, 1) := by decide +kernel
theorem dX2_runDitches_10 : decode cX2_runDitches 10 = .ok (.invokevirtual 71, 3) := by decide +kernel
theorem dX2_runDitches_13 : decode cX2_runDitches 13 = .ok (.iinc 1 1, 3) := by decide +kernel
theorem dX2_runDitches_16 : decode cX2_runDitches 16 = .ok (.goto (-14), 3) := by decide +kernel
theorem dX2_runDitches_19 : decode cX2_runDitches 19 = .ok (.iconst 0, 1) := by decide +kernel
theorem dX2_runDitches_20 : decode cX2_runDitches 20 = .ok (.istore_n 1, 1) := by decide +kernel
theorem dX2_runDitches_21 : decode cX2_runDitches 21 = .ok (.iload_n 1, 1) := by decide +kernel
theorem dX2_runDitches_22 : decode cX2_runDitches 22 = .ok (.bipush 96, 2) := by decide +kernel
theorem dX2_runDitches_24 : decode cX2_runDitches 24 = .ok (.if_icmp .ge 81, 3) := by decide +kernel
theorem dX2_runDitches_27 : decode cX2_runDitches 27 = .ok (.aload_n 0, 1) := by decide +kernel
theorem dX2_runDitches_28 : decode cX2_runDitches 28 = .ok (.getfield 37, 3) := by decide +kernel
theorem dX2_runDitches_31 : decode cX2_runDitches 31 = .ok (.iload_n 1, 1) := by decide +kernel
theorem dX2_runDitches_32 : decode cX2_runDitches 32 = .ok (.iaload, 1) := by decide +kernel
theorem dX2_runDitches_33 : decode cX2_runDitches 33 = .ok (.istore_n 2, 1) := by decide +kernel
theorem dX2_runDitches_34 : decode cX2_runDitches 34 = .ok (.iload_n 2, 1) := by decide +kernel
theorem dX2_runDitches_35 : decode cX2_runDitches 35 = .ok (.iconst (-1), 1) := by decide +kernel
theorem dX2_runDitches_36 : decode cX2_runDitches 36 = .ok (.if_icmp .eq 63, 3) := by decide +kernel
theorem dX2_runDitches_39 : decode cX2_runDitches 39 = .ok (.aload_n 0, 1) := by decide +kernel
theorem dX2_runDitches_40 : decode cX2_runDitches 40 = .ok (.getfield 25, 3) := by decide +kernel
theorem dX2_runDitches_43 : decode cX2_runDitches 43 = .ok (.iload_n 1, 1) := by decide +kernel
theorem dX2_runDitches_44 : decode cX2_runDitches 44 = .ok (.dup2, 1) := by decide +kernel
theorem dX2_runDitches_45 : decode cX2_runDitches 45 = .ok (.iaload, 1) := by decide +kernel
theorem dX2_runDitches_46 : decode cX2_runDitches 46 = .ok (.aload_n 0, 1) := by decide +kernel
theorem dX2_runDitches_47 : decode cX2_runDitches 47 = .ok (.getfield 40, 3) := by decide +kernel
theorem dX2_runDitches_50 : decode cX2_runDitches 50 = .ok (.iload_n 1, 1) := by decide +kernel
theorem dX2_runDitches_51 : decode cX2_runDitches 51 = .ok (.iaload, 1) := by decide +kernel
theorem dX2_runDitches_52 : decode cX2_runDitches 52 = .ok (.isub, 1) := by decide +kernel
theorem dX2_runDitches_53 : decode cX2_runDitches 53 = .ok (.iastore, 1) := by decide +kernel
theorem dX2_runDitches_54 : decode cX2_runDitches 54 = .ok (.aload_n 0, 1) := by decide +kernel
theorem dX2_runDitches_55 : decode cX2_runDitches 55 = .ok (.getfield 28, 3) := by decide +kernel
theorem dX2_runDitches_58 : decode cX2_runDitches 58 = .ok (.iload_n 1, 1) := by decide +kernel
theorem dX2_runDitches_59 : decode cX2_runDitches 59 = .ok (.dup2, 1) := by decide +kernel
theorem dX2_runDitches_60 : decode cX2_runDitches 60 = .ok (.iaload, 1) := by decide +kernel
theorem dX2_runDitches_61 : decode cX2_runDitches 61 = .ok (.aload_n 0, 1) := by decide +kernel
theorem dX2_runDitches_62 : decode cX2_runDitches 62 = .ok (.getfield 43, 3) := by decide +kernel
theorem dX2_runDitches_65 : decode cX2_runDitches 65 = .ok (.iload_n 1, 1) := by decide +kernel
theorem dX2_runDitches_66 : decode cX2_runDitches 66 = .ok (.iaload, 1) := by decide +kernel
theorem dX2_runDitches_67 : decode cX2_runDitches 67 = .ok (.isub, 1) := by decide +kernel
theorem dX2_runDitches_68 : decode cX2_runDitches 68 = .ok (.iastore, 1) := by decide +kernel
theorem dX2_runDitches_69 : decode cX2_runDitches 69 = .ok (.aload_n 0, 1) := by decide +kernel
theorem dX2_runDitches_70 : decode cX2_runDitches 70 = .ok (.getfield 25, 3) := by decide +kernel
theorem dX2_runDitches_73 : decode cX2_runDitches 73 = .ok (.iload_n 2, 1) := by decide +kernel
theorem dX2_runDitches_74 : decode cX2_runDitches 74 = .ok (.dup2, 1) := by decide +kernel
theorem dX2_runDitches_75 : decode cX2_runDitches 75 = .ok (.iaload, 1) := by decide +kernel
theorem dX2_runDitches_76 : decode cX2_runDitches 76 = .ok (.aload_n 0, 1) := by decide +kernel
theorem dX2_runDitches_77 : decode cX2_runDitches 77 = .ok (.getfield 40, 3) := by decide +kernel
theorem dX2_runDitches_80 : decode cX2_runDitches 80 = .ok (.iload_n 1, 1) := by decide +kernel
theorem dX2_runDitches_81 : decode cX2_runDitches 81 = .ok (.iaload, 1) := by decide +kernel
theorem dX2_runDitches_82 : decode cX2_runDitches 82 = .ok (.iadd, 1) := by decide +kernel
theorem dX2_runDitches_83 : decode cX2_runDitches 83 = .ok (.iastore, 1) := by decide +kernel
theorem dX2_runDitches_84 : decode cX2_runDitches 84 = .ok (.aload_n 0, 1) := by decide +kernel
theorem dX2_runDitches_85 : decode cX2_runDitches 85 = .ok (.getfield 28, 3) := by decide +kernel
theorem dX2_runDitches_88 : decode cX2_runDitches 88 = .ok (.iload_n 2, 1) := by decide +kernel
theorem dX2_runDitches_89 : decode cX2_runDitches 89 = .ok (.dup2, 1) := by decide +kernel
theorem dX2_runDitches_90 : decode cX2_runDitches 90 = .ok (.iaload, 1) := by decide +kernel
theorem dX2_runDitches_91 : decode cX2_runDitches 91 = .ok (.aload_n 0, 1) := by decide +kernel
theorem dX2_runDitches_92 : decode cX2_runDitches 92 = .ok (.getfield 43, 3) := by decide +kernel
theorem dX2_runDitches_95 : decode cX2_runDitches 95 = .ok (.iload_n 1, 1) := by decide +kernel
theorem dX2_runDitches_96 : decode cX2_runDitches 96 = .ok (.iaload, 1) := by decide +kernel
theorem dX2_runDitches_97 : decode cX2_runDitches 97 = .ok (.iadd, 1) := by decide +kernel
theorem dX2_runDitches_98 : decode cX2_runDitches 98 = .ok (.iastore, 1) := by decide +kernel
theorem dX2_runDitches_99 : decode cX2_runDitches 99 = .ok (.iinc 1 1, 3) := by decide +kernel
theorem dX2_runDitches_102 : decode cX2_runDitches 102 = .ok (.goto (-81), 3) := by decide +kernel
theorem dX2_runDitches_105 : decode cX2_runDitches 105 = .ok (.return_, 1) := by decide +kernel
theorem dX2_reckonDitch_0 : decode cX2_reckonDitch 0 = .ok (.aload_n 0, 1) := by decide +kernel
theorem dX2_reckonDitch_1 : decode cX2_reckonDitch 1 = .ok (.getfield 22, 3) := by decide +kernel
theorem dX2_reckonDitch_4 : decode cX2_reckonDitch 4 = .ok (.iload_n 1, 1) := by decide +kernel
theorem dX2_reckonDitch_5 : decode cX2_reckonDitch 5 = .ok (.iaload, 1) := by decide +kernel
theorem dX2_reckonDitch_6 : decode cX2_reckonDitch 6 = .ok (.ifCond .le 11, 3) := by decide +kernel
theorem dX2_reckonDitch_9 : decode cX2_reckonDitch 9 = .ok (.aload_n 0, 1) := by decide +kernel
theorem dX2_reckonDitch_10 : decode cX2_reckonDitch 10 = .ok (.iload_n 1, 1) := by decide +kernel
theorem dX2_reckonDitch_11 : decode cX2_reckonDitch 11 = .ok (.invokevirtual 75, 3) := by decide +kernel
theorem dX2_reckonDitch_14 : decode cX2_reckonDitch 14 = .ok (.goto 4, 3) := by decide +kernel
theorem dX2_reckonDitch_17 : decode cX2_reckonDitch 17 = .ok (.iconst (-1), 1) := by decide +kernel
theorem dX2_reckonDitch_18 : decode cX2_reckonDitch 18 = .ok (.istore_n 2, 1) := by decide +kernel
theorem dX2_reckonDitch_19 : decode cX2_reckonDitch 19 = .ok (.aload_n 0, 1) := by decide +kernel
theorem dX2_reckonDitch_20 : decode cX2_reckonDitch 20 = .ok (.getfield 37, 3) := by decide +kernel
theorem dX2_reckonDitch_23 : decode cX2_reckonDitch 23 = .ok (.iload_n 1, 1) := by decide +kernel
theorem dX2_reckonDitch_24 : decode cX2_reckonDitch 24 = .ok (.iload_n 2, 1) := by decide +kernel
theorem dX2_reckonDitch_25 : decode cX2_reckonDitch 25 = .ok (.iastore, 1) := by decide +kernel
theorem dX2_reckonDitch_26 : decode cX2_reckonDitch 26 = .ok (.iload_n 2, 1) := by decide +kernel
theorem dX2_reckonDitch_27 : decode cX2_reckonDitch 27 = .ok (.iconst (-1), 1) := by decide +kernel
theorem dX2_reckonDitch_28 : decode cX2_reckonDitch 28 = .ok (.if_icmp .eq 72, 3) := by decide +kernel
theorem dX2_reckonDitch_31 : decode cX2_reckonDitch 31 = .ok (.aload_n 0, 1) := by decide +kernel
theorem dX2_reckonDitch_32 : decode cX2_reckonDitch 32 = .ok (.iload_n 1, 1) := by decide +kernel
theorem dX2_reckonDitch_33 : decode cX2_reckonDitch 33 = .ok (.invokevirtual 79, 3) := by decide +kernel
theorem dX2_reckonDitch_36 : decode cX2_reckonDitch 36 = .ok (.aload_n 0, 1) := by decide +kernel
theorem dX2_reckonDitch_37 : decode cX2_reckonDitch 37 = .ok (.iload_n 2, 1) := by decide +kernel
theorem dX2_reckonDitch_38 : decode cX2_reckonDitch 38 = .ok (.invokevirtual 79, 3) := by decide +kernel
theorem dX2_reckonDitch_41 : decode cX2_reckonDitch 41 = .ok (.isub, 1) := by decide +kernel
theorem dX2_reckonDitch_42 : decode cX2_reckonDitch 42 = .ok (.iconst 2, 1) := by decide +kernel
theorem dX2_reckonDitch_43 : decode cX2_reckonDitch 43 = .ok (.idiv, 1) := by decide +kernel
theorem dX2_reckonDitch_44 : decode cX2_reckonDitch 44 = .ok (.istore_n 3, 1) := by decide +kernel
theorem dX2_reckonDitch_45 : decode cX2_reckonDitch 45 = .ok (.aload_n 0, 1) := by decide +kernel
theorem dX2_reckonDitch_46 : decode cX2_reckonDitch 46 = .ok (.getfield 22, 3) := by decide +kernel
theorem dX2_reckonDitch_49 : decode cX2_reckonDitch 49 = .ok (.iload_n 1, 1) := by decide +kernel
theorem dX2_reckonDitch_50 : decode cX2_reckonDitch 50 = .ok (.iaload, 1) := by decide +kernel
theorem dX2_reckonDitch_51 : decode cX2_reckonDitch 51 = .ok (.aload_n 0, 1) := by decide +kernel
theorem dX2_reckonDitch_52 : decode cX2_reckonDitch 52 = .ok (.getfield 22, 3) := by decide +kernel
theorem dX2_reckonDitch_55 : decode cX2_reckonDitch 55 = .ok (.iload_n 2, 1) := by decide +kernel
theorem dX2_reckonDitch_56 : decode cX2_reckonDitch 56 = .ok (.iaload, 1) := by decide +kernel
theorem dX2_reckonDitch_57 : decode cX2_reckonDitch 57 = .ok (.invokestatic 82, 3) := by decide +kernel
theorem dX2_reckonDitch_60 : decode cX2_reckonDitch 60 = .ok (.aload_n 0, 1) := by decide +kernel
theorem dX2_reckonDitch_61 : decode cX2_reckonDitch 61 = .ok (.getfield 25, 3) := by decide +kernel
theorem dX2_reckonDitch_64 : decode cX2_reckonDitch 64 = .ok (.iload_n 1, 1) := by decide +kernel
theorem dX2_reckonDitch_65 : decode cX2_reckonDitch 65 = .ok (.iaload, 1) := by decide +kernel
theorem dX2_reckonDitch_66 : decode cX2_reckonDitch 66 = .ok (.invokestatic 82, 3) := by decide +kernel
theorem dX2_reckonDitch_69 : decode cX2_reckonDitch 69 = .ok (.istore 4, 2) := by decide +kernel
theorem dX2_reckonDitch_71 : decode cX2_reckonDitch 71 = .ok (.aload_n 0, 1) := by decide +kernel
theorem dX2_reckonDitch_72 : decode cX2_reckonDitch 72 = .ok (.getfield 40, 3) := by decide +kernel
theorem dX2_reckonDitch_75 : decode cX2_reckonDitch 75 = .ok (.iload_n 1, 1) := by decide +kernel
theorem dX2_reckonDitch_76 : decode cX2_reckonDitch 76 = .ok (.iload_n 3, 1) := by decide +kernel
theorem dX2_reckonDitch_77 : decode cX2_reckonDitch 77 = .ok (.iload 4, 2) := by decide +kernel
theorem dX2_reckonDitch_79 : decode cX2_reckonDitch 79 = .ok (.invokestatic 82, 3) := by decide +kernel
theorem dX2_reckonDitch_82 : decode cX2_reckonDitch 82 = .ok (.iastore, 1) := by decide +kernel
theorem dX2_reckonDitch_83 : decode cX2_reckonDitch 83 = .ok (.aload_n 0, 1) := by decide +kernel
theorem dX2_reckonDitch_84 : decode cX2_reckonDitch 84 = .ok (.getfield 43, 3) := by decide +kernel
theorem dX2_reckonDitch_87 : decode cX2_reckonDitch 87 = .ok (.iload_n 1, 1) := by decide +kernel
theorem dX2_reckonDitch_88 : decode cX2_reckonDitch 88 = .ok (.aload_n 0, 1) := by decide +kernel
theorem dX2_reckonDitch_89 : decode cX2_reckonDitch 89 = .ok (.iload_n 1, 1) := by decide +kernel
theorem dX2_reckonDitch_90 : decode cX2_reckonDitch 90 = .ok (.aload_n 0, 1) := by decide +kernel
theorem dX2_reckonDitch_91 : decode cX2_reckonDitch 91 = .ok (.getfield 40, 3) := by decide +kernel
theorem dX2_reckonDitch_94 : decode cX2_reckonDitch 94 = .ok (.iload_n 1, 1) := by decide +kernel
theorem dX2_reckonDitch_95 : decode cX2_reckonDitch 95 = .ok (.iaload, 1) := by decide +kernel
theorem dX2_reckonDitch_96 : decode cX2_reckonDitch 96 = .ok (.invokevirtual 60, 3) := by decide +kernel
theorem dX2_reckonDitch_99 : decode cX2_reckonDitch 99 = .ok (.iastore, 1) := by decide +kernel
theorem dX2_reckonDitch_100 : decode cX2_reckonDitch 100 = .ok (.return_, 1) := by decide +kernel
theorem dX3_runMills_0 : decode cX3_runMills 0 = .ok (.iconst 0, 1) := by decide +kernel
theorem dX3_runMills_1 : decode cX3_runMills 1 = .ok (.istore_n 2, 1) := by decide +kernel
theorem dX3_runMills_2 : decode cX3_runMills 2 = .ok (.iload_n 2, 1) := by decide +kernel
theorem dX3_runMills_3 : decode cX3_runMills 3 = .ok (.aload_n 0, 1) := by decide +kernel
theorem dX3_runMills_4 : decode cX3_runMills 4 = .ok (.getfield 47, 3) := by decide +kernel
theorem dX3_runMills_7 : decode cX3_runMills 7 = .ok (.if_icmp .ge 72, 3) := by decide +kernel
theorem dX3_runMills_10 : decode cX3_runMills 10 = .ok (.aload_n 0, 1) := by decide +kernel
theorem dX3_runMills_11 : decode cX3_runMills 11 = .ok (.getfield 27, 3) := by decide +kernel
theorem dX3_runMills_14 : decode cX3_runMills 14 = .ok (.iload_n 2, 1) := by decide +kernel
theorem dX3_runMills_15 : decode cX3_runMills 15 = .ok (.aaload, 1) := by decide +kernel
theorem dX3_runMills_16 : decode cX3_runMills 16 = .ok (.getfield 64, 3) := by decide +kernel
theorem dX3_runMills_19 : decode cX3_runMills 19 = .ok (.iconst 2, 1) := by decide +kernel
theorem dX3_runMills_20 : decode cX3_runMills 20 = .ok (.if_icmp .ne 30, 3) := by decide +kernel
theorem dX3_runMills_23 : decode cX3_runMills 23 = .ok (.aload_n 0, 1) := by decide +kernel
theorem dX3_runMills_24 : decode cX3_runMills 24 = .ok (.aload_n 0, 1) := by decide +kernel
theorem dX3_runMills_25 : decode cX3_runMills 25 = .ok (.getfield 27, 3) := by decide +kernel
theorem dX3_runMills_28 : decode cX3_runMills 28 = .ok (.iload_n 2, 1) := by decide +kernel
theorem dX3_runMills_29 : decode cX3_runMills 29 = .ok (.aaload, 1) := by decide +kernel
theorem dX3_runMills_30 : decode cX3_runMills 30 = .ok (.aload_n 0, 1) := by decide +kernel
theorem dX3_runMills_31 : decode cX3_runMills 31 = .ok (.getfield 27, 3) := by decide +kernel
theorem dX3_runMills_34 : decode cX3_runMills 34 = .ok (.iload_n 2, 1) := by decide +kernel
theorem dX3_runMills_35 : decode cX3_runMills 35 = .ok (.aaload, 1) := by decide +kernel
theorem dX3_runMills_36 : decode cX3_runMills 36 = .ok (.getfield 91, 3) := by decide +kernel
theorem dX3_runMills_39 : decode cX3_runMills 39 = .ok (.iload_n 1, 1) := by decide +kernel
theorem dX3_runMills_40 : decode cX3_runMills 40 = .ok (.imul, 1) := by decide +kernel
theorem dX3_runMills_41 : decode cX3_runMills 41 = .ok (.bipush 10, 2) := by decide +kernel
theorem dX3_runMills_43 : decode cX3_runMills 43 = .ok (.idiv, 1) := by decide +kernel
theorem dX3_runMills_44 : decode cX3_runMills 44 = .ok (.invokevirtual 161, 3) := by decide +kernel
theorem dX3_runMills_47 : decode cX3_runMills 47 = .ok (.goto 26, 3) := by decide +kernel
theorem dX3_runMills_50 : decode cX3_runMills 50 = .ok (.aload_n 0, 1) := by decide +kernel
theorem dX3_runMills_51 : decode cX3_runMills 51 = .ok (.getfield 27, 3) := by decide +kernel
theorem dX3_runMills_54 : decode cX3_runMills 54 = .ok (.iload_n 2, 1) := by decide +kernel
theorem dX3_runMills_55 : decode cX3_runMills 55 = .ok (.aaload, 1) := by decide +kernel
theorem dX3_runMills_56 : decode cX3_runMills 56 = .ok (.getfield 64, 3) := by decide +kernel
theorem dX3_runMills_59 : decode cX3_runMills 59 = .ok (.iconst 3, 1) := by decide +kernel
theorem dX3_runMills_60 : decode cX3_runMills 60 = .ok (.if_icmp .ne 13, 3) := by decide +kernel
theorem dX3_runMills_63 : decode cX3_runMills 63 = .ok (.aload_n 0, 1) := by decide +kernel
theorem dX3_runMills_64 : decode cX3_runMills 64 = .ok (.aload_n 0, 1) := by decide +kernel
theorem dX3_runMills_65 : decode cX3_runMills 65 = .ok (.getfield 27, 3) := by decide +kernel
theorem dX3_runMills_68 : decode cX3_runMills 68 = .ok (.iload_n 2, 1) := by decide +kernel
theorem dX3_runMills_69 : decode cX3_runMills 69 = .ok (.aaload, 1) := by decide +kernel
theorem dX3_runMills_70 : decode cX3_runMills 70 = .ok (.invokevirtual 164, 3) := by decide +kernel
theorem dX3_runMills_73 : decode cX3_runMills 73 = .ok (.iinc 2 1, 3) := by decide +kernel
theorem dX3_runMills_76 : decode cX3_runMills 76 = .ok (.goto (-74), 3) := by decide +kernel
theorem dX3_runMills_79 : decode cX3_runMills 79 = .ok (.return_, 1) := by decide +kernel
theorem dX2_endDay_0 : decode cX2_endDay 0 = .ok (.iconst 0, 1) := by decide +kernel
theorem dX2_endDay_1 : decode cX2_endDay 1 = .ok (.istore_n 1, 1) := by decide +kernel
theorem dX2_endDay_2 : decode cX2_endDay 2 = .ok (.iload_n 1, 1) := by decide +kernel
theorem dX2_endDay_3 : decode cX2_endDay 3 = .ok (.bipush 96, 2) := by decide +kernel
theorem dX2_endDay_5 : decode cX2_endDay 5 = .ok (.if_icmp .ge 106, 3) := by decide +kernel
theorem dX2_endDay_8 : decode cX2_endDay 8 = .ok (.aload_n 0, 1) := by decide +kernel
theorem dX2_endDay_9 : decode cX2_endDay 9 = .ok (.getfield 9, 3) := by decide +kernel
theorem dX2_endDay_12 : decode cX2_endDay 12 = .ok (.iload_n 1, 1) := by decide +kernel
theorem dX2_endDay_13 : decode cX2_endDay 13 = .ok (.baload, 1) := by decide +kernel
theorem dX2_endDay_14 : decode cX2_endDay 14 = .ok (.ifCond .eq 32, 3) := by decide +kernel
theorem dX2_endDay_17 : decode cX2_endDay 17 = .ok (.aload_n 0, 1) := by decide +kernel
theorem dX2_endDay_18 : decode cX2_endDay 18 = .ok (.getfield 25, 3) := by decide +kernel
theorem dX2_endDay_21 : decode cX2_endDay 21 = .ok (.iload_n 1, 1) := by decide +kernel
theorem dX2_endDay_22 : decode cX2_endDay 22 = .ok (.iaload, 1) := by decide +kernel
theorem dX2_endDay_23 : decode cX2_endDay 23 = .ok (.ifCond .le 23, 3) := by decide +kernel
theorem dX2_endDay_26 : decode cX2_endDay 26 = .ok (.aload_n 0, 1) := by decide +kernel
theorem dX2_endDay_27 : decode cX2_endDay 27 = .ok (.getfield 31, 3) := by decide +kernel
theorem dX2_endDay_30 : decode cX2_endDay 30 = .ok (.iload_n 1, 1) := by decide +kernel
theorem dX2_endDay_31 : decode cX2_endDay 31 = .ok (.iconst 0, 1) := by decide +kernel
theorem dX2_endDay_32 : decode cX2_endDay 32 = .ok (.iastore, 1) := by decide +kernel
theorem dX2_endDay_33 : decode cX2_endDay 33 = .ok (.aload_n 0, 1) := by decide +kernel
theorem dX2_endDay_34 : decode cX2_endDay 34 = .ok (.getfield 34, 3) := by decide +kernel
theorem dX2_endDay_37 : decode cX2_endDay 37 = .ok (.iload_n 1, 1) := by decide +kernel
theorem dX2_endDay_38 : decode cX2_endDay 38 = .ok (.dup2, 1) := by decide +kernel
theorem dX2_endDay_39 : decode cX2_endDay 39 = .ok (.iaload, 1) := by decide +kernel
theorem dX2_endDay_40 : decode cX2_endDay 40 = .ok (.iconst 1, 1) := by decide +kernel
theorem dX2_endDay_41 : decode cX2_endDay 41 = .ok (.iadd, 1) := by decide +kernel
theorem dX2_endDay_42 : decode cX2_endDay 42 = .ok (.iastore, 1) := by decide +kernel
theorem dX2_endDay_43 : decode cX2_endDay 43 = .ok (.goto 62, 3) := by decide +kernel
theorem dX2_endDay_46 : decode cX2_endDay 46 = .ok (.aload_n 0, 1) := by decide +kernel
theorem dX2_endDay_47 : decode cX2_endDay 47 = .ok (.getfield 9, 3) := by decide +kernel
theorem dX2_endDay_50 : decode cX2_endDay 50 = .ok (.iload_n 1, 1) := by decide +kernel
theorem dX2_endDay_51 : decode cX2_endDay 51 = .ok (.baload, 1) := by decide +kernel
theorem dX2_endDay_52 : decode cX2_endDay 52 = .ok (.ifCond .eq 53, 3) := by decide +kernel
theorem dX2_endDay_55 : decode cX2_endDay 55 = .ok (.aload_n 0, 1) := by decide +kernel
theorem dX2_endDay_56 : decode cX2_endDay 56 = .ok (.getfield 31, 3) := by decide +kernel
theorem dX2_endDay_59 : decode cX2_endDay 59 = .ok (.iload_n 1, 1) := by decide +kernel
theorem dX2_endDay_60 : decode cX2_endDay 60 = .ok (.dup2, 1) := by decide +kernel
theorem dX2_endDay_61 : decode cX2_endDay 61 = .ok (.iaload, 1) := by decide +kernel
theorem dX2_endDay_62 : decode cX2_endDay 62 = .ok (.iconst 1, 1) := by decide +kernel
theorem dX2_endDay_63 : decode cX2_endDay 63 = .ok (.iadd, 1) := by decide +kernel
theorem dX2_endDay_64 : decode cX2_endDay 64 = .ok (.iastore, 1) := by decide +kernel
theorem dX2_endDay_65 : decode cX2_endDay 65 = .ok (.aload_n 0, 1) := by decide +kernel
theorem dX2_endDay_66 : decode cX2_endDay 66 = .ok (.getfield 15, 3) := by decide +kernel
theorem dX2_endDay_69 : decode cX2_endDay 69 = .ok (.iload_n 1, 1) := by decide +kernel
theorem dX2_endDay_70 : decode cX2_endDay 70 = .ok (.dup2, 1) := by decide +kernel
theorem dX2_endDay_71 : decode cX2_endDay 71 = .ok (.iaload, 1) := by decide +kernel
theorem dX2_endDay_72 : decode cX2_endDay 72 = .ok (.aload_n 0, 1) := by decide +kernel
theorem dX2_endDay_73 : decode cX2_endDay 73 = .ok (.iload_n 1, 1) := by decide +kernel
theorem dX2_endDay_74 : decode cX2_endDay 74 = .ok (.invokevirtual 91, 3) := by decide +kernel
theorem dX2_endDay_77 : decode cX2_endDay 77 = .ok (.ifCond .eq 7, 3) := by decide +kernel
theorem dX2_endDay_80 : decode cX2_endDay 80 = .ok (.iconst 1, 1) := by decide +kernel
theorem dX2_endDay_81 : decode cX2_endDay 81 = .ok (.goto 4, 3) := by decide +kernel
theorem dX2_endDay_84 : decode cX2_endDay 84 = .ok (.iconst 0, 1) := by decide +kernel
theorem dX2_endDay_85 : decode cX2_endDay 85 = .ok (.isub, 1) := by decide +kernel
theorem dX2_endDay_86 : decode cX2_endDay 86 = .ok (.iastore, 1) := by decide +kernel
theorem dX2_endDay_87 : decode cX2_endDay 87 = .ok (.aload_n 0, 1) := by decide +kernel
theorem dX2_endDay_88 : decode cX2_endDay 88 = .ok (.getfield 28, 3) := by decide +kernel
theorem dX2_endDay_91 : decode cX2_endDay 91 = .ok (.iload_n 1, 1) := by decide +kernel
theorem dX2_endDay_92 : decode cX2_endDay 92 = .ok (.dup2, 1) := by decide +kernel
theorem dX2_endDay_93 : decode cX2_endDay 93 = .ok (.iaload, 1) := by decide +kernel
theorem dX2_endDay_94 : decode cX2_endDay 94 = .ok (.aload_n 0, 1) := by decide +kernel
theorem dX2_endDay_95 : decode cX2_endDay 95 = .ok (.getfield 28, 3) := by decide +kernel
theorem dX2_endDay_98 : decode cX2_endDay 98 = .ok (.iload_n 1, 1) := by decide +kernel
theorem dX2_endDay_99 : decode cX2_endDay 99 = .ok (.iaload, 1) := by decide +kernel
theorem dX2_endDay_100 : decode cX2_endDay 100 = .ok (.bipush 100, 2) := by decide +kernel
theorem dX2_endDay_102 : decode cX2_endDay 102 = .ok (.idiv, 1) := by decide +kernel
theorem dX2_endDay_103 : decode cX2_endDay 103 = .ok (.isub, 1) := by decide +kernel
theorem dX2_endDay_104 : decode cX2_endDay 104 = .ok (.iastore, 1) := by decide +kernel
theorem dX2_endDay_105 : decode cX2_endDay 105 = .ok (.iinc 1 1, 3) := by decide +kernel
theorem dX2_endDay_108 : decode cX2_endDay 108 = .ok (.goto (-106), 3) := by decide +kernel
theorem dX2_endDay_111 : decode cX2_endDay 111 = .ok (.return_, 1) := by decide +kernel
theorem dX6_write_0 : decode cX6_write 0 = .ok (.aload_n 0, 1) := by decide +kernel
theorem dX6_write_1 : decode cX6_write 1 = .ok (.getfield 18, 3) := by decide +kernel
theorem dX6_write_4 : decode cX6_write 4 = .ok (.bipush 24, 2) := by decide +kernel
theorem dX6_write_6 : decode cX6_write 6 = .ok (.if_icmp .ne 19, 3) := by decide +kernel
theorem dX6_write_9 : decode cX6_write 9 = .ok (.aload_n 0, 1) := by decide +kernel
theorem dX6_write_10 : decode cX6_write 10 = .ok (.aload_n 0, 1) := by decide +kernel
theorem dX6_write_11 : decode cX6_write 11 = .ok (.getfield 22, 3) := by decide +kernel
theorem dX6_write_14 : decode cX6_write 14 = .ok (.iconst 1, 1) := by decide +kernel
theorem dX6_write_15 : decode cX6_write 15 = .ok (.iadd, 1) := by decide +kernel
theorem dX6_write_16 : decode cX6_write 16 = .ok (.bipush 24, 2) := by decide +kernel
theorem dX6_write_18 : decode cX6_write 18 = .ok (.irem, 1) := by decide +kernel
theorem dX6_write_19 : decode cX6_write 19 = .ok (.putfield 22, 3) := by decide +kernel
theorem dX6_write_22 : decode cX6_write 22 = .ok (.goto 13, 3) := by decide +kernel
theorem dX6_write_25 : decode cX6_write 25 = .ok (.aload_n 0, 1) := by decide +kernel
theorem dX6_write_26 : decode cX6_write 26 = .ok (.dup, 1) := by decide +kernel
theorem dX6_write_27 : decode cX6_write 27 = .ok (.getfield 18, 3) := by decide +kernel
theorem dX6_write_30 : decode cX6_write 30 = .ok (.iconst 1, 1) := by decide +kernel
theorem dX6_write_31 : decode cX6_write 31 = .ok (.iadd, 1) := by decide +kernel
theorem dX6_write_32 : decode cX6_write 32 = .ok (.putfield 18, 3) := by decide +kernel
theorem dX6_write_35 : decode cX6_write 35 = .ok (.aload_n 1, 1) := by decide +kernel
theorem dX6_write_36 : decode cX6_write 36 = .ok (.getfield 25, 3) := by decide +kernel
theorem dX6_write_39 : decode cX6_write 39 = .ok (.aload_n 1, 1) := by decide +kernel
theorem dX6_write_40 : decode cX6_write 40 = .ok (.getfield 31, 3) := by decide +kernel
theorem dX6_write_43 : decode cX6_write 43 = .ok (.invokevirtual 34, 3) := by decide +kernel
theorem dX6_write_46 : decode cX6_write 46 = .ok (.istore_n 2, 1) := by decide +kernel
theorem dX6_write_47 : decode cX6_write 47 = .ok (.iconst 0, 1) := by decide +kernel
theorem dX6_write_48 : decode cX6_write 48 = .ok (.istore_n 3, 1) := by decide +kernel
theorem dX6_write_49 : decode cX6_write 49 = .ok (.iload_n 3, 1) := by decide +kernel
theorem dX6_write_50 : decode cX6_write 50 = .ok (.bipush 96, 2) := by decide +kernel
theorem dX6_write_52 : decode cX6_write 52 = .ok (.if_icmp .ge 67, 3) := by decide +kernel
theorem dX6_write_55 : decode cX6_write 55 = .ok (.aload_n 0, 1) := by decide +kernel
theorem dX6_write_56 : decode cX6_write 56 = .ok (.aload_n 0, 1) := by decide +kernel
theorem dX6_write_57 : decode cX6_write 57 = .ok (.getfield 18, 3) := by decide +kernel
theorem dX6_write_60 : decode cX6_write 60 = .ok (.iconst 1, 1) := by decide +kernel
theorem dX6_write_61 : decode cX6_write 61 = .ok (.isub, 1) := by decide +kernel
theorem dX6_write_62 : decode cX6_write 62 = .ok (.iload_n 3, 1) := by decide +kernel
theorem dX6_write_63 : decode cX6_write 63 = .ok (.invokevirtual 40, 3) := by decide +kernel
theorem dX6_write_66 : decode cX6_write 66 = .ok (.istore 4, 2) := by decide +kernel
theorem dX6_write_68 : decode cX6_write 68 = .ok (.aload_n 0, 1) := by decide +kernel
theorem dX6_write_69 : decode cX6_write 69 = .ok (.getfield 15, 3) := by decide +kernel
theorem dX6_write_72 : decode cX6_write 72 = .ok (.iload 4, 2) := by decide +kernel
theorem dX6_write_74 : decode cX6_write 74 = .ok (.aload_n 1, 1) := by decide +kernel
theorem dX6_write_75 : decode cX6_write 75 = .ok (.getfield 44, 3) := by decide +kernel
theorem dX6_write_78 : decode cX6_write 78 = .ok (.getfield 48, 3) := by decide +kernel
theorem dX6_write_81 : decode cX6_write 81 = .ok (.iload_n 3, 1) := by decide +kernel
theorem dX6_write_82 : decode cX6_write 82 = .ok (.baload, 1) := by decide +kernel
theorem dX6_write_83 : decode cX6_write 83 = .ok (.ifCond .eq 14, 3) := by decide +kernel
theorem dX6_write_86 : decode cX6_write 86 = .ok (.aload_n 1, 1) := by decide +kernel
theorem dX6_write_87 : decode cX6_write 87 = .ok (.getfield 44, 3) := by decide +kernel
theorem dX6_write_90 : decode cX6_write 90 = .ok (.iload_n 3, 1) := by decide +kernel
theorem dX6_write_91 : decode cX6_write 91 = .ok (.invokevirtual 54, 3) := by decide +kernel
theorem dX6_write_94 : decode cX6_write 94 = .ok (.goto 4, 3) := by decide +kernel
theorem dX6_write_97 : decode cX6_write 97 = .ok (.iload_n 2, 1) := by decide +kernel
theorem dX6_write_98 : decode cX6_write 98 = .ok (.iastore, 1) := by decide +kernel
theorem dX6_write_99 : decode cX6_write 99 = .ok (.aload_n 0, 1) := by decide +kernel
theorem dX6_write_100 : decode cX6_write 100 = .ok (.getfield 9, 3) := by decide +kernel
theorem dX6_write_103 : decode cX6_write 103 = .ok (.iload 4, 2) := by decide +kernel
theorem dX6_write_105 : decode cX6_write 105 = .ok (.aload_n 0, 1) := by decide +kernel
theorem dX6_write_106 : decode cX6_write 106 = .ok (.getfield 15, 3) := by decide +kernel
theorem dX6_write_109 : decode cX6_write 109 = .ok (.iload 4, 2) := by decide +kernel
theorem dX6_write_111 : decode cX6_write 111 = .ok (.iaload, 1) := by decide +kernel
theorem dX6_write_112 : decode cX6_write 112 = .ok (.iastore, 1) := by decide +kernel
theorem dX6_write_113 : decode cX6_write 113 = .ok (.iinc 3 1, 3) := by decide +kernel
theorem dX6_write_116 : decode cX6_write 116 = .ok (.goto (-67), 3) := by decide +kernel
theorem dX6_write_119 : decode cX6_write 119 = .ok (.return_, 1) := by decide +kernel
theorem dX6_placeOf_0 : decode cX6_placeOf 0 = .ok (.aload_n 0, 1) := by decide +kernel
theorem dX6_placeOf_1 : decode cX6_placeOf 1 = .ok (.getfield 22, 3) := by decide +kernel
theorem dX6_placeOf_4 : decode cX6_placeOf 4 = .ok (.iload_n 1, 1) := by decide +kernel
theorem dX6_placeOf_5 : decode cX6_placeOf 5 = .ok (.iadd, 1) := by decide +kernel
theorem dX6_placeOf_6 : decode cX6_placeOf 6 = .ok (.bipush 24, 2) := by decide +kernel
theorem dX6_placeOf_8 : decode cX6_placeOf 8 = .ok (.irem, 1) := by decide +kernel
theorem dX6_placeOf_9 : decode cX6_placeOf 9 = .ok (.bipush 96, 2) := by decide +kernel
theorem dX6_placeOf_11 : decode cX6_placeOf 11 = .ok (.imul, 1) := by decide +kernel
theorem dX6_placeOf_12 : decode cX6_placeOf 12 = .ok (.iload_n 2, 1) := by decide +kernel
theorem dX6_placeOf_13 : decode cX6_placeOf 13 = .ok (.iadd, 1) := by decide +kernel
theorem dX6_placeOf_14 : decode cX6_placeOf 14 = .ok (.ireturn, 1) := by decide +kernel
theorem dX11_found_0 : decode cX11_found 0 = .ok (.aload_n 0, 1) := by decide +kernel
theorem dX11_found_1 : decode cX11_found 1 = .ok (.getfield 30, 3) := by decide +kernel
theorem dX11_found_4 : decode cX11_found 4 = .ok (.aload_n 0, 1) := by decide +kernel
theorem dX11_found_5 : decode cX11_found 5 = .ok (.getfield 30, 3) := by decide +kernel
theorem dX11_found_8 : decode cX11_found 8 = .ok (.getfield 262, 3) := by decide +kernel
theorem dX11_found_11 : decode cX11_found 11 = .ok (.aload_n 0, 1) := by decide +kernel
theorem dX11_found_12 : decode cX11_found 12 = .ok (.getfield 9, 3) := by decide +kernel
theorem dX11_found_15 : decode cX11_found 15 = .ok (.aload_n 0, 1) := by decide +kernel
theorem dX11_found_16 : decode cX11_found 16 = .ok (.getfield 47, 3) := by decide +kernel
theorem dX11_found_19 : decode cX11_found 19 = .ok (.invokevirtual 266, 3) := by decide +kernel
theorem dX11_found_22 : decode cX11_found 22 = .ok (.putfield 272, 3) := by decide +kernel
theorem dX11_found_25 : decode cX11_found 25 = .ok (.aload_n 0, 1) := by decide +kernel
theorem dX11_found_26 : decode cX11_found 26 = .ok (.iconst 0, 1) := by decide +kernel
theorem dX11_found_27 : decode cX11_found 27 = .ok (.putfield 47, 3) := by decide +kernel
theorem dX11_found_30 : decode cX11_found 30 = .ok (.aload_n 0, 1) := by decide +kernel
theorem dX11_found_31 : decode cX11_found 31 = .ok (.getfield 30, 3) := by decide +kernel
theorem dX11_found_34 : decode cX11_found 34 = .ok (.getfield 272, 3) := by decide +kernel
theorem dX11_found_37 : decode cX11_found 37 = .ok (.iconst (-1), 1) := by decide +kernel
theorem dX11_found_38 : decode cX11_found 38 = .ok (.if_icmp .ne 7, 3) := by decide +kernel
theorem dX11_found_41 : decode cX11_found 41 = .ok (.iconst 1, 1) := by decide +kernel
theorem dX11_found_42 : decode cX11_found 42 = .ok (.goto 4, 3) := by decide +kernel
theorem dX11_found_45 : decode cX11_found 45 = .ok (.iconst 0, 1) := by decide +kernel
theorem dX11_found_46 : decode cX11_found 46 = .ok (.invokestatic 62, 3) := by decide +kernel
theorem dX11_found_49 : decode cX11_found 49 = .ok (.aload_n 0, 1) := by decide +kernel
theorem dX11_found_50 : decode cX11_found 50 = .ok (.getfield 30, 3) := by decide +kernel
theorem dX11_found_53 : decode cX11_found 53 = .ok (.getfield 275, 3) := by decide +kernel
theorem dX11_found_56 : decode cX11_found 56 = .ok (.ifCond .le 14, 3) := by decide +kernel
theorem dX11_found_59 : decode cX11_found 59 = .ok (.new 69, 3) := by decide +kernel
theorem dX11_found_62 : decode cX11_found 62 = .ok (.dup, 1) := by decide +kernel
theorem dX11_found_63 : decode cX11_found 63 = .ok (.ldc_w 278, 3) := by decide +kernel
theorem dX11_found_66 : decode cX11_found 66 = .ok (.invokespecial 73, 3) := by decide +kernel
theorem dX11_found_69 : decode cX11_found 69 = .ok (.athrow, 1) := by decide +kernel
theorem dX11_found_70 : decode cX11_found 70 = .ok (.aload_n 0, 1) := by decide +kernel
theorem dX11_found_71 : decode cX11_found 71 = .ok (.getfield 30, 3) := by decide +kernel
theorem dX11_found_74 : decode cX11_found 74 = .ok (.invokevirtual 280, 3) := by decide +kernel
theorem dX11_found_77 : decode cX11_found 77 = .ok (.ireturn, 1) := by decide +kernel
theorem dX11_propose_0 : decode cX11_propose 0 = .ok (.aload_n 0, 1) := by decide +kernel
theorem dX11_propose_1 : decode cX11_propose 1 = .ok (.getfield 30, 3) := by decide +kernel
theorem dX11_propose_4 : decode cX11_propose 4 = .ok (.aload_n 0, 1) := by decide +kernel
theorem dX11_propose_5 : decode cX11_propose 5 = .ok (.getfield 30, 3) := by decide +kernel
theorem dX11_propose_8 : decode cX11_propose 8 = .ok (.getfield 262, 3) := by decide +kernel
theorem dX11_propose_11 : decode cX11_propose 11 = .ok (.aload_n 0, 1) := by decide +kernel
theorem dX11_propose_12 : decode cX11_propose 12 = .ok (.getfield 9, 3) := by decide +kernel
theorem dX11_propose_15 : decode cX11_propose 15 = .ok (.aload_n 0, 1) := by decide +kernel
theorem dX11_propose_16 : decode cX11_propose 16 = .ok (.getfield 47, 3) := by decide +kernel
theorem dX11_propose_19 : decode cX11_propose 19 = .ok (.invokevirtual 266, 3) := by decide +kernel
theorem dX11_propose_22 : decode cX11_propose 22 = .ok (.putfield 272, 3) := by decide +kernel
theorem dX11_propose_25 : decode cX11_propose 25 = .ok (.aload_n 0, 1) := by decide +kernel
theorem dX11_propose_26 : decode cX11_propose 26 = .ok (.iconst 0, 1) := by decide +kernel
theorem dX11_propose_27 : decode cX11_propose 27 = .ok (.putfield 47, 3) := by decide +kernel
theorem dX11_propose_30 : decode cX11_propose 30 = .ok (.aload_n 0, 1) := by decide +kernel
theorem dX11_propose_31 : decode cX11_propose 31 = .ok (.getfield 30, 3) := by decide +kernel
theorem dX11_propose_34 : decode cX11_propose 34 = .ok (.getfield 272, 3) := by decide +kernel
theorem dX11_propose_37 : decode cX11_propose 37 = .ok (.iconst (-1), 1) := by decide +kernel
theorem dX11_propose_38 : decode cX11_propose 38 = .ok (.if_icmp .ne 7, 3) := by decide +kernel
theorem dX11_propose_41 : decode cX11_propose 41 = .ok (.iconst 1, 1) := by decide +kernel
theorem dX11_propose_42 : decode cX11_propose 42 = .ok (.goto 4, 3) := by decide +kernel
theorem dX11_propose_45 : decode cX11_propose 45 = .ok (.iconst 0, 1) := by decide +kernel
theorem dX11_propose_46 : decode cX11_propose 46 = .ok (.invokestatic 62, 3) := by decide +kernel
theorem dX11_propose_49 : decode cX11_propose 49 = .ok (.aload_n 0, 1) := by decide +kernel
theorem dX11_propose_50 : decode cX11_propose 50 = .ok (.getfield 30, 3) := by decide +kernel
theorem dX11_propose_53 : decode cX11_propose 53 = .ok (.getfield 284, 3) := by decide +kernel
theorem dX11_propose_56 : decode cX11_propose 56 = .ok (.ifCond .eq 14, 3) := by decide +kernel
theorem dX11_propose_59 : decode cX11_propose 59 = .ok (.new 69, 3) := by decide +kernel
theorem dX11_propose_62 : decode cX11_propose 62 = .ok (.dup, 1) := by decide +kernel
theorem dX11_propose_63 : decode cX11_propose 63 = .ok (.ldc_w 287, 3) := by decide +kernel
theorem dX11_propose_66 : decode cX11_propose 66 = .ok (.invokespecial 73, 3) := by decide +kernel
theorem dX11_propose_69 : decode cX11_propose 69 = .ok (.athrow, 1) := by decide +kernel
theorem dX11_propose_70 : decode cX11_propose 70 = .ok (.aload_n 0, 1) := by decide +kernel
theorem dX11_propose_71 : decode cX11_propose 71 = .ok (.getfield 30, 3) := by decide +kernel
theorem dX11_propose_74 : decode cX11_propose 74 = .ok (.invokevirtual 289, 3) := by decide +kernel
theorem dX11_propose_77 : decode cX11_propose 77 = .ok (.ireturn, 1) := by decide +kernel
theorem dX4_read_0 : decode cX4_read 0 = .ok (.aload_n 0, 1) := by decide +kernel
theorem dX4_read_1 : decode cX4_read 1 = .ok (.aload_n 1, 1) := by decide +kernel
theorem dX4_read_2 : decode cX4_read 2 = .ok (.iload_n 2, 1) := by decide +kernel
theorem dX4_read_3 : decode cX4_read 3 = .ok (.sipush 400, 3) := by decide +kernel
theorem dX4_read_6 : decode cX4_read 6 = .ok (.invokestatic 46, 3) := by decide +kernel
theorem dX4_read_9 : decode cX4_read 9 = .ok (.invokevirtual 52, 3) := by decide +kernel
theorem dX4_read_12 : decode cX4_read 12 = .ok (.aload_n 0, 1) := by decide +kernel
theorem dX4_read_13 : decode cX4_read 13 = .ok (.iconst 0, 1) := by decide +kernel
theorem dX4_read_14 : decode cX4_read 14 = .ok (.putfield 56, 3) := by decide +kernel
theorem dX4_read_17 : decode cX4_read 17 = .ok (.aload_n 0, 1) := by decide +kernel
theorem dX4_read_18 : decode cX4_read 18 = .ok (.iconst 0, 1) := by decide +kernel
theorem dX4_read_19 : decode cX4_read 19 = .ok (.putfield 60, 3) := by decide +kernel
theorem dX4_read_22 : decode cX4_read 22 = .ok (.aload_n 0, 1) := by decide +kernel
theorem dX4_read_23 : decode cX4_read 23 = .ok (.iconst 0, 1) := by decide +kernel
theorem dX4_read_24 : decode cX4_read 24 = .ok (.putfield 63, 3) := by decide +kernel
theorem dX4_read_27 : decode cX4_read 27 = .ok (.aload_n 0, 1) := by decide +kernel
theorem dX4_read_28 : decode cX4_read 28 = .ok (.getfield 11, 3) := by decide +kernel
theorem dX4_read_31 : decode cX4_read 31 = .ok (.iconst 0, 1) := by decide +kernel
theorem dX4_read_32 : decode cX4_read 32 = .ok (.iaload, 1) := by decide +kernel
theorem dX4_read_33 : decode cX4_read 33 = .ok (.bipush 21, 2) := by decide +kernel
theorem dX4_read_35 : decode cX4_read 35 = .ok (.if_icmp .eq 7, 3) := by decide +kernel
theorem dX4_read_38 : decode cX4_read 38 = .ok (.iconst 1, 1) := by decide +kernel
theorem dX4_read_39 : decode cX4_read 39 = .ok (.goto 4, 3) := by decide +kernel
theorem dX4_read_42 : decode cX4_read 42 = .ok (.iconst 0, 1) := by decide +kernel
theorem dX4_read_43 : decode cX4_read 43 = .ok (.istore_n 3, 1) := by decide +kernel
theorem dX4_read_44 : decode cX4_read 44 = .ok (.iload_n 3, 1) := by decide +kernel
theorem dX4_read_45 : decode cX4_read 45 = .ok (.ifCond .eq 49, 3) := by decide +kernel
theorem dX4_read_48 : decode cX4_read 48 = .ok (.aload_n 0, 1) := by decide +kernel
theorem dX4_read_49 : decode cX4_read 49 = .ok (.getfield 60, 3) := by decide +kernel
theorem dX4_read_52 : decode cX4_read 52 = .ok (.bipush 20, 2) := by decide +kernel
theorem dX4_read_54 : decode cX4_read 54 = .ok (.if_icmp .ge 40, 3) := by decide +kernel
theorem dX4_read_57 : decode cX4_read 57 = .ok (.aload_n 0, 1) := by decide +kernel
theorem dX4_read_58 : decode cX4_read 58 = .ok (.invokevirtual 66, 3) := by decide +kernel
theorem dX4_read_61 : decode cX4_read 61 = .ok (.ifCond .ne 13, 3) := by decide +kernel
theorem dX4_read_64 : decode cX4_read 64 = .ok (.aload_n 0, 1) := by decide +kernel
theorem dX4_read_65 : decode cX4_read 65 = .ok (.getfield 15, 3) := by decide +kernel
theorem dX4_read_68 : decode cX4_read 68 = .ok (.aload_n 0, 1) := by decide +kernel
theorem dX4_read_69 : decode cX4_read 69 = .ok (.getfield 56, 3) := by decide +kernel
theorem dX4_read_72 : decode cX4_read 72 = .ok (.iaload, 1) := by decide +kernel
theorem dX4_read_73 : decode cX4_read 73 = .ok (.ireturn, 1) := by decide +kernel
theorem dX4_read_74 : decode cX4_read 74 = .ok (.aload_n 0, 1) := by decide +kernel
theorem dX4_read_75 : decode cX4_read 75 = .ok (.dup, 1) := by decide +kernel
theorem dX4_read_76 : decode cX4_read 76 = .ok (.getfield 60, 3) := by decide +kernel
theorem dX4_read_79 : decode cX4_read 79 = .ok (.iconst 1, 1) := by decide +kernel
theorem dX4_read_80 : decode cX4_read 80 = .ok (.iadd, 1) := by decide +kernel
theorem dX4_read_81 : decode cX4_read 81 = .ok (.putfield 60, 3) := by decide +kernel
theorem dX4_read_84 : decode cX4_read 84 = .ok (.aload_n 0, 1) := by decide +kernel
theorem dX4_read_85 : decode cX4_read 85 = .ok (.bipush 18, 2) := by decide +kernel
theorem dX4_read_87 : decode cX4_read 87 = .ok (.invokevirtual 70, 3) := by decide +kernel
theorem dX4_read_90 : decode cX4_read 90 = .ok (.istore_n 3, 1) := by decide +kernel
theorem dX4_read_91 : decode cX4_read 91 = .ok (.goto (-47), 3) := by decide +kernel
theorem dX4_read_94 : decode cX4_read 94 = .ok (.iload_n 3, 1) := by decide +kernel
theorem dX4_read_95 : decode cX4_read 95 = .ok (.ifCond .ne 17, 3) := by decide +kernel
theorem dX4_read_98 : decode cX4_read 98 = .ok (.aload_n 0, 1) := by decide +kernel
theorem dX4_read_99 : decode cX4_read 99 = .ok (.getfield 11, 3) := by decide +kernel
theorem dX4_read_102 : decode cX4_read 102 = .ok (.aload_n 0, 1) := by decide +kernel
theorem dX4_read_103 : decode cX4_read 103 = .ok (.getfield 56, 3) := by decide +kernel
theorem dX4_read_106 : decode cX4_read 106 = .ok (.iaload, 1) := by decide +kernel
theorem dX4_read_107 : decode cX4_read 107 = .ok (.bipush 21, 2) := by decide +kernel
theorem dX4_read_109 : decode cX4_read 109 = .ok (.if_icmp .eq 15, 3) := by decide +kernel
theorem dX4_read_112 : decode cX4_read 112 = .ok (.aload_n 0, 1) := by decide +kernel
theorem dX4_read_113 : decode cX4_read 113 = .ok (.getfield 15, 3) := by decide +kernel
theorem dX4_read_116 : decode cX4_read 116 = .ok (.aload_n 0, 1) := by decide +kernel
theorem dX4_read_117 : decode cX4_read 117 = .ok (.getfield 56, 3) := by decide +kernel
theorem dX4_read_120 : decode cX4_read 120 = .ok (.iaload, 1) := by decide +kernel
theorem dX4_read_121 : decode cX4_read 121 = .ok (.goto 4, 3) := by decide +kernel
theorem dX4_read_124 : decode cX4_read 124 = .ok (.iconst (-1), 1) := by decide +kernel
theorem dX4_read_125 : decode cX4_read 125 = .ok (.ireturn, 1) := by decide +kernel
theorem dX4_scan_0 : decode cX4_scan 0 = .ok (.iconst 0, 1) := by decide +kernel
theorem dX4_scan_1 : decode cX4_scan 1 = .ok (.istore_n 3, 1) := by decide +kernel
theorem dX4_scan_2 : decode cX4_scan 2 = .ok (.iconst 0, 1) := by decide +kernel
theorem dX4_scan_3 : decode cX4_scan 3 = .ok (.istore 4, 2) := by decide +kernel
theorem dX4_scan_5 : decode cX4_scan 5 = .ok (.iconst 0, 1) := by decide +kernel
theorem dX4_scan_6 : decode cX4_scan 6 = .ok (.istore 5, 2) := by decide +kernel
theorem dX4_scan_8 : decode cX4_scan 8 = .ok (.iload 5, 2) := by decide +kernel
theorem dX4_scan_10 : decode cX4_scan 10 = .ok (.iload_n 2, 1) := by decide +kernel
theorem dX4_scan_11 : decode cX4_scan 11 = .ok (.if_icmp .ge 59, 3) := by decide +kernel
theorem dX4_scan_14 : decode cX4_scan 14 = .ok (.iload 5, 2) := by decide +kernel
theorem dX4_scan_16 : decode cX4_scan 16 = .ok (.iload 4, 2) := by decide +kernel
theorem dX4_scan_18 : decode cX4_scan 18 = .ok (.if_icmp .lt 46, 3) := by decide +kernel
theorem dX4_scan_21 : decode cX4_scan 21 = .ok (.aload_n 1, 1) := by decide +kernel
theorem dX4_scan_22 : decode cX4_scan 22 = .ok (.iload 5, 2) := by decide +kernel
theorem dX4_scan_24 : decode cX4_scan 24 = .ok (.iaload, 1) := by decide +kernel
theorem dX4_scan_25 : decode cX4_scan 25 = .ok (.bipush 32, 2) := by decide +kernel
theorem dX4_scan_27 : decode cX4_scan 27 = .ok (.if_icmp .eq 37, 3) := by decide +kernel
theorem dX4_scan_30 : decode cX4_scan 30 = .ok (.aload_n 1, 1) := by decide +kernel
theorem dX4_scan_31 : decode cX4_scan 31 = .ok (.iload 5, 2) := by decide +kernel
theorem dX4_scan_33 : decode cX4_scan 33 = .ok (.iload_n 2, 1) := by decide +kernel
theorem dX4_scan_34 : decode cX4_scan 34 = .ok (.invokestatic 74, 3) := by decide +kernel
theorem dX4_scan_37 : decode cX4_scan 37 = .ok (.istore 4, 2) := by decide +kernel
theorem dX4_scan_39 : decode cX4_scan 39 = .ok (.aload_n 0, 1) := by decide +kernel
theorem dX4_scan_40 : decode cX4_scan 40 = .ok (.getfield 11, 3) := by decide +kernel
theorem dX4_scan_43 : decode cX4_scan 43 = .ok (.iload_n 3, 1) := by decide +kernel
theorem dX4_scan_44 : decode cX4_scan 44 = .ok (.aload_n 1, 1) := by decide +kernel
theorem dX4_scan_45 : decode cX4_scan 45 = .ok (.iload 5, 2) := by decide +kernel
theorem dX4_scan_47 : decode cX4_scan 47 = .ok (.iload 4, 2) := by decide +kernel
theorem dX4_scan_49 : decode cX4_scan 49 = .ok (.invokestatic 78, 3) := by decide +kernel
theorem dX4_scan_52 : decode cX4_scan 52 = .ok (.iastore, 1) := by decide +kernel
theorem dX4_scan_53 : decode cX4_scan 53 = .ok (.aload_n 0, 1) := by decide +kernel
theorem dX4_scan_54 : decode cX4_scan 54 = .ok (.getfield 15, 3) := by decide +kernel
theorem dX4_scan_57 : decode cX4_scan 57 = .ok (.iload_n 3, 1) := by decide +kernel
theorem dX4_scan_58 : decode cX4_scan 58 = .ok (.iload 5, 2) := by decide +kernel
theorem dX4_scan_60 : decode cX4_scan 60 = .ok (.iastore, 1) := by decide +kernel
theorem dX4_scan_61 : decode cX4_scan 61 = .ok (.iinc 3 1, 3) := by decide +kernel
theorem dX4_scan_64 : decode cX4_scan 64 = .ok (.iinc 5 1, 3) := by decide +kernel
theorem dX4_scan_67 : decode cX4_scan 67 = .ok (.goto (-59), 3) := by decide +kernel
theorem dX4_scan_70 : decode cX4_scan 70 = .ok (.aload_n 0, 1) := by decide +kernel
theorem dX4_scan_71 : decode cX4_scan 71 = .ok (.getfield 11, 3) := by decide +kernel
theorem dX4_scan_74 : decode cX4_scan 74 = .ok (.iload_n 3, 1) := by decide +kernel
theorem dX4_scan_75 : decode cX4_scan 75 = .ok (.bipush 21, 2) := by decide +kernel
theorem dX4_scan_77 : decode cX4_scan 77 = .ok (.iastore, 1) := by decide +kernel
theorem dX4_scan_78 : decode cX4_scan 78 = .ok (.aload_n 0, 1) := by decide +kernel
theorem dX4_scan_79 : decode cX4_scan 79 = .ok (.getfield 15, 3) := by decide +kernel
theorem dX4_scan_82 : decode cX4_scan 82 = .ok (.iload_n 3, 1) := by decide +kernel
theorem dX4_scan_83 : decode cX4_scan 83 = .ok (.iload_n 2, 1) := by decide +kernel
theorem dX4_scan_84 : decode cX4_scan 84 = .ok (.iastore, 1) := by decide +kernel
theorem dX4_scan_85 : decode cX4_scan 85 = .ok (.return_, 1) := by decide +kernel
theorem dX0_foundSpare_0 : decode cX0_foundSpare 0 = .ok (.aload_n 0, 1) := by decide +kernel
theorem dX0_foundSpare_1 : decode cX0_foundSpare 1 = .ok (.getfield 41, 3) := by decide +kernel
theorem dX0_foundSpare_4 : decode cX0_foundSpare 4 = .ok (.astore_n 1, 1) := by decide +kernel
theorem dX0_foundSpare_5 : decode cX0_foundSpare 5 = .ok (.aload_n 0, 1) := by decide +kernel
theorem dX0_foundSpare_6 : decode cX0_foundSpare 6 = .ok (.aload_n 0, 1) := by decide +kernel
theorem dX0_foundSpare_7 : decode cX0_foundSpare 7 = .ok (.getfield 48, 3) := by decide +kernel
theorem dX0_foundSpare_10 : decode cX0_foundSpare 10 = .ok (.putfield 41, 3) := by decide +kernel
theorem dX0_foundSpare_13 : decode cX0_foundSpare 13 = .ok (.aload_n 0, 1) := by decide +kernel
theorem dX0_foundSpare_14 : decode cX0_foundSpare 14 = .ok (.aload_n 1, 1) := by decide +kernel
theorem dX0_foundSpare_15 : decode cX0_foundSpare 15 = .ok (.putfield 48, 3) := by decide +kernel
theorem dX0_foundSpare_18 : decode cX0_foundSpare 18 = .ok (.aload_n 0, 1) := by decide +kernel
theorem dX0_foundSpare_19 : decode cX0_foundSpare 19 = .ok (.getfield 41, 3) := by decide +kernel
theorem dX0_foundSpare_22 : decode cX0_foundSpare 22 = .ok (.getfield 61, 3) := by decide +kernel
theorem dX0_foundSpare_25 : decode cX0_foundSpare 25 = .ok (.ireturn, 1) := by decide +kernel
theorem dX0_proposeSpare_0 : decode cX0_proposeSpare 0 = .ok (.aload_n 0, 1) := by decide +kernel
theorem dX0_proposeSpare_1 : decode cX0_proposeSpare 1 = .ok (.getfield 45, 3) := by decide +kernel
theorem dX0_proposeSpare_4 : decode cX0_proposeSpare 4 = .ok (.astore_n 1, 1) := by decide +kernel
theorem dX0_proposeSpare_5 : decode cX0_proposeSpare 5 = .ok (.aload_n 0, 1) := by decide +kernel
theorem dX0_proposeSpare_6 : decode cX0_proposeSpare 6 = .ok (.aload_n 0, 1) := by decide +kernel
theorem dX0_proposeSpare_7 : decode cX0_proposeSpare 7 = .ok (.getfield 48, 3) := by decide +kernel
theorem dX0_proposeSpare_10 : decode cX0_proposeSpare 10 = .ok (.putfield 45, 3) := by decide +kernel
theorem dX0_proposeSpare_13 : decode cX0_proposeSpare 13 = .ok (.aload_n 0, 1) := by decide +kernel
theorem dX0_proposeSpare_14 : decode cX0_proposeSpare 14 = .ok (.aload_n 1, 1) := by decide +kernel
theorem dX0_proposeSpare_15 : decode cX0_proposeSpare 15 = .ok (.putfield 48, 3) := by decide +kernel
theorem dX0_proposeSpare_18 : decode cX0_proposeSpare 18 = .ok (.aload_n 0, 1) := by decide +kernel
theorem dX0_proposeSpare_19 : decode cX0_proposeSpare 19 = .ok (.iconst 1, 1) := by decide +kernel
theorem dX0_proposeSpare_20 : decode cX0_proposeSpare 20 = .ok (.putfield 64, 3) := by decide +kernel
theorem dX0_proposeSpare_23 : decode cX0_proposeSpare 23 = .ok (.aload_n 0, 1) := by decide +kernel
theorem dX0_proposeSpare_24 : decode cX0_proposeSpare 24 = .ok (.lconst 0, 1) := by decide +kernel
theorem dX0_proposeSpare_25 : decode cX0_proposeSpare 25 = .ok (.putfield 68, 3) := by decide +kernel
theorem dX0_proposeSpare_28 : decode cX0_proposeSpare 28 = .ok (.aload_n 0, 1) := by decide +kernel
theorem dX0_proposeSpare_29 : decode cX0_proposeSpare 29 = .ok (.lconst 0, 1) := by decide +kernel
theorem dX0_proposeSpare_30 : decode cX0_proposeSpare 30 = .ok (.putfield 72, 3) := by decide +kernel
theorem dX0_proposeSpare_33 : decode cX0_proposeSpare 33 = .ok (.iconst 0, 1) := by decide +kernel
theorem dX0_proposeSpare_34 : decode cX0_proposeSpare 34 = .ok (.istore_n 2, 1) := by decide +kernel
theorem dX0_proposeSpare_35 : decode cX0_proposeSpare 35 = .ok (.iload_n 2, 1) := by decide +kernel
theorem dX0_proposeSpare_36 : decode cX0_proposeSpare 36 = .ok (.aload_n 0, 1) := by decide +kernel
theorem dX0_proposeSpare_37 : decode cX0_proposeSpare 37 = .ok (.getfield 75, 3) := by decide +kernel
theorem dX0_proposeSpare_40 : decode cX0_proposeSpare 40 = .ok (.if_icmp .ge 19, 3) := by decide +kernel
theorem dX0_proposeSpare_43 : decode cX0_proposeSpare 43 = .ok (.aload_n 0, 1) := by decide +kernel
theorem dX0_proposeSpare_44 : decode cX0_proposeSpare 44 = .ok (.getfield 11, 3) := by decide +kernel
theorem dX0_proposeSpare_47 : decode cX0_proposeSpare 47 = .ok (.iload_n 2, 1) := by decide +kernel
theorem dX0_proposeSpare_48 : decode cX0_proposeSpare 48 = .ok (.aaload, 1) := by decide +kernel
theorem dX0_proposeSpare_49 : decode cX0_proposeSpare 49 = .ok (.iconst 0, 1) := by decide +kernel
theorem dX0_proposeSpare_50 : decode cX0_proposeSpare 50 = .ok (.putfield 78, 3) := by decide +kernel
theorem dX0_proposeSpare_53 : decode cX0_proposeSpare 53 = .ok (.iinc 2 1, 3) := by decide +kernel
theorem dX0_proposeSpare_56 : decode cX0_proposeSpare 56 = .ok (.goto (-21), 3) := by decide +kernel
theorem dX0_proposeSpare_59 : decode cX0_proposeSpare 59 = .ok (.aload_n 0, 1) := by decide +kernel
theorem dX0_proposeSpare_60 : decode cX0_proposeSpare 60 = .ok (.getfield 45, 3) := by decide +kernel
theorem dX0_proposeSpare_63 : decode cX0_proposeSpare 63 = .ok (.getfield 61, 3) := by decide +kernel
theorem dX0_proposeSpare_66 : decode cX0_proposeSpare 66 = .ok (.ireturn, 1) := by decide +kernel
theorem dX11_lifts_0 : decode cX11_lifts 0 = .ok (.iload_n 1, 1) := by decide +kernel
theorem dX11_lifts_1 : decode cX11_lifts 1 = .ok (.iconst 0, 1) := by decide +kernel
theorem dX11_lifts_2 : decode cX11_lifts 2 = .ok (.sipush 1000, 3) := by decide +kernel
theorem dX11_lifts_5 : decode cX11_lifts 5 = .ok (.invokestatic 58, 3) := by decide +kernel
theorem dX11_lifts_8 : decode cX11_lifts 8 = .ok (.ifCond .eq 39, 3) := by decide +kernel
theorem dX11_lifts_11 : decode cX11_lifts 11 = .ok (.iload_n 2, 1) := by decide +kernel
theorem dX11_lifts_12 : decode cX11_lifts 12 = .ok (.iconst 0, 1) := by decide +kernel
theorem dX11_lifts_13 : decode cX11_lifts 13 = .ok (.bipush 100, 2) := by decide +kernel
theorem dX11_lifts_15 : decode cX11_lifts 15 = .ok (.invokestatic 58, 3) := by decide +kernel
theorem dX11_lifts_18 : decode cX11_lifts 18 = .ok (.ifCond .eq 29, 3) := by decide +kernel
theorem dX11_lifts_21 : decode cX11_lifts 21 = .ok (.iload_n 3, 1) := by decide +kernel
theorem dX11_lifts_22 : decode cX11_lifts 22 = .ok (.iconst 1, 1) := by decide +kernel
theorem dX11_lifts_23 : decode cX11_lifts 23 = .ok (.bipush 24, 2) := by decide +kernel
theorem dX11_lifts_25 : decode cX11_lifts 25 = .ok (.invokestatic 58, 3) := by decide +kernel
theorem dX11_lifts_28 : decode cX11_lifts 28 = .ok (.ifCond .eq 19, 3) := by decide +kernel
theorem dX11_lifts_31 : decode cX11_lifts 31 = .ok (.iload 4, 2) := by decide +kernel
theorem dX11_lifts_33 : decode cX11_lifts 33 = .ok (.iconst 0, 1) := by decide +kernel
theorem dX11_lifts_34 : decode cX11_lifts 34 = .ok (.sipush 1000, 3) := by decide +kernel
theorem dX11_lifts_37 : decode cX11_lifts 37 = .ok (.invokestatic 58, 3) := by decide +kernel
theorem dX11_lifts_40 : decode cX11_lifts 40 = .ok (.ifCond .eq 7, 3) := by decide +kernel
theorem dX11_lifts_43 : decode cX11_lifts 43 = .ok (.iconst 1, 1) := by decide +kernel
theorem dX11_lifts_44 : decode cX11_lifts 44 = .ok (.goto 4, 3) := by decide +kernel
theorem dX11_lifts_47 : decode cX11_lifts 47 = .ok (.iconst 0, 1) := by decide +kernel
theorem dX11_lifts_48 : decode cX11_lifts 48 = .ok (.invokestatic 62, 3) := by decide +kernel
theorem dX11_lifts_51 : decode cX11_lifts 51 = .ok (.aload_n 0, 1) := by decide +kernel
theorem dX11_lifts_52 : decode cX11_lifts 52 = .ok (.getfield 43, 3) := by decide +kernel
theorem dX11_lifts_55 : decode cX11_lifts 55 = .ok (.aload_n 0, 1) := by decide +kernel
theorem dX11_lifts_56 : decode cX11_lifts 56 = .ok (.getfield 16, 3) := by decide +kernel
theorem dX11_lifts_59 : decode cX11_lifts 59 = .ok (.iload_n 1, 1) := by decide +kernel
theorem dX11_lifts_60 : decode cX11_lifts 60 = .ok (.iload_n 2, 1) := by decide +kernel
theorem dX11_lifts_61 : decode cX11_lifts 61 = .ok (.iload_n 3, 1) := by decide +kernel
theorem dX11_lifts_62 : decode cX11_lifts 62 = .ok (.iload 4, 2) := by decide +kernel
theorem dX11_lifts_64 : decode cX11_lifts 64 = .ok (.invokevirtual 463, 3) := by decide +kernel
theorem dX11_lifts_67 : decode cX11_lifts 67 = .ok (.ireturn, 1) := by decide +kernel
theorem dX5_leastCoal_0 : decode cX5_leastCoal 0 = .ok (.aload_n 0, 1) := by decide +kernel
theorem dX5_leastCoal_1 : decode cX5_leastCoal 1 = .ok (.aload_n 1, 1) := by decide +kernel
theorem dX5_leastCoal_2 : decode cX5_leastCoal 2 = .ok (.invokevirtual 51, 3) := by decide +kernel
theorem dX5_leastCoal_5 : decode cX5_leastCoal 5 = .ok (.aload_n 0, 1) := by decide +kernel
theorem dX5_leastCoal_6 : decode cX5_leastCoal 6 = .ok (.getfield 17, 3) := by decide +kernel
theorem dX5_leastCoal_9 : decode cX5_leastCoal 9 = .ok (.ldc 55, 2) := by decide +kernel
theorem dX5_leastCoal_11 : decode cX5_leastCoal 11 = .ok (.invokestatic 56, 3) := by decide +kernel
theorem dX5_leastCoal_14 : decode cX5_leastCoal 14 = .ok (.aload_n 0, 1) := by decide +kernel
theorem dX5_leastCoal_15 : decode cX5_leastCoal 15 = .ok (.getfield 17, 3) := by decide +kernel
theorem dX5_leastCoal_18 : decode cX5_leastCoal 18 = .ok (.iconst 0, 1) := by decide +kernel
theorem dX5_leastCoal_19 : decode cX5_leastCoal 19 = .ok (.iload_n 2, 1) := by decide +kernel
theorem dX5_leastCoal_20 : decode cX5_leastCoal 20 = .ok (.iastore, 1) := by decide +kernel
theorem dX5_leastCoal_21 : decode cX5_leastCoal 21 = .ok (.iconst 1, 1) := by decide +kernel
theorem dX5_leastCoal_22 : decode cX5_leastCoal 22 = .ok (.istore 6, 2) := by decide +kernel
theorem dX5_leastCoal_24 : decode cX5_leastCoal 24 = .ok (.iload 6, 2) := by decide +kernel
theorem dX5_leastCoal_26 : decode cX5_leastCoal 26 = .ok (.iload 4, 2) := by decide +kernel
theorem dX5_leastCoal_28 : decode cX5_leastCoal 28 = .ok (.if_icmp .gt 27, 3) := by decide +kernel
theorem dX5_leastCoal_31 : decode cX5_leastCoal 31 = .ok (.aload_n 0, 1) := by decide +kernel
theorem dX5_leastCoal_32 : decode cX5_leastCoal 32 = .ok (.iload_n 3, 1) := by decide +kernel
theorem dX5_leastCoal_33 : decode cX5_leastCoal 33 = .ok (.aload_n 1, 1) := by decide +kernel
theorem dX5_leastCoal_34 : decode cX5_leastCoal 34 = .ok (.aload_n 1, 1) := by decide +kernel
theorem dX5_leastCoal_35 : decode cX5_leastCoal 35 = .ok (.getfield 62, 3) := by decide +kernel
theorem dX5_leastCoal_38 : decode cX5_leastCoal 38 = .ok (.iload 6, 2) := by decide +kernel
theorem dX5_leastCoal_40 : decode cX5_leastCoal 40 = .ok (.iadd, 1) := by decide +kernel
theorem dX5_leastCoal_41 : decode cX5_leastCoal 41 = .ok (.invokevirtual 68, 3) := by decide +kernel
theorem dX5_leastCoal_44 : decode cX5_leastCoal 44 = .ok (.iload 5, 2) := by decide +kernel
theorem dX5_leastCoal_46 : decode cX5_leastCoal 46 = .ok (.invokevirtual 72, 3) := by decide +kernel
theorem dX5_leastCoal_49 : decode cX5_leastCoal 49 = .ok (.iinc 6 1, 3) := by decide +kernel
theorem dX5_leastCoal_52 : decode cX5_leastCoal 52 = .ok (.goto (-28), 3) := by decide +kernel
theorem dX5_leastCoal_55 : decode cX5_leastCoal 55 = .ok (.iconst 0, 1) := by decide +kernel
theorem dX5_leastCoal_56 : decode cX5_leastCoal 56 = .ok (.istore 6, 2) := by decide +kernel
theorem dX5_leastCoal_58 : decode cX5_leastCoal 58 = .ok (.iload 6, 2) := by decide +kernel
theorem dX5_leastCoal_60 : decode cX5_leastCoal 60 = .ok (.bipush 120, 2) := by decide +kernel
theorem dX5_leastCoal_62 : decode cX5_leastCoal 62 = .ok (.if_icmp .gt 24, 3) := by decide +kernel
theorem dX5_leastCoal_65 : decode cX5_leastCoal 65 = .ok (.aload_n 0, 1) := by decide +kernel
theorem dX5_leastCoal_66 : decode cX5_leastCoal 66 = .ok (.getfield 17, 3) := by decide +kernel
theorem dX5_leastCoal_69 : decode cX5_leastCoal 69 = .ok (.iload 6, 2) := by decide +kernel
theorem dX5_leastCoal_71 : decode cX5_leastCoal 71 = .ok (.iaload, 1) := by decide +kernel
theorem dX5_leastCoal_72 : decode cX5_leastCoal 72 = .ok (.ldc 55, 2) := by decide +kernel
theorem dX5_leastCoal_74 : decode cX5_leastCoal 74 = .ok (.if_icmp .eq 6, 3) := by decide +kernel
theorem dX5_leastCoal_77 : decode cX5_leastCoal 77 = .ok (.iload 6, 2) := by decide +kernel
theorem dX5_leastCoal_79 : decode cX5_leastCoal 79 = .ok (.ireturn, 1) := by decide +kernel
theorem dX5_leastCoal_80 : decode cX5_leastCoal 80 = .ok (.iinc 6 1, 3) := by decide +kernel
theorem dX5_leastCoal_83 : decode cX5_leastCoal 83 = .ok (.goto (-25), 3) := by decide +kernel
theorem dX5_leastCoal_86 : decode cX5_leastCoal 86 = .ok (.iconst (-1), 1) := by decide +kernel
theorem dX5_leastCoal_87 : decode cX5_leastCoal 87 = .ok (.ireturn, 1) := by decide +kernel
theorem dX5_gatherEngines_0 : decode cX5_gatherEngines 0 = .ok (.aload_n 0, 1) := by decide +kernel
theorem dX5_gatherEngines_1 : decode cX5_gatherEngines 1 = .ok (.iconst 0, 1) := by decide +kernel
theorem dX5_gatherEngines_2 : decode cX5_gatherEngines 2 = .ok (.putfield 76, 3) := by decide +kernel
theorem dX5_gatherEngines_5 : decode cX5_gatherEngines 5 = .ok (.iconst 0, 1) := by decide +kernel
theorem dX5_gatherEngines_6 : decode cX5_gatherEngines 6 = .ok (.istore_n 2, 1) := by decide +kernel
theorem dX5_gatherEngines_7 : decode cX5_gatherEngines 7 = .ok (.iload_n 2, 1) := by decide +kernel
theorem dX5_gatherEngines_8 : decode cX5_gatherEngines 8 = .ok (.aload_n 1, 1) := by decide +kernel
theorem dX5_gatherEngines_9 : decode cX5_gatherEngines 9 = .ok (.getfield 79, 3) := by decide +kernel
theorem dX5_gatherEngines_12 : decode cX5_gatherEngines 12 = .ok (.if_icmp .ge 105, 3) := by decide +kernel
theorem dX5_gatherEngines_15 : decode cX5_gatherEngines 15 = .ok (.aload_n 0, 1) := by decide +kernel
theorem dX5_gatherEngines_16 : decode cX5_gatherEngines 16 = .ok (.getfield 76, 3) := by decide +kernel
theorem dX5_gatherEngines_19 : decode cX5_gatherEngines 19 = .ok (.iconst 5, 1) := by decide +kernel
theorem dX5_gatherEngines_20 : decode cX5_gatherEngines 20 = .ok (.if_icmp .ge 97, 3) := by decide +kernel
theorem dX5_gatherEngines_23 : decode cX5_gatherEngines 23 = .ok (.aload_n 1, 1) := by decide +kernel
theorem dX5_gatherEngines_24 : decode cX5_gatherEngines 24 = .ok (.getfield 82, 3) := by decide +kernel
theorem dX5_gatherEngines_27 : decode cX5_gatherEngines 27 = .ok (.iload_n 2, 1) := by decide +kernel
theorem dX5_gatherEngines_28 : decode cX5_gatherEngines 28 = .ok (.aaload, 1) := by decide +kernel
theorem dX5_gatherEngines_29 : decode cX5_gatherEngines 29 = .ok (.getfield 86, 3) := by decide +kernel
theorem dX5_gatherEngines_32 : decode cX5_gatherEngines 32 = .ok (.iconst 3, 1) := by decide +kernel
theorem dX5_gatherEngines_33 : decode cX5_gatherEngines 33 = .ok (.if_icmp .ne 78, 3) := by decide +kernel
theorem dX5_gatherEngines_36 : decode cX5_gatherEngines 36 = .ok (.aload_n 0, 1) := by decide +kernel
theorem dX5_gatherEngines_37 : decode cX5_gatherEngines 37 = .ok (.dup, 1) := by decide +kernel
theorem dX5_gatherEngines_38 : decode cX5_gatherEngines 38 = .ok (.getfield 76, 3) := by decide +kernel
theorem dX5_gatherEngines_41 : decode cX5_gatherEngines 41 = .ok (.iconst 1, 1) := by decide +kernel
theorem dX5_gatherEngines_42 : decode cX5_gatherEngines 42 = .ok (.iadd, 1) := by decide +kernel
theorem dX5_gatherEngines_43 : decode cX5_gatherEngines 43 = .ok (.putfield 76, 3) := by decide +kernel
theorem dX5_gatherEngines_46 : decode cX5_gatherEngines 46 = .ok (.aload_n 0, 1) := by decide +kernel
theorem dX5_gatherEngines_47 : decode cX5_gatherEngines 47 = .ok (.getfield 76, 3) := by decide +kernel
theorem dX5_gatherEngines_50 : decode cX5_gatherEngines 50 = .ok (.istore_n 3, 1) := by decide +kernel
theorem dX5_gatherEngines_51 : decode cX5_gatherEngines 51 = .ok (.iload_n 3, 1) := by decide +kernel
theorem dX5_gatherEngines_52 : decode cX5_gatherEngines 52 = .ok (.iconst 1, 1) := by decide +kernel
theorem dX5_gatherEngines_53 : decode cX5_gatherEngines 53 = .ok (.if_icmp .le 43, 3) := by decide +kernel
theorem dX5_gatherEngines_56 : decode cX5_gatherEngines 56 = .ok (.aload_n 0, 1) := by decide +kernel
theorem dX5_gatherEngines_57 : decode cX5_gatherEngines 57 = .ok (.getfield 13, 3) := by decide +kernel
theorem dX5_gatherEngines_60 : decode cX5_gatherEngines 60 = .ok (.iload_n 3, 1) := by decide +kernel
theorem dX5_gatherEngines_61 : decode cX5_gatherEngines 61 = .ok (.iconst 1, 1) := by decide +kernel
theorem dX5_gatherEngines_62 : decode cX5_gatherEngines 62 = .ok (.isub, 1) := by decide +kernel
theorem dX5_gatherEngines_63 : decode cX5_gatherEngines 63 = .ok (.iaload, 1) := by decide +kernel
theorem dX5_gatherEngines_64 : decode cX5_gatherEngines 64 = .ok (.aload_n 1, 1) := by decide +kernel
theorem dX5_gatherEngines_65 : decode cX5_gatherEngines 65 = .ok (.getfield 82, 3) := by decide +kernel
theorem dX5_gatherEngines_68 : decode cX5_gatherEngines 68 = .ok (.iload_n 2, 1) := by decide +kernel
theorem dX5_gatherEngines_69 : decode cX5_gatherEngines 69 = .ok (.aaload, 1) := by decide +kernel
theorem dX5_gatherEngines_70 : decode cX5_gatherEngines 70 = .ok (.getfield 91, 3) := by decide +kernel
theorem dX5_gatherEngines_73 : decode cX5_gatherEngines 73 = .ok (.if_icmp .ge 23, 3) := by decide +kernel
theorem dX5_gatherEngines_76 : decode cX5_gatherEngines 76 = .ok (.aload_n 0, 1) := by decide +kernel
theorem dX5_gatherEngines_77 : decode cX5_gatherEngines 77 = .ok (.getfield 13, 3) := by decide +kernel
theorem dX5_gatherEngines_80 : decode cX5_gatherEngines 80 = .ok (.iload_n 3, 1) := by decide +kernel
theorem dX5_gatherEngines_81 : decode cX5_gatherEngines 81 = .ok (.aload_n 0, 1) := by decide +kernel
theorem dX5_gatherEngines_82 : decode cX5_gatherEngines 82 = .ok (.getfield 13, 3) := by decide +kernel
theorem dX5_gatherEngines_85 : decode cX5_gatherEngines 85 = .ok (.iload_n 3, 1) := by decide +kernel
theorem dX5_gatherEngines_86 : decode cX5_gatherEngines 86 = .ok (.iconst 1, 1) := by decide +kernel
theorem dX5_gatherEngines_87 : decode cX5_gatherEngines 87 = .ok (.isub, 1) := by decide +kernel
theorem dX5_gatherEngines_88 : decode cX5_gatherEngines 88 = .ok (.iaload, 1) := by decide +kernel
theorem dX5_gatherEngines_89 : decode cX5_gatherEngines 89 = .ok (.iastore, 1) := by decide +kernel
theorem dX5_gatherEngines_90 : decode cX5_gatherEngines 90 = .ok (.iinc 3 (-1), 3) := by decide +kernel
theorem dX5_gatherEngines_93 : decode cX5_gatherEngines 93 = .ok (.goto (-42), 3) := by decide +kernel
theorem dX5_gatherEngines_96 : decode cX5_gatherEngines 96 = .ok (.aload_n 0, 1) := by decide +kernel
theorem dX5_gatherEngines_97 : decode cX5_gatherEngines 97 = .ok (.getfield 13, 3) := by decide +kernel
theorem dX5_gatherEngines_100 : decode cX5_gatherEngines 100 = .ok (.iload_n 3, 1) := by decide +kernel
theorem dX5_gatherEngines_101 : decode cX5_gatherEngines 101 = .ok (.aload_n 1, 1) := by decide +kernel
theorem dX5_gatherEngines_102 : decode cX5_gatherEngines 102 = .ok (.getfield 82, 3) := by decide +kernel
theorem dX5_gatherEngines_105 : decode cX5_gatherEngines 105 = .ok (.iload_n 2, 1) := by decide +kernel
theorem dX5_gatherEngines_106 : decode cX5_gatherEngines 106 = .ok (.aaload, 1) := by decide +kernel
theorem dX5_gatherEngines_107 : decode cX5_gatherEngines 107 = .ok (.getfield 91, 3) := by decide +kernel
theorem dX5_gatherEngines_110 : decode cX5_gatherEngines 110 = .ok (.iastore, 1) := by decide +kernel
theorem dX5_gatherEngines_111 : decode cX5_gatherEngines 111 = .ok (.iinc 2 1, 3) := by decide +kernel
theorem dX5_gatherEngines_114 : decode cX5_gatherEngines 114 = .ok (.goto (-107), 3) := by decide +kernel
theorem dX5_gatherEngines_117 : decode cX5_gatherEngines 117 = .ok (.aload_n 0, 1) := by decide +kernel
theorem dX5_gatherEngines_118 : decode cX5_gatherEngines 118 = .ok (.getfield 13, 3) := by decide +kernel
theorem dX5_gatherEngines_121 : decode cX5_gatherEngines 121 = .ok (.iconst 0, 1) := by decide +kernel
theorem dX5_gatherEngines_122 : decode cX5_gatherEngines 122 = .ok (.iconst 0, 1) := by decide +kernel
theorem dX5_gatherEngines_123 : decode cX5_gatherEngines 123 = .ok (.iastore, 1) := by decide +kernel
theorem dX5_gatherEngines_124 : decode cX5_gatherEngines 124 = .ok (.iconst 1, 1) := by decide +kernel
theorem dX5_gatherEngines_125 : decode cX5_gatherEngines 125 = .ok (.istore_n 2, 1) := by decide +kernel
theorem dX5_gatherEngines_126 : decode cX5_gatherEngines 126 = .ok (.iload_n 2, 1) := by decide +kernel
theorem dX5_gatherEngines_127 : decode cX5_gatherEngines 127 = .ok (.aload_n 0, 1) := by decide +kernel
theorem dX5_gatherEngines_128 : decode cX5_gatherEngines 128 = .ok (.getfield 76, 3) := by decide +kernel
theorem dX5_gatherEngines_131 : decode cX5_gatherEngines 131 = .ok (.if_icmp .gt 26, 3) := by decide +kernel
theorem dX5_gatherEngines_134 : decode cX5_gatherEngines 134 = .ok (.aload_n 0, 1) := by decide +kernel
theorem dX5_gatherEngines_135 : decode cX5_gatherEngines 135 = .ok (.getfield 13, 3) := by decide +kernel
theorem dX5_gatherEngines_138 : decode cX5_gatherEngines 138 = .ok (.iload_n 2, 1) := by decide +kernel
theorem dX5_gatherEngines_139 : decode cX5_gatherEngines 139 = .ok (.dup2, 1) := by decide +kernel
theorem dX5_gatherEngines_140 : decode cX5_gatherEngines 140 = .ok (.iaload, 1) := by decide +kernel
theorem dX5_gatherEngines_141 : decode cX5_gatherEngines 141 = .ok (.aload_n 0, 1) := by decide +kernel
theorem dX5_gatherEngines_142 : decode cX5_gatherEngines 142 = .ok (.getfield 13, 3) := by decide +kernel
theorem dX5_gatherEngines_145 : decode cX5_gatherEngines 145 = .ok (.iload_n 2, 1) := by decide +kernel
theorem dX5_gatherEngines_146 : decode cX5_gatherEngines 146 = .ok (.iconst 1, 1) := by decide +kernel
theorem dX5_gatherEngines_147 : decode cX5_gatherEngines 147 = .ok (.isub, 1) := by decide +kernel
theorem dX5_gatherEngines_148 : decode cX5_gatherEngines 148 = .ok (.iaload, 1) := by decide +kernel
theorem dX5_gatherEngines_149 : decode cX5_gatherEngines 149 = .ok (.iadd, 1) := by decide +kernel
theorem dX5_gatherEngines_150 : decode cX5_gatherEngines 150 = .ok (.iastore, 1) := by decide +kernel
theorem dX5_gatherEngines_151 : decode cX5_gatherEngines 151 = .ok (.iinc 2 1, 3) := by decide +kernel
theorem dX5_gatherEngines_154 : decode cX5_gatherEngines 154 = .ok (.goto (-28), 3) := by decide +kernel
theorem dX5_gatherEngines_157 : decode cX5_gatherEngines 157 = .ok (.return_, 1) := by decide +kernel
theorem dX5_passPlannedHour_0 : decode cX5_passPlannedHour 0 = .ok (.aload_n 0, 1) := by decide +kernel
theorem dX5_passPlannedHour_1 : decode cX5_passPlannedHour 1 = .ok (.getfield 20, 3) := by decide +kernel
theorem dX5_passPlannedHour_4 : decode cX5_passPlannedHour 4 = .ok (.ldc 55, 2) := by decide +kernel
theorem dX5_passPlannedHour_6 : decode cX5_passPlannedHour 6 = .ok (.invokestatic 56, 3) := by decide +kernel
theorem dX5_passPlannedHour_9 : decode cX5_passPlannedHour 9 = .ok (.iconst 0, 1) := by decide +kernel
theorem dX5_passPlannedHour_10 : decode cX5_passPlannedHour 10 = .ok (.istore 4, 2) := by decide +kernel
theorem dX5_passPlannedHour_12 : decode cX5_passPlannedHour 12 = .ok (.iload 4, 2) := by decide +kernel
theorem dX5_passPlannedHour_14 : decode cX5_passPlannedHour 14 = .ok (.bipush 120, 2) := by decide +kernel
theorem dX5_passPlannedHour_16 : decode cX5_passPlannedHour 16 = .ok (.if_icmp .gt 107, 3) := by decide +kernel
theorem dX5_passPlannedHour_19 : decode cX5_passPlannedHour 19 = .ok (.iconst 0, 1) := by decide +kernel
theorem dX5_passPlannedHour_20 : decode cX5_passPlannedHour 20 = .ok (.istore 5, 2) := by decide +kernel
theorem dX5_passPlannedHour_22 : decode cX5_passPlannedHour 22 = .ok (.iload 5, 2) := by decide +kernel
theorem dX5_passPlannedHour_24 : decode cX5_passPlannedHour 24 = .ok (.aload_n 0, 1) := by decide +kernel
theorem dX5_passPlannedHour_25 : decode cX5_passPlannedHour 25 = .ok (.getfield 76, 3) := by decide +kernel
theorem dX5_passPlannedHour_28 : decode cX5_passPlannedHour 28 = .ok (.if_icmp .gt 89, 3) := by decide +kernel
theorem dX5_passPlannedHour_31 : decode cX5_passPlannedHour 31 = .ok (.iload 4, 2) := by decide +kernel
theorem dX5_passPlannedHour_33 : decode cX5_passPlannedHour 33 = .ok (.iload 5, 2) := by decide +kernel
theorem dX5_passPlannedHour_35 : decode cX5_passPlannedHour 35 = .ok (.iadd, 1) := by decide +kernel
theorem dX5_passPlannedHour_36 : decode cX5_passPlannedHour 36 = .ok (.bipush 120, 2) := by decide +kernel
theorem dX5_passPlannedHour_38 : decode cX5_passPlannedHour 38 = .ok (.if_icmp .gt 79, 3) := by decide +kernel
theorem dX5_passPlannedHour_41 : decode cX5_passPlannedHour 41 = .ok (.aload_n 0, 1) := by decide +kernel
theorem dX5_passPlannedHour_42 : decode cX5_passPlannedHour 42 = .ok (.getfield 17, 3) := by decide +kernel
theorem dX5_passPlannedHour_45 : decode cX5_passPlannedHour 45 = .ok (.iload 4, 2) := by decide +kernel
theorem dX5_passPlannedHour_47 : decode cX5_passPlannedHour 47 = .ok (.iaload, 1) := by decide +kernel
theorem dX5_passPlannedHour_48 : decode cX5_passPlannedHour 48 = .ok (.ldc 55, 2) := by decide +kernel
theorem dX5_passPlannedHour_50 : decode cX5_passPlannedHour 50 = .ok (.if_icmp .eq 67, 3) := by decide +kernel
theorem dX5_passPlannedHour_53 : decode cX5_passPlannedHour 53 = .ok (.iconst 0, 1) := by decide +kernel
theorem dX5_passPlannedHour_54 : decode cX5_passPlannedHour 54 = .ok (.aload_n 0, 1) := by decide +kernel
theorem dX5_passPlannedHour_55 : decode cX5_passPlannedHour 55 = .ok (.getfield 17, 3) := by decide +kernel
theorem dX5_passPlannedHour_58 : decode cX5_passPlannedHour 58 = .ok (.iload 4, 2) := by decide +kernel
theorem dX5_passPlannedHour_60 : decode cX5_passPlannedHour 60 = .ok (.iaload, 1) := by decide +kernel
theorem dX5_passPlannedHour_61 : decode cX5_passPlannedHour 61 = .ok (.iload_n 1, 1) := by decide +kernel
theorem dX5_passPlannedHour_62 : decode cX5_passPlannedHour 62 = .ok (.iadd, 1) := by decide +kernel
theorem dX5_passPlannedHour_63 : decode cX5_passPlannedHour 63 = .ok (.iload_n 2, 1) := by decide +kernel
theorem dX5_passPlannedHour_64 : decode cX5_passPlannedHour 64 = .ok (.isub, 1) := by decide +kernel
theorem dX5_passPlannedHour_65 : decode cX5_passPlannedHour 65 = .ok (.aload_n 0, 1) := by decide +kernel
theorem dX5_passPlannedHour_66 : decode cX5_passPlannedHour 66 = .ok (.getfield 13, 3) := by decide +kernel
theorem dX5_passPlannedHour_69 : decode cX5_passPlannedHour 69 = .ok (.iload 5, 2) := by decide +kernel
theorem dX5_passPlannedHour_71 : decode cX5_passPlannedHour 71 = .ok (.iaload, 1) := by decide +kernel
theorem dX5_passPlannedHour_72 : decode cX5_passPlannedHour 72 = .ok (.isub, 1) := by decide +kernel
theorem dX5_passPlannedHour_73 : decode cX5_passPlannedHour 73 = .ok (.invokestatic 94, 3) := by decide +kernel
theorem dX5_passPlannedHour_76 : decode cX5_passPlannedHour 76 = .ok (.istore 6, 2) := by decide +kernel
theorem dX5_passPlannedHour_78 : decode cX5_passPlannedHour 78 = .ok (.iload 6, 2) := by decide +kernel
theorem dX5_passPlannedHour_80 : decode cX5_passPlannedHour 80 = .ok (.iload_n 3, 1) := by decide +kernel
theorem dX5_passPlannedHour_81 : decode cX5_passPlannedHour 81 = .ok (.if_icmp .gt 30, 3) := by decide +kernel
theorem dX5_passPlannedHour_84 : decode cX5_passPlannedHour 84 = .ok (.iload 6, 2) := by decide +kernel
theorem dX5_passPlannedHour_86 : decode cX5_passPlannedHour 86 = .ok (.aload_n 0, 1) := by decide +kernel
theorem dX5_passPlannedHour_87 : decode cX5_passPlannedHour 87 = .ok (.getfield 20, 3) := by decide +kernel
theorem dX5_passPlannedHour_90 : decode cX5_passPlannedHour 90 = .ok (.iload 4, 2) := by decide +kernel
theorem dX5_passPlannedHour_92 : decode cX5_passPlannedHour 92 = .ok (.iload 5, 2) := by decide +kernel
theorem dX5_passPlannedHour_94 : decode cX5_passPlannedHour 94 = .ok (.iadd, 1) := by decide +kernel
theorem dX5_passPlannedHour_95 : decode cX5_passPlannedHour 95 = .ok (.iaload, 1) := by decide +kernel
theorem dX5_passPlannedHour_96 : decode cX5_passPlannedHour 96 = .ok (.if_icmp .ge 15, 3) := by decide +kernel
theorem dX5_passPlannedHour_99 : decode cX5_passPlannedHour 99 = .ok (.aload_n 0, 1) := by decide +kernel
theorem dX5_passPlannedHour_100 : decode cX5_passPlannedHour 100 = .ok (.getfield 20, 3) := by decide +kernel
theorem dX5_passPlannedHour_103 : decode cX5_passPlannedHour 103 = .ok (.iload 4, 2) := by decide +kernel
theorem dX5_passPlannedHour_105 : decode cX5_passPlannedHour 105 = .ok (.iload 5, 2) := by decide +kernel
theorem dX5_passPlannedHour_107 : decode cX5_passPlannedHour 107 = .ok (.iadd, 1) := by decide +kernel
theorem dX5_passPlannedHour_108 : decode cX5_passPlannedHour 108 = .ok (.iload 6, 2) := by decide +kernel
theorem dX5_passPlannedHour_110 : decode cX5_passPlannedHour 110 = .ok (.iastore, 1) := by decide +kernel
theorem dX5_passPlannedHour_111 : decode cX5_passPlannedHour 111 = .ok (.iinc 5 1, 3) := by decide +kernel
theorem dX5_passPlannedHour_114 : decode cX5_passPlannedHour 114 = .ok (.goto (-92), 3) := by decide +kernel
theorem dX5_passPlannedHour_117 : decode cX5_passPlannedHour 117 = .ok (.iinc 4 1, 3) := by decide +kernel
theorem dX5_passPlannedHour_120 : decode cX5_passPlannedHour 120 = .ok (.goto (-108), 3) := by decide +kernel
theorem dX5_passPlannedHour_123 : decode cX5_passPlannedHour 123 = .ok (.aload_n 0, 1) := by decide +kernel
theorem dX5_passPlannedHour_124 : decode cX5_passPlannedHour 124 = .ok (.getfield 20, 3) := by decide +kernel
theorem dX5_passPlannedHour_127 : decode cX5_passPlannedHour 127 = .ok (.iconst 0, 1) := by decide +kernel
theorem dX5_passPlannedHour_128 : decode cX5_passPlannedHour 128 = .ok (.aload_n 0, 1) := by decide +kernel
theorem dX5_passPlannedHour_129 : decode cX5_passPlannedHour 129 = .ok (.getfield 17, 3) := by decide +kernel
theorem dX5_passPlannedHour_132 : decode cX5_passPlannedHour 132 = .ok (.iconst 0, 1) := by decide +kernel
theorem dX5_passPlannedHour_133 : decode cX5_passPlannedHour 133 = .ok (.bipush 121, 2) := by decide +kernel
theorem dX5_passPlannedHour_135 : decode cX5_passPlannedHour 135 = .ok (.invokestatic 100, 3) := by decide +kernel
theorem dX5_passPlannedHour_138 : decode cX5_passPlannedHour 138 = .ok (.return_, 1) := by decide +kernel
theorem dX3_allMillsLift_0 : decode cX3_allMillsLift 0 = .ok (.aload_n 0, 1) := by decide +kernel
theorem dX3_allMillsLift_1 : decode cX3_allMillsLift 1 = .ok (.getfield 12, 3) := by decide +kernel
theorem dX3_allMillsLift_4 : decode cX3_allMillsLift 4 = .ok (.iload_n 1, 1) := by decide +kernel
theorem dX3_allMillsLift_5 : decode cX3_allMillsLift 5 = .ok (.invokevirtual 120, 3) := by decide +kernel
theorem dX3_allMillsLift_8 : decode cX3_allMillsLift 8 = .ok (.istore_n 2, 1) := by decide +kernel
theorem dX3_allMillsLift_9 : decode cX3_allMillsLift 9 = .ok (.iconst 0, 1) := by decide +kernel
theorem dX3_allMillsLift_10 : decode cX3_allMillsLift 10 = .ok (.istore_n 3, 1) := by decide +kernel
theorem dX3_allMillsLift_11 : decode cX3_allMillsLift 11 = .ok (.iconst 0, 1) := by decide +kernel
theorem dX3_allMillsLift_12 : decode cX3_allMillsLift 12 = .ok (.istore 4, 2) := by decide +kernel
theorem dX3_allMillsLift_14 : decode cX3_allMillsLift 14 = .ok (.iload 4, 2) := by decide +kernel
theorem dX3_allMillsLift_16 : decode cX3_allMillsLift 16 = .ok (.aload_n 0, 1) := by decide +kernel
theorem dX3_allMillsLift_17 : decode cX3_allMillsLift 17 = .ok (.getfield 47, 3) := by decide +kernel
theorem dX3_allMillsLift_20 : decode cX3_allMillsLift 20 = .ok (.if_icmp .ge 45, 3) := by decide +kernel
theorem dX3_allMillsLift_23 : decode cX3_allMillsLift 23 = .ok (.iload_n 3, 1) := by decide +kernel
theorem dX3_allMillsLift_24 : decode cX3_allMillsLift 24 = .ok (.aload_n 0, 1) := by decide +kernel
theorem dX3_allMillsLift_25 : decode cX3_allMillsLift 25 = .ok (.getfield 27, 3) := by decide +kernel
theorem dX3_allMillsLift_28 : decode cX3_allMillsLift 28 = .ok (.iload 4, 2) := by decide +kernel
theorem dX3_allMillsLift_30 : decode cX3_allMillsLift 30 = .ok (.aaload, 1) := by decide +kernel
theorem dX3_allMillsLift_31 : decode cX3_allMillsLift 31 = .ok (.getfield 64, 3) := by decide +kernel
theorem dX3_allMillsLift_34 : decode cX3_allMillsLift 34 = .ok (.iconst 2, 1) := by decide +kernel
theorem dX3_allMillsLift_35 : decode cX3_allMillsLift 35 = .ok (.if_icmp .ne 21, 3) := by decide +kernel
theorem dX3_allMillsLift_38 : decode cX3_allMillsLift 38 = .ok (.aload_n 0, 1) := by decide +kernel
theorem dX3_allMillsLift_39 : decode cX3_allMillsLift 39 = .ok (.getfield 27, 3) := by decide +kernel
theorem dX3_allMillsLift_42 : decode cX3_allMillsLift 42 = .ok (.iload 4, 2) := by decide +kernel
theorem dX3_allMillsLift_44 : decode cX3_allMillsLift 44 = .ok (.aaload, 1) := by decide +kernel
theorem dX3_allMillsLift_45 : decode cX3_allMillsLift 45 = .ok (.getfield 91, 3) := by decide +kernel
theorem dX3_allMillsLift_48 : decode cX3_allMillsLift 48 = .ok (.iload_n 2, 1) := by decide +kernel
theorem dX3_allMillsLift_49 : decode cX3_allMillsLift 49 = .ok (.imul, 1) := by decide +kernel
theorem dX3_allMillsLift_50 : decode cX3_allMillsLift 50 = .ok (.bipush 10, 2) := by decide +kernel
theorem dX3_allMillsLift_52 : decode cX3_allMillsLift 52 = .ok (.idiv, 1) := by decide +kernel
theorem dX3_allMillsLift_53 : decode cX3_allMillsLift 53 = .ok (.goto 4, 3) := by decide +kernel
theorem dX3_allMillsLift_56 : decode cX3_allMillsLift 56 = .ok (.iconst 0, 1) := by decide +kernel
theorem dX3_allMillsLift_57 : decode cX3_allMillsLift 57 = .ok (.iadd, 1) := by decide +kernel
theorem dX3_allMillsLift_58 : decode cX3_allMillsLift 58 = .ok (.istore_n 3, 1) := by decide +kernel
theorem dX3_allMillsLift_59 : decode cX3_allMillsLift 59 = .ok (.iinc 4 1, 3) := by decide +kernel
theorem dX3_allMillsLift_62 : decode cX3_allMillsLift 62 = .ok (.goto (-48), 3) := by decide +kernel
theorem dX3_allMillsLift_65 : decode cX3_allMillsLift 65 = .ok (.iload_n 3, 1) := by decide +kernel
theorem dX3_allMillsLift_66 : decode cX3_allMillsLift 66 = .ok (.ireturn, 1) := by decide +kernel
