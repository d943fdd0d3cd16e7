theorem dX11_init_55 : decode cX11_init 55 = .ok (.aload_n 0, 1) := by decide +kernel
theorem dX11_init_56 : decode cX11_init 56 = .ok (.new 40, 3) := by decide +kernel
theorem dX11_init_59 : decode cX11_init 59 = .ok (.dup, 1) := by decide +kernel
theorem dX11_init_60 : decode cX11_init 60 = .ok (.invokespecial 42, 3) := by decide +kernel
theorem dX11_init_63 : decode cX11_init 63 = .ok (.putfield 43, 3) := by decide +kernel
theorem dX11_init_66 : decode cX11_init 66 = .ok (.return_, 1) := by decide +kernel
theorem dX11_feed_0 : decode cX11_feed 0 = .ok (.aload_n 0, 1) := by decide +kernel
theorem dX11_feed_1 : decode cX11_feed 1 = .ok (.getfield 47, 3) := by decide +kernel
theorem dX11_feed_4 : decode cX11_feed 4 = .ok (.bipush 20, 2) := by decide +kernel
theorem dX11_feed_6 : decode cX11_feed 6 = .ok (.iadd, 1) := by decide +kernel
theorem dX11_feed_7 : decode cX11_feed 7 = .ok (.sipush 400, 3) := by decide +kernel
theorem dX11_feed_10 : decode cX11_feed 10 = .ok (.if_icmp .le 5, 3) := by decide +kernel
theorem dX11_feed_13 : decode cX11_feed 13 = .ok (.iconst (-1), 1) := by decide +kernel
theorem dX11_feed_14 : decode cX11_feed 14 = .ok (.ireturn, 1) := by decide +kernel
theorem dX11_feed_15 : decode cX11_feed 15 = .ok (.aload_n 0, 1) := by decide +kernel
theorem dX11_feed_16 : decode cX11_feed 16 = .ok (.iload_n 1, 1) := by decide +kernel
theorem dX11_feed_17 : decode cX11_feed 17 = .ok (.invokevirtual 51, 3) := by decide +kernel
theorem dX11_feed_20 : decode cX11_feed 20 = .ok (.aload_n 0, 1) := by decide +kernel
theorem dX11_feed_21 : decode cX11_feed 21 = .ok (.iload_n 2, 1) := by decide +kernel
theorem dX11_feed_22 : decode cX11_feed 22 = .ok (.invokevirtual 51, 3) := by decide +kernel
theorem dX11_feed_25 : decode cX11_feed 25 = .ok (.aload_n 0, 1) := by decide +kernel
theorem dX11_feed_26 : decode cX11_feed 26 = .ok (.iload_n 3, 1) := by decide +kernel
theorem dX11_feed_27 : decode cX11_feed 27 = .ok (.invokevirtual 51, 3) := by decide +kernel
theorem dX11_feed_30 : decode cX11_feed 30 = .ok (.aload_n 0, 1) := by decide +kernel
theorem dX11_feed_31 : decode cX11_feed 31 = .ok (.iload 4, 2) := by decide +kernel
theorem dX11_feed_33 : decode cX11_feed 33 = .ok (.invokevirtual 51, 3) := by decide +kernel
theorem dX11_feed_36 : decode cX11_feed 36 = .ok (.aload_n 0, 1) := by decide +kernel
theorem dX11_feed_37 : decode cX11_feed 37 = .ok (.iload 5, 2) := by decide +kernel
theorem dX11_feed_39 : decode cX11_feed 39 = .ok (.invokevirtual 51, 3) := by decide +kernel
theorem dX11_feed_42 : decode cX11_feed 42 = .ok (.aload_n 0, 1) := by decide +kernel
theorem dX11_feed_43 : decode cX11_feed 43 = .ok (.getfield 47, 3) := by decide +kernel
theorem dX11_feed_46 : decode cX11_feed 46 = .ok (.ireturn, 1) := by decide +kernel
theorem dX11_feedOne_0 : decode cX11_feedOne 0 = .ok (.bipush 24, 2) := by decide +kernel
theorem dX11_feedOne_2 : decode cX11_feedOne 2 = .ok (.istore_n 2, 1) := by decide +kernel
theorem dX11_feedOne_3 : decode cX11_feedOne 3 = .ok (.iload_n 2, 1) := by decide +kernel
theorem dX11_feedOne_4 : decode cX11_feedOne 4 = .ok (.ifCond .lt 35, 3) := by decide +kernel
theorem dX11_feedOne_7 : decode cX11_feedOne 7 = .ok (.aload_n 0, 1) := by decide +kernel
theorem dX11_feedOne_8 : decode cX11_feedOne 8 = .ok (.getfield 9, 3) := by decide +kernel
theorem dX11_feedOne_11 : decode cX11_feedOne 11 = .ok (.aload_n 0, 1) := by decide +kernel
theorem dX11_feedOne_12 : decode cX11_feedOne 12 = .ok (.getfield 47, 3) := by decide +kernel
theorem dX11_feedOne_15 : decode cX11_feedOne 15 = .ok (.iload_n 1, 1) := by decide +kernel
theorem dX11_feedOne_16 : decode cX11_feedOne 16 = .ok (.iload_n 2, 1) := by decide +kernel
theorem dX11_feedOne_17 : decode cX11_feedOne 17 = .ok (.iushr, 1) := by decide +kernel
theorem dX11_feedOne_18 : decode cX11_feedOne 18 = .ok (.sipush 255, 3) := by decide +kernel
theorem dX11_feedOne_21 : decode cX11_feedOne 21 = .ok (.iand, 1) := by decide +kernel
theorem dX11_feedOne_22 : decode cX11_feedOne 22 = .ok (.iastore, 1) := by decide +kernel
theorem dX11_feedOne_23 : decode cX11_feedOne 23 = .ok (.aload_n 0, 1) := by decide +kernel
theorem dX11_feedOne_24 : decode cX11_feedOne 24 = .ok (.dup, 1) := by decide +kernel
theorem dX11_feedOne_25 : decode cX11_feedOne 25 = .ok (.getfield 47, 3) := by decide +kernel
theorem dX11_feedOne_28 : decode cX11_feedOne 28 = .ok (.iconst 1, 1) := by decide +kernel
theorem dX11_feedOne_29 : decode cX11_feedOne 29 = .ok (.iadd, 1) := by decide +kernel
theorem dX11_feedOne_30 : decode cX11_feedOne 30 = .ok (.putfield 47, 3) := by decide +kernel
theorem dX11_feedOne_33 : decode cX11_feedOne 33 = .ok (.iinc 2 (-8), 3) := by decide +kernel
theorem dX11_feedOne_36 : decode cX11_feedOne 36 = .ok (.goto (-33), 3) := by decide +kernel
theorem dX11_feedOne_39 : decode cX11_feedOne 39 = .ok (.return_, 1) := by decide +kernel
theorem dX11_end_0 : decode cX11_end 0 = .ok (.iload_n 1, 1) := by decide +kernel
theorem dX11_end_1 : decode cX11_end 1 = .ok (.ifCond .lt 11, 3) := by decide +kernel
theorem dX11_end_4 : decode cX11_end 4 = .ok (.iload_n 1, 1) := by decide +kernel
theorem dX11_end_5 : decode cX11_end 5 = .ok (.aload_n 0, 1) := by decide +kernel
theorem dX11_end_6 : decode cX11_end 6 = .ok (.getfield 47, 3) := by decide +kernel
theorem dX11_end_9 : decode cX11_end 9 = .ok (.if_icmp .le 5, 3) := by decide +kernel
theorem dX11_end_12 : decode cX11_end 12 = .ok (.iconst 0, 1) := by decide +kernel
theorem dX11_end_13 : decode cX11_end 13 = .ok (.ireturn, 1) := by decide +kernel
theorem dX11_end_14 : decode cX11_end 14 = .ok (.aload_n 0, 1) := by decide +kernel
theorem dX11_end_15 : decode cX11_end 15 = .ok (.iload_n 1, 1) := by decide +kernel
theorem dX11_end_16 : decode cX11_end 16 = .ok (.putfield 47, 3) := by decide +kernel
theorem dX11_end_19 : decode cX11_end 19 = .ok (.iconst 1, 1) := by decide +kernel
theorem dX11_end_20 : decode cX11_end 20 = .ok (.ireturn, 1) := by decide +kernel
theorem dX11_land_0 : decode cX11_land 0 = .ok (.iload_n 1, 1) := by decide +kernel
theorem dX11_land_1 : decode cX11_land 1 = .ok (.invokestatic 55, 3) := by decide +kernel
theorem dX11_land_4 : decode cX11_land 4 = .ok (.iload_n 2, 1) := by decide +kernel
theorem dX11_land_5 : decode cX11_land 5 = .ok (.invokestatic 55, 3) := by decide +kernel
theorem dX11_land_8 : decode cX11_land 8 = .ok (.iload_n 3, 1) := by decide +kernel
theorem dX11_land_9 : decode cX11_land 9 = .ok (.sipush (-900), 3) := by decide +kernel
theorem dX11_land_12 : decode cX11_land 12 = .ok (.sipush 300, 3) := by decide +kernel
theorem dX11_land_15 : decode cX11_land 15 = .ok (.invokestatic 58, 3) := by decide +kernel
theorem dX11_land_18 : decode cX11_land 18 = .ok (.ifCond .eq 28, 3) := by decide +kernel
theorem dX11_land_21 : decode cX11_land 21 = .ok (.iload 4, 2) := by decide +kernel
theorem dX11_land_23 : decode cX11_land 23 = .ok (.iconst 0, 1) := by decide +kernel
theorem dX11_land_24 : decode cX11_land 24 = .ok (.iconst 2, 1) := by decide +kernel
theorem dX11_land_25 : decode cX11_land 25 = .ok (.invokestatic 58, 3) := by decide +kernel
theorem dX11_land_28 : decode cX11_land 28 = .ok (.ifCond .eq 18, 3) := by decide +kernel
theorem dX11_land_31 : decode cX11_land 31 = .ok (.iload 5, 2) := by decide +kernel
theorem dX11_land_33 : decode cX11_land 33 = .ok (.iconst 0, 1) := by decide +kernel
theorem dX11_land_34 : decode cX11_land 34 = .ok (.bipush 20, 2) := by decide +kernel
theorem dX11_land_36 : decode cX11_land 36 = .ok (.invokestatic 58, 3) := by decide +kernel
theorem dX11_land_39 : decode cX11_land 39 = .ok (.ifCond .eq 7, 3) := by decide +kernel
theorem dX11_land_42 : decode cX11_land 42 = .ok (.iconst 1, 1) := by decide +kernel
theorem dX11_land_43 : decode cX11_land 43 = .ok (.goto 4, 3) := by decide +kernel
theorem dX11_land_46 : decode cX11_land 46 = .ok (.iconst 0, 1) := by decide +kernel
theorem dX11_land_47 : decode cX11_land 47 = .ok (.invokestatic 62, 3) := by decide +kernel
theorem dX11_land_50 : decode cX11_land 50 = .ok (.aload_n 0, 1) := by decide +kernel
theorem dX11_land_51 : decode cX11_land 51 = .ok (.getfield 16, 3) := by decide +kernel
theorem dX11_land_54 : decode cX11_land 54 = .ok (.getfield 66, 3) := by decide +kernel
theorem dX11_land_57 : decode cX11_land 57 = .ok (.ifCond .le 13, 3) := by decide +kernel
theorem dX11_land_60 : decode cX11_land 60 = .ok (.new 69, 3) := by decide +kernel
theorem dX11_land_63 : decode cX11_land 63 = .ok (.dup, 1) := by decide +kernel
theorem dX11_land_64 : decode cX11_land 64 = .ok (.ldc 71, 2) := by decide +kernel
theorem dX11_land_66 : decode cX11_land 66 = .ok (.invokespecial 73, 3) := by decide +kernel
theorem dX11_land_69 : decode cX11_land 69 = .ok (.athrow, 1) := by decide +kernel
theorem dX11_land_70 : decode cX11_land 70 = .ok (.aload_n 0, 1) := by decide +kernel
theorem dX11_land_71 : decode cX11_land 71 = .ok (.getfield 23, 3) := by decide +kernel
theorem dX11_land_74 : decode cX11_land 74 = .ok (.invokevirtual 76, 3) := by decide +kernel
theorem dX11_land_77 : decode cX11_land 77 = .ok (.iconst 0, 1) := by decide +kernel
theorem dX11_land_78 : decode cX11_land 78 = .ok (.istore 6, 2) := by decide +kernel
theorem dX11_land_80 : decode cX11_land 80 = .ok (.iconst 0, 1) := by decide +kernel
theorem dX11_land_81 : decode cX11_land 81 = .ok (.istore 7, 2) := by decide +kernel
theorem dX11_land_83 : decode cX11_land 83 = .ok (.iload 7, 2) := by decide +kernel
theorem dX11_land_85 : decode cX11_land 85 = .ok (.bipush 96, 2) := by decide +kernel
theorem dX11_land_87 : decode cX11_land 87 = .ok (.if_icmp .ge 62, 3) := by decide +kernel
theorem dX11_land_90 : decode cX11_land 90 = .ok (.iload 7, 2) := by decide +kernel
theorem dX11_land_92 : decode cX11_land 92 = .ok (.iload_n 1, 1) := by decide +kernel
theorem dX11_land_93 : decode cX11_land 93 = .ok (.iload_n 2, 1) := by decide +kernel
theorem dX11_land_94 : decode cX11_land 94 = .ok (.invokestatic 79, 3) := by decide +kernel
theorem dX11_land_97 : decode cX11_land 97 = .ok (.ifCond .eq 46, 3) := by decide +kernel
theorem dX11_land_100 : decode cX11_land 100 = .ok (.iload 6, 2) := by decide +kernel
theorem dX11_land_102 : decode cX11_land 102 = .ok (.aload_n 0, 1) := by decide +kernel
theorem dX11_land_103 : decode cX11_land 103 = .ok (.getfield 16, 3) := by decide +kernel
theorem dX11_land_106 : decode cX11_land 106 = .ok (.getfield 82, 3) := by decide +kernel
theorem dX11_land_109 : decode cX11_land 109 = .ok (.getfield 86, 3) := by decide +kernel
theorem dX11_land_112 : decode cX11_land 112 = .ok (.iload 7, 2) := by decide +kernel
theorem dX11_land_114 : decode cX11_land 114 = .ok (.baload, 1) := by decide +kernel
theorem dX11_land_115 : decode cX11_land 115 = .ok (.ifCond .eq 7, 3) := by decide +kernel
theorem dX11_land_118 : decode cX11_land 118 = .ok (.iconst 0, 1) := by decide +kernel
theorem dX11_land_119 : decode cX11_land 119 = .ok (.goto 4, 3) := by decide +kernel
theorem dX11_land_122 : decode cX11_land 122 = .ok (.iconst 1, 1) := by decide +kernel
theorem dX11_land_123 : decode cX11_land 123 = .ok (.iadd, 1) := by decide +kernel
theorem dX11_land_124 : decode cX11_land 124 = .ok (.istore 6, 2) := by decide +kernel
theorem dX11_land_126 : decode cX11_land 126 = .ok (.aload_n 0, 1) := by decide +kernel
theorem dX11_land_127 : decode cX11_land 127 = .ok (.getfield 16, 3) := by decide +kernel
theorem dX11_land_130 : decode cX11_land 130 = .ok (.getfield 82, 3) := by decide +kernel
theorem dX11_land_133 : decode cX11_land 133 = .ok (.iload 7, 2) := by decide +kernel
theorem dX11_land_135 : decode cX11_land 135 = .ok (.iload_n 3, 1) := by decide +kernel
theorem dX11_land_136 : decode cX11_land 136 = .ok (.iload 4, 2) := by decide +kernel
theorem dX11_land_138 : decode cX11_land 138 = .ok (.iload 5, 2) := by decide +kernel
theorem dX11_land_140 : decode cX11_land 140 = .ok (.invokevirtual 92, 3) := by decide +kernel
theorem dX11_land_143 : decode cX11_land 143 = .ok (.iinc 7 1, 3) := by decide +kernel
theorem dX11_land_146 : decode cX11_land 146 = .ok (.goto (-63), 3) := by decide +kernel
theorem dX11_land_149 : decode cX11_land 149 = .ok (.iload 6, 2) := by decide +kernel
theorem dX11_land_151 : decode cX11_land 151 = .ok (.ireturn, 1) := by decide +kernel
theorem dX11_fill_0 : decode cX11_fill 0 = .ok (.iload_n 1, 1) := by decide +kernel
theorem dX11_fill_1 : decode cX11_fill 1 = .ok (.invokestatic 55, 3) := by decide +kernel
theorem dX11_fill_4 : decode cX11_fill 4 = .ok (.iload_n 2, 1) := by decide +kernel
theorem dX11_fill_5 : decode cX11_fill 5 = .ok (.iconst 0, 1) := by decide +kernel
theorem dX11_fill_6 : decode cX11_fill 6 = .ok (.sipush 900, 3) := by decide +kernel
theorem dX11_fill_9 : decode cX11_fill 9 = .ok (.invokestatic 58, 3) := by decide +kernel
theorem dX11_fill_12 : decode cX11_fill 12 = .ok (.ifCond .eq 17, 3) := by decide +kernel
theorem dX11_fill_15 : decode cX11_fill 15 = .ok (.iload_n 3, 1) := by decide +kernel
theorem dX11_fill_16 : decode cX11_fill 16 = .ok (.iconst 0, 1) := by decide +kernel
theorem dX11_fill_17 : decode cX11_fill 17 = .ok (.ldc 96, 2) := by decide +kernel
theorem dX11_fill_19 : decode cX11_fill 19 = .ok (.invokestatic 58, 3) := by decide +kernel
theorem dX11_fill_22 : decode cX11_fill 22 = .ok (.ifCond .eq 7, 3) := by decide +kernel
theorem dX11_fill_25 : decode cX11_fill 25 = .ok (.iconst 1, 1) := by decide +kernel
theorem dX11_fill_26 : decode cX11_fill 26 = .ok (.goto 4, 3) := by decide +kernel
theorem dX11_fill_29 : decode cX11_fill 29 = .ok (.iconst 0, 1) := by decide +kernel
theorem dX11_fill_30 : decode cX11_fill 30 = .ok (.invokestatic 62, 3) := by decide +kernel
theorem dX11_fill_33 : decode cX11_fill 33 = .ok (.aload_n 0, 1) := by decide +kernel
theorem dX11_fill_34 : decode cX11_fill 34 = .ok (.getfield 16, 3) := by decide +kernel
theorem dX11_fill_37 : decode cX11_fill 37 = .ok (.getfield 82, 3) := by decide +kernel
theorem dX11_fill_40 : decode cX11_fill 40 = .ok (.getfield 86, 3) := by decide +kernel
theorem dX11_fill_43 : decode cX11_fill 43 = .ok (.iload_n 1, 1) := by decide +kernel
theorem dX11_fill_44 : decode cX11_fill 44 = .ok (.baload, 1) := by decide +kernel
theorem dX11_fill_45 : decode cX11_fill 45 = .ok (.ifCond .ne 5, 3) := by decide +kernel
theorem dX11_fill_48 : decode cX11_fill 48 = .ok (.iconst 0, 1) := by decide +kernel
theorem dX11_fill_49 : decode cX11_fill 49 = .ok (.ireturn, 1) := by decide +kernel
theorem dX11_fill_50 : decode cX11_fill 50 = .ok (.aload_n 0, 1) := by decide +kernel
theorem dX11_fill_51 : decode cX11_fill 51 = .ok (.getfield 23, 3) := by decide +kernel
theorem dX11_fill_54 : decode cX11_fill 54 = .ok (.invokevirtual 76, 3) := by decide +kernel
theorem dX11_fill_57 : decode cX11_fill 57 = .ok (.aload_n 0, 1) := by decide +kernel
theorem dX11_fill_58 : decode cX11_fill 58 = .ok (.getfield 16, 3) := by decide +kernel
theorem dX11_fill_61 : decode cX11_fill 61 = .ok (.getfield 82, 3) := by decide +kernel
theorem dX11_fill_64 : decode cX11_fill 64 = .ok (.iload_n 1, 1) := by decide +kernel
theorem dX11_fill_65 : decode cX11_fill 65 = .ok (.iload_n 2, 1) := by decide +kernel
theorem dX11_fill_66 : decode cX11_fill 66 = .ok (.iload_n 3, 1) := by decide +kernel
theorem dX11_fill_67 : decode cX11_fill 67 = .ok (.invokevirtual 97, 3) := by decide +kernel
theorem dX11_fill_70 : decode cX11_fill 70 = .ok (.iconst 1, 1) := by decide +kernel
theorem dX11_fill_71 : decode cX11_fill 71 = .ok (.ireturn, 1) := by decide +kernel
theorem dX11_tide_0 : decode cX11_tide 0 = .ok (.iload_n 1, 1) := by decide +kernel
theorem dX11_tide_1 : decode cX11_tide 1 = .ok (.iconst 0, 1) := by decide +kernel
theorem dX11_tide_2 : decode cX11_tide 2 = .ok (.bipush 11, 2) := by decide +kernel
theorem dX11_tide_4 : decode cX11_tide 4 = .ok (.invokestatic 58, 3) := by decide +kernel
theorem dX11_tide_7 : decode cX11_tide 7 = .ok (.ifCond .eq 20, 3) := by decide +kernel
theorem dX11_tide_10 : decode cX11_tide 10 = .ok (.iload_n 2, 1) := by decide +kernel
theorem dX11_tide_11 : decode cX11_tide 11 = .ok (.sipush (-400), 3) := by decide +kernel
theorem dX11_tide_14 : decode cX11_tide 14 = .ok (.sipush 400, 3) := by decide +kernel
theorem dX11_tide_17 : decode cX11_tide 17 = .ok (.invokestatic 58, 3) := by decide +kernel
theorem dX11_tide_20 : decode cX11_tide 20 = .ok (.ifCond .eq 7, 3) := by decide +kernel
theorem dX11_tide_23 : decode cX11_tide 23 = .ok (.iconst 1, 1) := by decide +kernel
theorem dX11_tide_24 : decode cX11_tide 24 = .ok (.goto 4, 3) := by decide +kernel
theorem dX11_tide_27 : decode cX11_tide 27 = .ok (.iconst 0, 1) := by decide +kernel
theorem dX11_tide_28 : decode cX11_tide 28 = .ok (.invokestatic 62, 3) := by decide +kernel
theorem dX11_tide_31 : decode cX11_tide 31 = .ok (.aload_n 0, 1) := by decide +kernel
theorem dX11_tide_32 : decode cX11_tide 32 = .ok (.getfield 23, 3) := by decide +kernel
theorem dX11_tide_35 : decode cX11_tide 35 = .ok (.invokevirtual 76, 3) := by decide +kernel
theorem dX11_tide_38 : decode cX11_tide 38 = .ok (.aload_n 0, 1) := by decide +kernel
theorem dX11_tide_39 : decode cX11_tide 39 = .ok (.getfield 16, 3) := by decide +kernel
theorem dX11_tide_42 : decode cX11_tide 42 = .ok (.getfield 101, 3) := by decide +kernel
theorem dX11_tide_45 : decode cX11_tide 45 = .ok (.getfield 105, 3) := by decide +kernel
theorem dX11_tide_48 : decode cX11_tide 48 = .ok (.iload_n 1, 1) := by decide +kernel
theorem dX11_tide_49 : decode cX11_tide 49 = .ok (.iload_n 2, 1) := by decide +kernel
theorem dX11_tide_50 : decode cX11_tide 50 = .ok (.iastore, 1) := by decide +kernel
theorem dX11_tide_51 : decode cX11_tide 51 = .ok (.return_, 1) := by decide +kernel
theorem dX11_storm_0 : decode cX11_storm 0 = .ok (.iconst 0, 1) := by decide +kernel
theorem dX11_storm_1 : decode cX11_storm 1 = .ok (.iload_n 1, 1) := by decide +kernel
theorem dX11_storm_2 : decode cX11_storm 2 = .ok (.if_icmp .gt 29, 3) := by decide +kernel
theorem dX11_storm_5 : decode cX11_storm 5 = .ok (.iload_n 1, 1) := by decide +kernel
theorem dX11_storm_6 : decode cX11_storm 6 = .ok (.iload_n 2, 1) := by decide +kernel
theorem dX11_storm_7 : decode cX11_storm 7 = .ok (.if_icmp .gt 24, 3) := by decide +kernel
theorem dX11_storm_10 : decode cX11_storm 10 = .ok (.iload_n 2, 1) := by decide +kernel
theorem dX11_storm_11 : decode cX11_storm 11 = .ok (.ldc 110, 2) := by decide +kernel
theorem dX11_storm_13 : decode cX11_storm 13 = .ok (.if_icmp .gt 18, 3) := by decide +kernel
theorem dX11_storm_16 : decode cX11_storm 16 = .ok (.iload_n 3, 1) := by decide +kernel
theorem dX11_storm_17 : decode cX11_storm 17 = .ok (.iconst 1, 1) := by decide +kernel
theorem dX11_storm_18 : decode cX11_storm 18 = .ok (.sipush 500, 3) := by decide +kernel
theorem dX11_storm_21 : decode cX11_storm 21 = .ok (.invokestatic 58, 3) := by decide +kernel
theorem dX11_storm_24 : decode cX11_storm 24 = .ok (.ifCond .eq 7, 3) := by decide +kernel
theorem dX11_storm_27 : decode cX11_storm 27 = .ok (.iconst 1, 1) := by decide +kernel
theorem dX11_storm_28 : decode cX11_storm 28 = .ok (.goto 4, 3) := by decide +kernel
theorem dX11_storm_31 : decode cX11_storm 31 = .ok (.iconst 0, 1) := by decide +kernel
theorem dX11_storm_32 : decode cX11_storm 32 = .ok (.invokestatic 62, 3) := by decide +kernel
theorem dX11_storm_35 : decode cX11_storm 35 = .ok (.aload_n 0, 1) := by decide +kernel
theorem dX11_storm_36 : decode cX11_storm 36 = .ok (.getfield 16, 3) := by decide +kernel
theorem dX11_storm_39 : decode cX11_storm 39 = .ok (.getfield 101, 3) := by decide +kernel
theorem dX11_storm_42 : decode cX11_storm 42 = .ok (.getfield 111, 3) := by decide +kernel
theorem dX11_storm_45 : decode cX11_storm 45 = .ok (.bipush 20, 2) := by decide +kernel
theorem dX11_storm_47 : decode cX11_storm 47 = .ok (.if_icmp .ne 5, 3) := by decide +kernel
theorem dX11_storm_50 : decode cX11_storm 50 = .ok (.iconst (-1), 1) := by decide +kernel
theorem dX11_storm_51 : decode cX11_storm 51 = .ok (.ireturn, 1) := by decide +kernel
theorem dX11_storm_52 : decode cX11_storm 52 = .ok (.aload_n 0, 1) := by decide +kernel
theorem dX11_storm_53 : decode cX11_storm 53 = .ok (.getfield 23, 3) := by decide +kernel
theorem dX11_storm_56 : decode cX11_storm 56 = .ok (.invokevirtual 76, 3) := by decide +kernel
theorem dX11_storm_59 : decode cX11_storm 59 = .ok (.aload_n 0, 1) := by decide +kernel
theorem dX11_storm_60 : decode cX11_storm 60 = .ok (.getfield 16, 3) := by decide +kernel
theorem dX11_storm_63 : decode cX11_storm 63 = .ok (.getfield 101, 3) := by decide +kernel
theorem dX11_storm_66 : decode cX11_storm 66 = .ok (.iload_n 1, 1) := by decide +kernel
theorem dX11_storm_67 : decode cX11_storm 67 = .ok (.iload_n 2, 1) := by decide +kernel
theorem dX11_storm_68 : decode cX11_storm 68 = .ok (.iload_n 3, 1) := by decide +kernel
theorem dX11_storm_69 : decode cX11_storm 69 = .ok (.invokevirtual 114, 3) := by decide +kernel
theorem dX11_storm_72 : decode cX11_storm 72 = .ok (.ireturn, 1) := by decide +kernel
theorem dX11_weather_0 : decode cX11_weather 0 = .ok (.iload_n 2, 1) := by decide +kernel
theorem dX11_weather_1 : decode cX11_weather 1 = .ok (.iconst 0, 1) := by decide +kernel
theorem dX11_weather_2 : decode cX11_weather 2 = .ok (.ldc 110, 2) := by decide +kernel
theorem dX11_weather_4 : decode cX11_weather 4 = .ok (.invokestatic 58, 3) := by decide +kernel
theorem dX11_weather_7 : decode cX11_weather 7 = .ok (.ifCond .eq 34, 3) := by decide +kernel
theorem dX11_weather_10 : decode cX11_weather 10 = .ok (.iload_n 1, 1) := by decide +kernel
theorem dX11_weather_11 : decode cX11_weather 11 = .ok (.ifCond .eq 16, 3) := by decide +kernel
theorem dX11_weather_14 : decode cX11_weather 14 = .ok (.iload_n 3, 1) := by decide +kernel
theorem dX11_weather_15 : decode cX11_weather 15 = .ok (.iconst 0, 1) := by decide +kernel
theorem dX11_weather_16 : decode cX11_weather 16 = .ok (.bipush 20, 2) := by decide +kernel
theorem dX11_weather_18 : decode cX11_weather 18 = .ok (.invokestatic 58, 3) := by decide +kernel
theorem dX11_weather_21 : decode cX11_weather 21 = .ok (.ifCond .eq 20, 3) := by decide +kernel
theorem dX11_weather_24 : decode cX11_weather 24 = .ok (.goto 13, 3) := by decide +kernel
theorem dX11_weather_27 : decode cX11_weather 27 = .ok (.iload_n 3, 1) := by decide +kernel
theorem dX11_weather_28 : decode cX11_weather 28 = .ok (.iconst (-1), 1) := by decide +kernel
theorem dX11_weather_29 : decode cX11_weather 29 = .ok (.bipush 9, 2) := by decide +kernel
theorem dX11_weather_31 : decode cX11_weather 31 = .ok (.invokestatic 58, 3) := by decide +kernel
theorem dX11_weather_34 : decode cX11_weather 34 = .ok (.ifCond .eq 7, 3) := by decide +kernel
theorem dX11_weather_37 : decode cX11_weather 37 = .ok (.iconst 1, 1) := by decide +kernel
theorem dX11_weather_38 : decode cX11_weather 38 = .ok (.goto 4, 3) := by decide +kernel
theorem dX11_weather_41 : decode cX11_weather 41 = .ok (.iconst 0, 1) := by decide +kernel
theorem dX11_weather_42 : decode cX11_weather 42 = .ok (.invokestatic 62, 3) := by decide +kernel
theorem dX11_weather_45 : decode cX11_weather 45 = .ok (.iload_n 1, 1) := by decide +kernel
theorem dX11_weather_46 : decode cX11_weather 46 = .ok (.ifCond .eq 16, 3) := by decide +kernel
theorem dX11_weather_49 : decode cX11_weather 49 = .ok (.aload_n 0, 1) := by decide +kernel
theorem dX11_weather_50 : decode cX11_weather 50 = .ok (.getfield 16, 3) := by decide +kernel
theorem dX11_weather_53 : decode cX11_weather 53 = .ok (.getfield 101, 3) := by decide +kernel
theorem dX11_weather_56 : decode cX11_weather 56 = .ok (.getfield 118, 3) := by decide +kernel
theorem dX11_weather_59 : decode cX11_weather 59 = .ok (.goto 13, 3) := by decide +kernel
theorem dX11_weather_62 : decode cX11_weather 62 = .ok (.aload_n 0, 1) := by decide +kernel
theorem dX11_weather_63 : decode cX11_weather 63 = .ok (.getfield 16, 3) := by decide +kernel
theorem dX11_weather_66 : decode cX11_weather 66 = .ok (.getfield 101, 3) := by decide +kernel
theorem dX11_weather_69 : decode cX11_weather 69 = .ok (.getfield 122, 3) := by decide +kernel
theorem dX11_weather_72 : decode cX11_weather 72 = .ok (.astore 4, 2) := by decide +kernel
theorem dX11_weather_74 : decode cX11_weather 74 = .ok (.aload 4, 2) := by decide +kernel
theorem dX11_weather_76 : decode cX11_weather 76 = .ok (.getfield 125, 3) := by decide +kernel
theorem dX11_weather_79 : decode cX11_weather 79 = .ok (.bipush 60, 2) := by decide +kernel
theorem dX11_weather_81 : decode cX11_weather 81 = .ok (.if_icmp .ne 5, 3) := by decide +kernel
theorem dX11_weather_84 : decode cX11_weather 84 = .ok (.iconst (-1), 1) := by decide +kernel
theorem dX11_weather_85 : decode cX11_weather 85 = .ok (.ireturn, 1) := by decide +kernel
theorem dX11_weather_86 : decode cX11_weather 86 = .ok (.aload_n 0, 1) := by decide +kernel
theorem dX11_weather_87 : decode cX11_weather 87 = .ok (.getfield 23, 3) := by decide +kernel
theorem dX11_weather_90 : decode cX11_weather 90 = .ok (.invokevirtual 76, 3) := by decide +kernel
theorem dX11_weather_93 : decode cX11_weather 93 = .ok (.aload 4, 2) := by decide +kernel
theorem dX11_weather_95 : decode cX11_weather 95 = .ok (.iload_n 2, 1) := by decide +kernel
theorem dX11_weather_96 : decode cX11_weather 96 = .ok (.iload_n 3, 1) := by decide +kernel
theorem dX11_weather_97 : decode cX11_weather 97 = .ok (.invokevirtual 130, 3) := by decide +kernel
theorem dX11_weather_100 : decode cX11_weather 100 = .ok (.ireturn, 1) := by decide +kernel
theorem dX11_sky_0 : decode cX11_sky 0 = .ok (.iload_n 1, 1) := by decide +kernel
theorem dX11_sky_1 : decode cX11_sky 1 = .ok (.iconst 0, 1) := by decide +kernel
theorem dX11_sky_2 : decode cX11_sky 2 = .ok (.ldc 110, 2) := by decide +kernel
theorem dX11_sky_4 : decode cX11_sky 4 = .ok (.invokestatic 58, 3) := by decide +kernel
theorem dX11_sky_7 : decode cX11_sky 7 = .ok (.ifCond .eq 12, 3) := by decide +kernel
theorem dX11_sky_10 : decode cX11_sky 10 = .ok (.iload_n 2, 1) := by decide +kernel
theorem dX11_sky_11 : decode cX11_sky 11 = .ok (.iconst 0, 1) := by decide +kernel
theorem dX11_sky_12 : decode cX11_sky 12 = .ok (.iconst 2, 1) := by decide +kernel
theorem dX11_sky_13 : decode cX11_sky 13 = .ok (.invokestatic 58, 3) := by decide +kernel
theorem dX11_sky_16 : decode cX11_sky 16 = .ok (.ifCond .ne 13, 3) := by decide +kernel
theorem dX11_sky_19 : decode cX11_sky 19 = .ok (.new 134, 3) := by decide +kernel
theorem dX11_sky_22 : decode cX11_sky 22 = .ok (.dup, 1) := by decide +kernel
theorem dX11_sky_23 : decode cX11_sky 23 = .ok (.ldc 136, 2) := by decide +kernel
theorem dX11_sky_25 : decode cX11_sky 25 = .ok (.invokespecial 138, 3) := by decide +kernel
theorem dX11_sky_28 : decode cX11_sky 28 = .ok (.athrow, 1) := by decide +kernel
theorem dX11_sky_29 : decode cX11_sky 29 = .ok (.iload_n 2, 1) := by decide +kernel
theorem dX11_sky_30 : decode cX11_sky 30 = .ok (.ifCond .ne 15, 3) := by decide +kernel
theorem dX11_sky_33 : decode cX11_sky 33 = .ok (.aload_n 0, 1) := by decide +kernel
theorem dX11_sky_34 : decode cX11_sky 34 = .ok (.getfield 16, 3) := by decide +kernel
theorem dX11_sky_37 : decode cX11_sky 37 = .ok (.getfield 101, 3) := by decide +kernel
theorem dX11_sky_40 : decode cX11_sky 40 = .ok (.iload_n 1, 1) := by decide +kernel
theorem dX11_sky_41 : decode cX11_sky 41 = .ok (.invokevirtual 139, 3) := by decide +kernel
theorem dX11_sky_44 : decode cX11_sky 44 = .ok (.ireturn, 1) := by decide +kernel
theorem dX11_sky_45 : decode cX11_sky 45 = .ok (.iload_n 2, 1) := by decide +kernel
theorem dX11_sky_46 : decode cX11_sky 46 = .ok (.iconst 1, 1) := by decide +kernel
theorem dX11_sky_47 : decode cX11_sky 47 = .ok (.if_icmp .ne 17, 3) := by decide +kernel
theorem dX11_sky_50 : decode cX11_sky 50 = .ok (.aload_n 0, 1) := by decide +kernel
theorem dX11_sky_51 : decode cX11_sky 51 = .ok (.getfield 16, 3) := by decide +kernel
theorem dX11_sky_54 : decode cX11_sky 54 = .ok (.getfield 101, 3) := by decide +kernel
theorem dX11_sky_57 : decode cX11_sky 57 = .ok (.iload_n 1, 1) := by decide +kernel
theorem dX11_sky_58 : decode cX11_sky 58 = .ok (.invokevirtual 143, 3) := by decide +kernel
theorem dX11_sky_61 : decode cX11_sky 61 = .ok (.goto 14, 3) := by decide +kernel
theorem dX11_sky_64 : decode cX11_sky 64 = .ok (.aload_n 0, 1) := by decide +kernel
theorem dX11_sky_65 : decode cX11_sky 65 = .ok (.getfield 16, 3) := by decide +kernel
theorem dX11_sky_68 : decode cX11_sky 68 = .ok (.getfield 101, 3) := by decide +kernel
theorem dX11_sky_71 : decode cX11_sky 71 = .ok (.iload_n 1, 1) := by decide +kernel
theorem dX11_sky_72 : decode cX11_sky 72 = .ok (.invokevirtual 146, 3) := by decide +kernel
theorem dX11_sky_75 : decode cX11_sky 75 = .ok (.ireturn, 1) := by decide +kernel
theorem dX11_dike_0 : decode cX11_dike 0 = .ok (.iload_n 1, 1) := by decide +kernel
theorem dX11_dike_1 : decode cX11_dike 1 = .ok (.invokestatic 55, 3) := by decide +kernel
theorem dX11_dike_4 : decode cX11_dike 4 = .ok (.iload_n 2, 1) := by decide +kernel
theorem dX11_dike_5 : decode cX11_dike 5 = .ok (.invokestatic 55, 3) := by decide +kernel
theorem dX11_dike_8 : decode cX11_dike 8 = .ok (.iload_n 3, 1) := by decide +kernel
theorem dX11_dike_9 : decode cX11_dike 9 = .ok (.invokestatic 55, 3) := by decide +kernel
theorem dX11_dike_12 : decode cX11_dike 12 = .ok (.iload 4, 2) := by decide +kernel
theorem dX11_dike_14 : decode cX11_dike 14 = .ok (.iconst 1, 1) := by decide +kernel
theorem dX11_dike_15 : decode cX11_dike 15 = .ok (.sipush 1000, 3) := by decide +kernel
theorem dX11_dike_18 : decode cX11_dike 18 = .ok (.invokestatic 58, 3) := by decide +kernel
theorem dX11_dike_21 : decode cX11_dike 21 = .ok (.invokestatic 62, 3) := by decide +kernel
theorem dX11_dike_24 : decode cX11_dike 24 = .ok (.aload_n 0, 1) := by decide +kernel
theorem dX11_dike_25 : decode cX11_dike 25 = .ok (.invokevirtual 149, 3) := by decide +kernel
theorem dX11_dike_28 : decode cX11_dike 28 = .ok (.aload_n 0, 1) := by decide +kernel
theorem dX11_dike_29 : decode cX11_dike 29 = .ok (.getfield 16, 3) := by decide +kernel
theorem dX11_dike_32 : decode cX11_dike 32 = .ok (.iload_n 1, 1) := by decide +kernel
theorem dX11_dike_33 : decode cX11_dike 33 = .ok (.invokevirtual 152, 3) := by decide +kernel
theorem dX11_dike_36 : decode cX11_dike 36 = .ok (.ifCond .eq 39, 3) := by decide +kernel
theorem dX11_dike_39 : decode cX11_dike 39 = .ok (.aload_n 0, 1) := by decide +kernel
theorem dX11_dike_40 : decode cX11_dike 40 = .ok (.getfield 16, 3) := by decide +kernel
theorem dX11_dike_43 : decode cX11_dike 43 = .ok (.iload_n 1, 1) := by decide +kernel
theorem dX11_dike_44 : decode cX11_dike 44 = .ok (.iload_n 2, 1) := by decide +kernel
theorem dX11_dike_45 : decode cX11_dike 45 = .ok (.invokevirtual 156, 3) := by decide +kernel
theorem dX11_dike_48 : decode cX11_dike 48 = .ok (.ifCond .eq 27, 3) := by decide +kernel
theorem dX11_dike_51 : decode cX11_dike 51 = .ok (.aload_n 0, 1) := by decide +kernel
theorem dX11_dike_52 : decode cX11_dike 52 = .ok (.getfield 16, 3) := by decide +kernel
theorem dX11_dike_55 : decode cX11_dike 55 = .ok (.getfield 82, 3) := by decide +kernel
theorem dX11_dike_58 : decode cX11_dike 58 = .ok (.getfield 86, 3) := by decide +kernel
theorem dX11_dike_61 : decode cX11_dike 61 = .ok (.iload_n 3, 1) := by decide +kernel
theorem dX11_dike_62 : decode cX11_dike 62 = .ok (.baload, 1) := by decide +kernel
theorem dX11_dike_63 : decode cX11_dike 63 = .ok (.ifCond .eq 12, 3) := by decide +kernel
theorem dX11_dike_66 : decode cX11_dike 66 = .ok (.iload_n 1, 1) := by decide +kernel
theorem dX11_dike_67 : decode cX11_dike 67 = .ok (.iload_n 3, 1) := by decide +kernel
theorem dX11_dike_68 : decode cX11_dike 68 = .ok (.invokestatic 160, 3) := by decide +kernel
theorem dX11_dike_71 : decode cX11_dike 71 = .ok (.iconst 1, 1) := by decide +kernel
theorem dX11_dike_72 : decode cX11_dike 72 = .ok (.if_icmp .eq 5, 3) := by decide +kernel
theorem dX11_dike_75 : decode cX11_dike 75 = .ok (.iconst (-1), 1) := by decide +kernel
theorem dX11_dike_76 : decode cX11_dike 76 = .ok (.ireturn, 1) := by decide +kernel
theorem dX11_dike_77 : decode cX11_dike 77 = .ok (.aload_n 0, 1) := by decide +kernel
theorem dX11_dike_78 : decode cX11_dike 78 = .ok (.getfield 23, 3) := by decide +kernel
theorem dX11_dike_81 : decode cX11_dike 81 = .ok (.invokevirtual 76, 3) := by decide +kernel
theorem dX11_dike_84 : decode cX11_dike 84 = .ok (.aload_n 0, 1) := by decide +kernel
theorem dX11_dike_85 : decode cX11_dike 85 = .ok (.getfield 16, 3) := by decide +kernel
theorem dX11_dike_88 : decode cX11_dike 88 = .ok (.iconst 0, 1) := by decide +kernel
theorem dX11_dike_89 : decode cX11_dike 89 = .ok (.iload_n 1, 1) := by decide +kernel
theorem dX11_dike_90 : decode cX11_dike 90 = .ok (.iload_n 3, 1) := by decide +kernel
theorem dX11_dike_91 : decode cX11_dike 91 = .ok (.iload 4, 2) := by decide +kernel
theorem dX11_dike_93 : decode cX11_dike 93 = .ok (.invokevirtual 163, 3) := by decide +kernel
theorem dX11_dike_96 : decode cX11_dike 96 = .ok (.ireturn, 1) := by decide +kernel
theorem dX11_layer_0 : decode cX11_layer 0 = .ok (.aload_n 0, 1) := by decide +kernel
theorem dX11_layer_1 : decode cX11_layer 1 = .ok (.iload_n 1, 1) := by decide +kernel
theorem dX11_layer_2 : decode cX11_layer 2 = .ok (.invokevirtual 167, 3) := by decide +kernel
theorem dX11_layer_5 : decode cX11_layer 5 = .ok (.astore 4, 2) := by decide +kernel
theorem dX11_layer_7 : decode cX11_layer 7 = .ok (.iload_n 2, 1) := by decide +kernel
theorem dX11_layer_8 : decode cX11_layer 8 = .ok (.iconst 1, 1) := by decide +kernel
theorem dX11_layer_9 : decode cX11_layer 9 = .ok (.sipush 300, 3) := by decide +kernel
theorem dX11_layer_12 : decode cX11_layer 12 = .ok (.invokestatic 58, 3) := by decide +kernel
theorem dX11_layer_15 : decode cX11_layer 15 = .ok (.ifCond .eq 17, 3) := by decide +kernel
theorem dX11_layer_18 : decode cX11_layer 18 = .ok (.iload_n 3, 1) := by decide +kernel
theorem dX11_layer_19 : decode cX11_layer 19 = .ok (.iconst 0, 1) := by decide +kernel
theorem dX11_layer_20 : decode cX11_layer 20 = .ok (.bipush 9, 2) := by decide +kernel
theorem dX11_layer_22 : decode cX11_layer 22 = .ok (.invokestatic 58, 3) := by decide +kernel
theorem dX11_layer_25 : decode cX11_layer 25 = .ok (.ifCond .eq 7, 3) := by decide +kernel
theorem dX11_layer_28 : decode cX11_layer 28 = .ok (.iconst 1, 1) := by decide +kernel
theorem dX11_layer_29 : decode cX11_layer 29 = .ok (.goto 4, 3) := by decide +kernel
theorem dX11_layer_32 : decode cX11_layer 32 = .ok (.iconst 0, 1) := by decide +kernel
theorem dX11_layer_33 : decode cX11_layer 33 = .ok (.invokestatic 62, 3) := by decide +kernel
theorem dX11_layer_36 : decode cX11_layer 36 = .ok (.aload 4, 2) := by decide +kernel
theorem dX11_layer_38 : decode cX11_layer 38 = .ok (.invokevirtual 171, 3) := by decide +kernel
theorem dX11_layer_41 : decode cX11_layer 41 = .ok (.invokestatic 177, 3) := by decide +kernel
theorem dX11_layer_44 : decode cX11_layer 44 = .ok (.aload 4, 2) := by decide +kernel
theorem dX11_layer_46 : decode cX11_layer 46 = .ok (.invokevirtual 180, 3) := by decide +kernel
theorem dX11_layer_49 : decode cX11_layer 49 = .ok (.ifCond .ne 5, 3) := by decide +kernel
theorem dX11_layer_52 : decode cX11_layer 52 = .ok (.iconst (-1), 1) := by decide +kernel
theorem dX11_layer_53 : decode cX11_layer 53 = .ok (.ireturn, 1) := by decide +kernel
theorem dX11_layer_54 : decode cX11_layer 54 = .ok (.aload_n 0, 1) := by decide +kernel
theorem dX11_layer_55 : decode cX11_layer 55 = .ok (.getfield 23, 3) := by decide +kernel
theorem dX11_layer_58 : decode cX11_layer 58 = .ok (.invokevirtual 76, 3) := by decide +kernel
theorem dX11_layer_61 : decode cX11_layer 61 = .ok (.aload 4, 2) := by decide +kernel
theorem dX11_layer_63 : decode cX11_layer 63 = .ok (.iload_n 2, 1) := by decide +kernel
theorem dX11_layer_64 : decode cX11_layer 64 = .ok (.iload_n 3, 1) := by decide +kernel
theorem dX11_layer_65 : decode cX11_layer 65 = .ok (.invokevirtual 183, 3) := by decide +kernel
theorem dX11_layer_68 : decode cX11_layer 68 = .ok (.aload 4, 2) := by decide +kernel
theorem dX11_layer_70 : decode cX11_layer 70 = .ok (.getfield 187, 3) := by decide +kernel
theorem dX11_layer_73 : decode cX11_layer 73 = .ok (.ireturn, 1) := by decide +kernel
theorem dX11_mill_0 : decode cX11_mill 0 = .ok (.iload_n 1, 1) := by decide +kernel
theorem dX11_mill_1 : decode cX11_mill 1 = .ok (.invokestatic 55, 3) := by decide +kernel
theorem dX11_mill_4 : decode cX11_mill 4 = .ok (.iload_n 2, 1) := by decide +kernel
theorem dX11_mill_5 : decode cX11_mill 5 = .ok (.invokestatic 55, 3) := by decide +kernel
theorem dX11_mill_8 : decode cX11_mill 8 = .ok (.iload_n 3, 1) := by decide +kernel
theorem dX11_mill_9 : decode cX11_mill 9 = .ok (.iconst 1, 1) := by decide +kernel
theorem dX11_mill_10 : decode cX11_mill 10 = .ok (.bipush 60, 2) := by decide +kernel
theorem dX11_mill_12 : decode cX11_mill 12 = .ok (.invokestatic 58, 3) := by decide +kernel
theorem dX11_mill_15 : decode cX11_mill 15 = .ok (.invokestatic 62, 3) := by decide +kernel
theorem dX11_mill_18 : decode cX11_mill 18 = .ok (.aload_n 0, 1) := by decide +kernel
theorem dX11_mill_19 : decode cX11_mill 19 = .ok (.invokevirtual 149, 3) := by decide +kernel
theorem dX11_mill_22 : decode cX11_mill 22 = .ok (.aload_n 0, 1) := by decide +kernel
theorem dX11_mill_23 : decode cX11_mill 23 = .ok (.getfield 16, 3) := by decide +kernel
theorem dX11_mill_26 : decode cX11_mill 26 = .ok (.iload_n 1, 1) := by decide +kernel
theorem dX11_mill_27 : decode cX11_mill 27 = .ok (.invokevirtual 152, 3) := by decide +kernel
theorem dX11_mill_30 : decode cX11_mill 30 = .ok (.ifCond .eq 27, 3) := by decide +kernel
theorem dX11_mill_33 : decode cX11_mill 33 = .ok (.iload_n 1, 1) := by decide +kernel
theorem dX11_mill_34 : decode cX11_mill 34 = .ok (.iload_n 2, 1) := by decide +kernel
theorem dX11_mill_35 : decode cX11_mill 35 = .ok (.invokestatic 160, 3) := by decide +kernel
theorem dX11_mill_38 : decode cX11_mill 38 = .ok (.iconst 1, 1) := by decide +kernel
theorem dX11_mill_39 : decode cX11_mill 39 = .ok (.if_icmp .ne 18, 3) := by decide +kernel
theorem dX11_mill_42 : decode cX11_mill 42 = .ok (.aload_n 0, 1) := by decide +kernel
theorem dX11_mill_43 : decode cX11_mill 43 = .ok (.getfield 30, 3) := by decide +kernel
theorem dX11_mill_46 : decode cX11_mill 46 = .ok (.iload_n 1, 1) := by decide +kernel
theorem dX11_mill_47 : decode cX11_mill 47 = .ok (.aload_n 0, 1) := by decide +kernel
theorem dX11_mill_48 : decode cX11_mill 48 = .ok (.getfield 16, 3) := by decide +kernel
theorem dX11_mill_51 : decode cX11_mill 51 = .ok (.invokevirtual 190, 3) := by decide +kernel
theorem dX11_mill_54 : decode cX11_mill 54 = .ok (.ifCond .ne 5, 3) := by decide +kernel
theorem dX11_mill_57 : decode cX11_mill 57 = .ok (.iconst (-1), 1) := by decide +kernel
theorem dX11_mill_58 : decode cX11_mill 58 = .ok (.ireturn, 1) := by decide +kernel
theorem dX11_mill_59 : decode cX11_mill 59 = .ok (.aload_n 0, 1) := by decide +kernel
theorem dX11_mill_60 : decode cX11_mill 60 = .ok (.getfield 23, 3) := by decide +kernel
theorem dX11_mill_63 : decode cX11_mill 63 = .ok (.invokevirtual 76, 3) := by decide +kernel
theorem dX11_mill_66 : decode cX11_mill 66 = .ok (.aload_n 0, 1) := by decide +kernel
theorem dX11_mill_67 : decode cX11_mill 67 = .ok (.getfield 16, 3) := by decide +kernel
theorem dX11_mill_70 : decode cX11_mill 70 = .ok (.iload 4, 2) := by decide +kernel
theorem dX11_mill_72 : decode cX11_mill 72 = .ok (.ifCond .eq 7, 3) := by decide +kernel
theorem dX11_mill_75 : decode cX11_mill 75 = .ok (.iconst 3, 1) := by decide +kernel
theorem dX11_mill_76 : decode cX11_mill 76 = .ok (.goto 4, 3) := by decide +kernel
theorem dX11_mill_79 : decode cX11_mill 79 = .ok (.iconst 2, 1) := by decide +kernel
theorem dX11_mill_80 : decode cX11_mill 80 = .ok (.iload_n 1, 1) := by decide +kernel
theorem dX11_mill_81 : decode cX11_mill 81 = .ok (.iload_n 2, 1) := by decide +kernel
theorem dX11_mill_82 : decode cX11_mill 82 = .ok (.iload_n 3, 1) := by decide +kernel
theorem dX11_mill_83 : decode cX11_mill 83 = .ok (.invokevirtual 163, 3) := by decide +kernel
theorem dX11_mill_86 : decode cX11_mill 86 = .ok (.ireturn, 1) := by decide +kernel
theorem dX11_sluice_0 : decode cX11_sluice 0 = .ok (.iload_n 1, 1) := by decide +kernel
theorem dX11_sluice_1 : decode cX11_sluice 1 = .ok (.invokestatic 55, 3) := by decide +kernel
theorem dX11_sluice_4 : decode cX11_sluice 4 = .ok (.iload_n 2, 1) := by decide +kernel
theorem dX11_sluice_5 : decode cX11_sluice 5 = .ok (.invokestatic 55, 3) := by decide +kernel
theorem dX11_sluice_8 : decode cX11_sluice 8 = .ok (.iload_n 3, 1) := by decide +kernel
theorem dX11_sluice_9 : decode cX11_sluice 9 = .ok (.iconst 1, 1) := by decide +kernel
theorem dX11_sluice_10 : decode cX11_sluice 10 = .ok (.bipush 60, 2) := by decide +kernel
theorem dX11_sluice_12 : decode cX11_sluice 12 = .ok (.invokestatic 58, 3) := by decide +kernel
theorem dX11_sluice_15 : decode cX11_sluice 15 = .ok (.invokestatic 62, 3) := by decide +kernel
theorem dX11_sluice_18 : decode cX11_sluice 18 = .ok (.aload_n 0, 1) := by decide +kernel
theorem dX11_sluice_19 : decode cX11_sluice 19 = .ok (.invokevirtual 149, 3) := by decide +kernel
theorem dX11_sluice_22 : decode cX11_sluice 22 = .ok (.aload_n 0, 1) := by decide +kernel
theorem dX11_sluice_23 : decode cX11_sluice 23 = .ok (.getfield 16, 3) := by decide +kernel
theorem dX11_sluice_26 : decode cX11_sluice 26 = .ok (.iload_n 1, 1) := by decide +kernel
theorem dX11_sluice_27 : decode cX11_sluice 27 = .ok (.invokevirtual 152, 3) := by decide +kernel
theorem dX11_sluice_30 : decode cX11_sluice 30 = .ok (.ifCond .eq 15, 3) := by decide +kernel
theorem dX11_sluice_33 : decode cX11_sluice 33 = .ok (.aload_n 0, 1) := by decide +kernel
theorem dX11_sluice_34 : decode cX11_sluice 34 = .ok (.getfield 16, 3) := by decide +kernel
theorem dX11_sluice_37 : decode cX11_sluice 37 = .ok (.iload_n 1, 1) := by decide +kernel
theorem dX11_sluice_38 : decode cX11_sluice 38 = .ok (.iload_n 2, 1) := by decide +kernel
theorem dX11_sluice_39 : decode cX11_sluice 39 = .ok (.invokevirtual 156, 3) := by decide +kernel
theorem dX11_sluice_42 : decode cX11_sluice 42 = .ok (.ifCond .ne 5, 3) := by decide +kernel
theorem dX11_sluice_45 : decode cX11_sluice 45 = .ok (.iconst (-1), 1) := by decide +kernel
theorem dX11_sluice_46 : decode cX11_sluice 46 = .ok (.ireturn, 1) := by decide +kernel
theorem dX11_sluice_47 : decode cX11_sluice 47 = .ok (.aload_n 0, 1) := by decide +kernel
theorem dX11_sluice_48 : decode cX11_sluice 48 = .ok (.getfield 23, 3) := by decide +kernel
theorem dX11_sluice_51 : decode cX11_sluice 51 = .ok (.invokevirtual 76, 3) := by decide +kernel
theorem dX11_sluice_54 : decode cX11_sluice 54 = .ok (.aload_n 0, 1) := by decide +kernel
theorem dX11_sluice_55 : decode cX11_sluice 55 = .ok (.getfield 16, 3) := by decide +kernel
theorem dX11_sluice_58 : decode cX11_sluice 58 = .ok (.iconst 4, 1) := by decide +kernel
theorem dX11_sluice_59 : decode cX11_sluice 59 = .ok (.iload_n 1, 1) := by decide +kernel
theorem dX11_sluice_60 : decode cX11_sluice 60 = .ok (.iload_n 2, 1) := by decide +kernel
theorem dX11_sluice_61 : decode cX11_sluice 61 = .ok (.iload_n 3, 1) := by decide +kernel
theorem dX11_sluice_62 : decode cX11_sluice 62 = .ok (.invokevirtual 163, 3) := by decide +kernel
theorem dX11_sluice_65 : decode cX11_sluice 65 = .ok (.ireturn, 1) := by decide +kernel
theorem dX11_turn_0 : decode cX11_turn 0 = .ok (.aload_n 0, 1) := by decide +kernel
theorem dX11_turn_1 : decode cX11_turn 1 = .ok (.iload_n 1, 1) := by decide +kernel
theorem dX11_turn_2 : decode cX11_turn 2 = .ok (.invokevirtual 167, 3) := by decide +kernel
theorem dX11_turn_5 : decode cX11_turn 5 = .ok (.astore_n 3, 1) := by decide +kernel
theorem dX11_turn_6 : decode cX11_turn 6 = .ok (.aload_n 3, 1) := by decide +kernel
theorem dX11_turn_7 : decode cX11_turn 7 = .ok (.getfield 194, 3) := by decide +kernel
theorem dX11_turn_10 : decode cX11_turn 10 = .ok (.iconst 3, 1) := by decide +kernel
theorem dX11_turn_11 : decode cX11_turn 11 = .ok (.if_icmp .eq 11, 3) := by decide +kernel
theorem dX11_turn_14 : decode cX11_turn 14 = .ok (.aload_n 3, 1) := by decide +kernel
theorem dX11_turn_15 : decode cX11_turn 15 = .ok (.getfield 194, 3) := by decide +kernel
theorem dX11_turn_18 : decode cX11_turn 18 = .ok (.iconst 4, 1) := by decide +kernel
theorem dX11_turn_19 : decode cX11_turn 19 = .ok (.if_icmp .ne 7, 3) := by decide +kernel
theorem dX11_turn_22 : decode cX11_turn 22 = .ok (.iconst 1, 1) := by decide +kernel
theorem dX11_turn_23 : decode cX11_turn 23 = .ok (.goto 4, 3) := by decide +kernel
theorem dX11_turn_26 : decode cX11_turn 26 = .ok (.iconst 0, 1) := by decide +kernel
theorem dX11_turn_27 : decode cX11_turn 27 = .ok (.invokestatic 177, 3) := by decide +kernel
theorem dX11_turn_30 : decode cX11_turn 30 = .ok (.aload_n 0, 1) := by decide +kernel
theorem dX11_turn_31 : decode cX11_turn 31 = .ok (.getfield 23, 3) := by decide +kernel
theorem dX11_turn_34 : decode cX11_turn 34 = .ok (.invokevirtual 76, 3) := by decide +kernel
theorem dX11_turn_37 : decode cX11_turn 37 = .ok (.aload_n 3, 1) := by decide +kernel
theorem dX11_turn_38 : decode cX11_turn 38 = .ok (.getfield 197, 3) := by decide +kernel
theorem dX11_turn_41 : decode cX11_turn 41 = .ok (.iload_n 2, 1) := by decide +kernel
theorem dX11_turn_42 : decode cX11_turn 42 = .ok (.if_icmp .eq 7, 3) := by decide +kernel
theorem dX11_turn_45 : decode cX11_turn 45 = .ok (.iconst 1, 1) := by decide +kernel
theorem dX11_turn_46 : decode cX11_turn 46 = .ok (.goto 4, 3) := by decide +kernel
theorem dX11_turn_49 : decode cX11_turn 49 = .ok (.iconst 0, 1) := by decide +kernel
theorem dX11_turn_50 : decode cX11_turn 50 = .ok (.istore 4, 2) := by decide +kernel
theorem dX11_turn_52 : decode cX11_turn 52 = .ok (.aload_n 3, 1) := by decide +kernel
theorem dX11_turn_53 : decode cX11_turn 53 = .ok (.iload_n 2, 1) := by decide +kernel
theorem dX11_turn_54 : decode cX11_turn 54 = .ok (.putfield 197, 3) := by decide +kernel
theorem dX11_turn_57 : decode cX11_turn 57 = .ok (.iload 4, 2) := by decide +kernel
theorem dX11_turn_59 : decode cX11_turn 59 = .ok (.ireturn, 1) := by decide +kernel
theorem dX11_coal_0 : decode cX11_coal 0 = .ok (.aload_n 0, 1) := by decide +kernel
theorem dX11_coal_1 : decode cX11_coal 1 = .ok (.iload_n 1, 1) := by decide +kernel
theorem dX11_coal_2 : decode cX11_coal 2 = .ok (.invokevirtual 167, 3) := by decide +kernel
theorem dX11_coal_5 : decode cX11_coal 5 = .ok (.astore_n 3, 1) := by decide +kernel
theorem dX11_coal_6 : decode cX11_coal 6 = .ok (.iload_n 2, 1) := by decide +kernel
theorem dX11_coal_7 : decode cX11_coal 7 = .ok (.iconst 0, 1) := by decide +kernel
theorem dX11_coal_8 : decode cX11_coal 8 = .ok (.sipush 10000, 3) := by decide +kernel
theorem dX11_coal_11 : decode cX11_coal 11 = .ok (.invokestatic 58, 3) := by decide +kernel
theorem dX11_coal_14 : decode cX11_coal 14 = .ok (.ifCond .eq 18, 3) := by decide +kernel
theorem dX11_coal_17 : decode cX11_coal 17 = .ok (.aload_n 3, 1) := by decide +kernel
theorem dX11_coal_18 : decode cX11_coal 18 = .ok (.getfield 201, 3) := by decide +kernel
theorem dX11_coal_21 : decode cX11_coal 21 = .ok (.iload_n 2, 1) := by decide +kernel
theorem dX11_coal_22 : decode cX11_coal 22 = .ok (.iadd, 1) := by decide +kernel
theorem dX11_coal_23 : decode cX11_coal 23 = .ok (.ldc 96, 2) := by decide +kernel
theorem dX11_coal_25 : decode cX11_coal 25 = .ok (.if_icmp .gt 7, 3) := by decide +kernel
theorem dX11_coal_28 : decode cX11_coal 28 = .ok (.iconst 1, 1) := by decide +kernel
theorem dX11_coal_29 : decode cX11_coal 29 = .ok (.goto 4, 3) := by decide +kernel
theorem dX11_coal_32 : decode cX11_coal 32 = .ok (.iconst 0, 1) := by decide +kernel
theorem dX11_coal_33 : decode cX11_coal 33 = .ok (.invokestatic 62, 3) := by decide +kernel
theorem dX11_coal_36 : decode cX11_coal 36 = .ok (.aload_n 3, 1) := by decide +kernel
theorem dX11_coal_37 : decode cX11_coal 37 = .ok (.getfield 194, 3) := by decide +kernel
theorem dX11_coal_40 : decode cX11_coal 40 = .ok (.iconst 3, 1) := by decide +kernel
theorem dX11_coal_41 : decode cX11_coal 41 = .ok (.if_icmp .ne 7, 3) := by decide +kernel
theorem dX11_coal_44 : decode cX11_coal 44 = .ok (.iconst 1, 1) := by decide +kernel
theorem dX11_coal_45 : decode cX11_coal 45 = .ok (.goto 4, 3) := by decide +kernel
theorem dX11_coal_48 : decode cX11_coal 48 = .ok (.iconst 0, 1) := by decide +kernel
theorem dX11_coal_49 : decode cX11_coal 49 = .ok (.invokestatic 177, 3) := by decide +kernel
theorem dX11_coal_52 : decode cX11_coal 52 = .ok (.aload_n 0, 1) := by decide +kernel
theorem dX11_coal_53 : decode cX11_coal 53 = .ok (.getfield 23, 3) := by decide +kernel
theorem dX11_coal_56 : decode cX11_coal 56 = .ok (.invokevirtual 76, 3) := by decide +kernel
theorem dX11_coal_59 : decode cX11_coal 59 = .ok (.aload_n 3, 1) := by decide +kernel
theorem dX11_coal_60 : decode cX11_coal 60 = .ok (.dup, 1) := by decide +kernel
theorem dX11_coal_61 : decode cX11_coal 61 = .ok (.getfield 201, 3) := by decide +kernel
theorem dX11_coal_64 : decode cX11_coal 64 = .ok (.iload_n 2, 1) := by decide +kernel
theorem dX11_coal_65 : decode cX11_coal 65 = .ok (.iadd, 1) := by decide +kernel
theorem dX11_coal_66 : decode cX11_coal 66 = .ok (.putfield 201, 3) := by decide +kernel
theorem dX11_coal_69 : decode cX11_coal 69 = .ok (.aload_n 3, 1) := by decide +kernel
theorem dX11_coal_70 : decode cX11_coal 70 = .ok (.getfield 201, 3) := by decide +kernel
theorem dX11_coal_73 : decode cX11_coal 73 = .ok (.ireturn, 1) := by decide +kernel
theorem dX11_work_0 : decode cX11_work 0 = .ok (.aload_n 0, 1) := by decide +kernel
theorem dX11_work_1 : decode cX11_work 1 = .ok (.iload_n 1, 1) := by decide +kernel
theorem dX11_work_2 : decode cX11_work 2 = .ok (.invokevirtual 167, 3) := by decide +kernel
theorem dX11_work_5 : decode cX11_work 5 = .ok (.astore_n 3, 1) := by decide +kernel
theorem dX11_work_6 : decode cX11_work 6 = .ok (.iload_n 2, 1) := by decide +kernel
theorem dX11_work_7 : decode cX11_work 7 = .ok (.tableswitch 119 0 7 #[45, 50, 55, 68, 73, 78, 87, 106], 45) := by decide +kernel
theorem dX11_work_52 : decode cX11_work 52 = .ok (.aload_n 3, 1) := by decide +kernel
theorem dX11_work_53 : decode cX11_work 53 = .ok (.getfield 194, 3) := by decide +kernel
theorem dX11_work_56 : decode cX11_work 56 = .ok (.ireturn, 1) := by decide +kernel
theorem dX11_work_57 : decode cX11_work 57 = .ok (.aload_n 3, 1) := by decide +kernel
theorem dX11_work_58 : decode cX11_work 58 = .ok (.getfield 204, 3) := by decide +kernel
theorem dX11_work_61 : decode cX11_work 61 = .ok (.ireturn, 1) := by decide +kernel
theorem dX11_work_62 : decode cX11_work 62 = .ok (.aload_n 3, 1) := by decide +kernel
theorem dX11_work_63 : decode cX11_work 63 = .ok (.getfield 194, 3) := by decide +kernel
theorem dX11_work_66 : decode cX11_work 66 = .ok (.ifCond .ne 7, 3) := by decide +kernel
theorem dX11_work_69 : decode cX11_work 69 = .ok (.iconst 1, 1) := by decide +kernel
theorem dX11_work_70 : decode cX11_work 70 = .ok (.goto 4, 3) := by decide +kernel
theorem dX11_work_73 : decode cX11_work 73 = .ok (.iconst 0, 1) := by decide +kernel
theorem dX11_work_74 : decode cX11_work 74 = .ok (.ireturn, 1) := by decide +kernel
theorem dX11_work_75 : decode cX11_work 75 = .ok (.aload_n 3, 1) := by decide +kernel
theorem dX11_work_76 : decode cX11_work 76 = .ok (.getfield 207, 3) := by decide +kernel
theorem dX11_work_79 : decode cX11_work 79 = .ok (.ireturn, 1) := by decide +kernel
theorem dX11_work_80 : decode cX11_work 80 = .ok (.aload_n 3, 1) := by decide +kernel
theorem dX11_work_81 : decode cX11_work 81 = .ok (.getfield 210, 3) := by decide +kernel
theorem dX11_work_84 : decode cX11_work 84 = .ok (.ireturn, 1) := by decide +kernel
theorem dX11_work_85 : decode cX11_work 85 = .ok (.aload_n 0, 1) := by decide +kernel
theorem dX11_work_86 : decode cX11_work 86 = .ok (.getfield 16, 3) := by decide +kernel
theorem dX11_work_89 : decode cX11_work 89 = .ok (.aload_n 3, 1) := by decide +kernel
theorem dX11_work_90 : decode cX11_work 90 = .ok (.invokevirtual 213, 3) := by decide +kernel
theorem dX11_work_93 : decode cX11_work 93 = .ok (.ireturn, 1) := by decide +kernel
theorem dX11_work_94 : decode cX11_work 94 = .ok (.aload_n 3, 1) := by decide +kernel
theorem dX11_work_95 : decode cX11_work 95 = .ok (.invokevirtual 171, 3) := by decide +kernel
theorem dX11_work_98 : decode cX11_work 98 = .ok (.ifCond .eq 10, 3) := by decide +kernel
theorem dX11_work_101 : decode cX11_work 101 = .ok (.aload_n 3, 1) := by decide +kernel
theorem dX11_work_102 : decode cX11_work 102 = .ok (.getfield 187, 3) := by decide +kernel
theorem dX11_work_105 : decode cX11_work 105 = .ok (.goto 7, 3) := by decide +kernel
theorem dX11_work_108 : decode cX11_work 108 = .ok (.aload_n 3, 1) := by decide +kernel
theorem dX11_work_109 : decode cX11_work 109 = .ok (.getfield 201, 3) := by decide +kernel
theorem dX11_work_112 : decode cX11_work 112 = .ok (.ireturn, 1) := by decide +kernel
theorem dX11_work_113 : decode cX11_work 113 = .ok (.aload_n 3, 1) := by decide +kernel
theorem dX11_work_114 : decode cX11_work 114 = .ok (.getfield 197, 3) := by decide +kernel
theorem dX11_work_117 : decode cX11_work 117 = .ok (.ifCond .eq 7, 3) := by decide +kernel
theorem dX11_work_120 : decode cX11_work 120 = .ok (.iconst 1, 1) := by decide +kernel
theorem dX11_work_121 : decode cX11_work 121 = .ok (.goto 4, 3) := by decide +kernel
theorem dX11_work_124 : decode cX11_work 124 = .ok (.iconst 0, 1) := by decide +kernel
theorem dX11_work_125 : decode cX11_work 125 = .ok (.ireturn, 1) := by decide +kernel
theorem dX11_work_126 : decode cX11_work 126 = .ok (.new 134, 3) := by decide +kernel
theorem dX11_work_129 : decode cX11_work 129 = .ok (.dup, 1) := by decide +kernel
theorem dX11_work_130 : decode cX11_work 130 = .ok (.ldc 217, 2) := by decide +kernel
theorem dX11_work_132 : decode cX11_work 132 = .ok (.invokespecial 138, 3) := by decide +kernel
theorem dX11_work_135 : decode cX11_work 135 = .ok (.athrow, 1) := by decide +kernel
theorem dX11_seep_0 : decode cX11_seep 0 = .ok (.aload_n 0, 1) := by decide +kernel
theorem dX11_seep_1 : decode cX11_seep 1 = .ok (.iload_n 1, 1) := by decide +kernel
theorem dX11_seep_2 : decode cX11_seep 2 = .ok (.invokevirtual 167, 3) := by decide +kernel
theorem dX11_seep_5 : decode cX11_seep 5 = .ok (.astore_n 3, 1) := by decide +kernel
theorem dX11_seep_6 : decode cX11_seep 6 = .ok (.iload_n 2, 1) := by decide +kernel
theorem dX11_seep_7 : decode cX11_seep 7 = .ok (.sipush (-1000), 3) := by decide +kernel
theorem dX11_seep_10 : decode cX11_seep 10 = .ok (.sipush 1000, 3) := by decide +kernel
theorem dX11_seep_13 : decode cX11_seep 13 = .ok (.invokestatic 58, 3) := by decide +kernel
theorem dX11_seep_16 : decode cX11_seep 16 = .ok (.invokestatic 62, 3) := by decide +kernel
theorem dX11_seep_19 : decode cX11_seep 19 = .ok (.aload_n 3, 1) := by decide +kernel
theorem dX11_seep_20 : decode cX11_seep 20 = .ok (.invokevirtual 171, 3) := by decide +kernel
theorem dX11_seep_23 : decode cX11_seep 23 = .ok (.invokestatic 177, 3) := by decide +kernel
theorem dX11_seep_26 : decode cX11_seep 26 = .ok (.aload_n 3, 1) := by decide +kernel
theorem dX11_seep_27 : decode cX11_seep 27 = .ok (.getfield 194, 3) := by decide +kernel
theorem dX11_seep_30 : decode cX11_seep 30 = .ok (.iconst 1, 1) := by decide +kernel
theorem dX11_seep_31 : decode cX11_seep 31 = .ok (.if_icmp .ne 7, 3) := by decide +kernel
theorem dX11_seep_34 : decode cX11_seep 34 = .ok (.iconst 0, 1) := by decide +kernel
theorem dX11_seep_35 : decode cX11_seep 35 = .ok (.goto 12, 3) := by decide +kernel
theorem dX11_seep_38 : decode cX11_seep 38 = .ok (.aload_n 0, 1) := by decide +kernel
theorem dX11_seep_39 : decode cX11_seep 39 = .ok (.getfield 16, 3) := by decide +kernel
theorem dX11_seep_42 : decode cX11_seep 42 = .ok (.aload_n 3, 1) := by decide +kernel
theorem dX11_seep_43 : decode cX11_seep 43 = .ok (.iload_n 2, 1) := by decide +kernel
theorem dX11_seep_44 : decode cX11_seep 44 = .ok (.invokevirtual 219, 3) := by decide +kernel
theorem dX11_seep_47 : decode cX11_seep 47 = .ok (.ireturn, 1) := by decide +kernel
theorem dX11_shut_0 : decode cX11_shut 0 = .ok (.aload_n 0, 1) := by decide +kernel
theorem dX11_shut_1 : decode cX11_shut 1 = .ok (.iload_n 1, 1) := by decide +kernel
theorem dX11_shut_2 : decode cX11_shut 2 = .ok (.invokevirtual 167, 3) := by decide +kernel
theorem dX11_shut_5 : decode cX11_shut 5 = .ok (.astore_n 2, 1) := by decide +kernel
theorem dX11_shut_6 : decode cX11_shut 6 = .ok (.aload_n 2, 1) := by decide +kernel
theorem dX11_shut_7 : decode cX11_shut 7 = .ok (.getfield 194, 3) := by decide +kernel
theorem dX11_shut_10 : decode cX11_shut 10 = .ok (.iconst 1, 1) := by decide +kernel
theorem dX11_shut_11 : decode cX11_shut 11 = .ok (.if_icmp .ne 7, 3) := by decide +kernel
theorem dX11_shut_14 : decode cX11_shut 14 = .ok (.iconst 1, 1) := by decide +kernel
theorem dX11_shut_15 : decode cX11_shut 15 = .ok (.goto 4, 3) := by decide +kernel
theorem dX11_shut_18 : decode cX11_shut 18 = .ok (.iconst 0, 1) := by decide +kernel
theorem dX11_shut_19 : decode cX11_shut 19 = .ok (.invokestatic 177, 3) := by decide +kernel
theorem dX11_shut_22 : decode cX11_shut 22 = .ok (.aload_n 0, 1) := by decide +kernel
theorem dX11_shut_23 : decode cX11_shut 23 = .ok (.getfield 23, 3) := by decide +kernel
theorem dX11_shut_26 : decode cX11_shut 26 = .ok (.invokevirtual 76, 3) := by decide +kernel
theorem dX11_shut_29 : decode cX11_shut 29 = .ok (.aload_n 2, 1) := by decide +kernel
theorem dX11_shut_30 : decode cX11_shut 30 = .ok (.iconst 0, 1) := by decide +kernel
theorem dX11_shut_31 : decode cX11_shut 31 = .ok (.putfield 194, 3) := by decide +kernel
theorem dX11_shut_34 : decode cX11_shut 34 = .ok (.iconst 1, 1) := by decide +kernel
theorem dX11_shut_35 : decode cX11_shut 35 = .ok (.ireturn, 1) := by decide +kernel
theorem dX11_hours_0 : decode cX11_hours 0 = .ok (.iload_n 1, 1) := by decide +kernel
theorem dX11_hours_1 : decode cX11_hours 1 = .ok (.iconst 0, 1) := by decide +kernel
theorem dX11_hours_2 : decode cX11_hours 2 = .ok (.sipush 240, 3) := by decide +kernel
theorem dX11_hours_5 : decode cX11_hours 5 = .ok (.invokestatic 58, 3) := by decide +kernel
theorem dX11_hours_8 : decode cX11_hours 8 = .ok (.invokestatic 62, 3) := by decide +kernel
theorem dX11_hours_11 : decode cX11_hours 11 = .ok (.iconst 0, 1) := by decide +kernel
theorem dX11_hours_12 : decode cX11_hours 12 = .ok (.istore_n 2, 1) := by decide +kernel
theorem dX11_hours_13 : decode cX11_hours 13 = .ok (.iload_n 2, 1) := by decide +kernel
theorem dX11_hours_14 : decode cX11_hours 14 = .ok (.iload_n 1, 1) := by decide +kernel
theorem dX11_hours_15 : decode cX11_hours 15 = .ok (.if_icmp .ge 39, 3) := by decide +kernel
theorem dX11_hours_18 : decode cX11_hours 18 = .ok (.aload_n 0, 1) := by decide +kernel
theorem dX11_hours_19 : decode cX11_hours 19 = .ok (.getfield 16, 3) := by decide +kernel
theorem dX11_hours_22 : decode cX11_hours 22 = .ok (.getfield 66, 3) := by decide +kernel
theorem dX11_hours_25 : decode cX11_hours 25 = .ok (.ldc 110, 2) := by decide +kernel
theorem dX11_hours_27 : decode cX11_hours 27 = .ok (.if_icmp .ge 27, 3) := by decide +kernel
theorem dX11_hours_30 : decode cX11_hours 30 = .ok (.aload_n 0, 1) := by decide +kernel
theorem dX11_hours_31 : decode cX11_hours 31 = .ok (.getfield 16, 3) := by decide +kernel
theorem dX11_hours_34 : decode cX11_hours 34 = .ok (.invokevirtual 223, 3) := by decide +kernel
theorem dX11_hours_37 : decode cX11_hours 37 = .ok (.aload_n 0, 1) := by decide +kernel
theorem dX11_hours_38 : decode cX11_hours 38 = .ok (.getfield 23, 3) := by decide +kernel
theorem dX11_hours_41 : decode cX11_hours 41 = .ok (.aload_n 0, 1) := by decide +kernel
theorem dX11_hours_42 : decode cX11_hours 42 = .ok (.getfield 16, 3) := by decide +kernel
theorem dX11_hours_45 : decode cX11_hours 45 = .ok (.invokevirtual 226, 3) := by decide +kernel
theorem dX11_hours_48 : decode cX11_hours 48 = .ok (.iinc 2 1, 3) := by decide +kernel
theorem dX11_hours_51 : decode cX11_hours 51 = .ok (.goto (-38), 3) := by decide +kernel
theorem dX11_hours_54 : decode cX11_hours 54 = .ok (.aload_n 0, 1) := by decide +kernel
theorem dX11_hours_55 : decode cX11_hours 55 = .ok (.getfield 16, 3) := by decide +kernel
theorem dX11_hours_58 : decode cX11_hours 58 = .ok (.getfield 66, 3) := by decide +kernel
theorem dX11_hours_61 : decode cX11_hours 61 = .ok (.ireturn, 1) := by decide +kernel
theorem dX11_square_0 : decode cX11_square 0 = .ok (.iload_n 1, 1) := by decide +kernel
theorem dX11_square_1 : decode cX11_square 1 = .ok (.invokestatic 55, 3) := by decide +kernel
theorem dX11_square_4 : decode cX11_square 4 = .ok (.aload_n 0, 1) := by decide +kernel
theorem dX11_square_5 : decode cX11_square 5 = .ok (.getfield 16, 3) := by decide +kernel
theorem dX11_square_8 : decode cX11_square 8 = .ok (.getfield 82, 3) := by decide +kernel
theorem dX11_square_11 : decode cX11_square 11 = .ok (.astore_n 3, 1) := by decide +kernel
theorem dX11_square_12 : decode cX11_square 12 = .ok (.iload_n 2, 1) := by decide +kernel
theorem dX11_square_13 : decode cX11_square 13 = .ok (.tableswitch 151 0 10 #[59, 74, 81, 88, 95, 102, 109, 118, 125, 132, 142], 59) := by decide +kernel
theorem dX11_square_72 : decode cX11_square 72 = .ok (.aload_n 3, 1) := by decide +kernel
theorem dX11_square_73 : decode cX11_square 73 = .ok (.getfield 86, 3) := by decide +kernel
theorem dX11_square_76 : decode cX11_square 76 = .ok (.iload_n 1, 1) := by decide +kernel
theorem dX11_square_77 : decode cX11_square 77 = .ok (.baload, 1) := by decide +kernel
theorem dX11_square_78 : decode cX11_square 78 = .ok (.ifCond .eq 7, 3) := by decide +kernel
theorem dX11_square_81 : decode cX11_square 81 = .ok (.iconst 1, 1) := by decide +kernel
theorem dX11_square_82 : decode cX11_square 82 = .ok (.goto 4, 3) := by decide +kernel
theorem dX11_square_85 : decode cX11_square 85 = .ok (.iconst 0, 1) := by decide +kernel
theorem dX11_square_86 : decode cX11_square 86 = .ok (.ireturn, 1) := by decide +kernel
theorem dX11_square_87 : decode cX11_square 87 = .ok (.aload_n 3, 1) := by decide +kernel
theorem dX11_square_88 : decode cX11_square 88 = .ok (.getfield 230, 3) := by decide +kernel
theorem dX11_square_91 : decode cX11_square 91 = .ok (.iload_n 1, 1) := by decide +kernel
theorem dX11_square_92 : decode cX11_square 92 = .ok (.iaload, 1) := by decide +kernel
theorem dX11_square_93 : decode cX11_square 93 = .ok (.ireturn, 1) := by decide +kernel
theorem dX11_square_94 : decode cX11_square 94 = .ok (.aload_n 3, 1) := by decide +kernel
theorem dX11_square_95 : decode cX11_square 95 = .ok (.getfield 233, 3) := by decide +kernel
theorem dX11_square_98 : decode cX11_square 98 = .ok (.iload_n 1, 1) := by decide +kernel
theorem dX11_square_99 : decode cX11_square 99 = .ok (.iaload, 1) := by decide +kernel
theorem dX11_square_100 : decode cX11_square 100 = .ok (.ireturn, 1) := by decide +kernel
theorem dX11_square_101 : decode cX11_square 101 = .ok (.aload_n 3, 1) := by decide +kernel
theorem dX11_square_102 : decode cX11_square 102 = .ok (.getfield 236, 3) := by decide +kernel
theorem dX11_square_105 : decode cX11_square 105 = .ok (.iload_n 1, 1) := by decide +kernel
theorem dX11_square_106 : decode cX11_square 106 = .ok (.iaload, 1) := by decide +kernel
theorem dX11_square_107 : decode cX11_square 107 = .ok (.ireturn, 1) := by decide +kernel
theorem dX11_square_108 : decode cX11_square 108 = .ok (.aload_n 3, 1) := by decide +kernel
theorem dX11_square_109 : decode cX11_square 109 = .ok (.getfield 239, 3) := by decide +kernel
theorem dX11_square_112 : decode cX11_square 112 = .ok (.iload_n 1, 1) := by decide +kernel
theorem dX11_square_113 : decode cX11_square 113 = .ok (.iaload, 1) := by decide +kernel
theorem dX11_square_114 : decode cX11_square 114 = .ok (.ireturn, 1) := by decide +kernel
theorem dX11_square_115 : decode cX11_square 115 = .ok (.aload_n 3, 1) := by decide +kernel
theorem dX11_square_116 : decode cX11_square 116 = .ok (.getfield 242, 3) := by decide +kernel
theorem dX11_square_119 : decode cX11_square 119 = .ok (.iload_n 1, 1) := by decide +kernel
theorem dX11_square_120 : decode cX11_square 120 = .ok (.iaload, 1) := by decide +kernel
theorem dX11_square_121 : decode cX11_square 121 = .ok (.ireturn, 1) := by decide +kernel
theorem dX11_square_122 : decode cX11_square 122 = .ok (.aload_n 0, 1) := by decide +kernel
theorem dX11_square_123 : decode cX11_square 123 = .ok (.getfield 16, 3) := by decide +kernel
theorem dX11_square_126 : decode cX11_square 126 = .ok (.iload_n 1, 1) := by decide +kernel
theorem dX11_square_127 : decode cX11_square 127 = .ok (.invokevirtual 245, 3) := by decide +kernel
theorem dX11_square_130 : decode cX11_square 130 = .ok (.ireturn, 1) := by decide +kernel
theorem dX11_square_131 : decode cX11_square 131 = .ok (.aload_n 3, 1) := by decide +kernel
theorem dX11_square_132 : decode cX11_square 132 = .ok (.getfield 248, 3) := by decide +kernel
theorem dX11_square_135 : decode cX11_square 135 = .ok (.iload_n 1, 1) := by decide +kernel
theorem dX11_square_136 : decode cX11_square 136 = .ok (.iaload, 1) := by decide +kernel
theorem dX11_square_137 : decode cX11_square 137 = .ok (.ireturn, 1) := by decide +kernel
theorem dX11_square_138 : decode cX11_square 138 = .ok (.aload_n 3, 1) := by decide +kernel
theorem dX11_square_139 : decode cX11_square 139 = .ok (.getfield 251, 3) := by decide +kernel
theorem dX11_square_142 : decode cX11_square 142 = .ok (.iload_n 1, 1) := by decide +kernel
theorem dX11_square_143 : decode cX11_square 143 = .ok (.iaload, 1) := by decide +kernel
theorem dX11_square_144 : decode cX11_square 144 = .ok (.ireturn, 1) := by decide +kernel
theorem dX11_square_145 : decode cX11_square 145 = .ok (.aload_n 0, 1) := by decide +kernel
theorem dX11_square_146 : decode cX11_square 146 = .ok (.getfield 30, 3) := by decide +kernel
theorem dX11_square_149 : decode cX11_square 149 = .ok (.getfield 254, 3) := by decide +kernel
theorem dX11_square_152 : decode cX11_square 152 = .ok (.iload_n 1, 1) := by decide +kernel
theorem dX11_square_153 : decode cX11_square 153 = .ok (.iaload, 1) := by decide +kernel
theorem dX11_square_154 : decode cX11_square 154 = .ok (.ireturn, 1) := by decide +kernel
theorem dX11_square_155 : decode cX11_square 155 = .ok (.aload_n 0, 1) := by decide +kernel
theorem dX11_square_156 : decode cX11_square 156 = .ok (.getfield 16, 3) := by decide +kernel
theorem dX11_square_159 : decode cX11_square 159 = .ok (.iload_n 1, 1) := by decide +kernel
theorem dX11_square_160 : decode cX11_square 160 = .ok (.invokevirtual 257, 3) := by decide +kernel
theorem dX11_square_163 : decode cX11_square 163 = .ok (.ireturn, 1) := by decide +kernel
theorem dX11_square_164 : decode cX11_square 164 = .ok (.new 134, 3) := by decide +kernel
theorem dX11_square_167 : decode cX11_square 167 = .ok (.dup, 1) := by decide +kernel
theorem dX11_square_168 : decode cX11_square 168 = .ok (.ldc_w 260, 3) := by decide +kernel
theorem dX11_square_171 : decode cX11_square 171 = .ok (.invokespecial 138, 3) := by decide +kernel
theorem dX11_square_174 : decode cX11_square 174 = .ok (.athrow, 1) := by decide +kernel
theorem dX11_found_0 : decode cX11_found 0 = .ok (.aload_n 0, 1) := by decide +kernel
theorem dX11_found_1 : decode cX11_found 1 = .ok (.getfield 30, 3) := by decide +kernel
theorem dX11_found_4 : decode cX11_found 4 = .ok (.aload_n 0, 1) := by decide +kernel
theorem dX11_found_5 : decode cX11_found 5 = .ok (.getfield 30, 3) := by decide +kernel
theorem dX11_found_8 : decode cX11_found 8 = .ok (.getfield 262, 3) := by decide +kernel
theorem dX11_found_11 : decode cX11_found 11 = .ok (.aload_n 0, 1) := by decide +kernel
theorem dX11_found_12 : decode cX11_found 12 = .ok (.getfield 9, 3) := by decide +kernel
theorem dX11_found_15 : decode cX11_found 15 = .ok (.aload_n 0, 1) := by decide +kernel
theorem dX11_found_16 : decode cX11_found 16 = .ok (.getfield 47, 3) := by decide +kernel
theorem dX11_found_19 : decode cX11_found 19 = .ok (.invokevirtual 266, 3) := by decide +kernel
theorem dX11_found_22 : decode cX11_found 22 = .ok (.putfield 272, 3) := by decide +kernel
theorem dX11_found_25 : decode cX11_found 25 = .ok (.aload_n 0, 1) := by decide +kernel
theorem dX11_found_26 : decode cX11_found 26 = .ok (.iconst 0, 1) := by decide +kernel
theorem dX11_found_27 : decode cX11_found 27 = .ok (.putfield 47, 3) := by decide +kernel
theorem dX11_found_30 : decode cX11_found 30 = .ok (.aload_n 0, 1) := by decide +kernel
theorem dX11_found_31 : decode cX11_found 31 = .ok (.getfield 30, 3) := by decide +kernel
theorem dX11_found_34 : decode cX11_found 34 = .ok (.getfield 272, 3) := by decide +kernel
theorem dX11_found_37 : decode cX11_found 37 = .ok (.iconst (-1), 1) := by decide +kernel
theorem dX11_found_38 : decode cX11_found 38 = .ok (.if_icmp .ne 7, 3) := by decide +kernel
theorem dX11_found_41 : decode cX11_found 41 = .ok (.iconst 1, 1) := by decide +kernel
theorem dX11_found_42 : decode cX11_found 42 = .ok (.goto 4, 3) := by decide +kernel
theorem dX11_found_45 : decode cX11_found 45 = .ok (.iconst 0, 1) := by decide +kernel
theorem dX11_found_46 : decode cX11_found 46 = .ok (.invokestatic 62, 3) := by decide +kernel
theorem dX11_found_49 : decode cX11_found 49 = .ok (.aload_n 0, 1) := by decide +kernel
theorem dX11_found_50 : decode cX11_found 50 = .ok (.getfield 30, 3) := by decide +kernel
theorem dX11_found_53 : decode cX11_found 53 = .ok (.getfield 275, 3) := by decide +kernel
theorem dX11_found_56 : decode cX11_found 56 = .ok (.ifCond .le 14, 3) := by decide +kernel
theorem dX11_found_59 : decode cX11_found 59 = .ok (.new 69, 3) := by decide +kernel
theorem dX11_found_62 : decode cX11_found 62 = .ok (.dup, 1) := by decide +kernel
theorem dX11_found_63 : decode cX11_found 63 = .ok (.ldc_w 278, 3) := by decide +kernel
theorem dX11_found_66 : decode cX11_found 66 = .ok (.invokespecial 73, 3) := by decide +kernel
theorem dX11_found_69 : decode cX11_found 69 = .ok (.athrow, 1) := by decide +kernel
theorem dX11_found_70 : decode cX11_found 70 = .ok (.aload_n 0, 1) := by decide +kernel
theorem dX11_found_71 : decode cX11_found 71 = .ok (.getfield 30, 3) := by decide +kernel
theorem dX11_found_74 : decode cX11_found 74 = .ok (.invokevirtual 280, 3) := by decide +kernel
theorem dX11_found_77 : decode cX11_found 77 = .ok (.ireturn, 1) := by decide +kernel
theorem dX11_propose_0 : decode cX11_propose 0 = .ok (.aload_n 0, 1) := by decide +kernel
theorem dX11_propose_1 : decode cX11_propose 1 = .ok (.getfield 30, 3) := by decide +kernel
theorem dX11_propose_4 : decode cX11_propose 4 = .ok (.aload_n 0, 1) := by decide +kernel
theorem dX11_propose_5 : decode cX11_propose 5 = .ok (.getfield 30, 3) := by decide +kernel
theorem dX11_propose_8 : decode cX11_propose 8 = .ok (.getfield 262, 3) := by decide +kernel
theorem dX11_propose_11 : decode cX11_propose 11 = .ok (.aload_n 0, 1) := by decide +kernel
theorem dX11_propose_12 : decode cX11_propose 12 = .ok (.getfield 9, 3) := by decide +kernel
theorem dX11_propose_15 : decode cX11_propose 15 = .ok (.aload_n 0, 1) := by decide +kernel
theorem dX11_propose_16 : decode cX11_propose 16 = .ok (.getfield 47, 3) := by decide +kernel
theorem dX11_propose_19 : decode cX11_propose 19 = .ok (.invokevirtual 266, 3) := by decide +kernel
theorem dX11_propose_22 : decode cX11_propose 22 = .ok (.putfield 272, 3) := by decide +kernel
theorem dX11_propose_25 : decode cX11_propose 25 = .ok (.aload_n 0, 1) := by decide +kernel
theorem dX11_propose_26 : decode cX11_propose 26 = .ok (.iconst 0, 1) := by decide +kernel
theorem dX11_propose_27 : decode cX11_propose 27 = .ok (.putfield 47, 3) := by decide +kernel
theorem dX11_propose_30 : decode cX11_propose 30 = .ok (.aload_n 0, 1) := by decide +kernel
theorem dX11_propose_31 : decode cX11_propose 31 = .ok (.getfield 30, 3) := by decide +kernel
theorem dX11_propose_34 : decode cX11_propose 34 = .ok (.getfield 272, 3) := by decide +kernel
theorem dX11_propose_37 : decode cX11_propose 37 = .ok (.iconst (-1), 1) := by decide +kernel
theorem dX11_propose_38 : decode cX11_propose 38 = .ok (.if_icmp .ne 7, 3) := by decide +kernel
theorem dX11_propose_41 : decode cX11_propose 41 = .ok (.iconst 1, 1) := by decide +kernel
theorem dX11_propose_42 : decode cX11_propose 42 = .ok (.goto 4, 3) := by decide +kernel
theorem dX11_propose_45 : decode cX11_propose 45 = .ok (.iconst 0, 1) := by decide +kernel
theorem dX11_propose_46 : decode cX11_propose 46 = .ok (.invokestatic 62, 3) := by decide +kernel
theorem dX11_propose_49 : decode cX11_propose 49 = .ok (.aload_n 0, 1) := by decide +kernel
theorem dX11_propose_50 : decode cX11_propose 50 = .ok (.getfield 30, 3) := by decide +kernel
theorem dX11_propose_53 : decode cX11_propose 53 = .ok (.getfield 284, 3) := by decide +kernel
theorem dX11_propose_56 : decode cX11_propose 56 = .ok (.ifCond .eq 14, 3) := by decide +kernel
theorem dX11_propose_59 : decode cX11_propose 59 = .ok (.new 69, 3) := by decide +kernel
theorem dX11_propose_62 : decode cX11_propose 62 = .ok (.dup, 1) := by decide +kernel
theorem dX11_propose_63 : decode cX11_propose 63 = .ok (.ldc_w 287, 3) := by decide +kernel
theorem dX11_propose_66 : decode cX11_propose 66 = .ok (.invokespecial 73, 3) := by decide +kernel
theorem dX11_propose_69 : decode cX11_propose 69 = .ok (.athrow, 1) := by decide +kernel
theorem dX11_propose_70 : decode cX11_propose 70 = .ok (.aload_n 0, 1) := by decide +kernel
theorem dX11_propose_71 : decode cX11_propose 71 = .ok (.getfield 30, 3) := by decide +kernel
theorem dX11_propose_74 : decode cX11_propose 74 = .ok (.invokevirtual 289, 3) := by decide +kernel
theorem dX11_propose_77 : decode cX11_propose 77 = .ok (.ireturn, 1) := by decide +kernel
theorem dX11_fault_0 : decode cX11_fault 0 = .ok (.aload_n 0, 1) := by decide +kernel
theorem dX11_fault_1 : decode cX11_fault 1 = .ok (.getfield 30, 3) := by decide +kernel
theorem dX11_fault_4 : decode cX11_fault 4 = .ok (.getfield 272, 3) := by decide +kernel
theorem dX11_fault_7 : decode cX11_fault 7 = .ok (.ireturn, 1) := by decide +kernel
theorem dX11_vote_0 : decode cX11_vote 0 = .ok (.aload_n 0, 1) := by decide +kernel
theorem dX11_vote_1 : decode cX11_vote 1 = .ok (.iload_n 1, 1) := by decide +kernel
theorem dX11_vote_2 : decode cX11_vote 2 = .ok (.invokevirtual 292, 3) := by decide +kernel
theorem dX11_vote_5 : decode cX11_vote 5 = .ok (.astore_n 3, 1) := by decide +kernel
theorem dX11_vote_6 : decode cX11_vote 6 = .ok (.aload_n 0, 1) := by decide +kernel
theorem dX11_vote_7 : decode cX11_vote 7 = .ok (.invokevirtual 296, 3) := by decide +kernel
theorem dX11_vote_10 : decode cX11_vote 10 = .ok (.aload_n 0, 1) := by decide +kernel
theorem dX11_vote_11 : decode cX11_vote 11 = .ok (.getfield 30, 3) := by decide +kernel
theorem dX11_vote_14 : decode cX11_vote 14 = .ok (.aload_n 3, 1) := by decide +kernel
theorem dX11_vote_15 : decode cX11_vote 15 = .ok (.iload_n 2, 1) := by decide +kernel
theorem dX11_vote_16 : decode cX11_vote 16 = .ok (.aload_n 0, 1) := by decide +kernel
theorem dX11_vote_17 : decode cX11_vote 17 = .ok (.getfield 16, 3) := by decide +kernel
theorem dX11_vote_20 : decode cX11_vote 20 = .ok (.invokevirtual 299, 3) := by decide +kernel
theorem dX11_vote_23 : decode cX11_vote 23 = .ok (.ireturn, 1) := by decide +kernel
theorem dX11_close_0 : decode cX11_close 0 = .ok (.aload_n 0, 1) := by decide +kernel
theorem dX11_close_1 : decode cX11_close 1 = .ok (.invokevirtual 296, 3) := by decide +kernel
theorem dX11_close_4 : decode cX11_close 4 = .ok (.aload_n 0, 1) := by decide +kernel
theorem dX11_close_5 : decode cX11_close 5 = .ok (.getfield 30, 3) := by decide +kernel
theorem dX11_close_8 : decode cX11_close 8 = .ok (.invokevirtual 303, 3) := by decide +kernel
theorem dX11_close_11 : decode cX11_close 11 = .ok (.ireturn, 1) := by decide +kernel
theorem dX11_rules_0 : decode cX11_rules 0 = .ok (.aload_n 0, 1) := by decide +kernel
theorem dX11_rules_1 : decode cX11_rules 1 = .ok (.iload_n 1, 1) := by decide +kernel
theorem dX11_rules_2 : decode cX11_rules 2 = .ok (.invokevirtual 292, 3) := by decide +kernel
theorem dX11_rules_5 : decode cX11_rules 5 = .ok (.astore_n 3, 1) := by decide +kernel
theorem dX11_rules_6 : decode cX11_rules 6 = .ok (.aload_n 0, 1) := by decide +kernel
theorem dX11_rules_7 : decode cX11_rules 7 = .ok (.getfield 30, 3) := by decide +kernel
theorem dX11_rules_10 : decode cX11_rules 10 = .ok (.aload_n 3, 1) := by decide +kernel
theorem dX11_rules_11 : decode cX11_rules 11 = .ok (.aload_n 0, 1) := by decide +kernel
theorem dX11_rules_12 : decode cX11_rules 12 = .ok (.getfield 16, 3) := by decide +kernel
theorem dX11_rules_15 : decode cX11_rules 15 = .ok (.invokevirtual 306, 3) := by decide +kernel
theorem dX11_rules_18 : decode cX11_rules 18 = .ok (.iload_n 2, 1) := by decide +kernel
theorem dX11_rules_19 : decode cX11_rules 19 = .ok (.tableswitch 107 0 5 #[37, 45, 54, 63, 72, 89], 37) := by decide +kernel
theorem dX11_rules_56 : decode cX11_rules 56 = .ok (.aload_n 0, 1) := by decide +kernel
theorem dX11_rules_57 : decode cX11_rules 57 = .ok (.getfield 30, 3) := by decide +kernel
theorem dX11_rules_60 : decode cX11_rules 60 = .ok (.invokevirtual 310, 3) := by decide +kernel
theorem dX11_rules_63 : decode cX11_rules 63 = .ok (.ireturn, 1) := by decide +kernel
theorem dX11_rules_64 : decode cX11_rules 64 = .ok (.aload_n 0, 1) := by decide +kernel
theorem dX11_rules_65 : decode cX11_rules 65 = .ok (.getfield 30, 3) := by decide +kernel
theorem dX11_rules_68 : decode cX11_rules 68 = .ok (.iconst 2, 1) := by decide +kernel
theorem dX11_rules_69 : decode cX11_rules 69 = .ok (.invokevirtual 313, 3) := by decide +kernel
theorem dX11_rules_72 : decode cX11_rules 72 = .ok (.ireturn, 1) := by decide +kernel
theorem dX11_rules_73 : decode cX11_rules 73 = .ok (.aload_n 0, 1) := by decide +kernel
theorem dX11_rules_74 : decode cX11_rules 74 = .ok (.getfield 30, 3) := by decide +kernel
theorem dX11_rules_77 : decode cX11_rules 77 = .ok (.iconst 3, 1) := by decide +kernel
theorem dX11_rules_78 : decode cX11_rules 78 = .ok (.invokevirtual 313, 3) := by decide +kernel
theorem dX11_rules_81 : decode cX11_rules 81 = .ok (.ireturn, 1) := by decide +kernel
theorem dX11_rules_82 : decode cX11_rules 82 = .ok (.aload_n 0, 1) := by decide +kernel
theorem dX11_rules_83 : decode cX11_rules 83 = .ok (.getfield 30, 3) := by decide +kernel
theorem dX11_rules_86 : decode cX11_rules 86 = .ok (.iconst 4, 1) := by decide +kernel
theorem dX11_rules_87 : decode cX11_rules 87 = .ok (.invokevirtual 313, 3) := by decide +kernel
theorem dX11_rules_90 : decode cX11_rules 90 = .ok (.ireturn, 1) := by decide +kernel
theorem dX11_rules_91 : decode cX11_rules 91 = .ok (.aload_n 0, 1) := by decide +kernel
theorem dX11_rules_92 : decode cX11_rules 92 = .ok (.getfield 30, 3) := by decide +kernel
theorem dX11_rules_95 : decode cX11_rules 95 = .ok (.iconst 5, 1) := by decide +kernel
theorem dX11_rules_96 : decode cX11_rules 96 = .ok (.invokevirtual 316, 3) := by decide +kernel
theorem dX11_rules_99 : decode cX11_rules 99 = .ok (.ifCond .eq 7, 3) := by decide +kernel
theorem dX11_rules_102 : decode cX11_rules 102 = .ok (.iconst 1, 1) := by decide +kernel
theorem dX11_rules_103 : decode cX11_rules 103 = .ok (.goto 4, 3) := by decide +kernel
theorem dX11_rules_106 : decode cX11_rules 106 = .ok (.iconst 0, 1) := by decide +kernel
theorem dX11_rules_107 : decode cX11_rules 107 = .ok (.ireturn, 1) := by decide +kernel
theorem dX11_rules_108 : decode cX11_rules 108 = .ok (.aload_n 0, 1) := by decide +kernel
theorem dX11_rules_109 : decode cX11_rules 109 = .ok (.getfield 30, 3) := by decide +kernel
theorem dX11_rules_112 : decode cX11_rules 112 = .ok (.bipush 6, 2) := by decide +kernel
theorem dX11_rules_114 : decode cX11_rules 114 = .ok (.invokevirtual 316, 3) := by decide +kernel
theorem dX11_rules_117 : decode cX11_rules 117 = .ok (.ifCond .eq 7, 3) := by decide +kernel
theorem dX11_rules_120 : decode cX11_rules 120 = .ok (.iconst 1, 1) := by decide +kernel
theorem dX11_rules_121 : decode cX11_rules 121 = .ok (.goto 4, 3) := by decide +kernel
theorem dX11_rules_124 : decode cX11_rules 124 = .ok (.iconst 0, 1) := by decide +kernel
theorem dX11_rules_125 : decode cX11_rules 125 = .ok (.ireturn, 1) := by decide +kernel
theorem dX11_rules_126 : decode cX11_rules 126 = .ok (.new 134, 3) := by decide +kernel
theorem dX11_rules_129 : decode cX11_rules 129 = .ok (.dup, 1) := by decide +kernel
theorem dX11_rules_130 : decode cX11_rules 130 = .ok (.ldc_w 319, 3) := by decide +kernel
theorem dX11_rules_133 : decode cX11_rules 133 = .ok (.invokespecial 138, 3) := by decide +kernel
theorem dX11_rules_136 : decode cX11_rules 136 = .ok (.athrow, 1) := by decide +kernel
theorem dX11_why_0 : decode cX11_why 0 = .ok (.aload_n 0, 1) := by decide +kernel
theorem dX11_why_1 : decode cX11_why 1 = .ok (.iload_n 1, 1) := by decide +kernel
theorem dX11_why_2 : decode cX11_why 2 = .ok (.invokevirtual 292, 3) := by decide +kernel
theorem dX11_why_5 : decode cX11_why 5 = .ok (.astore_n 3, 1) := by decide +kernel
theorem dX11_why_6 : decode cX11_why 6 = .ok (.iload_n 2, 1) := by decide +kernel
theorem dX11_why_7 : decode cX11_why 7 = .ok (.iconst 0, 1) := by decide +kernel
theorem dX11_why_8 : decode cX11_why 8 = .ok (.bipush 6, 2) := by decide +kernel
theorem dX11_why_10 : decode cX11_why 10 = .ok (.invokestatic 58, 3) := by decide +kernel
theorem dX11_why_13 : decode cX11_why 13 = .ok (.ifCond .ne 14, 3) := by decide +kernel
theorem dX11_why_16 : decode cX11_why 16 = .ok (.new 134, 3) := by decide +kernel
theorem dX11_why_19 : decode cX11_why 19 = .ok (.dup, 1) := by decide +kernel
theorem dX11_why_20 : decode cX11_why 20 = .ok (.ldc_w 321, 3) := by decide +kernel
theorem dX11_why_23 : decode cX11_why 23 = .ok (.invokespecial 138, 3) := by decide +kernel
theorem dX11_why_26 : decode cX11_why 26 = .ok (.athrow, 1) := by decide +kernel
theorem dX11_why_27 : decode cX11_why 27 = .ok (.aload_n 0, 1) := by decide +kernel
theorem dX11_why_28 : decode cX11_why 28 = .ok (.getfield 30, 3) := by decide +kernel
theorem dX11_why_31 : decode cX11_why 31 = .ok (.aload_n 3, 1) := by decide +kernel
theorem dX11_why_32 : decode cX11_why 32 = .ok (.aload_n 0, 1) := by decide +kernel
theorem dX11_why_33 : decode cX11_why 33 = .ok (.getfield 16, 3) := by decide +kernel
theorem dX11_why_36 : decode cX11_why 36 = .ok (.invokevirtual 306, 3) := by decide +kernel
theorem dX11_why_39 : decode cX11_why 39 = .ok (.aload_n 0, 1) := by decide +kernel
theorem dX11_why_40 : decode cX11_why 40 = .ok (.getfield 30, 3) := by decide +kernel
theorem dX11_why_43 : decode cX11_why 43 = .ok (.getfield 323, 3) := by decide +kernel
theorem dX11_why_46 : decode cX11_why 46 = .ok (.iload_n 2, 1) := by decide +kernel
theorem dX11_why_47 : decode cX11_why 47 = .ok (.aload_n 0, 1) := by decide +kernel
theorem dX11_why_48 : decode cX11_why 48 = .ok (.getfield 30, 3) := by decide +kernel
theorem dX11_why_51 : decode cX11_why 51 = .ok (.getfield 326, 3) := by decide +kernel
theorem dX11_why_54 : decode cX11_why 54 = .ok (.invokevirtual 330, 3) := by decide +kernel
theorem dX11_why_57 : decode cX11_why 57 = .ok (.ireturn, 1) := by decide +kernel
theorem dX11_lawLevel_0 : decode cX11_lawLevel 0 = .ok (.iload_n 1, 1) := by decide +kernel
theorem dX11_lawLevel_1 : decode cX11_lawLevel 1 = .ok (.invokestatic 55, 3) := by decide +kernel
theorem dX11_lawLevel_4 : decode cX11_lawLevel 4 = .ok (.aload_n 0, 1) := by decide +kernel
theorem dX11_lawLevel_5 : decode cX11_lawLevel 5 = .ok (.getfield 16, 3) := by decide +kernel
theorem dX11_lawLevel_8 : decode cX11_lawLevel 8 = .ok (.invokevirtual 334, 3) := by decide +kernel
theorem dX11_lawLevel_11 : decode cX11_lawLevel 11 = .ok (.sipush 360, 3) := by decide +kernel
theorem dX11_lawLevel_14 : decode cX11_lawLevel 14 = .ok (.irem, 1) := by decide +kernel
theorem dX11_lawLevel_15 : decode cX11_lawLevel 15 = .ok (.istore_n 2, 1) := by decide +kernel
theorem dX11_lawLevel_16 : decode cX11_lawLevel 16 = .ok (.aload_n 0, 1) := by decide +kernel
theorem dX11_lawLevel_17 : decode cX11_lawLevel 17 = .ok (.getfield 30, 3) := by decide +kernel
theorem dX11_lawLevel_20 : decode cX11_lawLevel 20 = .ok (.getfield 323, 3) := by decide +kernel
theorem dX11_lawLevel_23 : decode cX11_lawLevel 23 = .ok (.iload_n 1, 1) := by decide +kernel
theorem dX11_lawLevel_24 : decode cX11_lawLevel 24 = .ok (.iload_n 2, 1) := by decide +kernel
theorem dX11_lawLevel_25 : decode cX11_lawLevel 25 = .ok (.bipush 90, 2) := by decide +kernel
theorem dX11_lawLevel_27 : decode cX11_lawLevel 27 = .ok (.sipush 269, 3) := by decide +kernel
theorem dX11_lawLevel_30 : decode cX11_lawLevel 30 = .ok (.invokestatic 58, 3) := by decide +kernel
theorem dX11_lawLevel_33 : decode cX11_lawLevel 33 = .ok (.invokevirtual 337, 3) := by decide +kernel
theorem dX11_lawLevel_36 : decode cX11_lawLevel 36 = .ok (.ireturn, 1) := by decide +kernel
theorem dX11_mayBuild_0 : decode cX11_mayBuild 0 = .ok (.iload_n 1, 1) := by decide +kernel
theorem dX11_mayBuild_1 : decode cX11_mayBuild 1 = .ok (.invokestatic 55, 3) := by decide +kernel
theorem dX11_mayBuild_4 : decode cX11_mayBuild 4 = .ok (.aload_n 0, 1) := by decide +kernel
theorem dX11_mayBuild_5 : decode cX11_mayBuild 5 = .ok (.getfield 30, 3) := by decide +kernel
theorem dX11_mayBuild_8 : decode cX11_mayBuild 8 = .ok (.iload_n 1, 1) := by decide +kernel
theorem dX11_mayBuild_9 : decode cX11_mayBuild 9 = .ok (.aload_n 0, 1) := by decide +kernel
theorem dX11_mayBuild_10 : decode cX11_mayBuild 10 = .ok (.getfield 16, 3) := by decide +kernel
theorem dX11_mayBuild_13 : decode cX11_mayBuild 13 = .ok (.invokevirtual 190, 3) := by decide +kernel
theorem dX11_mayBuild_16 : decode cX11_mayBuild 16 = .ok (.ireturn, 1) := by decide +kernel
theorem dX11_settler_0 : decode cX11_settler 0 = .ok (.iload_n 1, 1) := by decide +kernel
theorem dX11_settler_1 : decode cX11_settler 1 = .ok (.iconst 0, 1) := by decide +kernel
theorem dX11_settler_2 : decode cX11_settler 2 = .ok (.bipush 99, 2) := by decide +kernel
theorem dX11_settler_4 : decode cX11_settler 4 = .ok (.invokestatic 58, 3) := by decide +kernel
theorem dX11_settler_7 : decode cX11_settler 7 = .ok (.ifCond .eq 50, 3) := by decide +kernel
theorem dX11_settler_10 : decode cX11_settler 10 = .ok (.iload_n 2, 1) := by decide +kernel
theorem dX11_settler_11 : decode cX11_settler 11 = .ok (.iconst 0, 1) := by decide +kernel
theorem dX11_settler_12 : decode cX11_settler 12 = .ok (.bipush 20, 2) := by decide +kernel
theorem dX11_settler_14 : decode cX11_settler 14 = .ok (.invokestatic 58, 3) := by decide +kernel
theorem dX11_settler_17 : decode cX11_settler 17 = .ok (.ifCond .eq 40, 3) := by decide +kernel
theorem dX11_settler_20 : decode cX11_settler 20 = .ok (.iload_n 3, 1) := by decide +kernel
theorem dX11_settler_21 : decode cX11_settler 21 = .ok (.iconst 0, 1) := by decide +kernel
theorem dX11_settler_22 : decode cX11_settler 22 = .ok (.ldc 96, 2) := by decide +kernel
theorem dX11_settler_24 : decode cX11_settler 24 = .ok (.invokestatic 58, 3) := by decide +kernel
theorem dX11_settler_27 : decode cX11_settler 27 = .ok (.ifCond .eq 30, 3) := by decide +kernel
theorem dX11_settler_30 : decode cX11_settler 30 = .ok (.iload 4, 2) := by decide +kernel
theorem dX11_settler_32 : decode cX11_settler 32 = .ok (.iconst 0, 1) := by decide +kernel
theorem dX11_settler_33 : decode cX11_settler 33 = .ok (.bipush 100, 2) := by decide +kernel
theorem dX11_settler_35 : decode cX11_settler 35 = .ok (.invokestatic 58, 3) := by decide +kernel
theorem dX11_settler_38 : decode cX11_settler 38 = .ok (.ifCond .eq 19, 3) := by decide +kernel
theorem dX11_settler_41 : decode cX11_settler 41 = .ok (.iload 7, 2) := by decide +kernel
theorem dX11_settler_43 : decode cX11_settler 43 = .ok (.iconst 0, 1) := by decide +kernel
theorem dX11_settler_44 : decode cX11_settler 44 = .ok (.ldc_w 341, 3) := by decide +kernel
theorem dX11_settler_47 : decode cX11_settler 47 = .ok (.invokestatic 58, 3) := by decide +kernel
theorem dX11_settler_50 : decode cX11_settler 50 = .ok (.ifCond .eq 7, 3) := by decide +kernel
theorem dX11_settler_53 : decode cX11_settler 53 = .ok (.iconst 1, 1) := by decide +kernel
theorem dX11_settler_54 : decode cX11_settler 54 = .ok (.goto 4, 3) := by decide +kernel
theorem dX11_settler_57 : decode cX11_settler 57 = .ok (.iconst 0, 1) := by decide +kernel
