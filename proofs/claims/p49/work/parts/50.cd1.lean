theorem dX1_init_1 : decode cX1_init 1 = .ok (.invokespecial 1, 3) := by decide +kernel
theorem dX1_init_4 : decode cX1_init 4 = .ok (.aload_n 0, 1) := by decide +kernel
theorem dX1_init_5 : decode cX1_init 5 = .ok (.ldc 9, 2) := by decide +kernel
theorem dX1_init_7 : decode cX1_init 7 = .ok (.putfield 10, 3) := by decide +kernel
theorem dX1_init_10 : decode cX1_init 10 = .ok (.aload_n 0, 1) := by decide +kernel
theorem dX1_init_11 : decode cX1_init 11 = .ok (.iload_n 1, 1) := by decide +kernel
theorem dX1_init_12 : decode cX1_init 12 = .ok (.putfield 16, 3) := by decide +kernel
theorem dX1_init_15 : decode cX1_init 15 = .ok (.aload_n 0, 1) := by decide +kernel
theorem dX1_init_16 : decode cX1_init 16 = .ok (.iload_n 2, 1) := by decide +kernel
theorem dX1_init_17 : decode cX1_init 17 = .ok (.putfield 19, 3) := by decide +kernel
theorem dX1_init_20 : decode cX1_init 20 = .ok (.aload_n 0, 1) := by decide +kernel
theorem dX1_init_21 : decode cX1_init 21 = .ok (.iload_n 3, 1) := by decide +kernel
theorem dX1_init_22 : decode cX1_init 22 = .ok (.putfield 22, 3) := by decide +kernel
theorem dX1_init_25 : decode cX1_init 25 = .ok (.aload_n 0, 1) := by decide +kernel
theorem dX1_init_26 : decode cX1_init 26 = .ok (.iload 4, 2) := by decide +kernel
theorem dX1_init_28 : decode cX1_init 28 = .ok (.putfield 25, 3) := by decide +kernel
theorem dX1_init_31 : decode cX1_init 31 = .ok (.return_, 1) := by decide +kernel
theorem dX1_say_0 : decode cX1_say 0 = .ok (.aload_n 0, 1) := by decide +kernel
theorem dX1_say_1 : decode cX1_say 1 = .ok (.iconst 1, 1) := by decide +kernel
theorem dX1_say_2 : decode cX1_say 2 = .ok (.putfield 28, 3) := by decide +kernel
theorem dX1_say_5 : decode cX1_say 5 = .ok (.aload_n 0, 1) := by decide +kernel
theorem dX1_say_6 : decode cX1_say 6 = .ok (.aload_n 0, 1) := by decide +kernel
theorem dX1_say_7 : decode cX1_say 7 = .ok (.getfield 32, 3) := by decide +kernel
theorem dX1_say_10 : decode cX1_say 10 = .ok (.iload_n 1, 1) := by decide +kernel
theorem dX1_say_11 : decode cX1_say 11 = .ok (.aload_n 0, 1) := by decide +kernel
theorem dX1_say_12 : decode cX1_say 12 = .ok (.getfield 25, 3) := by decide +kernel
theorem dX1_say_15 : decode cX1_say 15 = .ok (.isub, 1) := by decide +kernel
theorem dX1_say_16 : decode cX1_say 16 = .ok (.invokestatic 35, 3) := by decide +kernel
theorem dX1_say_19 : decode cX1_say 19 = .ok (.putfield 32, 3) := by decide +kernel
theorem dX1_say_22 : decode cX1_say 22 = .ok (.aload_n 0, 1) := by decide +kernel
theorem dX1_say_23 : decode cX1_say 23 = .ok (.aload_n 0, 1) := by decide +kernel
theorem dX1_say_24 : decode cX1_say 24 = .ok (.getfield 10, 3) := by decide +kernel
theorem dX1_say_27 : decode cX1_say 27 = .ok (.iload_n 1, 1) := by decide +kernel
theorem dX1_say_28 : decode cX1_say 28 = .ok (.aload_n 0, 1) := by decide +kernel
theorem dX1_say_29 : decode cX1_say 29 = .ok (.getfield 25, 3) := by decide +kernel
theorem dX1_say_32 : decode cX1_say 32 = .ok (.iadd, 1) := by decide +kernel
theorem dX1_say_33 : decode cX1_say 33 = .ok (.invokestatic 41, 3) := by decide +kernel
theorem dX1_say_36 : decode cX1_say 36 = .ok (.putfield 10, 3) := by decide +kernel
theorem dX1_say_39 : decode cX1_say 39 = .ok (.return_, 1) := by decide +kernel
theorem dX1_hasSpan_0 : decode cX1_hasSpan 0 = .ok (.aload_n 0, 1) := by decide +kernel
theorem dX1_hasSpan_1 : decode cX1_hasSpan 1 = .ok (.getfield 28, 3) := by decide +kernel
theorem dX1_hasSpan_4 : decode cX1_hasSpan 4 = .ok (.ifCond .eq 18, 3) := by decide +kernel
theorem dX1_hasSpan_7 : decode cX1_hasSpan 7 = .ok (.aload_n 0, 1) := by decide +kernel
theorem dX1_hasSpan_8 : decode cX1_hasSpan 8 = .ok (.getfield 32, 3) := by decide +kernel
theorem dX1_hasSpan_11 : decode cX1_hasSpan 11 = .ok (.aload_n 0, 1) := by decide +kernel
theorem dX1_hasSpan_12 : decode cX1_hasSpan 12 = .ok (.getfield 10, 3) := by decide +kernel
theorem dX1_hasSpan_15 : decode cX1_hasSpan 15 = .ok (.if_icmp .gt 7, 3) := by decide +kernel
theorem dX1_hasSpan_18 : decode cX1_hasSpan 18 = .ok (.iconst 1, 1) := by decide +kernel
theorem dX1_hasSpan_19 : decode cX1_hasSpan 19 = .ok (.goto 4, 3) := by decide +kernel
theorem dX1_hasSpan_22 : decode cX1_hasSpan 22 = .ok (.iconst 0, 1) := by decide +kernel
theorem dX1_hasSpan_23 : decode cX1_hasSpan 23 = .ok (.ireturn, 1) := by decide +kernel
theorem dX2_init_0 : decode cX2_init 0 = .ok (.aload_n 0, 1) := by decide +kernel
theorem dX2_init_1 : decode cX2_init 1 = .ok (.invokespecial 3, 3) := by decide +kernel
theorem dX2_init_4 : decode cX2_init 4 = .ok (.aload_n 0, 1) := by decide +kernel
theorem dX2_init_5 : decode cX2_init 5 = .ok (.bipush 96, 2) := by decide +kernel
theorem dX2_init_7 : decode cX2_init 7 = .ok (.newarray .boolean, 2) := by decide +kernel
theorem dX2_init_9 : decode cX2_init 9 = .ok (.putfield 9, 3) := by decide +kernel
theorem dX2_init_12 : decode cX2_init 12 = .ok (.aload_n 0, 1) := by decide +kernel
theorem dX2_init_13 : decode cX2_init 13 = .ok (.bipush 96, 2) := by decide +kernel
theorem dX2_init_15 : decode cX2_init 15 = .ok (.newarray .int, 2) := by decide +kernel
theorem dX2_init_17 : decode cX2_init 17 = .ok (.putfield 15, 3) := by decide +kernel
theorem dX2_init_20 : decode cX2_init 20 = .ok (.aload_n 0, 1) := by decide +kernel
theorem dX2_init_21 : decode cX2_init 21 = .ok (.bipush 96, 2) := by decide +kernel
theorem dX2_init_23 : decode cX2_init 23 = .ok (.newarray .int, 2) := by decide +kernel
theorem dX2_init_25 : decode cX2_init 25 = .ok (.putfield 19, 3) := by decide +kernel
theorem dX2_init_28 : decode cX2_init 28 = .ok (.aload_n 0, 1) := by decide +kernel
theorem dX2_init_29 : decode cX2_init 29 = .ok (.bipush 96, 2) := by decide +kernel
theorem dX2_init_31 : decode cX2_init 31 = .ok (.newarray .int, 2) := by decide +kernel
theorem dX2_init_33 : decode cX2_init 33 = .ok (.putfield 22, 3) := by decide +kernel
theorem dX2_init_36 : decode cX2_init 36 = .ok (.aload_n 0, 1) := by decide +kernel
theorem dX2_init_37 : decode cX2_init 37 = .ok (.bipush 96, 2) := by decide +kernel
theorem dX2_init_39 : decode cX2_init 39 = .ok (.newarray .int, 2) := by decide +kernel
theorem dX2_init_41 : decode cX2_init 41 = .ok (.putfield 25, 3) := by decide +kernel
theorem dX2_init_44 : decode cX2_init 44 = .ok (.aload_n 0, 1) := by decide +kernel
theorem dX2_init_45 : decode cX2_init 45 = .ok (.bipush 96, 2) := by decide +kernel
theorem dX2_init_47 : decode cX2_init 47 = .ok (.newarray .int, 2) := by decide +kernel
theorem dX2_init_49 : decode cX2_init 49 = .ok (.putfield 28, 3) := by decide +kernel
theorem dX2_init_52 : decode cX2_init 52 = .ok (.aload_n 0, 1) := by decide +kernel
theorem dX2_init_53 : decode cX2_init 53 = .ok (.bipush 96, 2) := by decide +kernel
theorem dX2_init_55 : decode cX2_init 55 = .ok (.newarray .int, 2) := by decide +kernel
theorem dX2_init_57 : decode cX2_init 57 = .ok (.putfield 31, 3) := by decide +kernel
theorem dX2_init_60 : decode cX2_init 60 = .ok (.aload_n 0, 1) := by decide +kernel
theorem dX2_init_61 : decode cX2_init 61 = .ok (.bipush 96, 2) := by decide +kernel
theorem dX2_init_63 : decode cX2_init 63 = .ok (.newarray .int, 2) := by decide +kernel
theorem dX2_init_65 : decode cX2_init 65 = .ok (.putfield 34, 3) := by decide +kernel
theorem dX2_init_68 : decode cX2_init 68 = .ok (.aload_n 0, 1) := by decide +kernel
theorem dX2_init_69 : decode cX2_init 69 = .ok (.bipush 96, 2) := by decide +kernel
theorem dX2_init_71 : decode cX2_init 71 = .ok (.newarray .int, 2) := by decide +kernel
theorem dX2_init_73 : decode cX2_init 73 = .ok (.putfield 37, 3) := by decide +kernel
theorem dX2_init_76 : decode cX2_init 76 = .ok (.aload_n 0, 1) := by decide +kernel
theorem dX2_init_77 : decode cX2_init 77 = .ok (.bipush 96, 2) := by decide +kernel
theorem dX2_init_79 : decode cX2_init 79 = .ok (.newarray .int, 2) := by decide +kernel
theorem dX2_init_81 : decode cX2_init 81 = .ok (.putfield 40, 3) := by decide +kernel
theorem dX2_init_84 : decode cX2_init 84 = .ok (.aload_n 0, 1) := by decide +kernel
theorem dX2_init_85 : decode cX2_init 85 = .ok (.bipush 96, 2) := by decide +kernel
theorem dX2_init_87 : decode cX2_init 87 = .ok (.newarray .int, 2) := by decide +kernel
theorem dX2_init_89 : decode cX2_init 89 = .ok (.putfield 43, 3) := by decide +kernel
theorem dX2_init_92 : decode cX2_init 92 = .ok (.return_, 1) := by decide +kernel
theorem dX2_tellLand_0 : decode cX2_tellLand 0 = .ok (.aload_n 0, 1) := by decide +kernel
theorem dX2_tellLand_1 : decode cX2_tellLand 1 = .ok (.getfield 9, 3) := by decide +kernel
theorem dX2_tellLand_4 : decode cX2_tellLand 4 = .ok (.iload_n 1, 1) := by decide +kernel
theorem dX2_tellLand_5 : decode cX2_tellLand 5 = .ok (.iconst 1, 1) := by decide +kernel
theorem dX2_tellLand_6 : decode cX2_tellLand 6 = .ok (.bastore, 1) := by decide +kernel
theorem dX2_tellLand_7 : decode cX2_tellLand 7 = .ok (.aload_n 0, 1) := by decide +kernel
theorem dX2_tellLand_8 : decode cX2_tellLand 8 = .ok (.getfield 15, 3) := by decide +kernel
theorem dX2_tellLand_11 : decode cX2_tellLand 11 = .ok (.iload_n 1, 1) := by decide +kernel
theorem dX2_tellLand_12 : decode cX2_tellLand 12 = .ok (.iload_n 2, 1) := by decide +kernel
theorem dX2_tellLand_13 : decode cX2_tellLand 13 = .ok (.iastore, 1) := by decide +kernel
theorem dX2_tellLand_14 : decode cX2_tellLand 14 = .ok (.aload_n 0, 1) := by decide +kernel
theorem dX2_tellLand_15 : decode cX2_tellLand 15 = .ok (.getfield 19, 3) := by decide +kernel
theorem dX2_tellLand_18 : decode cX2_tellLand 18 = .ok (.iload_n 1, 1) := by decide +kernel
theorem dX2_tellLand_19 : decode cX2_tellLand 19 = .ok (.iload_n 3, 1) := by decide +kernel
theorem dX2_tellLand_20 : decode cX2_tellLand 20 = .ok (.iastore, 1) := by decide +kernel
theorem dX2_tellLand_21 : decode cX2_tellLand 21 = .ok (.aload_n 0, 1) := by decide +kernel
theorem dX2_tellLand_22 : decode cX2_tellLand 22 = .ok (.getfield 22, 3) := by decide +kernel
theorem dX2_tellLand_25 : decode cX2_tellLand 25 = .ok (.iload_n 1, 1) := by decide +kernel
theorem dX2_tellLand_26 : decode cX2_tellLand 26 = .ok (.iload 4, 2) := by decide +kernel
theorem dX2_tellLand_28 : decode cX2_tellLand 28 = .ok (.iastore, 1) := by decide +kernel
theorem dX2_tellLand_29 : decode cX2_tellLand 29 = .ok (.aload_n 0, 1) := by decide +kernel
theorem dX2_tellLand_30 : decode cX2_tellLand 30 = .ok (.iload_n 1, 1) := by decide +kernel
theorem dX2_tellLand_31 : decode cX2_tellLand 31 = .ok (.iconst 0, 1) := by decide +kernel
theorem dX2_tellLand_32 : decode cX2_tellLand 32 = .ok (.iconst 0, 1) := by decide +kernel
theorem dX2_tellLand_33 : decode cX2_tellLand 33 = .ok (.invokevirtual 46, 3) := by decide +kernel
theorem dX2_tellLand_36 : decode cX2_tellLand 36 = .ok (.return_, 1) := by decide +kernel
theorem dX2_tellWater_0 : decode cX2_tellWater 0 = .ok (.aload_n 0, 1) := by decide +kernel
theorem dX2_tellWater_1 : decode cX2_tellWater 1 = .ok (.dup, 1) := by decide +kernel
theorem dX2_tellWater_2 : decode cX2_tellWater 2 = .ok (.getfield 50, 3) := by decide +kernel
theorem dX2_tellWater_5 : decode cX2_tellWater 5 = .ok (.iload_n 2, 1) := by decide +kernel
theorem dX2_tellWater_6 : decode cX2_tellWater 6 = .ok (.aload_n 0, 1) := by decide +kernel
theorem dX2_tellWater_7 : decode cX2_tellWater 7 = .ok (.getfield 25, 3) := by decide +kernel
theorem dX2_tellWater_10 : decode cX2_tellWater 10 = .ok (.iload_n 1, 1) := by decide +kernel
theorem dX2_tellWater_11 : decode cX2_tellWater 11 = .ok (.iaload, 1) := by decide +kernel
theorem dX2_tellWater_12 : decode cX2_tellWater 12 = .ok (.isub, 1) := by decide +kernel
theorem dX2_tellWater_13 : decode cX2_tellWater 13 = .ok (.iadd, 1) := by decide +kernel
theorem dX2_tellWater_14 : decode cX2_tellWater 14 = .ok (.putfield 50, 3) := by decide +kernel
theorem dX2_tellWater_17 : decode cX2_tellWater 17 = .ok (.aload_n 0, 1) := by decide +kernel
theorem dX2_tellWater_18 : decode cX2_tellWater 18 = .ok (.getfield 25, 3) := by decide +kernel
theorem dX2_tellWater_21 : decode cX2_tellWater 21 = .ok (.iload_n 1, 1) := by decide +kernel
theorem dX2_tellWater_22 : decode cX2_tellWater 22 = .ok (.iload_n 2, 1) := by decide +kernel
theorem dX2_tellWater_23 : decode cX2_tellWater 23 = .ok (.iastore, 1) := by decide +kernel
theorem dX2_tellWater_24 : decode cX2_tellWater 24 = .ok (.aload_n 0, 1) := by decide +kernel
theorem dX2_tellWater_25 : decode cX2_tellWater 25 = .ok (.getfield 28, 3) := by decide +kernel
theorem dX2_tellWater_28 : decode cX2_tellWater 28 = .ok (.iload_n 1, 1) := by decide +kernel
theorem dX2_tellWater_29 : decode cX2_tellWater 29 = .ok (.iload_n 3, 1) := by decide +kernel
theorem dX2_tellWater_30 : decode cX2_tellWater 30 = .ok (.iastore, 1) := by decide +kernel
theorem dX2_tellWater_31 : decode cX2_tellWater 31 = .ok (.return_, 1) := by decide +kernel
theorem dX2_levelOf_0 : decode cX2_levelOf 0 = .ok (.aload_n 0, 1) := by decide +kernel
theorem dX2_levelOf_1 : decode cX2_levelOf 1 = .ok (.getfield 15, 3) := by decide +kernel
theorem dX2_levelOf_4 : decode cX2_levelOf 4 = .ok (.iload_n 1, 1) := by decide +kernel
theorem dX2_levelOf_5 : decode cX2_levelOf 5 = .ok (.iaload, 1) := by decide +kernel
theorem dX2_levelOf_6 : decode cX2_levelOf 6 = .ok (.aload_n 0, 1) := by decide +kernel
theorem dX2_levelOf_7 : decode cX2_levelOf 7 = .ok (.getfield 25, 3) := by decide +kernel
theorem dX2_levelOf_10 : decode cX2_levelOf 10 = .ok (.iload_n 1, 1) := by decide +kernel
theorem dX2_levelOf_11 : decode cX2_levelOf 11 = .ok (.iaload, 1) := by decide +kernel
theorem dX2_levelOf_12 : decode cX2_levelOf 12 = .ok (.iadd, 1) := by decide +kernel
theorem dX2_levelOf_13 : decode cX2_levelOf 13 = .ok (.ireturn, 1) := by decide +kernel
theorem dX2_rainOnLand_0 : decode cX2_rainOnLand 0 = .ok (.iconst 0, 1) := by decide +kernel
theorem dX2_rainOnLand_1 : decode cX2_rainOnLand 1 = .ok (.istore_n 2, 1) := by decide +kernel
theorem dX2_rainOnLand_2 : decode cX2_rainOnLand 2 = .ok (.iload_n 2, 1) := by decide +kernel
theorem dX2_rainOnLand_3 : decode cX2_rainOnLand 3 = .ok (.bipush 96, 2) := by decide +kernel
theorem dX2_rainOnLand_5 : decode cX2_rainOnLand 5 = .ok (.if_icmp .ge 38, 3) := by decide +kernel
theorem dX2_rainOnLand_8 : decode cX2_rainOnLand 8 = .ok (.aload_n 0, 1) := by decide +kernel
theorem dX2_rainOnLand_9 : decode cX2_rainOnLand 9 = .ok (.getfield 9, 3) := by decide +kernel
theorem dX2_rainOnLand_12 : decode cX2_rainOnLand 12 = .ok (.iload_n 2, 1) := by decide +kernel
theorem dX2_rainOnLand_13 : decode cX2_rainOnLand 13 = .ok (.baload, 1) := by decide +kernel
theorem dX2_rainOnLand_14 : decode cX2_rainOnLand 14 = .ok (.ifCond .eq 23, 3) := by decide +kernel
theorem dX2_rainOnLand_17 : decode cX2_rainOnLand 17 = .ok (.aload_n 0, 1) := by decide +kernel
theorem dX2_rainOnLand_18 : decode cX2_rainOnLand 18 = .ok (.getfield 25, 3) := by decide +kernel
theorem dX2_rainOnLand_21 : decode cX2_rainOnLand 21 = .ok (.iload_n 2, 1) := by decide +kernel
theorem dX2_rainOnLand_22 : decode cX2_rainOnLand 22 = .ok (.dup2, 1) := by decide +kernel
theorem dX2_rainOnLand_23 : decode cX2_rainOnLand 23 = .ok (.iaload, 1) := by decide +kernel
theorem dX2_rainOnLand_24 : decode cX2_rainOnLand 24 = .ok (.iload_n 1, 1) := by decide +kernel
theorem dX2_rainOnLand_25 : decode cX2_rainOnLand 25 = .ok (.iadd, 1) := by decide +kernel
theorem dX2_rainOnLand_26 : decode cX2_rainOnLand 26 = .ok (.iastore, 1) := by decide +kernel
theorem dX2_rainOnLand_27 : decode cX2_rainOnLand 27 = .ok (.aload_n 0, 1) := by decide +kernel
theorem dX2_rainOnLand_28 : decode cX2_rainOnLand 28 = .ok (.dup, 1) := by decide +kernel
theorem dX2_rainOnLand_29 : decode cX2_rainOnLand 29 = .ok (.getfield 54, 3) := by decide +kernel
theorem dX2_rainOnLand_32 : decode cX2_rainOnLand 32 = .ok (.iload_n 1, 1) := by decide +kernel
theorem dX2_rainOnLand_33 : decode cX2_rainOnLand 33 = .ok (.iadd, 1) := by decide +kernel
theorem dX2_rainOnLand_34 : decode cX2_rainOnLand 34 = .ok (.putfield 54, 3) := by decide +kernel
theorem dX2_rainOnLand_37 : decode cX2_rainOnLand 37 = .ok (.iinc 2 1, 3) := by decide +kernel
theorem dX2_rainOnLand_40 : decode cX2_rainOnLand 40 = .ok (.goto (-38), 3) := by decide +kernel
theorem dX2_rainOnLand_43 : decode cX2_rainOnLand 43 = .ok (.return_, 1) := by decide +kernel
theorem dX2_takeFromSea_0 : decode cX2_takeFromSea 0 = .ok (.aload_n 0, 1) := by decide +kernel
theorem dX2_takeFromSea_1 : decode cX2_takeFromSea 1 = .ok (.getfield 25, 3) := by decide +kernel
theorem dX2_takeFromSea_4 : decode cX2_takeFromSea 4 = .ok (.iload_n 1, 1) := by decide +kernel
theorem dX2_takeFromSea_5 : decode cX2_takeFromSea 5 = .ok (.dup2, 1) := by decide +kernel
theorem dX2_takeFromSea_6 : decode cX2_takeFromSea 6 = .ok (.iaload, 1) := by decide +kernel
theorem dX2_takeFromSea_7 : decode cX2_takeFromSea 7 = .ok (.iload_n 2, 1) := by decide +kernel
theorem dX2_takeFromSea_8 : decode cX2_takeFromSea 8 = .ok (.iadd, 1) := by decide +kernel
theorem dX2_takeFromSea_9 : decode cX2_takeFromSea 9 = .ok (.iastore, 1) := by decide +kernel
theorem dX2_takeFromSea_10 : decode cX2_takeFromSea 10 = .ok (.aload_n 0, 1) := by decide +kernel
theorem dX2_takeFromSea_11 : decode cX2_takeFromSea 11 = .ok (.getfield 28, 3) := by decide +kernel
theorem dX2_takeFromSea_14 : decode cX2_takeFromSea 14 = .ok (.iload_n 1, 1) := by decide +kernel
theorem dX2_takeFromSea_15 : decode cX2_takeFromSea 15 = .ok (.dup2, 1) := by decide +kernel
theorem dX2_takeFromSea_16 : decode cX2_takeFromSea 16 = .ok (.iaload, 1) := by decide +kernel
theorem dX2_takeFromSea_17 : decode cX2_takeFromSea 17 = .ok (.bipush 30, 2) := by decide +kernel
theorem dX2_takeFromSea_19 : decode cX2_takeFromSea 19 = .ok (.iload_n 2, 1) := by decide +kernel
theorem dX2_takeFromSea_20 : decode cX2_takeFromSea 20 = .ok (.imul, 1) := by decide +kernel
theorem dX2_takeFromSea_21 : decode cX2_takeFromSea 21 = .ok (.iadd, 1) := by decide +kernel
theorem dX2_takeFromSea_22 : decode cX2_takeFromSea 22 = .ok (.iastore, 1) := by decide +kernel
theorem dX2_takeFromSea_23 : decode cX2_takeFromSea 23 = .ok (.aload_n 0, 1) := by decide +kernel
theorem dX2_takeFromSea_24 : decode cX2_takeFromSea 24 = .ok (.dup, 1) := by decide +kernel
theorem dX2_takeFromSea_25 : decode cX2_takeFromSea 25 = .ok (.getfield 57, 3) := by decide +kernel
theorem dX2_takeFromSea_28 : decode cX2_takeFromSea 28 = .ok (.iload_n 2, 1) := by decide +kernel
theorem dX2_takeFromSea_29 : decode cX2_takeFromSea 29 = .ok (.iadd, 1) := by decide +kernel
theorem dX2_takeFromSea_30 : decode cX2_takeFromSea 30 = .ok (.putfield 57, 3) := by decide +kernel
theorem dX2_takeFromSea_33 : decode cX2_takeFromSea 33 = .ok (.return_, 1) := by decide +kernel
theorem dX2_saltGoingWith_0 : decode cX2_saltGoingWith 0 = .ok (.aload_n 0, 1) := by decide +kernel
theorem dX2_saltGoingWith_1 : decode cX2_saltGoingWith 1 = .ok (.getfield 25, 3) := by decide +kernel
theorem dX2_saltGoingWith_4 : decode cX2_saltGoingWith 4 = .ok (.iload_n 1, 1) := by decide +kernel
theorem dX2_saltGoingWith_5 : decode cX2_saltGoingWith 5 = .ok (.iaload, 1) := by decide +kernel
theorem dX2_saltGoingWith_6 : decode cX2_saltGoingWith 6 = .ok (.bipush 10, 2) := by decide +kernel
theorem dX2_saltGoingWith_8 : decode cX2_saltGoingWith 8 = .ok (.iadd, 1) := by decide +kernel
theorem dX2_saltGoingWith_9 : decode cX2_saltGoingWith 9 = .ok (.istore_n 3, 1) := by decide +kernel
theorem dX2_saltGoingWith_10 : decode cX2_saltGoingWith 10 = .ok (.iload_n 3, 1) := by decide +kernel
theorem dX2_saltGoingWith_11 : decode cX2_saltGoingWith 11 = .ok (.ifCond .gt 7, 3) := by decide +kernel
theorem dX2_saltGoingWith_14 : decode cX2_saltGoingWith 14 = .ok (.iconst 0, 1) := by decide +kernel
theorem dX2_saltGoingWith_15 : decode cX2_saltGoingWith 15 = .ok (.goto 17, 3) := by decide +kernel
theorem dX2_saltGoingWith_18 : decode cX2_saltGoingWith 18 = .ok (.aload_n 0, 1) := by decide +kernel
theorem dX2_saltGoingWith_19 : decode cX2_saltGoingWith 19 = .ok (.getfield 28, 3) := by decide +kernel
theorem dX2_saltGoingWith_22 : decode cX2_saltGoingWith 22 = .ok (.iload_n 1, 1) := by decide +kernel
theorem dX2_saltGoingWith_23 : decode cX2_saltGoingWith 23 = .ok (.iaload, 1) := by decide +kernel
theorem dX2_saltGoingWith_24 : decode cX2_saltGoingWith 24 = .ok (.i2l, 1) := by decide +kernel
theorem dX2_saltGoingWith_25 : decode cX2_saltGoingWith 25 = .ok (.iload_n 2, 1) := by decide +kernel
theorem dX2_saltGoingWith_26 : decode cX2_saltGoingWith 26 = .ok (.i2l, 1) := by decide +kernel
theorem dX2_saltGoingWith_27 : decode cX2_saltGoingWith 27 = .ok (.lmul, 1) := by decide +kernel
theorem dX2_saltGoingWith_28 : decode cX2_saltGoingWith 28 = .ok (.iload_n 3, 1) := by decide +kernel
theorem dX2_saltGoingWith_29 : decode cX2_saltGoingWith 29 = .ok (.i2l, 1) := by decide +kernel
theorem dX2_saltGoingWith_30 : decode cX2_saltGoingWith 30 = .ok (.ldiv, 1) := by decide +kernel
theorem dX2_saltGoingWith_31 : decode cX2_saltGoingWith 31 = .ok (.l2i, 1) := by decide +kernel
theorem dX2_saltGoingWith_32 : decode cX2_saltGoingWith 32 = .ok (.ireturn, 1) := by decide +kernel
theorem dX2_giveToSea_0 : decode cX2_giveToSea 0 = .ok (.aload_n 0, 1) := by decide +kernel
theorem dX2_giveToSea_1 : decode cX2_giveToSea 1 = .ok (.getfield 28, 3) := by decide +kernel
theorem dX2_giveToSea_4 : decode cX2_giveToSea 4 = .ok (.iload_n 1, 1) := by decide +kernel
theorem dX2_giveToSea_5 : decode cX2_giveToSea 5 = .ok (.dup2, 1) := by decide +kernel
theorem dX2_giveToSea_6 : decode cX2_giveToSea 6 = .ok (.iaload, 1) := by decide +kernel
theorem dX2_giveToSea_7 : decode cX2_giveToSea 7 = .ok (.aload_n 0, 1) := by decide +kernel
theorem dX2_giveToSea_8 : decode cX2_giveToSea 8 = .ok (.iload_n 1, 1) := by decide +kernel
theorem dX2_giveToSea_9 : decode cX2_giveToSea 9 = .ok (.iload_n 2, 1) := by decide +kernel
theorem dX2_giveToSea_10 : decode cX2_giveToSea 10 = .ok (.invokevirtual 60, 3) := by decide +kernel
theorem dX2_giveToSea_13 : decode cX2_giveToSea 13 = .ok (.isub, 1) := by decide +kernel
theorem dX2_giveToSea_14 : decode cX2_giveToSea 14 = .ok (.iastore, 1) := by decide +kernel
theorem dX2_giveToSea_15 : decode cX2_giveToSea 15 = .ok (.aload_n 0, 1) := by decide +kernel
theorem dX2_giveToSea_16 : decode cX2_giveToSea 16 = .ok (.getfield 25, 3) := by decide +kernel
theorem dX2_giveToSea_19 : decode cX2_giveToSea 19 = .ok (.iload_n 1, 1) := by decide +kernel
theorem dX2_giveToSea_20 : decode cX2_giveToSea 20 = .ok (.dup2, 1) := by decide +kernel
theorem dX2_giveToSea_21 : decode cX2_giveToSea 21 = .ok (.iaload, 1) := by decide +kernel
theorem dX2_giveToSea_22 : decode cX2_giveToSea 22 = .ok (.iload_n 2, 1) := by decide +kernel
theorem dX2_giveToSea_23 : decode cX2_giveToSea 23 = .ok (.isub, 1) := by decide +kernel
theorem dX2_giveToSea_24 : decode cX2_giveToSea 24 = .ok (.iastore, 1) := by decide +kernel
theorem dX2_giveToSea_25 : decode cX2_giveToSea 25 = .ok (.aload_n 0, 1) := by decide +kernel
theorem dX2_giveToSea_26 : decode cX2_giveToSea 26 = .ok (.dup, 1) := by decide +kernel
theorem dX2_giveToSea_27 : decode cX2_giveToSea 27 = .ok (.getfield 64, 3) := by decide +kernel
theorem dX2_giveToSea_30 : decode cX2_giveToSea 30 = .ok (.iload_n 2, 1) := by decide +kernel
theorem dX2_giveToSea_31 : decode cX2_giveToSea 31 = .ok (.iadd, 1) := by decide +kernel
theorem dX2_giveToSea_32 : decode cX2_giveToSea 32 = .ok (.putfield 64, 3) := by decide +kernel
theorem dX2_giveToSea_35 : decode cX2_giveToSea 35 = .ok (.return_, 1) := by decide +kernel
theorem dX2_giveTo_0 : decode cX2_giveTo 0 = .ok (.aload_n 0, 1) := by decide +kernel
theorem dX2_giveTo_1 : decode cX2_giveTo 1 = .ok (.getfield 9, 3) := by decide +kernel
theorem dX2_giveTo_4 : decode cX2_giveTo 4 = .ok (.iload_n 2, 1) := by decide +kernel
theorem dX2_giveTo_5 : decode cX2_giveTo 5 = .ok (.baload, 1) := by decide +kernel
theorem dX2_giveTo_6 : decode cX2_giveTo 6 = .ok (.ifCond .ne 10, 3) := by decide +kernel
theorem dX2_giveTo_9 : decode cX2_giveTo 9 = .ok (.aload_n 0, 1) := by decide +kernel
theorem dX2_giveTo_10 : decode cX2_giveTo 10 = .ok (.iload_n 1, 1) := by decide +kernel
theorem dX2_giveTo_11 : decode cX2_giveTo 11 = .ok (.iload_n 3, 1) := by decide +kernel
theorem dX2_giveTo_12 : decode cX2_giveTo 12 = .ok (.invokevirtual 67, 3) := by decide +kernel
theorem dX2_giveTo_15 : decode cX2_giveTo 15 = .ok (.return_, 1) := by decide +kernel
theorem dX2_giveTo_16 : decode cX2_giveTo 16 = .ok (.aload_n 0, 1) := by decide +kernel
theorem dX2_giveTo_17 : decode cX2_giveTo 17 = .ok (.iload_n 1, 1) := by decide +kernel
theorem dX2_giveTo_18 : decode cX2_giveTo 18 = .ok (.iload_n 3, 1) := by decide +kernel
theorem dX2_giveTo_19 : decode cX2_giveTo 19 = .ok (.invokevirtual 60, 3) := by decide +kernel
theorem dX2_giveTo_22 : decode cX2_giveTo 22 = .ok (.istore 4, 2) := by decide +kernel
theorem dX2_giveTo_24 : decode cX2_giveTo 24 = .ok (.aload_n 0, 1) := by decide +kernel
theorem dX2_giveTo_25 : decode cX2_giveTo 25 = .ok (.getfield 28, 3) := by decide +kernel
theorem dX2_giveTo_28 : decode cX2_giveTo 28 = .ok (.iload_n 1, 1) := by decide +kernel
theorem dX2_giveTo_29 : decode cX2_giveTo 29 = .ok (.dup2, 1) := by decide +kernel
theorem dX2_giveTo_30 : decode cX2_giveTo 30 = .ok (.iaload, 1) := by decide +kernel
theorem dX2_giveTo_31 : decode cX2_giveTo 31 = .ok (.iload 4, 2) := by decide +kernel
theorem dX2_giveTo_33 : decode cX2_giveTo 33 = .ok (.isub, 1) := by decide +kernel
theorem dX2_giveTo_34 : decode cX2_giveTo 34 = .ok (.iastore, 1) := by decide +kernel
theorem dX2_giveTo_35 : decode cX2_giveTo 35 = .ok (.aload_n 0, 1) := by decide +kernel
theorem dX2_giveTo_36 : decode cX2_giveTo 36 = .ok (.getfield 25, 3) := by decide +kernel
theorem dX2_giveTo_39 : decode cX2_giveTo 39 = .ok (.iload_n 1, 1) := by decide +kernel
theorem dX2_giveTo_40 : decode cX2_giveTo 40 = .ok (.dup2, 1) := by decide +kernel
theorem dX2_giveTo_41 : decode cX2_giveTo 41 = .ok (.iaload, 1) := by decide +kernel
theorem dX2_giveTo_42 : decode cX2_giveTo 42 = .ok (.iload_n 3, 1) := by decide +kernel
theorem dX2_giveTo_43 : decode cX2_giveTo 43 = .ok (.isub, 1) := by decide +kernel
theorem dX2_giveTo_44 : decode cX2_giveTo 44 = .ok (.iastore, 1) := by decide +kernel
theorem dX2_giveTo_45 : decode cX2_giveTo 45 = .ok (.aload_n 0, 1) := by decide +kernel
theorem dX2_giveTo_46 : decode cX2_giveTo 46 = .ok (.getfield 28, 3) := by decide +kernel
theorem dX2_giveTo_49 : decode cX2_giveTo 49 = .ok (.iload_n 2, 1) := by decide +kernel
theorem dX2_giveTo_50 : decode cX2_giveTo 50 = .ok (.dup2, 1) := by decide +kernel
theorem dX2_giveTo_51 : decode cX2_giveTo 51 = .ok (.iaload, 1) := by decide +kernel
theorem dX2_giveTo_52 : decode cX2_giveTo 52 = .ok (.iload 4, 2) := by decide +kernel
theorem dX2_giveTo_54 : decode cX2_giveTo 54 = .ok (.iadd, 1) := by decide +kernel
theorem dX2_giveTo_55 : decode cX2_giveTo 55 = .ok (.iastore, 1) := by decide +kernel
theorem dX2_giveTo_56 : decode cX2_giveTo 56 = .ok (.aload_n 0, 1) := by decide +kernel
theorem dX2_giveTo_57 : decode cX2_giveTo 57 = .ok (.getfield 25, 3) := by decide +kernel
theorem dX2_giveTo_60 : decode cX2_giveTo 60 = .ok (.iload_n 2, 1) := by decide +kernel
theorem dX2_giveTo_61 : decode cX2_giveTo 61 = .ok (.dup2, 1) := by decide +kernel
theorem dX2_giveTo_62 : decode cX2_giveTo 62 = .ok (.iaload, 1) := by decide +kernel
theorem dX2_giveTo_63 : decode cX2_giveTo 63 = .ok (.iload_n 3, 1) := by decide +kernel
theorem dX2_giveTo_64 : decode cX2_giveTo 64 = .ok (.iadd, 1) := by decide +kernel
theorem dX2_giveTo_65 : decode cX2_giveTo 65 = .ok (.iastore, 1) := by decide +kernel
theorem dX2_giveTo_66 : decode cX2_giveTo 66 = .ok (.return_, 1) := by decide +kernel
theorem dX2_runDitches_0 : decode cX2_runDitches 0 = .ok (.iconst 0, 1) := by decide +kernel
theorem dX2_runDitches_1 : decode cX2_runDitches 1 = .ok (.istore_n 1, 1) := by decide +kernel
theorem dX2_runDitches_2 : decode cX2_runDitches 2 = .ok (.iload_n 1, 1) := by decide +kernel
theorem dX2_runDitches_3 : decode cX2_runDitches 3 = .ok (.bipush 96, 2) := by decide +kernel
theorem dX2_runDitches_5 : decode cX2_runDitches 5 = .ok (.if_icmp .ge 14, 3) := by decide +kernel
theorem dX2_runDitches_8 : decode cX2_runDitches 8 = .ok (.aload_n 0, 1) := by decide +kernel
theorem dX2_runDitches_9 : decode cX2_runDitches 9 = .ok (.iload_n 1, 1) := by decide +kernel
theorem dX2_runDitches_10 : decode cX2_runDitches 10 = .ok (.invokevirtual 71, 3) := by decide +kernel
theorem dX2_runDitches_13 : decode cX2_runDitches 13 = .ok (.iinc 1 1, 3) := by decide +kernel
theorem dX2_runDitches_16 : decode cX2_runDitches 16 = .ok (.goto (-14), 3) := by decide +kernel
theorem dX2_runDitches_19 : decode cX2_runDitches 19 = .ok (.iconst 0, 1) := by decide +kernel
theorem dX2_runDitches_20 : decode cX2_runDitches 20 = .ok (.istore_n 1, 1) := by decide +kernel
theorem dX2_runDitches_21 : decode cX2_runDitches 21 = .ok (.iload_n 1, 1) := by decide +kernel
theorem dX2_runDitches_22 : decode cX2_runDitches 22 = .ok (.bipush 96, 2) := by decide +kernel
theorem dX2_runDitches_24 : decode cX2_runDitches 24 = .ok (.if_icmp .ge 81, 3) := by decide +kernel
theorem dX2_runDitches_27 : decode cX2_runDitches 27 = .ok (.aload_n 0, 1) := by decide +kernel
theorem dX2_runDitches_28 : decode cX2_runDitches 28 = .ok (.getfield 37, 3) := by decide +kernel
theorem dX2_runDitches_31 : decode cX2_runDitches 31 = .ok (.iload_n 1, 1) := by decide +kernel
theorem dX2_runDitches_32 : decode cX2_runDitches 32 = .ok (.iaload, 1) := by decide +kernel
theorem dX2_runDitches_33 : decode cX2_runDitches 33 = .ok (.istore_n 2, 1) := by decide +kernel
theorem dX2_runDitches_34 : decode cX2_runDitches 34 = .ok (.iload_n 2, 1) := by decide +kernel
theorem dX2_runDitches_35 : decode cX2_runDitches 35 = .ok (.iconst (-1), 1) := by decide +kernel
theorem dX2_runDitches_36 : decode cX2_runDitches 36 = .ok (.if_icmp .eq 63, 3) := by decide +kernel
theorem dX2_runDitches_39 : decode cX2_runDitches 39 = .ok (.aload_n 0, 1) := by decide +kernel
theorem dX2_runDitches_40 : decode cX2_runDitches 40 = .ok (.getfield 25, 3) := by decide +kernel
theorem dX2_runDitches_43 : decode cX2_runDitches 43 = .ok (.iload_n 1, 1) := by decide +kernel
theorem dX2_runDitches_44 : decode cX2_runDitches 44 = .ok (.dup2, 1) := by decide +kernel
theorem dX2_runDitches_45 : decode cX2_runDitches 45 = .ok (.iaload, 1) := by decide +kernel
theorem dX2_runDitches_46 : decode cX2_runDitches 46 = .ok (.aload_n 0, 1) := by decide +kernel
theorem dX2_runDitches_47 : decode cX2_runDitches 47 = .ok (.getfield 40, 3) := by decide +kernel
theorem dX2_runDitches_50 : decode cX2_runDitches 50 = .ok (.iload_n 1, 1) := by decide +kernel
theorem dX2_runDitches_51 : decode cX2_runDitches 51 = .ok (.iaload, 1) := by decide +kernel
theorem dX2_runDitches_52 : decode cX2_runDitches 52 = .ok (.isub, 1) := by decide +kernel
theorem dX2_runDitches_53 : decode cX2_runDitches 53 = .ok (.iastore, 1) := by decide +kernel
theorem dX2_runDitches_54 : decode cX2_runDitches 54 = .ok (.aload_n 0, 1) := by decide +kernel
theorem dX2_runDitches_55 : decode cX2_runDitches 55 = .ok (.getfield 28, 3) := by decide +kernel
theorem dX2_runDitches_58 : decode cX2_runDitches 58 = .ok (.iload_n 1, 1) := by decide +kernel
theorem dX2_runDitches_59 : decode cX2_runDitches 59 = .ok (.dup2, 1) := by decide +kernel
theorem dX2_runDitches_60 : decode cX2_runDitches 60 = .ok (.iaload, 1) := by decide +kernel
theorem dX2_runDitches_61 : decode cX2_runDitches 61 = .ok (.aload_n 0, 1) := by decide +kernel
theorem dX2_runDitches_62 : decode cX2_runDitches 62 = .ok (.getfield 43, 3) := by decide +kernel
theorem dX2_runDitches_65 : decode cX2_runDitches 65 = .ok (.iload_n 1, 1) := by decide +kernel
theorem dX2_runDitches_66 : decode cX2_runDitches 66 = .ok (.iaload, 1) := by decide +kernel
theorem dX2_runDitches_67 : decode cX2_runDitches 67 = .ok (.isub, 1) := by decide +kernel
theorem dX2_runDitches_68 : decode cX2_runDitches 68 = .ok (.iastore, 1) := by decide +kernel
theorem dX2_runDitches_69 : decode cX2_runDitches 69 = .ok (.aload_n 0, 1) := by decide +kernel
theorem dX2_runDitches_70 : decode cX2_runDitches 70 = .ok (.getfield 25, 3) := by decide +kernel
theorem dX2_runDitches_73 : decode cX2_runDitches 73 = .ok (.iload_n 2, 1) := by decide +kernel
theorem dX2_runDitches_74 : decode cX2_runDitches 74 = .ok (.dup2, 1) := by decide +kernel
theorem dX2_runDitches_75 : decode cX2_runDitches 75 = .ok (.iaload, 1) := by decide +kernel
theorem dX2_runDitches_76 : decode cX2_runDitches 76 = .ok (.aload_n 0, 1) := by decide +kernel
theorem dX2_runDitches_77 : decode cX2_runDitches 77 = .ok (.getfield 40, 3) := by decide +kernel
theorem dX2_runDitches_80 : decode cX2_runDitches 80 = .ok (.iload_n 1, 1) := by decide +kernel
theorem dX2_runDitches_81 : decode cX2_runDitches 81 = .ok (.iaload, 1) := by decide +kernel
theorem dX2_runDitches_82 : decode cX2_runDitches 82 = .ok (.iadd, 1) := by decide +kernel
theorem dX2_runDitches_83 : decode cX2_runDitches 83 = .ok (.iastore, 1) := by decide +kernel
theorem dX2_runDitches_84 : decode cX2_runDitches 84 = .ok (.aload_n 0, 1) := by decide +kernel
theorem dX2_runDitches_85 : decode cX2_runDitches 85 = .ok (.getfield 28, 3) := by decide +kernel
theorem dX2_runDitches_88 : decode cX2_runDitches 88 = .ok (.iload_n 2, 1) := by decide +kernel
theorem dX2_runDitches_89 : decode cX2_runDitches 89 = .ok (.dup2, 1) := by decide +kernel
theorem dX2_runDitches_90 : decode cX2_runDitches 90 = .ok (.iaload, 1) := by decide +kernel
theorem dX2_runDitches_91 : decode cX2_runDitches 91 = .ok (.aload_n 0, 1) := by decide +kernel
theorem dX2_runDitches_92 : decode cX2_runDitches 92 = .ok (.getfield 43, 3) := by decide +kernel
theorem dX2_runDitches_95 : decode cX2_runDitches 95 = .ok (.iload_n 1, 1) := by decide +kernel
theorem dX2_runDitches_96 : decode cX2_runDitches 96 = .ok (.iaload, 1) := by decide +kernel
theorem dX2_runDitches_97 : decode cX2_runDitches 97 = .ok (.iadd, 1) := by decide +kernel
theorem dX2_runDitches_98 : decode cX2_runDitches 98 = .ok (.iastore, 1) := by decide +kernel
theorem dX2_runDitches_99 : decode cX2_runDitches 99 = .ok (.iinc 1 1, 3) := by decide +kernel
theorem dX2_runDitches_102 : decode cX2_runDitches 102 = .ok (.goto (-81), 3) := by decide +kernel
theorem dX2_runDitches_105 : decode cX2_runDitches 105 = .ok (.return_, 1) := by decide +kernel
theorem dX2_reckonDitch_0 : decode cX2_reckonDitch 0 = .ok (.aload_n 0, 1) := by decide +kernel
theorem dX2_reckonDitch_1 : decode cX2_reckonDitch 1 = .ok (.getfield 22, 3) := by decide +kernel
theorem dX2_reckonDitch_4 : decode cX2_reckonDitch 4 = .ok (.iload_n 1, 1) := by decide +kernel
theorem dX2_reckonDitch_5 : decode cX2_reckonDitch 5 = .ok (.iaload, 1) := by decide +kernel
theorem dX2_reckonDitch_6 : decode cX2_reckonDitch 6 = .ok (.ifCond .le 11, 3) := by decide +kernel
theorem dX2_reckonDitch_9 : decode cX2_reckonDitch 9 = .ok (.aload_n 0, 1) := by decide +kernel
theorem dX2_reckonDitch_10 : decode cX2_reckonDitch 10 = .ok (.iload_n 1, 1) := by decide +kernel
theorem dX2_reckonDitch_11 : decode cX2_reckonDitch 11 = .ok (.invokevirtual 75, 3) := by decide +kernel
theorem dX2_reckonDitch_14 : decode cX2_reckonDitch 14 = .ok (.goto 4, 3) := by decide +kernel
theorem dX2_reckonDitch_17 : decode cX2_reckonDitch 17 = .ok (.iconst (-1), 1) := by decide +kernel
theorem dX2_reckonDitch_18 : decode cX2_reckonDitch 18 = .ok (.istore_n 2, 1) := by decide +kernel
theorem dX2_reckonDitch_19 : decode cX2_reckonDitch 19 = .ok (.aload_n 0, 1) := by decide +kernel
theorem dX2_reckonDitch_20 : decode cX2_reckonDitch 20 = .ok (.getfield 37, 3) := by decide +kernel
theorem dX2_reckonDitch_23 : decode cX2_reckonDitch 23 = .ok (.iload_n 1, 1) := by decide +kernel
theorem dX2_reckonDitch_24 : decode cX2_reckonDitch 24 = .ok (.iload_n 2, 1) := by decide +kernel
theorem dX2_reckonDitch_25 : decode cX2_reckonDitch 25 = .ok (.iastore, 1) := by decide +kernel
theorem dX2_reckonDitch_26 : decode cX2_reckonDitch 26 = .ok (.iload_n 2, 1) := by decide +kernel
theorem dX2_reckonDitch_27 : decode cX2_reckonDitch 27 = .ok (.iconst (-1), 1) := by decide +kernel
theorem dX2_reckonDitch_28 : decode cX2_reckonDitch 28 = .ok (.if_icmp .eq 72, 3) := by decide +kernel
theorem dX2_reckonDitch_31 : decode cX2_reckonDitch 31 = .ok (.aload_n 0, 1) := by decide +kernel
theorem dX2_reckonDitch_32 : decode cX2_reckonDitch 32 = .ok (.iload_n 1, 1) := by decide +kernel
theorem dX2_reckonDitch_33 : decode cX2_reckonDitch 33 = .ok (.invokevirtual 79, 3) := by decide +kernel
theorem dX2_reckonDitch_36 : decode cX2_reckonDitch 36 = .ok (.aload_n 0, 1) := by decide +kernel
theorem dX2_reckonDitch_37 : decode cX2_reckonDitch 37 = .ok (.iload_n 2, 1) := by decide +kernel
theorem dX2_reckonDitch_38 : decode cX2_reckonDitch 38 = .ok (.invokevirtual 79, 3) := by decide +kernel
theorem dX2_reckonDitch_41 : decode cX2_reckonDitch 41 = .ok (.isub, 1) := by decide +kernel
theorem dX2_reckonDitch_42 : decode cX2_reckonDitch 42 = .ok (.iconst 2, 1) := by decide +kernel
theorem dX2_reckonDitch_43 : decode cX2_reckonDitch 43 = .ok (.idiv, 1) := by decide +kernel
theorem dX2_reckonDitch_44 : decode cX2_reckonDitch 44 = .ok (.istore_n 3, 1) := by decide +kernel
theorem dX2_reckonDitch_45 : decode cX2_reckonDitch 45 = .ok (.aload_n 0, 1) := by decide +kernel
theorem dX2_reckonDitch_46 : decode cX2_reckonDitch 46 = .ok (.getfield 22, 3) := by decide +kernel
theorem dX2_reckonDitch_49 : decode cX2_reckonDitch 49 = .ok (.iload_n 1, 1) := by decide +kernel
theorem dX2_reckonDitch_50 : decode cX2_reckonDitch 50 = .ok (.iaload, 1) := by decide +kernel
theorem dX2_reckonDitch_51 : decode cX2_reckonDitch 51 = .ok (.aload_n 0, 1) := by decide +kernel
theorem dX2_reckonDitch_52 : decode cX2_reckonDitch 52 = .ok (.getfield 22, 3) := by decide +kernel
theorem dX2_reckonDitch_55 : decode cX2_reckonDitch 55 = .ok (.iload_n 2, 1) := by decide +kernel
theorem dX2_reckonDitch_56 : decode cX2_reckonDitch 56 = .ok (.iaload, 1) := by decide +kernel
theorem dX2_reckonDitch_57 : decode cX2_reckonDitch 57 = .ok (.invokestatic 82, 3) := by decide +kernel
theorem dX2_reckonDitch_60 : decode cX2_reckonDitch 60 = .ok (.aload_n 0, 1) := by decide +kernel
theorem dX2_reckonDitch_61 : decode cX2_reckonDitch 61 = .ok (.getfield 25, 3) := by decide +kernel
theorem dX2_reckonDitch_64 : decode cX2_reckonDitch 64 = .ok (.iload_n 1, 1) := by decide +kernel
theorem dX2_reckonDitch_65 : decode cX2_reckonDitch 65 = .ok (.iaload, 1) := by decide +kernel
theorem dX2_reckonDitch_66 : decode cX2_reckonDitch 66 = .ok (.invokestatic 82, 3) := by decide +kernel
theorem dX2_reckonDitch_69 : decode cX2_reckonDitch 69 = .ok (.istore 4, 2) := by decide +kernel
theorem dX2_reckonDitch_71 : decode cX2_reckonDitch 71 = .ok (.aload_n 0, 1) := by decide +kernel
theorem dX2_reckonDitch_72 : decode cX2_reckonDitch 72 = .ok (.getfield 40, 3) := by decide +kernel
theorem dX2_reckonDitch_75 : decode cX2_reckonDitch 75 = .ok (.iload_n 1, 1) := by decide +kernel
theorem dX2_reckonDitch_76 : decode cX2_reckonDitch 76 = .ok (.iload_n 3, 1) := by decide +kernel
theorem dX2_reckonDitch_77 : decode cX2_reckonDitch 77 = .ok (.iload 4, 2) := by decide +kernel
theorem dX2_reckonDitch_79 : decode cX2_reckonDitch 79 = .ok (.invokestatic 82, 3) := by decide +kernel
theorem dX2_reckonDitch_82 : decode cX2_reckonDitch 82 = .ok (.iastore, 1) := by decide +kernel
theorem dX2_reckonDitch_83 : decode cX2_reckonDitch 83 = .ok (.aload_n 0, 1) := by decide +kernel
theorem dX2_reckonDitch_84 : decode cX2_reckonDitch 84 = .ok (.getfield 43, 3) := by decide +kernel
theorem dX2_reckonDitch_87 : decode cX2_reckonDitch 87 = .ok (.iload_n 1, 1) := by decide +kernel
theorem dX2_reckonDitch_88 : decode cX2_reckonDitch 88 = .ok (.aload_n 0, 1) := by decide +kernel
theorem dX2_reckonDitch_89 : decode cX2_reckonDitch 89 = .ok (.iload_n 1, 1) := by decide +kernel
theorem dX2_reckonDitch_90 : decode cX2_reckonDitch 90 = .ok (.aload_n 0, 1) := by decide +kernel
theorem dX2_reckonDitch_91 : decode cX2_reckonDitch 91 = .ok (.getfield 40, 3) := by decide +kernel
theorem dX2_reckonDitch_94 : decode cX2_reckonDitch 94 = .ok (.iload_n 1, 1) := by decide +kernel
theorem dX2_reckonDitch_95 : decode cX2_reckonDitch 95 = .ok (.iaload, 1) := by decide +kernel
theorem dX2_reckonDitch_96 : decode cX2_reckonDitch 96 = .ok (.invokevirtual 60, 3) := by decide +kernel
theorem dX2_reckonDitch_99 : decode cX2_reckonDitch 99 = .ok (.iastore, 1) := by decide +kernel
theorem dX2_reckonDitch_100 : decode cX2_reckonDitch 100 = .ok (.return_, 1) := by decide +kernel
theorem dX2_lowestDitchBeside_0 : decode cX2_lowestDitchBeside 0 = .ok (.iload_n 1, 1) := by decide +kernel
theorem dX2_lowestDitchBeside_1 : decode cX2_lowestDitchBeside 1 = .ok (.bipush 12, 2) := by decide +kernel
theorem dX2_lowestDitchBeside_3 : decode cX2_lowestDitchBeside 3 = .ok (.irem, 1) := by decide +kernel
theorem dX2_lowestDitchBeside_4 : decode cX2_lowestDitchBeside 4 = .ok (.istore_n 2, 1) := by decide +kernel
theorem dX2_lowestDitchBeside_5 : decode cX2_lowestDitchBeside 5 = .ok (.aload_n 0, 1) := by decide +kernel
theorem dX2_lowestDitchBeside_6 : decode cX2_lowestDitchBeside 6 = .ok (.iload_n 1, 1) := by decide +kernel
theorem dX2_lowestDitchBeside_7 : decode cX2_lowestDitchBeside 7 = .ok (.iload_n 1, 1) := by decide +kernel
theorem dX2_lowestDitchBeside_8 : decode cX2_lowestDitchBeside 8 = .ok (.iload_n 1, 1) := by decide +kernel
theorem dX2_lowestDitchBeside_9 : decode cX2_lowestDitchBeside 9 = .ok (.bipush 12, 2) := by decide +kernel
theorem dX2_lowestDitchBeside_11 : decode cX2_lowestDitchBeside 11 = .ok (.isub, 1) := by decide +kernel
theorem dX2_lowestDitchBeside_12 : decode cX2_lowestDitchBeside 12 = .ok (.invokevirtual 87, 3) := by decide +kernel
theorem dX2_lowestDitchBeside_15 : decode cX2_lowestDitchBeside 15 = .ok (.istore_n 3, 1) := by decide +kernel
theorem dX2_lowestDitchBeside_16 : decode cX2_lowestDitchBeside 16 = .ok (.iload_n 2, 1) := by decide +kernel
theorem dX2_lowestDitchBeside_17 : decode cX2_lowestDitchBeside 17 = .ok (.ifCond .le 15, 3) := by decide +kernel
theorem dX2_lowestDitchBeside_20 : decode cX2_lowestDitchBeside 20 = .ok (.aload_n 0, 1) := by decide +kernel
theorem dX2_lowestDitchBeside_21 : decode cX2_lowestDitchBeside 21 = .ok (.iload_n 1, 1) := by decide +kernel
theorem dX2_lowestDitchBeside_22 : decode cX2_lowestDitchBeside 22 = .ok (.iload_n 3, 1) := by decide +kernel
theorem dX2_lowestDitchBeside_23 : decode cX2_lowestDitchBeside 23 = .ok (.iload_n 1, 1) := by decide +kernel
theorem dX2_lowestDitchBeside_24 : decode cX2_lowestDitchBeside 24 = .ok (.iconst 1, 1) := by decide +kernel
theorem dX2_lowestDitchBeside_25 : decode cX2_lowestDitchBeside 25 = .ok (.isub, 1) := by decide +kernel
theorem dX2_lowestDitchBeside_26 : decode cX2_lowestDitchBeside 26 = .ok (.invokevirtual 87, 3) := by decide +kernel
theorem dX2_lowestDitchBeside_29 : decode cX2_lowestDitchBeside 29 = .ok (.goto 4, 3) := by decide +kernel
theorem dX2_lowestDitchBeside_32 : decode cX2_lowestDitchBeside 32 = .ok (.iload_n 3, 1) := by decide +kernel
theorem dX2_lowestDitchBeside_33 : decode cX2_lowestDitchBeside 33 = .ok (.istore_n 3, 1) := by decide +kernel
theorem dX2_lowestDitchBeside_34 : decode cX2_lowestDitchBeside 34 = .ok (.iload_n 2, 1) := by decide +kernel
theorem dX2_lowestDitchBeside_35 : decode cX2_lowestDitchBeside 35 = .ok (.bipush 11, 2) := by decide +kernel
theorem dX2_lowestDitchBeside_37 : decode cX2_lowestDitchBeside 37 = .ok (.if_icmp .ge 15, 3) := by decide +kernel
theorem dX2_lowestDitchBeside_40 : decode cX2_lowestDitchBeside 40 = .ok (.aload_n 0, 1) := by decide +kernel
theorem dX2_lowestDitchBeside_41 : decode cX2_lowestDitchBeside 41 = .ok (.iload_n 1, 1) := by decide +kernel
theorem dX2_lowestDitchBeside_42 : decode cX2_lowestDitchBeside 42 = .ok (.iload_n 3, 1) := by decide +kernel
theorem dX2_lowestDitchBeside_43 : decode cX2_lowestDitchBeside 43 = .ok (.iload_n 1, 1) := by decide +kernel
theorem dX2_lowestDitchBeside_44 : decode cX2_lowestDitchBeside 44 = .ok (.iconst 1, 1) := by decide +kernel
theorem dX2_lowestDitchBeside_45 : decode cX2_lowestDitchBeside 45 = .ok (.iadd, 1) := by decide +kernel
theorem dX2_lowestDitchBeside_46 : decode cX2_lowestDitchBeside 46 = .ok (.invokevirtual 87, 3) := by decide +kernel
theorem dX2_lowestDitchBeside_49 : decode cX2_lowestDitchBeside 49 = .ok (.goto 4, 3) := by decide +kernel
theorem dX2_lowestDitchBeside_52 : decode cX2_lowestDitchBeside 52 = .ok (.iload_n 3, 1) := by decide +kernel
theorem dX2_lowestDitchBeside_53 : decode cX2_lowestDitchBeside 53 = .ok (.istore_n 3, 1) := by decide +kernel
theorem dX2_lowestDitchBeside_54 : decode cX2_lowestDitchBeside 54 = .ok (.aload_n 0, 1) := by decide +kernel
theorem dX2_lowestDitchBeside_55 : decode cX2_lowestDitchBeside 55 = .ok (.iload_n 1, 1) := by decide +kernel
theorem dX2_lowestDitchBeside_56 : decode cX2_lowestDitchBeside 56 = .ok (.iload_n 3, 1) := by decide +kernel
theorem dX2_lowestDitchBeside_57 : decode cX2_lowestDitchBeside 57 = .ok (.iload_n 1, 1) := by decide +kernel
theorem dX2_lowestDitchBeside_58 : decode cX2_lowestDitchBeside 58 = .ok (.bipush 12, 2) := by decide +kernel
theorem dX2_lowestDitchBeside_60 : decode cX2_lowestDitchBeside 60 = .ok (.iadd, 1) := by decide +kernel
theorem dX2_lowestDitchBeside_61 : decode cX2_lowestDitchBeside 61 = .ok (.invokevirtual 87, 3) := by decide +kernel
theorem dX2_lowestDitchBeside_64 : decode cX2_lowestDitchBeside 64 = .ok (.istore_n 3, 1) := by decide +kernel
theorem dX2_lowestDitchBeside_65 : decode cX2_lowestDitchBeside 65 = .ok (.iload_n 3, 1) := by decide +kernel
theorem dX2_lowestDitchBeside_66 : decode cX2_lowestDitchBeside 66 = .ok (.iload_n 1, 1) := by decide +kernel
theorem dX2_lowestDitchBeside_67 : decode cX2_lowestDitchBeside 67 = .ok (.if_icmp .ne 7, 3) := by decide +kernel
theorem dX2_lowestDitchBeside_70 : decode cX2_lowestDitchBeside 70 = .ok (.iconst (-1), 1) := by decide +kernel
theorem dX2_lowestDitchBeside_71 : decode cX2_lowestDitchBeside 71 = .ok (.goto 4, 3) := by decide +kernel
theorem dX2_lowestDitchBeside_74 : decode cX2_lowestDitchBeside 74 = .ok (.iload_n 3, 1) := by decide +kernel
theorem dX2_lowestDitchBeside_75 : decode cX2_lowestDitchBeside 75 = .ok (.ireturn, 1) := by decide +kernel
theorem dX2_lowerDitch_0 : decode cX2_lowerDitch 0 = .ok (.iload_n 3, 1) := by decide +kernel
theorem dX2_lowerDitch_1 : decode cX2_lowerDitch 1 = .ok (.ifCond .lt 18, 3) := by decide +kernel
theorem dX2_lowerDitch_4 : decode cX2_lowerDitch 4 = .ok (.iload_n 3, 1) := by decide +kernel
theorem dX2_lowerDitch_5 : decode cX2_lowerDitch 5 = .ok (.bipush 96, 2) := by decide +kernel
theorem dX2_lowerDitch_7 : decode cX2_lowerDitch 7 = .ok (.if_icmp .ge 12, 3) := by decide +kernel
theorem dX2_lowerDitch_10 : decode cX2_lowerDitch 10 = .ok (.aload_n 0, 1) := by decide +kernel
theorem dX2_lowerDitch_11 : decode cX2_lowerDitch 11 = .ok (.getfield 22, 3) := by decide +kernel
theorem dX2_lowerDitch_14 : decode cX2_lowerDitch 14 = .ok (.iload_n 3, 1) := by decide +kernel
theorem dX2_lowerDitch_15 : decode cX2_lowerDitch 15 = .ok (.iaload, 1) := by decide +kernel
theorem dX2_lowerDitch_16 : decode cX2_lowerDitch 16 = .ok (.ifCond .ne 5, 3) := by decide +kernel
theorem dX2_lowerDitch_19 : decode cX2_lowerDitch 19 = .ok (.iload_n 2, 1) := by decide +kernel
theorem dX2_lowerDitch_20 : decode cX2_lowerDitch 20 = .ok (.ireturn, 1) := by decide +kernel
theorem dX2_lowerDitch_21 : decode cX2_lowerDitch 21 = .ok (.aload_n 0, 1) := by decide +kernel
theorem dX2_lowerDitch_22 : decode cX2_lowerDitch 22 = .ok (.iload_n 3, 1) := by decide +kernel
theorem dX2_lowerDitch_23 : decode cX2_lowerDitch 23 = .ok (.invokevirtual 79, 3) := by decide +kernel
theorem dX2_lowerDitch_26 : decode cX2_lowerDitch 26 = .ok (.aload_n 0, 1) := by decide +kernel
theorem dX2_lowerDitch_27 : decode cX2_lowerDitch 27 = .ok (.iload_n 2, 1) := by decide +kernel
theorem dX2_lowerDitch_28 : decode cX2_lowerDitch 28 = .ok (.invokevirtual 79, 3) := by decide +kernel
theorem dX2_lowerDitch_31 : decode cX2_lowerDitch 31 = .ok (.if_icmp .ge 7, 3) := by decide +kernel
theorem dX2_lowerDitch_34 : decode cX2_lowerDitch 34 = .ok (.iload_n 3, 1) := by decide +kernel
theorem dX2_lowerDitch_35 : decode cX2_lowerDitch 35 = .ok (.goto 4, 3) := by decide +kernel
theorem dX2_lowerDitch_38 : decode cX2_lowerDitch 38 = .ok (.iload_n 2, 1) := by decide +kernel
theorem dX2_lowerDitch_39 : decode cX2_lowerDitch 39 = .ok (.ireturn, 1) := by decide +kernel
theorem dX2_endDay_0 : decode cX2_endDay 0 = .ok (.iconst 0, 1) := by decide +kernel
theorem dX2_endDay_1 : decode cX2_endDay 1 = .ok (.istore_n 1, 1) := by decide +kernel
theorem dX2_endDay_2 : decode cX2_endDay 2 = .ok (.iload_n 1, 1) := by decide +kernel
theorem dX2_endDay_3 : decode cX2_endDay 3 = .ok (.bipush 96, 2) := by decide +kernel
theorem dX2_endDay_5 : decode cX2_endDay 5 = .ok (.if_icmp .ge 106, 3) := by decide +kernel
theorem dX2_endDay_8 : decode cX2_endDay 8 = .ok (.aload_n 0, 1) := by decide +kernel
theorem dX2_endDay_9 : decode cX2_endDay 9 = .ok (.getfield 9, 3) := by decide +kernel
theorem dX2_endDay_12 : decode cX2_endDay 12 = .ok (.iload_n 1, 1) := by decide +kernel
theorem dX2_endDay_13 : decode cX2_endDay 13 = .ok (.baload, 1) := by decide +kernel
theorem dX2_endDay_14 : decode cX2_endDay 14 = .ok (.ifCond .eq 32, 3) := by decide +kernel
theorem dX2_endDay_17 : decode cX2_endDay 17 = .ok (.aload_n 0, 1) := by decide +kernel
theorem dX2_endDay_18 : decode cX2_endDay 18 = .ok (.getfield 25, 3) := by decide +kernel
theorem dX2_endDay_21 : decode cX2_endDay 21 = .ok (.iload_n 1, 1) := by decide +kernel
theorem dX2_endDay_22 : decode cX2_endDay 22 = .ok (.iaload, 1) := by decide +kernel
theorem dX2_endDay_23 : decode cX2_endDay 23 = .ok (.ifCond .le 23, 3) := by decide +kernel
theorem dX2_endDay_26 : decode cX2_endDay 26 = .ok (.aload_n 0, 1) := by decide +kernel
theorem dX2_endDay_27 : decode cX2_endDay 27 = .ok (.getfield 31, 3) := by decide +kernel
theorem dX2_endDay_30 : decode cX2_endDay 30 = .ok (.iload_n 1, 1) := by decide +kernel
theorem dX2_endDay_31 : decode cX2_endDay 31 = .ok (.iconst 0, 1) := by decide +kernel
theorem dX2_endDay_32 : decode cX2_endDay 32 = .ok (.iastore, 1) := by decide +kernel
theorem dX2_endDay_33 : decode cX2_endDay 33 = .ok (.aload_n 0, 1) := by decide +kernel
theorem dX2_endDay_34 : decode cX2_endDay 34 = .ok (.getfield 34, 3) := by decide +kernel
theorem dX2_endDay_37 : decode cX2_endDay 37 = .ok (.iload_n 1, 1) := by decide +kernel
theorem dX2_endDay_38 : decode cX2_endDay 38 = .ok (.dup2, 1) := by decide +kernel
theorem dX2_endDay_39 : decode cX2_endDay 39 = .ok (.iaload, 1) := by decide +kernel
theorem dX2_endDay_40 : decode cX2_endDay 40 = .ok (.iconst 1, 1) := by decide +kernel
theorem dX2_endDay_41 : decode cX2_endDay 41 = .ok (.iadd, 1) := by decide +kernel
theorem dX2_endDay_42 : decode cX2_endDay 42 = .ok (.iastore, 1) := by decide +kernel
theorem dX2_endDay_43 : decode cX2_endDay 43 = .ok (.goto 62, 3) := by decide +kernel
theorem dX2_endDay_46 : decode cX2_endDay 46 = .ok (.aload_n 0, 1) := by decide +kernel
theorem dX2_endDay_47 : decode cX2_endDay 47 = .ok (.getfield 9, 3) := by decide +kernel
theorem dX2_endDay_50 : decode cX2_endDay 50 = .ok (.iload_n 1, 1) := by decide +kernel
theorem dX2_endDay_51 : decode cX2_endDay 51 = .ok (.baload, 1) := by decide +kernel
theorem dX2_endDay_52 : decode cX2_endDay 52 = .ok (.ifCond .eq 53, 3) := by decide +kernel
theorem dX2_endDay_55 : decode cX2_endDay 55 = .ok (.aload_n 0, 1) := by decide +kernel
theorem dX2_endDay_56 : decode cX2_endDay 56 = .ok (.getfield 31, 3) := by decide +kernel
theorem dX2_endDay_59 : decode cX2_endDay 59 = .ok (.iload_n 1, 1) := by decide +kernel
theorem dX2_endDay_60 : decode cX2_endDay 60 = .ok (.dup2, 1) := by decide +kernel
theorem dX2_endDay_61 : decode cX2_endDay 61 = .ok (.iaload, 1) := by decide +kernel
theorem dX2_endDay_62 : decode cX2_endDay 62 = .ok (.iconst 1, 1) := by decide +kernel
theorem dX2_endDay_63 : decode cX2_endDay 63 = .ok (.iadd, 1) := by decide +kernel
theorem dX2_endDay_64 : decode cX2_endDay 64 = .ok (.iastore, 1) := by decide +kernel
theorem dX2_endDay_65 : decode cX2_endDay 65 = .ok (.aload_n 0, 1) := by decide +kernel
theorem dX2_endDay_66 : decode cX2_endDay 66 = .ok (.getfield 15, 3) := by decide +kernel
theorem dX2_endDay_69 : decode cX2_endDay 69 = .ok (.iload_n 1, 1) := by decide +kernel
theorem dX2_endDay_70 : decode cX2_endDay 70 = .ok (.dup2, 1) := by decide +kernel
theorem dX2_endDay_71 : decode cX2_endDay 71 = .ok (.iaload, 1) := by decide +kernel
theorem dX2_endDay_72 : decode cX2_endDay 72 = .ok (.aload_n 0, 1) := by decide +kernel
theorem dX2_endDay_73 : decode cX2_endDay 73 = .ok (.iload_n 1, 1) := by decide +kernel
theorem dX2_endDay_74 : decode cX2_endDay 74 = .ok (.invokevirtual 91, 3) := by decide +kernel
theorem dX2_endDay_77 : decode cX2_endDay 77 = .ok (.ifCond .eq 7, 3) := by decide +kernel
theorem dX2_endDay_80 : decode cX2_endDay 80 = .ok (.iconst 1, 1) := by decide +kernel
theorem dX2_endDay_81 : decode cX2_endDay 81 = .ok (.goto 4, 3) := by decide +kernel
theorem dX2_endDay_84 : decode cX2_endDay 84 = .ok (.iconst 0, 1) := by decide +kernel
theorem dX2_endDay_85 : decode cX2_endDay 85 = .ok (.isub, 1) := by decide +kernel
theorem dX2_endDay_86 : decode cX2_endDay 86 = .ok (.iastore, 1) := by decide +kernel
theorem dX2_endDay_87 : decode cX2_endDay 87 = .ok (.aload_n 0, 1) := by decide +kernel
theorem dX2_endDay_88 : decode cX2_endDay 88 = .ok (.getfield 28, 3) := by decide +kernel
theorem dX2_endDay_91 : decode cX2_endDay 91 = .ok (.iload_n 1, 1) := by decide +kernel
theorem dX2_endDay_92 : decode cX2_endDay 92 = .ok (.dup2, 1) := by decide +kernel
theorem dX2_endDay_93 : decode cX2_endDay 93 = .ok (.iaload, 1) := by decide +kernel
theorem dX2_endDay_94 : decode cX2_endDay 94 = .ok (.aload_n 0, 1) := by decide +kernel
theorem dX2_endDay_95 : decode cX2_endDay 95 = .ok (.getfield 28, 3) := by decide +kernel
theorem dX2_endDay_98 : decode cX2_endDay 98 = .ok (.iload_n 1, 1) := by decide +kernel
theorem dX2_endDay_99 : decode cX2_endDay 99 = .ok (.iaload, 1) := by decide +kernel
theorem dX2_endDay_100 : decode cX2_endDay 100 = .ok (.bipush 100, 2) := by decide +kernel
theorem dX2_endDay_102 : decode cX2_endDay 102 = .ok (.idiv, 1) := by decide +kernel
theorem dX2_endDay_103 : decode cX2_endDay 103 = .ok (.isub, 1) := by decide +kernel
theorem dX2_endDay_104 : decode cX2_endDay 104 = .ok (.iastore, 1) := by decide +kernel
theorem dX2_endDay_105 : decode cX2_endDay 105 = .ok (.iinc 1 1, 3) := by decide +kernel
theorem dX2_endDay_108 : decode cX2_endDay 108 = .ok (.goto (-106), 3) := by decide +kernel
theorem dX2_endDay_111 : decode cX2_endDay 111 = .ok (.return_, 1) := by decide +kernel
theorem dX2_sinksNow_0 : decode cX2_sinksNow 0 = .ok (.aload_n 0, 1) := by decide +kernel
theorem dX2_sinksNow_1 : decode cX2_sinksNow 1 = .ok (.getfield 19, 3) := by decide +kernel
theorem dX2_sinksNow_4 : decode cX2_sinksNow 4 = .ok (.iload_n 1, 1) := by decide +kernel
theorem dX2_sinksNow_5 : decode cX2_sinksNow 5 = .ok (.iaload, 1) := by decide +kernel
theorem dX2_sinksNow_6 : decode cX2_sinksNow 6 = .ok (.iconst 2, 1) := by decide +kernel
theorem dX2_sinksNow_7 : decode cX2_sinksNow 7 = .ok (.if_icmp .ne 20, 3) := by decide +kernel
theorem dX2_sinksNow_10 : decode cX2_sinksNow 10 = .ok (.aload_n 0, 1) := by decide +kernel
theorem dX2_sinksNow_11 : decode cX2_sinksNow 11 = .ok (.getfield 31, 3) := by decide +kernel
theorem dX2_sinksNow_14 : decode cX2_sinksNow 14 = .ok (.iload_n 1, 1) := by decide +kernel
theorem dX2_sinksNow_15 : decode cX2_sinksNow 15 = .ok (.iaload, 1) := by decide +kernel
theorem dX2_sinksNow_16 : decode cX2_sinksNow 16 = .ok (.iconst 3, 1) := by decide +kernel
theorem dX2_sinksNow_17 : decode cX2_sinksNow 17 = .ok (.irem, 1) := by decide +kernel
theorem dX2_sinksNow_18 : decode cX2_sinksNow 18 = .ok (.ifCond .ne 7, 3) := by decide +kernel
theorem dX2_sinksNow_21 : decode cX2_sinksNow 21 = .ok (.iconst 1, 1) := by decide +kernel
theorem dX2_sinksNow_22 : decode cX2_sinksNow 22 = .ok (.goto 4, 3) := by decide +kernel
theorem dX2_sinksNow_25 : decode cX2_sinksNow 25 = .ok (.iconst 0, 1) := by decide +kernel
theorem dX2_sinksNow_26 : decode cX2_sinksNow 26 = .ok (.ireturn, 1) := by decide +kernel
theorem dX2_sinksNow_27 : decode cX2_sinksNow 27 = .ok (.aload_n 0, 1) := by decide +kernel
theorem dX2_sinksNow_28 : decode cX2_sinksNow 28 = .ok (.getfield 19, 3) := by decide +kernel
theorem dX2_sinksNow_31 : decode cX2_sinksNow 31 = .ok (.iload_n 1, 1) := by decide +kernel
theorem dX2_sinksNow_32 : decode cX2_sinksNow 32 = .ok (.iaload, 1) := by decide +kernel
theorem dX2_sinksNow_33 : decode cX2_sinksNow 33 = .ok (.iconst 1, 1) := by decide +kernel
theorem dX2_sinksNow_34 : decode cX2_sinksNow 34 = .ok (.if_icmp .ne 19, 3) := by decide +kernel
theorem dX2_sinksNow_37 : decode cX2_sinksNow 37 = .ok (.aload_n 0, 1) := by decide +kernel
theorem dX2_sinksNow_38 : decode cX2_sinksNow 38 = .ok (.getfield 31, 3) := by decide +kernel
theorem dX2_sinksNow_41 : decode cX2_sinksNow 41 = .ok (.iload_n 1, 1) := by decide +kernel
theorem dX2_sinksNow_42 : decode cX2_sinksNow 42 = .ok (.iaload, 1) := by decide +kernel
theorem dX2_sinksNow_43 : decode cX2_sinksNow 43 = .ok (.bipush 10, 2) := by decide +kernel
theorem dX2_sinksNow_45 : decode cX2_sinksNow 45 = .ok (.irem, 1) := by decide +kernel
theorem dX2_sinksNow_46 : decode cX2_sinksNow 46 = .ok (.ifCond .ne 7, 3) := by decide +kernel
theorem dX2_sinksNow_49 : decode cX2_sinksNow 49 = .ok (.iconst 1, 1) := by decide +kernel
theorem dX2_sinksNow_50 : decode cX2_sinksNow 50 = .ok (.goto 4, 3) := by decide +kernel
theorem dX2_sinksNow_53 : decode cX2_sinksNow 53 = .ok (.iconst 0, 1) := by decide +kernel
theorem dX2_sinksNow_54 : decode cX2_sinksNow 54 = .ok (.ireturn, 1) := by decide +kernel
theorem dX2_allWater_0 : decode cX2_allWater 0 = .ok (.iconst 0, 1) := by decide +kernel
theorem dX2_allWater_1 : decode cX2_allWater 1 = .ok (.istore_n 1, 1) := by decide +kernel
theorem dX2_allWater_2 : decode cX2_allWater 2 = .ok (.iconst 0, 1) := by decide +kernel
theorem dX2_allWater_3 : decode cX2_allWater 3 = .ok (.istore_n 2, 1) := by decide +kernel
theorem dX2_allWater_4 : decode cX2_allWater 4 = .ok (.iload_n 2, 1) := by decide +kernel
theorem dX2_allWater_5 : decode cX2_allWater 5 = .ok (.bipush 96, 2) := by decide +kernel
theorem dX2_allWater_7 : decode cX2_allWater 7 = .ok (.if_icmp .ge 18, 3) := by decide +kernel
theorem dX2_allWater_10 : decode cX2_allWater 10 = .ok (.iload_n 1, 1) := by decide +kernel
theorem dX2_allWater_11 : decode cX2_allWater 11 = .ok (.aload_n 0, 1) := by decide +kernel
theorem dX2_allWater_12 : decode cX2_allWater 12 = .ok (.getfield 25, 3) := by decide +kernel
theorem dX2_allWater_15 : decode cX2_allWater 15 = .ok (.iload_n 2, 1) := by decide +kernel
theorem dX2_allWater_16 : decode cX2_allWater 16 = .ok (.iaload, 1) := by decide +kernel
theorem dX2_allWater_17 : decode cX2_allWater 17 = .ok (.iadd, 1) := by decide +kernel
theorem dX2_allWater_18 : decode cX2_allWater 18 = .ok (.istore_n 1, 1) := by decide +kernel
theorem dX2_allWater_19 : decode cX2_allWater 19 = .ok (.iinc 2 1, 3) := by decide +kernel
theorem dX2_allWater_22 : decode cX2_allWater 22 = .ok (.goto (-18), 3) := by decide +kernel
theorem dX2_allWater_25 : decode cX2_allWater 25 = .ok (.iload_n 1, 1) := by decide +kernel
theorem dX2_allWater_26 : decode cX2_allWater 26 = .ok (.ireturn, 1) := by decide +kernel
theorem dX2_allSalt_0 : decode cX2_allSalt 0 = .ok (.iconst 0, 1) := by decide +kernel
theorem dX2_allSalt_1 : decode cX2_allSalt 1 = .ok (.istore_n 1, 1) := by decide +kernel
theorem dX2_allSalt_2 : decode cX2_allSalt 2 = .ok (.iconst 0, 1) := by decide +kernel
theorem dX2_allSalt_3 : decode cX2_allSalt 3 = .ok (.istore_n 2, 1) := by decide +kernel
theorem dX2_allSalt_4 : decode cX2_allSalt 4 = .ok (.iload_n 2, 1) := by decide +kernel
theorem dX2_allSalt_5 : decode cX2_allSalt 5 = .ok (.bipush 96, 2) := by decide +kernel
theorem dX2_allSalt_7 : decode cX2_allSalt 7 = .ok (.if_icmp .ge 18, 3) := by decide +kernel
theorem dX2_allSalt_10 : decode cX2_allSalt 10 = .ok (.iload_n 1, 1) := by decide +kernel
theorem dX2_allSalt_11 : decode cX2_allSalt 11 = .ok (.aload_n 0, 1) := by decide +kernel
theorem dX2_allSalt_12 : decode cX2_allSalt 12 = .ok (.getfield 28, 3) := by decide +kernel
theorem dX2_allSalt_15 : decode cX2_allSalt 15 = .ok (.iload_n 2, 1) := by decide +kernel
theorem dX2_allSalt_16 : decode cX2_allSalt 16 = .ok (.iaload, 1) := by decide +kernel
theorem dX2_allSalt_17 : decode cX2_allSalt 17 = .ok (.iadd, 1) := by decide +kernel
theorem dX2_allSalt_18 : decode cX2_allSalt 18 = .ok (.istore_n 1, 1) := by decide +kernel
theorem dX2_allSalt_19 : decode cX2_allSalt 19 = .ok (.iinc 2 1, 3) := by decide +kernel
theorem dX2_allSalt_22 : decode cX2_allSalt 22 = .ok (.goto (-18), 3) := by decide +kernel
theorem dX2_allSalt_25 : decode cX2_allSalt 25 = .ok (.iload_n 1, 1) := by decide +kernel
theorem dX2_allSalt_26 : decode cX2_allSalt 26 = .ok (.ireturn, 1) := by decide +kernel
theorem dX2_copyFrom_0 : decode cX2_copyFrom 0 = .ok (.aload_n 1, 1) := by decide +kernel
theorem dX2_copyFrom_1 : decode cX2_copyFrom 1 = .ok (.getfield 9, 3) := by decide +kernel
theorem dX2_copyFrom_4 : decode cX2_copyFrom 4 = .ok (.iconst 0, 1) := by decide +kernel
theorem dX2_copyFrom_5 : decode cX2_copyFrom 5 = .ok (.aload_n 0, 1) := by decide +kernel
theorem dX2_copyFrom_6 : decode cX2_copyFrom 6 = .ok (.getfield 9, 3) := by decide +kernel
theorem dX2_copyFrom_9 : decode cX2_copyFrom 9 = .ok (.iconst 0, 1) := by decide +kernel
theorem dX2_copyFrom_10 : decode cX2_copyFrom 10 = .ok (.bipush 96, 2) := by decide +kernel
theorem dX2_copyFrom_12 : decode cX2_copyFrom 12 = .ok (.invokestatic 95, 3) := by decide +kernel
theorem dX2_copyFrom_15 : decode cX2_copyFrom 15 = .ok (.aload_n 1, 1) := by decide +kernel
theorem dX2_copyFrom_16 : decode cX2_copyFrom 16 = .ok (.getfield 15, 3) := by decide +kernel
theorem dX2_copyFrom_19 : decode cX2_copyFrom 19 = .ok (.iconst 0, 1) := by decide +kernel
theorem dX2_copyFrom_20 : decode cX2_copyFrom 20 = .ok (.aload_n 0, 1) := by decide +kernel
theorem dX2_copyFrom_21 : decode cX2_copyFrom 21 = .ok (.getfield 15, 3) := by decide +kernel
theorem dX2_copyFrom_24 : decode cX2_copyFrom 24 = .ok (.iconst 0, 1) := by decide +kernel
theorem dX2_copyFrom_25 : decode cX2_copyFrom 25 = .ok (.bipush 96, 2) := by decide +kernel
theorem dX2_copyFrom_27 : decode cX2_copyFrom 27 = .ok (.invokestatic 95, 3) := by decide +kernel
theorem dX2_copyFrom_30 : decode cX2_copyFrom 30 = .ok (.aload_n 1, 1) := by decide +kernel
theorem dX2_copyFrom_31 : decode cX2_copyFrom 31 = .ok (.getfield 19, 3) := by decide +kernel
theorem dX2_copyFrom_34 : decode cX2_copyFrom 34 = .ok (.iconst 0, 1) := by decide +kernel
theorem dX2_copyFrom_35 : decode cX2_copyFrom 35 = .ok (.aload_n 0, 1) := by decide +kernel
theorem dX2_copyFrom_36 : decode cX2_copyFrom 36 = .ok (.getfield 19, 3) := by decide +kernel
theorem dX2_copyFrom_39 : decode cX2_copyFrom 39 = .ok (.iconst 0, 1) := by decide +kernel
theorem dX2_copyFrom_40 : decode cX2_copyFrom 40 = .ok (.bipush 96, 2) := by decide +kernel
theorem dX2_copyFrom_42 : decode cX2_copyFrom 42 = .ok (.invokestatic 95, 3) := by decide +kernel
theorem dX2_copyFrom_45 : decode cX2_copyFrom 45 = .ok (.aload_n 1, 1) := by decide +kernel
theorem dX2_copyFrom_46 : decode cX2_copyFrom 46 = .ok (.getfield 22, 3) := by decide +kernel
theorem dX2_copyFrom_49 : decode cX2_copyFrom 49 = .ok (.iconst 0, 1) := by decide +kernel
theorem dX2_copyFrom_50 : decode cX2_copyFrom 50 = .ok (.aload_n 0, 1) := by decide +kernel
theorem dX2_copyFrom_51 : decode cX2_copyFrom 51 = .ok (.getfield 22, 3) := by decide +kernel
theorem dX2_copyFrom_54 : decode cX2_copyFrom 54 = .ok (.iconst 0, 1) := by decide +kernel
theorem dX2_copyFrom_55 : decode cX2_copyFrom 55 = .ok (.bipush 96, 2) := by decide +kernel
theorem dX2_copyFrom_57 : decode cX2_copyFrom 57 = .ok (.invokestatic 95, 3) := by decide +kernel
theorem dX2_copyFrom_60 : decode cX2_copyFrom 60 = .ok (.aload_n 1, 1) := by decide +kernel
theorem dX2_copyFrom_61 : decode cX2_copyFrom 61 = .ok (.getfield 25, 3) := by decide +kernel
theorem dX2_copyFrom_64 : decode cX2_copyFrom 64 = .ok (.iconst 0, 1) := by decide +kernel
theorem dX2_copyFrom_65 : decode cX2_copyFrom 65 = .ok (.aload_n 0, 1) := by decide +kernel
theorem dX2_copyFrom_66 : decode cX2_copyFrom 66 = .ok (.getfield 25, 3) := by decide +kernel
theorem dX2_copyFrom_69 : decode cX2_copyFrom 69 = .ok (.iconst 0, 1) := by decide +kernel
theorem dX2_copyFrom_70 : decode cX2_copyFrom 70 = .ok (.bipush 96, 2) := by decide +kernel
theorem dX2_copyFrom_72 : decode cX2_copyFrom 72 = .ok (.invokestatic 95, 3) := by decide +kernel
theorem dX2_copyFrom_75 : decode cX2_copyFrom 75 = .ok (.aload_n 1, 1) := by decide +kernel
theorem dX2_copyFrom_76 : decode cX2_copyFrom 76 = .ok (.getfield 28, 3) := by decide +kernel
theorem dX2_copyFrom_79 : decode cX2_copyFrom 79 = .ok (.iconst 0, 1) := by decide +kernel
theorem dX2_copyFrom_80 : decode cX2_copyFrom 80 = .ok (.aload_n 0, 1) := by decide +kernel
theorem dX2_copyFrom_81 : decode cX2_copyFrom 81 = .ok (.getfield 28, 3) := by decide +kernel
theorem dX2_copyFrom_84 : decode cX2_copyFrom 84 = .ok (.iconst 0, 1) := by decide +kernel
theorem dX2_copyFrom_85 : decode cX2_copyFrom 85 = .ok (.bipush 96, 2) := by decide +kernel
theorem dX2_copyFrom_87 : decode cX2_copyFrom 87 = .ok (.invokestatic 95, 3) := by decide +kernel
theorem dX2_copyFrom_90 : decode cX2_copyFrom 90 = .ok (.aload_n 1, 1) := by decide +kernel
theorem dX2_copyFrom_91 : decode cX2_copyFrom 91 = .ok (.getfield 31, 3) := by decide +kernel
theorem dX2_copyFrom_94 : decode cX2_copyFrom 94 = .ok (.iconst 0, 1) := by decide +kernel
theorem dX2_copyFrom_95 : decode cX2_copyFrom 95 = .ok (.aload_n 0, 1) := by decide +kernel
theorem dX2_copyFrom_96 : decode cX2_copyFrom 96 = .ok (.getfield 31, 3) := by decide +kernel
theorem dX2_copyFrom_99 : decode cX2_copyFrom 99 = .ok (.iconst 0, 1) := by decide +kernel
theorem dX2_copyFrom_100 : decode cX2_copyFrom 100 = .ok (.bipush 96, 2) := by decide +kernel
theorem dX2_copyFrom_102 : decode cX2_copyFrom 102 = .ok (.invokestatic 95, 3) := by decide +kernel
theorem dX2_copyFrom_105 : decode cX2_copyFrom 105 = .ok (.aload_n 1, 1) := by decide +kernel
theorem dX2_copyFrom_106 : decode cX2_copyFrom 106 = .ok (.getfield 34, 3) := by decide +kernel
theorem dX2_copyFrom_109 : decode cX2_copyFrom 109 = .ok (.iconst 0, 1) := by decide +kernel
theorem dX2_copyFrom_110 : decode cX2_copyFrom 110 = .ok (.aload_n 0, 1) := by decide +kernel
theorem dX2_copyFrom_111 : decode cX2_copyFrom 111 = .ok (.getfield 34, 3) := by decide +kernel
theorem dX2_copyFrom_114 : decode cX2_copyFrom 114 = .ok (.iconst 0, 1) := by decide +kernel
theorem dX2_copyFrom_115 : decode cX2_copyFrom 115 = .ok (.bipush 96, 2) := by decide +kernel
theorem dX2_copyFrom_117 : decode cX2_copyFrom 117 = .ok (.invokestatic 95, 3) := by decide +kernel
theorem dX2_copyFrom_120 : decode cX2_copyFrom 120 = .ok (.aload_n 0, 1) := by decide +kernel
theorem dX2_copyFrom_121 : decode cX2_copyFrom 121 = .ok (.aload_n 1, 1) := by decide +kernel
theorem dX2_copyFrom_122 : decode cX2_copyFrom 122 = .ok (.getfield 54, 3) := by decide +kernel
theorem dX2_copyFrom_125 : decode cX2_copyFrom 125 = .ok (.putfield 54, 3) := by decide +kernel
theorem dX2_copyFrom_128 : decode cX2_copyFrom 128 = .ok (.aload_n 0, 1) := by decide +kernel
theorem dX2_copyFrom_129 : decode cX2_copyFrom 129 = .ok (.aload_n 1, 1) := by decide +kernel
theorem dX2_copyFrom_130 : decode cX2_copyFrom 130 = .ok (.getfield 57, 3) := by decide +kernel
theorem dX2_copyFrom_133 : decode cX2_copyFrom 133 = .ok (.putfield 57, 3) := by decide +kernel
theorem dX2_copyFrom_136 : decode cX2_copyFrom 136 = .ok (.aload_n 0, 1) := by decide +kernel
theorem dX2_copyFrom_137 : decode cX2_copyFrom 137 = .ok (.aload_n 1, 1) := by decide +kernel
theorem dX2_copyFrom_138 : decode cX2_copyFrom 138 = .ok (.getfield 64, 3) := by decide +kernel
theorem dX2_copyFrom_141 : decode cX2_copyFrom 141 = .ok (.putfield 64, 3) := by decide +kernel
theorem dX2_copyFrom_144 : decode cX2_copyFrom 144 = .ok (.aload_n 0, 1) := by decide +kernel
theorem dX2_copyFrom_145 : decode cX2_copyFrom 145 = .ok (.aload_n 1, 1) := by decide +kernel
theorem dX2_copyFrom_146 : decode cX2_copyFrom 146 = .ok (.getfield 50, 3) := by decide +kernel
theorem dX2_copyFrom_149 : decode cX2_copyFrom 149 = .ok (.putfield 50, 3) := by decide +kernel
theorem dX2_copyFrom_152 : decode cX2_copyFrom 152 = .ok (.return_, 1) := by decide +kernel
theorem dX3_init_0 : decode cX3_init 0 = .ok (.aload_n 0, 1) := by decide +kernel
theorem dX3_init_1 : decode cX3_init 1 = .ok (.invokespecial 3, 3) := by decide +kernel
theorem dX3_init_4 : decode cX3_init 4 = .ok (.aload_n 0, 1) := by decide +kernel
theorem dX3_init_5 : decode cX3_init 5 = .ok (.new 9, 3) := by decide +kernel
theorem dX3_init_8 : decode cX3_init 8 = .ok (.dup, 1) := by decide +kernel
theorem dX3_init_9 : decode cX3_init 9 = .ok (.invokespecial 11, 3) := by decide +kernel
theorem dX3_init_12 : decode cX3_init 12 = .ok (.putfield 12, 3) := by decide +kernel
theorem dX3_init_15 : decode cX3_init 15 = .ok (.aload_n 0, 1) := by decide +kernel
theorem dX3_init_16 : decode cX3_init 16 = .ok (.new 18, 3) := by decide +kernel
theorem dX3_init_19 : decode cX3_init 19 = .ok (.dup, 1) := by decide +kernel
theorem dX3_init_20 : decode cX3_init 20 = .ok (.invokespecial 20, 3) := by decide +kernel
theorem dX3_init_23 : decode cX3_init 23 = .ok (.putfield 21, 3) := by decide +kernel
theorem dX3_init_26 : decode cX3_init 26 = .ok (.aload_n 0, 1) := by decide +kernel
theorem dX3_init_27 : decode cX3_init 27 = .ok (.bipush 30, 2) := by decide +kernel
theorem dX3_init_29 : decode cX3_init 29 = .ok (.anewarray 25, 3) := by decide +kernel
theorem dX3_init_32 : decode cX3_init 32 = .ok (.putfield 27, 3) := by decide +kernel
theorem dX3_init_35 : decode cX3_init 35 = .ok (.iconst 0, 1) := by decide +kernel
theorem dX3_init_36 : decode cX3_init 36 = .ok (.istore_n 1, 1) := by decide +kernel
theorem dX3_init_37 : decode cX3_init 37 = .ok (.iload_n 1, 1) := by decide +kernel
theorem dX3_init_38 : decode cX3_init 38 = .ok (.bipush 30, 2) := by decide +kernel
theorem dX3_init_40 : decode cX3_init 40 = .ok (.if_icmp .ge 22, 3) := by decide +kernel
theorem dX3_init_43 : decode cX3_init 43 = .ok (.aload_n 0, 1) := by decide +kernel
theorem dX3_init_44 : decode cX3_init 44 = .ok (.getfield 27, 3) := by decide +kernel
theorem dX3_init_47 : decode cX3_init 47 = .ok (.iload_n 1, 1) := by decide +kernel
theorem dX3_init_48 : decode cX3_init 48 = .ok (.new 25, 3) := by decide +kernel
theorem dX3_init_51 : decode cX3_init 51 = .ok (.dup, 1) := by decide +kernel
theorem dX3_init_52 : decode cX3_init 52 = .ok (.invokespecial 31, 3) := by decide +kernel
theorem dX3_init_55 : decode cX3_init 55 = .ok (.aastore, 1) := by decide +kernel
theorem dX3_init_56 : decode cX3_init 56 = .ok (.iinc 1 1, 3) := by decide +kernel
theorem dX3_init_59 : decode cX3_init 59 = .ok (.goto (-22), 3) := by decide +kernel
theorem dX3_init_62 : decode cX3_init 62 = .ok (.return_, 1) := by decide +kernel
theorem dX3_dayNow_0 : decode cX3_dayNow 0 = .ok (.aload_n 0, 1) := by decide +kernel
theorem dX3_dayNow_1 : decode cX3_dayNow 1 = .ok (.getfield 32, 3) := by decide +kernel
theorem dX3_dayNow_4 : decode cX3_dayNow 4 = .ok (.bipush 24, 2) := by decide +kernel
theorem dX3_dayNow_6 : decode cX3_dayNow 6 = .ok (.idiv, 1) := by decide +kernel
theorem dX3_dayNow_7 : decode cX3_dayNow 7 = .ok (.ireturn, 1) := by decide +kernel
theorem dX3_levelNow_0 : decode cX3_levelNow 0 = .ok (.aload_n 0, 1) := by decide +kernel
theorem dX3_levelNow_1 : decode cX3_levelNow 1 = .ok (.getfield 21, 3) := by decide +kernel
theorem dX3_levelNow_4 : decode cX3_levelNow 4 = .ok (.getfield 36, 3) := by decide +kernel
theorem dX3_levelNow_7 : decode cX3_levelNow 7 = .ok (.iload_n 1, 1) := by decide +kernel
theorem dX3_levelNow_8 : decode cX3_levelNow 8 = .ok (.baload, 1) := by decide +kernel
theorem dX3_levelNow_9 : decode cX3_levelNow 9 = .ok (.ifCond .eq 14, 3) := by decide +kernel
theorem dX3_levelNow_12 : decode cX3_levelNow 12 = .ok (.aload_n 0, 1) := by decide +kernel
theorem dX3_levelNow_13 : decode cX3_levelNow 13 = .ok (.getfield 21, 3) := by decide +kernel
theorem dX3_levelNow_16 : decode cX3_levelNow 16 = .ok (.iload_n 1, 1) := by decide +kernel
theorem dX3_levelNow_17 : decode cX3_levelNow 17 = .ok (.invokevirtual 40, 3) := by decide +kernel
theorem dX3_levelNow_20 : decode cX3_levelNow 20 = .ok (.goto 14, 3) := by decide +kernel
theorem dX3_levelNow_23 : decode cX3_levelNow 23 = .ok (.aload_n 0, 1) := by decide +kernel
theorem dX3_levelNow_24 : decode cX3_levelNow 24 = .ok (.getfield 12, 3) := by decide +kernel
theorem dX3_levelNow_27 : decode cX3_levelNow 27 = .ok (.aload_n 0, 1) := by decide +kernel
theorem dX3_levelNow_28 : decode cX3_levelNow 28 = .ok (.getfield 32, 3) := by decide +kernel
theorem dX3_levelNow_31 : decode cX3_levelNow 31 = .ok (.invokevirtual 44, 3) := by decide +kernel
theorem dX3_levelNow_34 : decode cX3_levelNow 34 = .ok (.ireturn, 1) := by decide +kernel
theorem dX3_workOn_0 : decode cX3_workOn 0 = .ok (.iconst 0, 1) := by decide +kernel
theorem dX3_workOn_1 : decode cX3_workOn 1 = .ok (.istore_n 2, 1) := by decide +kernel
theorem dX3_workOn_2 : decode cX3_workOn 2 = .ok (.iload_n 2, 1) := by decide +kernel
theorem dX3_workOn_3 : decode cX3_workOn 3 = .ok (.aload_n 0, 1) := by decide +kernel
theorem dX3_workOn_4 : decode cX3_workOn 4 = .ok (.getfield 47, 3) := by decide +kernel
theorem dX3_workOn_7 : decode cX3_workOn 7 = .ok (.if_icmp .ge 24, 3) := by decide +kernel
theorem dX3_workOn_10 : decode cX3_workOn 10 = .ok (.aload_n 0, 1) := by decide +kernel
theorem dX3_workOn_11 : decode cX3_workOn 11 = .ok (.getfield 27, 3) := by decide +kernel
theorem dX3_workOn_14 : decode cX3_workOn 14 = .ok (.iload_n 2, 1) := by decide +kernel
theorem dX3_workOn_15 : decode cX3_workOn 15 = .ok (.aaload, 1) := by decide +kernel
theorem dX3_workOn_16 : decode cX3_workOn 16 = .ok (.getfield 50, 3) := by decide +kernel
theorem dX3_workOn_19 : decode cX3_workOn 19 = .ok (.iload_n 1, 1) := by decide +kernel
theorem dX3_workOn_20 : decode cX3_workOn 20 = .ok (.if_icmp .ne 5, 3) := by decide +kernel
theorem dX3_workOn_23 : decode cX3_workOn 23 = .ok (.iload_n 2, 1) := by decide +kernel
theorem dX3_workOn_24 : decode cX3_workOn 24 = .ok (.ireturn, 1) := by decide +kernel
theorem dX3_workOn_25 : decode cX3_workOn 25 = .ok (.iinc 2 1, 3) := by decide +kernel
theorem dX3_workOn_28 : decode cX3_workOn 28 = .ok (.goto (-26), 3) := by decide +kernel
theorem dX3_workOn_31 : decode cX3_workOn 31 = .ok (.iconst (-1), 1) := by decide +kernel
theorem dX3_workOn_32 : decode cX3_workOn 32 = .ok (.ireturn, 1) := by decide +kernel
theorem dX3_isFreeLand_0 : decode cX3_isFreeLand 0 = .ok (.aload_n 0, 1) := by decide +kernel
theorem dX3_isFreeLand_1 : decode cX3_isFreeLand 1 = .ok (.getfield 21, 3) := by decide +kernel
theorem dX3_isFreeLand_4 : decode cX3_isFreeLand 4 = .ok (.getfield 36, 3) := by decide +kernel
theorem dX3_isFreeLand_7 : decode cX3_isFreeLand 7 = .ok (.iload_n 1, 1) := by decide +kernel
theorem dX3_isFreeLand_8 : decode cX3_isFreeLand 8 = .ok (.baload, 1) := by decide +kernel
theorem dX3_isFreeLand_9 : decode cX3_isFreeLand 9 = .ok (.ifCond .eq 16, 3) := by decide +kernel
theorem dX3_isFreeLand_12 : decode cX3_isFreeLand 12 = .ok (.aload_n 0, 1) := by decide +kernel
theorem dX3_isFreeLand_13 : decode cX3_isFreeLand 13 = .ok (.iload_n 1, 1) := by decide +kernel
theorem dX3_isFreeLand_14 : decode cX3_isFreeLand 14 = .ok (.invokevirtual 53, 3) := by decide +kernel
theorem dX3_isFreeLand_17 : decode cX3_isFreeLand 17 = .ok (.iconst (-1), 1) := by decide +kernel
theorem dX3_isFreeLand_18 : decode cX3_isFreeLand 18 = .ok (.if_icmp .ne 7, 3) := by decide +kernel
theorem dX3_isFreeLand_21 : decode cX3_isFreeLand 21 = .ok (.iconst 1, 1) := by decide +kernel
theorem dX3_isFreeLand_22 : decode cX3_isFreeLand 22 = .ok (.goto 4, 3) := by decide +kernel
theorem dX3_isFreeLand_25 : decode cX3_isFreeLand 25 = .ok (.iconst 0, 1) := by decide +kernel
theorem dX3_isFreeLand_26 : decode cX3_isFreeLand 26 = .ok (.ireturn, 1) := by decide +kernel
theorem dX3_isSeaBeside_0 : decode cX3_isSeaBeside 0 = .ok (.aload_n 0, 1) := by decide +kernel
theorem dX3_isSeaBeside_1 : decode cX3_isSeaBeside 1 = .ok (.getfield 21, 3) := by decide +kernel
theorem dX3_isSeaBeside_4 : decode cX3_isSeaBeside 4 = .ok (.getfield 36, 3) := by decide +kernel
theorem dX3_isSeaBeside_7 : decode cX3_isSeaBeside 7 = .ok (.iload_n 2, 1) := by decide +kernel
theorem dX3_isSeaBeside_8 : decode cX3_isSeaBeside 8 = .ok (.baload, 1) := by decide +kernel
theorem dX3_isSeaBeside_9 : decode cX3_isSeaBeside 9 = .ok (.ifCond .ne 16, 3) := by decide +kernel
theorem dX3_isSeaBeside_12 : decode cX3_isSeaBeside 12 = .ok (.iload_n 1, 1) := by decide +kernel
theorem dX3_isSeaBeside_13 : decode cX3_isSeaBeside 13 = .ok (.iload_n 2, 1) := by decide +kernel
theorem dX3_isSeaBeside_14 : decode cX3_isSeaBeside 14 = .ok (.invokestatic 56, 3) := by decide +kernel
theorem dX3_isSeaBeside_17 : decode cX3_isSeaBeside 17 = .ok (.iconst 1, 1) := by decide +kernel
theorem dX3_isSeaBeside_18 : decode cX3_isSeaBeside 18 = .ok (.if_icmp .ne 7, 3) := by decide +kernel
theorem dX3_isSeaBeside_21 : decode cX3_isSeaBeside 21 = .ok (.iconst 1, 1) := by decide +kernel
theorem dX3_isSeaBeside_22 : decode cX3_isSeaBeside 22 = .ok (.goto 4, 3) := by decide +kernel
theorem dX3_isSeaBeside_25 : decode cX3_isSeaBeside 25 = .ok (.iconst 0, 1) := by decide +kernel
theorem dX3_isSeaBeside_26 : decode cX3_isSeaBeside 26 = .ok (.ireturn, 1) := by decide +kernel
theorem dX3_build_0 : decode cX3_build 0 = .ok (.aload_n 0, 1) := by decide +kernel
theorem dX3_build_1 : decode cX3_build 1 = .ok (.getfield 27, 3) := by decide +kernel
theorem dX3_build_4 : decode cX3_build 4 = .ok (.aload_n 0, 1) := by decide +kernel
theorem dX3_build_5 : decode cX3_build 5 = .ok (.getfield 47, 3) := by decide +kernel
theorem dX3_build_8 : decode cX3_build 8 = .ok (.aaload, 1) := by decide +kernel
theorem dX3_build_9 : decode cX3_build 9 = .ok (.iload_n 1, 1) := by decide +kernel
theorem dX3_build_10 : decode cX3_build 10 = .ok (.iload_n 2, 1) := by decide +kernel
theorem dX3_build_11 : decode cX3_build 11 = .ok (.iload_n 3, 1) := by decide +kernel
theorem dX3_build_12 : decode cX3_build 12 = .ok (.iload 4, 2) := by decide +kernel
theorem dX3_build_14 : decode cX3_build 14 = .ok (.invokevirtual 60, 3) := by decide +kernel
theorem dX3_build_17 : decode cX3_build 17 = .ok (.aload_n 0, 1) := by decide +kernel
theorem dX3_build_18 : decode cX3_build 18 = .ok (.dup, 1) := by decide +kernel
theorem dX3_build_19 : decode cX3_build 19 = .ok (.getfield 47, 3) := by decide +kernel
theorem dX3_build_22 : decode cX3_build 22 = .ok (.iconst 1, 1) := by decide +kernel
theorem dX3_build_23 : decode cX3_build 23 = .ok (.iadd, 1) := by decide +kernel
theorem dX3_build_24 : decode cX3_build 24 = .ok (.putfield 47, 3) := by decide +kernel
theorem dX3_build_27 : decode cX3_build 27 = .ok (.aload_n 0, 1) := by decide +kernel
theorem dX3_build_28 : decode cX3_build 28 = .ok (.getfield 47, 3) := by decide +kernel
theorem dX3_build_31 : decode cX3_build 31 = .ok (.iconst 1, 1) := by decide +kernel
theorem dX3_build_32 : decode cX3_build 32 = .ok (.isub, 1) := by decide +kernel
theorem dX3_build_33 : decode cX3_build 33 = .ok (.ireturn, 1) := by decide +kernel
theorem dX3_breaches_0 : decode cX3_breaches 0 = .ok (.iconst 0, 1) := by decide +kernel
theorem dX3_breaches_1 : decode cX3_breaches 1 = .ok (.istore_n 1, 1) := by decide +kernel
theorem dX3_breaches_2 : decode cX3_breaches 2 = .ok (.iconst 0, 1) := by decide +kernel
theorem dX3_breaches_3 : decode cX3_breaches 3 = .ok (.istore_n 2, 1) := by decide +kernel
theorem dX3_breaches_4 : decode cX3_breaches 4 = .ok (.iload_n 2, 1) := by decide +kernel
theorem dX3_breaches_5 : decode cX3_breaches 5 = .ok (.aload_n 0, 1) := by decide +kernel
theorem dX3_breaches_6 : decode cX3_breaches 6 = .ok (.getfield 47, 3) := by decide +kernel
theorem dX3_breaches_9 : decode cX3_breaches 9 = .ok (.if_icmp .ge 30, 3) := by decide +kernel
theorem dX3_breaches_12 : decode cX3_breaches 12 = .ok (.iload_n 1, 1) := by decide +kernel
theorem dX3_breaches_13 : decode cX3_breaches 13 = .ok (.aload_n 0, 1) := by decide +kernel
theorem dX3_breaches_14 : decode cX3_breaches 14 = .ok (.getfield 27, 3) := by decide +kernel
theorem dX3_breaches_17 : decode cX3_breaches 17 = .ok (.iload_n 2, 1) := by decide +kernel
theorem dX3_breaches_18 : decode cX3_breaches 18 = .ok (.aaload, 1) := by decide +kernel
theorem dX3_breaches_19 : decode cX3_breaches 19 = .ok (.getfield 64, 3) := by decide +kernel
theorem dX3_breaches_22 : decode cX3_breaches 22 = .ok (.iconst 1, 1) := by decide +kernel
theorem dX3_breaches_23 : decode cX3_breaches 23 = .ok (.if_icmp .ne 7, 3) := by decide +kernel
theorem dX3_breaches_26 : decode cX3_breaches 26 = .ok (.iconst 1, 1) := by decide +kernel
theorem dX3_breaches_27 : decode cX3_breaches 27 = .ok (.goto 4, 3) := by decide +kernel
theorem dX3_breaches_30 : decode cX3_breaches 30 = .ok (.iconst 0, 1) := by decide +kernel
theorem dX3_breaches_31 : decode cX3_breaches 31 = .ok (.iadd, 1) := by decide +kernel
theorem dX3_breaches_32 : decode cX3_breaches 32 = .ok (.istore_n 1, 1) := by decide +kernel
theorem dX3_breaches_33 : decode cX3_breaches 33 = .ok (.iinc 2 1, 3) := by decide +kernel
theorem dX3_breaches_36 : decode cX3_breaches 36 = .ok (.goto (-32), 3) := by decide +kernel
theorem dX3_breaches_39 : decode cX3_breaches 39 = .ok (.iload_n 1, 1) := by decide +kernel
theorem dX3_breaches_40 : decode cX3_breaches 40 = .ok (.ireturn, 1) := by decide +kernel
theorem dX3_stepsToBank_0 : decode cX3_stepsToBank 0 = .ok (.bipush 99, 2) := by decide +kernel
theorem dX3_stepsToBank_2 : decode cX3_stepsToBank 2 = .ok (.istore_n 2, 1) := by decide +kernel
theorem dX3_stepsToBank_3 : decode cX3_stepsToBank 3 = .ok (.iconst 0, 1) := by decide +kernel
theorem dX3_stepsToBank_4 : decode cX3_stepsToBank 4 = .ok (.istore_n 3, 1) := by decide +kernel
theorem dX3_stepsToBank_5 : decode cX3_stepsToBank 5 = .ok (.iload_n 3, 1) := by decide +kernel
theorem dX3_stepsToBank_6 : decode cX3_stepsToBank 6 = .ok (.aload_n 0, 1) := by decide +kernel
theorem dX3_stepsToBank_7 : decode cX3_stepsToBank 7 = .ok (.getfield 47, 3) := by decide +kernel
theorem dX3_stepsToBank_10 : decode cX3_stepsToBank 10 = .ok (.if_icmp .ge 39, 3) := by decide +kernel
theorem dX3_stepsToBank_13 : decode cX3_stepsToBank 13 = .ok (.aload_n 0, 1) := by decide +kernel
theorem dX3_stepsToBank_14 : decode cX3_stepsToBank 14 = .ok (.getfield 27, 3) := by decide +kernel
theorem dX3_stepsToBank_17 : decode cX3_stepsToBank 17 = .ok (.iload_n 3, 1) := by decide +kernel
theorem dX3_stepsToBank_18 : decode cX3_stepsToBank 18 = .ok (.aaload, 1) := by decide +kernel
theorem dX3_stepsToBank_19 : decode cX3_stepsToBank 19 = .ok (.invokevirtual 67, 3) := by decide +kernel
theorem dX3_stepsToBank_22 : decode cX3_stepsToBank 22 = .ok (.ifCond .eq 21, 3) := by decide +kernel
theorem dX3_stepsToBank_25 : decode cX3_stepsToBank 25 = .ok (.iload_n 2, 1) := by decide +kernel
theorem dX3_stepsToBank_26 : decode cX3_stepsToBank 26 = .ok (.iload_n 1, 1) := by decide +kernel
theorem dX3_stepsToBank_27 : decode cX3_stepsToBank 27 = .ok (.aload_n 0, 1) := by decide +kernel
theorem dX3_stepsToBank_28 : decode cX3_stepsToBank 28 = .ok (.getfield 27, 3) := by decide +kernel
theorem dX3_stepsToBank_31 : decode cX3_stepsToBank 31 = .ok (.iload_n 3, 1) := by decide +kernel
theorem dX3_stepsToBank_32 : decode cX3_stepsToBank 32 = .ok (.aaload, 1) := by decide +kernel
theorem dX3_stepsToBank_33 : decode cX3_stepsToBank 33 = .ok (.getfield 50, 3) := by decide +kernel
theorem dX3_stepsToBank_36 : decode cX3_stepsToBank 36 = .ok (.invokestatic 56, 3) := by decide +kernel
theorem dX3_stepsToBank_39 : decode cX3_stepsToBank 39 = .ok (.invokestatic 71, 3) := by decide +kernel
theorem dX3_stepsToBank_42 : decode cX3_stepsToBank 42 = .ok (.istore_n 2, 1) := by decide +kernel
theorem dX3_stepsToBank_43 : decode cX3_stepsToBank 43 = .ok (.iinc 3 1, 3) := by decide +kernel
theorem dX3_stepsToBank_46 : decode cX3_stepsToBank 46 = .ok (.goto (-41), 3) := by decide +kernel
theorem dX3_stepsToBank_49 : decode cX3_stepsToBank 49 = .ok (.iload_n 2, 1) := by decide +kernel
theorem dX3_stepsToBank_50 : decode cX3_stepsToBank 50 = .ok (.ireturn, 1) := by decide +kernel
theorem dX3_crestOf_0 : decode cX3_crestOf 0 = .ok (.aload_n 0, 1) := by decide +kernel
theorem dX3_crestOf_1 : decode cX3_crestOf 1 = .ok (.getfield 21, 3) := by decide +kernel
theorem dX3_crestOf_4 : decode cX3_crestOf 4 = .ok (.getfield 76, 3) := by decide +kernel
theorem dX3_crestOf_7 : decode cX3_crestOf 7 = .ok (.aload_n 1, 1) := by decide +kernel
theorem dX3_crestOf_8 : decode cX3_crestOf 8 = .ok (.getfield 50, 3) := by decide +kernel
theorem dX3_crestOf_11 : decode cX3_crestOf 11 = .ok (.iaload, 1) := by decide +kernel
theorem dX3_crestOf_12 : decode cX3_crestOf 12 = .ok (.aload_n 1, 1) := by decide +kernel
theorem dX3_crestOf_13 : decode cX3_crestOf 13 = .ok (.invokevirtual 80, 3) := by decide +kernel
theorem dX3_crestOf_16 : decode cX3_crestOf 16 = .ok (.iadd, 1) := by decide +kernel
theorem dX3_crestOf_17 : decode cX3_crestOf 17 = .ok (.ireturn, 1) := by decide +kernel
theorem dX3_sizeOf_0 : decode cX3_sizeOf 0 = .ok (.aload_n 1, 1) := by decide +kernel
theorem dX3_sizeOf_1 : decode cX3_sizeOf 1 = .ok (.getfield 64, 3) := by decide +kernel
theorem dX3_sizeOf_4 : decode cX3_sizeOf 4 = .ok (.ifCond .ne 9, 3) := by decide +kernel
theorem dX3_sizeOf_7 : decode cX3_sizeOf 7 = .ok (.aload_n 0, 1) := by decide +kernel
theorem dX3_sizeOf_8 : decode cX3_sizeOf 8 = .ok (.aload_n 1, 1) := by decide +kernel
theorem dX3_sizeOf_9 : decode cX3_sizeOf 9 = .ok (.invokevirtual 84, 3) := by decide +kernel
theorem dX3_sizeOf_12 : decode cX3_sizeOf 12 = .ok (.ireturn, 1) := by decide +kernel
theorem dX3_sizeOf_13 : decode cX3_sizeOf 13 = .ok (.aload_n 1, 1) := by decide +kernel
theorem dX3_sizeOf_14 : decode cX3_sizeOf 14 = .ok (.getfield 64, 3) := by decide +kernel
theorem dX3_sizeOf_17 : decode cX3_sizeOf 17 = .ok (.iconst 1, 1) := by decide +kernel
theorem dX3_sizeOf_18 : decode cX3_sizeOf 18 = .ok (.if_icmp .ne 10, 3) := by decide +kernel
theorem dX3_sizeOf_21 : decode cX3_sizeOf 21 = .ok (.aload_n 1, 1) := by decide +kernel
theorem dX3_sizeOf_22 : decode cX3_sizeOf 22 = .ok (.getfield 88, 3) := by decide +kernel
theorem dX3_sizeOf_25 : decode cX3_sizeOf 25 = .ok (.goto 7, 3) := by decide +kernel
theorem dX3_sizeOf_28 : decode cX3_sizeOf 28 = .ok (.aload_n 1, 1) := by decide +kernel
theorem dX3_sizeOf_29 : decode cX3_sizeOf 29 = .ok (.getfield 91, 3) := by decide +kernel
theorem dX3_sizeOf_32 : decode cX3_sizeOf 32 = .ok (.ireturn, 1) := by decide +kernel
theorem dX3_seepOf_0 : decode cX3_seepOf 0 = .ok (.aload_n 0, 1) := by decide +kernel
theorem dX3_seepOf_1 : decode cX3_seepOf 1 = .ok (.getfield 21, 3) := by decide +kernel
theorem dX3_seepOf_4 : decode cX3_seepOf 4 = .ok (.getfield 76, 3) := by decide +kernel
theorem dX3_seepOf_7 : decode cX3_seepOf 7 = .ok (.aload_n 1, 1) := by decide +kernel
theorem dX3_seepOf_8 : decode cX3_seepOf 8 = .ok (.getfield 50, 3) := by decide +kernel
theorem dX3_seepOf_11 : decode cX3_seepOf 11 = .ok (.iaload, 1) := by decide +kernel
theorem dX3_seepOf_12 : decode cX3_seepOf 12 = .ok (.istore_n 3, 1) := by decide +kernel
theorem dX3_seepOf_13 : decode cX3_seepOf 13 = .ok (.iload_n 2, 1) := by decide +kernel
theorem dX3_seepOf_14 : decode cX3_seepOf 14 = .ok (.aload_n 0, 1) := by decide +kernel
theorem dX3_seepOf_15 : decode cX3_seepOf 15 = .ok (.getfield 21, 3) := by decide +kernel
theorem dX3_seepOf_18 : decode cX3_seepOf 18 = .ok (.aload_n 1, 1) := by decide +kernel
theorem dX3_seepOf_19 : decode cX3_seepOf 19 = .ok (.getfield 94, 3) := by decide +kernel
theorem dX3_seepOf_22 : decode cX3_seepOf 22 = .ok (.invokevirtual 40, 3) := by decide +kernel
theorem dX3_seepOf_25 : decode cX3_seepOf 25 = .ok (.iload_n 3, 1) := by decide +kernel
theorem dX3_seepOf_26 : decode cX3_seepOf 26 = .ok (.invokestatic 97, 3) := by decide +kernel
theorem dX3_seepOf_29 : decode cX3_seepOf 29 = .ok (.isub, 1) := by decide +kernel
theorem dX3_seepOf_30 : decode cX3_seepOf 30 = .ok (.istore 4, 2) := by decide +kernel
theorem dX3_seepOf_32 : decode cX3_seepOf 32 = .ok (.iload 4, 2) := by decide +kernel
theorem dX3_seepOf_34 : decode cX3_seepOf 34 = .ok (.ifCond .gt 7, 3) := by decide +kernel
theorem dX3_seepOf_37 : decode cX3_seepOf 37 = .ok (.iconst 0, 1) := by decide +kernel
theorem dX3_seepOf_38 : decode cX3_seepOf 38 = .ok (.goto 15, 3) := by decide +kernel
theorem dX3_seepOf_41 : decode cX3_seepOf 41 = .ok (.iload 4, 2) := by decide +kernel
theorem dX3_seepOf_43 : decode cX3_seepOf 43 = .ok (.aload_n 1, 1) := by decide +kernel
theorem dX3_seepOf_44 : decode cX3_seepOf 44 = .ok (.iload_n 3, 1) := by decide +kernel
theorem dX3_seepOf_45 : decode cX3_seepOf 45 = .ok (.iload_n 2, 1) := by decide +kernel
theorem dX3_seepOf_46 : decode cX3_seepOf 46 = .ok (.invokevirtual 100, 3) := by decide +kernel
theorem dX3_seepOf_49 : decode cX3_seepOf 49 = .ok (.imul, 1) := by decide +kernel
theorem dX3_seepOf_50 : decode cX3_seepOf 50 = .ok (.bipush 100, 2) := by decide +kernel
theorem dX3_seepOf_52 : decode cX3_seepOf 52 = .ok (.idiv, 1) := by decide +kernel
theorem dX3_seepOf_53 : decode cX3_seepOf 53 = .ok (.ireturn, 1) := by decide +kernel
theorem dX3_passHour_0 : decode cX3_passHour 0 = .ok (.aload_n 0, 1) := by decide +kernel
theorem dX3_passHour_1 : decode cX3_passHour 1 = .ok (.dup, 1) := by decide +kernel
theorem dX3_passHour_2 : decode cX3_passHour 2 = .ok (.getfield 32, 3) := by decide +kernel
theorem dX3_passHour_5 : decode cX3_passHour 5 = .ok (.iconst 1, 1) := by decide +kernel
theorem dX3_passHour_6 : decode cX3_passHour 6 = .ok (.iadd, 1) := by decide +kernel
theorem dX3_passHour_7 : decode cX3_passHour 7 = .ok (.putfield 32, 3) := by decide +kernel
theorem dX3_passHour_10 : decode cX3_passHour 10 = .ok (.aload_n 0, 1) := by decide +kernel
theorem dX3_passHour_11 : decode cX3_passHour 11 = .ok (.getfield 12, 3) := by decide +kernel
theorem dX3_passHour_14 : decode cX3_passHour 14 = .ok (.aload_n 0, 1) := by decide +kernel
theorem dX3_passHour_15 : decode cX3_passHour 15 = .ok (.getfield 32, 3) := by decide +kernel
theorem dX3_passHour_18 : decode cX3_passHour 18 = .ok (.invokevirtual 44, 3) := by decide +kernel
theorem dX3_passHour_21 : decode cX3_passHour 21 = .ok (.istore_n 1, 1) := by decide +kernel
theorem dX3_passHour_22 : decode cX3_passHour 22 = .ok (.aload_n 0, 1) := by decide +kernel
theorem dX3_passHour_23 : decode cX3_passHour 23 = .ok (.getfield 21, 3) := by decide +kernel
theorem dX3_passHour_26 : decode cX3_passHour 26 = .ok (.aload_n 0, 1) := by decide +kernel
theorem dX3_passHour_27 : decode cX3_passHour 27 = .ok (.getfield 12, 3) := by decide +kernel
theorem dX3_passHour_30 : decode cX3_passHour 30 = .ok (.aload_n 0, 1) := by decide +kernel
theorem dX3_passHour_31 : decode cX3_passHour 31 = .ok (.getfield 32, 3) := by decide +kernel
theorem dX3_passHour_34 : decode cX3_passHour 34 = .ok (.invokevirtual 103, 3) := by decide +kernel
theorem dX3_passHour_37 : decode cX3_passHour 37 = .ok (.invokevirtual 106, 3) := by decide +kernel
theorem dX3_passHour_40 : decode cX3_passHour 40 = .ok (.iconst 0, 1) := by decide +kernel
theorem dX3_passHour_41 : decode cX3_passHour 41 = .ok (.istore_n 2, 1) := by decide +kernel
