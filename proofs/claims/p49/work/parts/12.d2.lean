theorem dX12_adds_0 : decode cX12_adds 0 = .ok (.aload_n 0, 1) := by decide +kernel
theorem dX12_adds_1 : decode cX12_adds 1 = .ok (.getfield 66, 3) := by decide +kernel
theorem dX12_adds_4 : decode cX12_adds 4 = .ok (.sipush 800, 3) := by decide +kernel
theorem dX12_adds_7 : decode cX12_adds 7 = .ok (.aload_n 0, 1) := by decide +kernel
theorem dX12_adds_8 : decode cX12_adds 8 = .ok (.getfield 367, 3) := by decide +kernel
theorem dX12_adds_11 : decode cX12_adds 11 = .ok (.iadd, 1) := by decide +kernel
theorem dX12_adds_12 : decode cX12_adds 12 = .ok (.iload_n 1, 1) := by decide +kernel
theorem dX12_adds_13 : decode cX12_adds 13 = .ok (.iastore, 1) := by decide +kernel
theorem dX12_adds_14 : decode cX12_adds 14 = .ok (.aload_n 0, 1) := by decide +kernel
theorem dX12_adds_15 : decode cX12_adds 15 = .ok (.getfield 69, 3) := by decide +kernel
theorem dX12_adds_18 : decode cX12_adds 18 = .ok (.sipush 800, 3) := by decide +kernel
theorem dX12_adds_21 : decode cX12_adds 21 = .ok (.aload_n 0, 1) := by decide +kernel
theorem dX12_adds_22 : decode cX12_adds 22 = .ok (.getfield 367, 3) := by decide +kernel
theorem dX12_adds_25 : decode cX12_adds 25 = .ok (.iadd, 1) := by decide +kernel
theorem dX12_adds_26 : decode cX12_adds 26 = .ok (.iload_n 2, 1) := by decide +kernel
theorem dX12_adds_27 : decode cX12_adds 27 = .ok (.iastore, 1) := by decide +kernel
theorem dX12_adds_28 : decode cX12_adds 28 = .ok (.aload_n 0, 1) := by decide +kernel
theorem dX12_adds_29 : decode cX12_adds 29 = .ok (.dup, 1) := by decide +kernel
theorem dX12_adds_30 : decode cX12_adds 30 = .ok (.getfield 367, 3) := by decide +kernel
theorem dX12_adds_33 : decode cX12_adds 33 = .ok (.iconst 1, 1) := by decide +kernel
theorem dX12_adds_34 : decode cX12_adds 34 = .ok (.iadd, 1) := by decide +kernel
theorem dX12_adds_35 : decode cX12_adds 35 = .ok (.putfield 367, 3) := by decide +kernel
theorem dX12_adds_38 : decode cX12_adds 38 = .ok (.return_, 1) := by decide +kernel
theorem dX12_back_0 : decode cX12_back 0 = .ok (.aload_n 0, 1) := by decide +kernel
theorem dX12_back_1 : decode cX12_back 1 = .ok (.iconst 0, 1) := by decide +kernel
theorem dX12_back_2 : decode cX12_back 2 = .ok (.putfield 194, 3) := by decide +kernel
theorem dX12_back_5 : decode cX12_back 5 = .ok (.aload_n 0, 1) := by decide +kernel
theorem dX12_back_6 : decode cX12_back 6 = .ok (.getfield 325, 3) := by decide +kernel
theorem dX12_back_9 : decode cX12_back 9 = .ok (.ifCond .eq 18, 3) := by decide +kernel
theorem dX12_back_12 : decode cX12_back 12 = .ok (.aload_n 0, 1) := by decide +kernel
theorem dX12_back_13 : decode cX12_back 13 = .ok (.getfield 13, 3) := by decide +kernel
theorem dX12_back_16 : decode cX12_back 16 = .ok (.sipush 1429, 3) := by decide +kernel
theorem dX12_back_19 : decode cX12_back 19 = .ok (.iaload, 1) := by decide +kernel
theorem dX12_back_20 : decode cX12_back 20 = .ok (.aload_n 0, 1) := by decide +kernel
theorem dX12_back_21 : decode cX12_back 21 = .ok (.invokevirtual 228, 3) := by decide +kernel
theorem dX12_back_24 : decode cX12_back 24 = .ok (.if_icmp .le 5, 3) := by decide +kernel
theorem dX12_back_27 : decode cX12_back 27 = .ok (.iconst 0, 1) := by decide +kernel
theorem dX12_back_28 : decode cX12_back 28 = .ok (.ireturn, 1) := by decide +kernel
theorem dX12_back_29 : decode cX12_back 29 = .ok (.iconst 0, 1) := by decide +kernel
theorem dX12_back_30 : decode cX12_back 30 = .ok (.istore_n 1, 1) := by decide +kernel
theorem dX12_back_31 : decode cX12_back 31 = .ok (.iload_n 1, 1) := by decide +kernel
theorem dX12_back_32 : decode cX12_back 32 = .ok (.sipush 1749, 3) := by decide +kernel
theorem dX12_back_35 : decode cX12_back 35 = .ok (.if_icmp .ge 21, 3) := by decide +kernel
theorem dX12_back_38 : decode cX12_back 38 = .ok (.aload_n 0, 1) := by decide +kernel
theorem dX12_back_39 : decode cX12_back 39 = .ok (.getfield 9, 3) := by decide +kernel
theorem dX12_back_42 : decode cX12_back 42 = .ok (.iload_n 1, 1) := by decide +kernel
theorem dX12_back_43 : decode cX12_back 43 = .ok (.aload_n 0, 1) := by decide +kernel
theorem dX12_back_44 : decode cX12_back 44 = .ok (.getfield 13, 3) := by decide +kernel
theorem dX12_back_47 : decode cX12_back 47 = .ok (.iload_n 1, 1) := by decide +kernel
theorem dX12_back_48 : decode cX12_back 48 = .ok (.iaload, 1) := by decide +kernel
theorem dX12_back_49 : decode cX12_back 49 = .ok (.iastore, 1) := by decide +kernel
theorem dX12_back_50 : decode cX12_back 50 = .ok (.iinc 1 1, 3) := by decide +kernel
theorem dX12_back_53 : decode cX12_back 53 = .ok (.goto (-22), 3) := by decide +kernel
theorem dX12_back_56 : decode cX12_back 56 = .ok (.aload_n 0, 1) := by decide +kernel
theorem dX12_back_57 : decode cX12_back 57 = .ok (.iconst 0, 1) := by decide +kernel
theorem dX12_back_58 : decode cX12_back 58 = .ok (.putfield 238, 3) := by decide +kernel
theorem dX12_back_61 : decode cX12_back 61 = .ok (.iconst 1, 1) := by decide +kernel
theorem dX12_back_62 : decode cX12_back 62 = .ok (.ireturn, 1) := by decide +kernel
theorem dX12_blanks_0 : decode cX12_blanks 0 = .ok (.aload_n 0, 1) := by decide +kernel
theorem dX12_blanks_1 : decode cX12_blanks 1 = .ok (.bipush 32, 2) := by decide +kernel
theorem dX12_blanks_3 : decode cX12_blanks 3 = .ok (.bipush 32, 2) := by decide +kernel
theorem dX12_blanks_5 : decode cX12_blanks 5 = .ok (.invokevirtual 341, 3) := by decide +kernel
theorem dX12_blanks_8 : decode cX12_blanks 8 = .ok (.ifCond .eq 16, 3) := by decide +kernel
theorem dX12_blanks_11 : decode cX12_blanks 11 = .ok (.aload_n 0, 1) := by decide +kernel
theorem dX12_blanks_12 : decode cX12_blanks 12 = .ok (.dup, 1) := by decide +kernel
theorem dX12_blanks_13 : decode cX12_blanks 13 = .ok (.getfield 335, 3) := by decide +kernel
theorem dX12_blanks_16 : decode cX12_blanks 16 = .ok (.iconst 1, 1) := by decide +kernel
theorem dX12_blanks_17 : decode cX12_blanks 17 = .ok (.iadd, 1) := by decide +kernel
theorem dX12_blanks_18 : decode cX12_blanks 18 = .ok (.putfield 335, 3) := by decide +kernel
theorem dX12_blanks_21 : decode cX12_blanks 21 = .ok (.goto (-21), 3) := by decide +kernel
theorem dX12_blanks_24 : decode cX12_blanks 24 = .ok (.aload_n 0, 1) := by decide +kernel
theorem dX12_blanks_25 : decode cX12_blanks 25 = .ok (.aload_n 0, 1) := by decide +kernel
theorem dX12_blanks_26 : decode cX12_blanks 26 = .ok (.getfield 335, 3) := by decide +kernel
theorem dX12_blanks_29 : decode cX12_blanks 29 = .ok (.putfield 345, 3) := by decide +kernel
theorem dX12_blanks_32 : decode cX12_blanks 32 = .ok (.return_, 1) := by decide +kernel
theorem dX12_builds_0 : decode cX12_builds 0 = .ok (.aload_n 0, 1) := by decide +kernel
theorem dX12_builds_1 : decode cX12_builds 1 = .ok (.getfield 9, 3) := by decide +kernel
theorem dX12_builds_4 : decode cX12_builds 4 = .ok (.sipush 1428, 3) := by decide +kernel
theorem dX12_builds_7 : decode cX12_builds 7 = .ok (.iaload, 1) := by decide +kernel
theorem dX12_builds_8 : decode cX12_builds 8 = .ok (.istore 6, 2) := by decide +kernel
theorem dX12_builds_10 : decode cX12_builds 10 = .ok (.iconst 0, 1) := by decide +kernel
theorem dX12_builds_11 : decode cX12_builds 11 = .ok (.istore 7, 2) := by decide +kernel
theorem dX12_builds_13 : decode cX12_builds 13 = .ok (.iload 7, 2) := by decide +kernel
theorem dX12_builds_15 : decode cX12_builds 15 = .ok (.bipush 22, 2) := by decide +kernel
theorem dX12_builds_17 : decode cX12_builds 17 = .ok (.if_icmp .ge 22, 3) := by decide +kernel
theorem dX12_builds_20 : decode cX12_builds 20 = .ok (.aload_n 0, 1) := by decide +kernel
theorem dX12_builds_21 : decode cX12_builds 21 = .ok (.getfield 9, 3) := by decide +kernel
theorem dX12_builds_24 : decode cX12_builds 24 = .ok (.iload 6, 2) := by decide +kernel
theorem dX12_builds_26 : decode cX12_builds 26 = .ok (.iload 7, 2) := by decide +kernel
theorem dX12_builds_28 : decode cX12_builds 28 = .ok (.invokestatic 214, 3) := by decide +kernel
theorem dX12_builds_31 : decode cX12_builds 31 = .ok (.iconst 0, 1) := by decide +kernel
theorem dX12_builds_32 : decode cX12_builds 32 = .ok (.iastore, 1) := by decide +kernel
theorem dX12_builds_33 : decode cX12_builds 33 = .ok (.iinc 7 1, 3) := by decide +kernel
theorem dX12_builds_36 : decode cX12_builds 36 = .ok (.goto (-23), 3) := by decide +kernel
theorem dX12_builds_39 : decode cX12_builds 39 = .ok (.aload_n 0, 1) := by decide +kernel
theorem dX12_builds_40 : decode cX12_builds 40 = .ok (.getfield 9, 3) := by decide +kernel
theorem dX12_builds_43 : decode cX12_builds 43 = .ok (.iload 6, 2) := by decide +kernel
theorem dX12_builds_45 : decode cX12_builds 45 = .ok (.iconst 0, 1) := by decide +kernel
theorem dX12_builds_46 : decode cX12_builds 46 = .ok (.invokestatic 214, 3) := by decide +kernel
theorem dX12_builds_49 : decode cX12_builds 49 = .ok (.iload_n 1, 1) := by decide +kernel
theorem dX12_builds_50 : decode cX12_builds 50 = .ok (.iastore, 1) := by decide +kernel
theorem dX12_builds_51 : decode cX12_builds 51 = .ok (.aload_n 0, 1) := by decide +kernel
theorem dX12_builds_52 : decode cX12_builds 52 = .ok (.getfield 9, 3) := by decide +kernel
theorem dX12_builds_55 : decode cX12_builds 55 = .ok (.iload 6, 2) := by decide +kernel
theorem dX12_builds_57 : decode cX12_builds 57 = .ok (.iconst 1, 1) := by decide +kernel
theorem dX12_builds_58 : decode cX12_builds 58 = .ok (.invokestatic 214, 3) := by decide +kernel
theorem dX12_builds_61 : decode cX12_builds 61 = .ok (.iload_n 2, 1) := by decide +kernel
theorem dX12_builds_62 : decode cX12_builds 62 = .ok (.iastore, 1) := by decide +kernel
theorem dX12_builds_63 : decode cX12_builds 63 = .ok (.aload_n 0, 1) := by decide +kernel
theorem dX12_builds_64 : decode cX12_builds 64 = .ok (.getfield 9, 3) := by decide +kernel
theorem dX12_builds_67 : decode cX12_builds 67 = .ok (.iload 6, 2) := by decide +kernel
theorem dX12_builds_69 : decode cX12_builds 69 = .ok (.iconst 2, 1) := by decide +kernel
theorem dX12_builds_70 : decode cX12_builds 70 = .ok (.invokestatic 214, 3) := by decide +kernel
theorem dX12_builds_73 : decode cX12_builds 73 = .ok (.iload_n 3, 1) := by decide +kernel
theorem dX12_builds_74 : decode cX12_builds 74 = .ok (.iastore, 1) := by decide +kernel
theorem dX12_builds_75 : decode cX12_builds 75 = .ok (.aload_n 0, 1) := by decide +kernel
theorem dX12_builds_76 : decode cX12_builds 76 = .ok (.getfield 9, 3) := by decide +kernel
theorem dX12_builds_79 : decode cX12_builds 79 = .ok (.iload 6, 2) := by decide +kernel
theorem dX12_builds_81 : decode cX12_builds 81 = .ok (.iconst 3, 1) := by decide +kernel
theorem dX12_builds_82 : decode cX12_builds 82 = .ok (.invokestatic 214, 3) := by decide +kernel
theorem dX12_builds_85 : decode cX12_builds 85 = .ok (.iload 4, 2) := by decide +kernel
theorem dX12_builds_87 : decode cX12_builds 87 = .ok (.iastore, 1) := by decide +kernel
theorem dX12_builds_88 : decode cX12_builds 88 = .ok (.aload_n 0, 1) := by decide +kernel
theorem dX12_builds_89 : decode cX12_builds 89 = .ok (.getfield 9, 3) := by decide +kernel
theorem dX12_builds_92 : decode cX12_builds 92 = .ok (.iload 6, 2) := by decide +kernel
theorem dX12_builds_94 : decode cX12_builds 94 = .ok (.bipush 17, 2) := by decide +kernel
theorem dX12_builds_96 : decode cX12_builds 96 = .ok (.invokestatic 214, 3) := by decide +kernel
theorem dX12_builds_99 : decode cX12_builds 99 = .ok (.iload 5, 2) := by decide +kernel
theorem dX12_builds_101 : decode cX12_builds 101 = .ok (.iastore, 1) := by decide +kernel
theorem dX12_builds_102 : decode cX12_builds 102 = .ok (.aload_n 0, 1) := by decide +kernel
theorem dX12_builds_103 : decode cX12_builds 103 = .ok (.getfield 9, 3) := by decide +kernel
theorem dX12_builds_106 : decode cX12_builds 106 = .ok (.sipush 1428, 3) := by decide +kernel
theorem dX12_builds_109 : decode cX12_builds 109 = .ok (.dup2, 1) := by decide +kernel
theorem dX12_builds_110 : decode cX12_builds 110 = .ok (.iaload, 1) := by decide +kernel
theorem dX12_builds_111 : decode cX12_builds 111 = .ok (.iconst 1, 1) := by decide +kernel
theorem dX12_builds_112 : decode cX12_builds 112 = .ok (.iadd, 1) := by decide +kernel
theorem dX12_builds_113 : decode cX12_builds 113 = .ok (.iastore, 1) := by decide +kernel
theorem dX12_builds_114 : decode cX12_builds 114 = .ok (.aload_n 0, 1) := by decide +kernel
theorem dX12_builds_115 : decode cX12_builds 115 = .ok (.iconst 0, 1) := by decide +kernel
theorem dX12_builds_116 : decode cX12_builds 116 = .ok (.putfield 238, 3) := by decide +kernel
theorem dX12_builds_119 : decode cX12_builds 119 = .ok (.iload 6, 2) := by decide +kernel
theorem dX12_builds_121 : decode cX12_builds 121 = .ok (.ireturn, 1) := by decide +kernel
theorem dX12_check_0 : decode cX12_check 0 = .ok (.aload_n 0, 1) := by decide +kernel
theorem dX12_check_1 : decode cX12_check 1 = .ok (.iconst 0, 1) := by decide +kernel
theorem dX12_check_2 : decode cX12_check 2 = .ok (.putfield 194, 3) := by decide +kernel
theorem dX12_check_5 : decode cX12_check 5 = .ok (.iconst 0, 1) := by decide +kernel
theorem dX12_check_6 : decode cX12_check 6 = .ok (.istore_n 1, 1) := by decide +kernel
theorem dX12_check_7 : decode cX12_check 7 = .ok (.iload_n 1, 1) := by decide +kernel
theorem dX12_check_8 : decode cX12_check 8 = .ok (.bipush 96, 2) := by decide +kernel
theorem dX12_check_10 : decode cX12_check 10 = .ok (.aload_n 0, 1) := by decide +kernel
theorem dX12_check_11 : decode cX12_check 11 = .ok (.getfield 238, 3) := by decide +kernel
theorem dX12_check_14 : decode cX12_check 14 = .ok (.imul, 1) := by decide +kernel
theorem dX12_check_15 : decode cX12_check 15 = .ok (.if_icmp .ge 26, 3) := by decide +kernel
theorem dX12_check_18 : decode cX12_check 18 = .ok (.aload_n 0, 1) := by decide +kernel
theorem dX12_check_19 : decode cX12_check 19 = .ok (.getfield 25, 3) := by decide +kernel
theorem dX12_check_22 : decode cX12_check 22 = .ok (.iload_n 1, 1) := by decide +kernel
theorem dX12_check_23 : decode cX12_check 23 = .ok (.iaload, 1) := by decide +kernel
theorem dX12_check_24 : decode cX12_check 24 = .ok (.aload_n 0, 1) := by decide +kernel
theorem dX12_check_25 : decode cX12_check 25 = .ok (.getfield 28, 3) := by decide +kernel
theorem dX12_check_28 : decode cX12_check 28 = .ok (.iload_n 1, 1) := by decide +kernel
theorem dX12_check_29 : decode cX12_check 29 = .ok (.iaload, 1) := by decide +kernel
theorem dX12_check_30 : decode cX12_check 30 = .ok (.if_icmp .eq 5, 3) := by decide +kernel
theorem dX12_check_33 : decode cX12_check 33 = .ok (.iload_n 1, 1) := by decide +kernel
theorem dX12_check_34 : decode cX12_check 34 = .ok (.ireturn, 1) := by decide +kernel
theorem dX12_check_35 : decode cX12_check 35 = .ok (.iinc 1 1, 3) := by decide +kernel
theorem dX12_check_38 : decode cX12_check 38 = .ok (.goto (-31), 3) := by decide +kernel
theorem dX12_check_41 : decode cX12_check 41 = .ok (.iconst (-1), 1) := by decide +kernel
theorem dX12_check_42 : decode cX12_check 42 = .ok (.ireturn, 1) := by decide +kernel
theorem dX12_ditches_0 : decode cX12_ditches 0 = .ok (.iconst 0, 1) := by decide +kernel
theorem dX12_ditches_1 : decode cX12_ditches 1 = .ok (.istore_n 1, 1) := by decide +kernel
theorem dX12_ditches_2 : decode cX12_ditches 2 = .ok (.iload_n 1, 1) := by decide +kernel
theorem dX12_ditches_3 : decode cX12_ditches 3 = .ok (.bipush 96, 2) := by decide +kernel
theorem dX12_ditches_5 : decode cX12_ditches 5 = .ok (.if_icmp .ge 210, 3) := by decide +kernel
theorem dX12_ditches_8 : decode cX12_ditches 8 = .ok (.aload_n 0, 1) := by decide +kernel
theorem dX12_ditches_9 : decode cX12_ditches 9 = .ok (.getfield 16, 3) := by decide +kernel
theorem dX12_ditches_12 : decode cX12_ditches 12 = .ok (.iload_n 1, 1) := by decide +kernel
theorem dX12_ditches_13 : decode cX12_ditches 13 = .ok (.iconst 0, 1) := by decide +kernel
theorem dX12_ditches_14 : decode cX12_ditches 14 = .ok (.iastore, 1) := by decide +kernel
theorem dX12_ditches_15 : decode cX12_ditches 15 = .ok (.aload_n 0, 1) := by decide +kernel
theorem dX12_ditches_16 : decode cX12_ditches 16 = .ok (.iload_n 1, 1) := by decide +kernel
theorem dX12_ditches_17 : decode cX12_ditches 17 = .ok (.invokevirtual 298, 3) := by decide +kernel
theorem dX12_ditches_20 : decode cX12_ditches 20 = .ok (.ifCond .ne 6, 3) := by decide +kernel
theorem dX12_ditches_23 : decode cX12_ditches 23 = .ok (.goto 186, 3) := by decide +kernel
theorem dX12_ditches_26 : decode cX12_ditches 26 = .ok (.iconst (-1), 1) := by decide +kernel
theorem dX12_ditches_27 : decode cX12_ditches 27 = .ok (.istore_n 2, 1) := by decide +kernel
theorem dX12_ditches_28 : decode cX12_ditches 28 = .ok (.iconst 0, 1) := by decide +kernel
theorem dX12_ditches_29 : decode cX12_ditches 29 = .ok (.istore_n 3, 1) := by decide +kernel
theorem dX12_ditches_30 : decode cX12_ditches 30 = .ok (.iload_n 3, 1) := by decide +kernel
theorem dX12_ditches_31 : decode cX12_ditches 31 = .ok (.iconst 4, 1) := by decide +kernel
theorem dX12_ditches_32 : decode cX12_ditches 32 = .ok (.if_icmp .ge 51, 3) := by decide +kernel
theorem dX12_ditches_35 : decode cX12_ditches 35 = .ok (.iload_n 1, 1) := by decide +kernel
theorem dX12_ditches_36 : decode cX12_ditches 36 = .ok (.iload_n 3, 1) := by decide +kernel
theorem dX12_ditches_37 : decode cX12_ditches 37 = .ok (.invokestatic 301, 3) := by decide +kernel
theorem dX12_ditches_40 : decode cX12_ditches 40 = .ok (.istore 4, 2) := by decide +kernel
theorem dX12_ditches_42 : decode cX12_ditches 42 = .ok (.iload 4, 2) := by decide +kernel
theorem dX12_ditches_44 : decode cX12_ditches 44 = .ok (.ifCond .lt 33, 3) := by decide +kernel
theorem dX12_ditches_47 : decode cX12_ditches 47 = .ok (.aload_n 0, 1) := by decide +kernel
theorem dX12_ditches_48 : decode cX12_ditches 48 = .ok (.iload 4, 2) := by decide +kernel
theorem dX12_ditches_50 : decode cX12_ditches 50 = .ok (.invokevirtual 298, 3) := by decide +kernel
theorem dX12_ditches_53 : decode cX12_ditches 53 = .ok (.ifCond .eq 24, 3) := by decide +kernel
theorem dX12_ditches_56 : decode cX12_ditches 56 = .ok (.iload_n 2, 1) := by decide +kernel
theorem dX12_ditches_57 : decode cX12_ditches 57 = .ok (.ifCond .lt 17, 3) := by decide +kernel
theorem dX12_ditches_60 : decode cX12_ditches 60 = .ok (.aload_n 0, 1) := by decide +kernel
theorem dX12_ditches_61 : decode cX12_ditches 61 = .ok (.iload 4, 2) := by decide +kernel
theorem dX12_ditches_63 : decode cX12_ditches 63 = .ok (.invokevirtual 285, 3) := by decide +kernel
theorem dX12_ditches_66 : decode cX12_ditches 66 = .ok (.aload_n 0, 1) := by decide +kernel
theorem dX12_ditches_67 : decode cX12_ditches 67 = .ok (.iload_n 2, 1) := by decide +kernel
theorem dX12_ditches_68 : decode cX12_ditches 68 = .ok (.invokevirtual 285, 3) := by decide +kernel
theorem dX12_ditches_71 : decode cX12_ditches 71 = .ok (.if_icmp .ge 6, 3) := by decide +kernel
theorem dX12_ditches_74 : decode cX12_ditches 74 = .ok (.iload 4, 2) := by decide +kernel
theorem dX12_ditches_76 : decode cX12_ditches 76 = .ok (.istore_n 2, 1) := by decide +kernel
theorem dX12_ditches_77 : decode cX12_ditches 77 = .ok (.iinc 3 1, 3) := by decide +kernel
theorem dX12_ditches_80 : decode cX12_ditches 80 = .ok (.goto (-50), 3) := by decide +kernel
theorem dX12_ditches_83 : decode cX12_ditches 83 = .ok (.iload_n 2, 1) := by decide +kernel
theorem dX12_ditches_84 : decode cX12_ditches 84 = .ok (.ifCond .lt 125, 3) := by decide +kernel
theorem dX12_ditches_87 : decode cX12_ditches 87 = .ok (.aload_n 0, 1) := by decide +kernel
theorem dX12_ditches_88 : decode cX12_ditches 88 = .ok (.iload_n 2, 1) := by decide +kernel
theorem dX12_ditches_89 : decode cX12_ditches 89 = .ok (.invokevirtual 285, 3) := by decide +kernel
theorem dX12_ditches_92 : decode cX12_ditches 92 = .ok (.aload_n 0, 1) := by decide +kernel
theorem dX12_ditches_93 : decode cX12_ditches 93 = .ok (.iload_n 1, 1) := by decide +kernel
theorem dX12_ditches_94 : decode cX12_ditches 94 = .ok (.invokevirtual 285, 3) := by decide +kernel
theorem dX12_ditches_97 : decode cX12_ditches 97 = .ok (.if_icmp .lt 6, 3) := by decide +kernel
theorem dX12_ditches_100 : decode cX12_ditches 100 = .ok (.goto 109, 3) := by decide +kernel
theorem dX12_ditches_103 : decode cX12_ditches 103 = .ok (.aload_n 0, 1) := by decide +kernel
theorem dX12_ditches_104 : decode cX12_ditches 104 = .ok (.getfield 19, 3) := by decide +kernel
theorem dX12_ditches_107 : decode cX12_ditches 107 = .ok (.iload_n 1, 1) := by decide +kernel
theorem dX12_ditches_108 : decode cX12_ditches 108 = .ok (.iload_n 2, 1) := by decide +kernel
theorem dX12_ditches_109 : decode cX12_ditches 109 = .ok (.iastore, 1) := by decide +kernel
theorem dX12_ditches_110 : decode cX12_ditches 110 = .ok (.aload_n 0, 1) := by decide +kernel
theorem dX12_ditches_111 : decode cX12_ditches 111 = .ok (.getfield 16, 3) := by decide +kernel
theorem dX12_ditches_114 : decode cX12_ditches 114 = .ok (.iload_n 1, 1) := by decide +kernel
theorem dX12_ditches_115 : decode cX12_ditches 115 = .ok (.aload_n 0, 1) := by decide +kernel
theorem dX12_ditches_116 : decode cX12_ditches 116 = .ok (.getfield 9, 3) := by decide +kernel
theorem dX12_ditches_119 : decode cX12_ditches 119 = .ok (.sipush 384, 3) := by decide +kernel
theorem dX12_ditches_122 : decode cX12_ditches 122 = .ok (.iload_n 1, 1) := by decide +kernel
theorem dX12_ditches_123 : decode cX12_ditches 123 = .ok (.iadd, 1) := by decide +kernel
theorem dX12_ditches_124 : decode cX12_ditches 124 = .ok (.iaload, 1) := by decide +kernel
theorem dX12_ditches_125 : decode cX12_ditches 125 = .ok (.aload_n 0, 1) := by decide +kernel
theorem dX12_ditches_126 : decode cX12_ditches 126 = .ok (.iload_n 1, 1) := by decide +kernel
theorem dX12_ditches_127 : decode cX12_ditches 127 = .ok (.invokevirtual 285, 3) := by decide +kernel
theorem dX12_ditches_130 : decode cX12_ditches 130 = .ok (.aload_n 0, 1) := by decide +kernel
theorem dX12_ditches_131 : decode cX12_ditches 131 = .ok (.iload_n 2, 1) := by decide +kernel
theorem dX12_ditches_132 : decode cX12_ditches 132 = .ok (.invokevirtual 285, 3) := by decide +kernel
theorem dX12_ditches_135 : decode cX12_ditches 135 = .ok (.isub, 1) := by decide +kernel
theorem dX12_ditches_136 : decode cX12_ditches 136 = .ok (.iconst 2, 1) := by decide +kernel
theorem dX12_ditches_137 : decode cX12_ditches 137 = .ok (.idiv, 1) := by decide +kernel
theorem dX12_ditches_138 : decode cX12_ditches 138 = .ok (.aload_n 0, 1) := by decide +kernel
theorem dX12_ditches_139 : decode cX12_ditches 139 = .ok (.getfield 9, 3) := by decide +kernel
theorem dX12_ditches_142 : decode cX12_ditches 142 = .ok (.sipush 288, 3) := by decide +kernel
theorem dX12_ditches_145 : decode cX12_ditches 145 = .ok (.iload_n 1, 1) := by decide +kernel
theorem dX12_ditches_146 : decode cX12_ditches 146 = .ok (.iadd, 1) := by decide +kernel
theorem dX12_ditches_147 : decode cX12_ditches 147 = .ok (.iaload, 1) := by decide +kernel
theorem dX12_ditches_148 : decode cX12_ditches 148 = .ok (.aload_n 0, 1) := by decide +kernel
theorem dX12_ditches_149 : decode cX12_ditches 149 = .ok (.getfield 9, 3) := by decide +kernel
theorem dX12_ditches_152 : decode cX12_ditches 152 = .ok (.sipush 288, 3) := by decide +kernel
theorem dX12_ditches_155 : decode cX12_ditches 155 = .ok (.iload_n 2, 1) := by decide +kernel
theorem dX12_ditches_156 : decode cX12_ditches 156 = .ok (.iadd, 1) := by decide +kernel
theorem dX12_ditches_157 : decode cX12_ditches 157 = .ok (.iaload, 1) := by decide +kernel
theorem dX12_ditches_158 : decode cX12_ditches 158 = .ok (.invokestatic 207, 3) := by decide +kernel
theorem dX12_ditches_161 : decode cX12_ditches 161 = .ok (.invokestatic 207, 3) := by decide +kernel
theorem dX12_ditches_164 : decode cX12_ditches 164 = .ok (.invokestatic 207, 3) := by decide +kernel
theorem dX12_ditches_167 : decode cX12_ditches 167 = .ok (.iastore, 1) := by decide +kernel
theorem dX12_ditches_168 : decode cX12_ditches 168 = .ok (.aload_n 0, 1) := by decide +kernel
theorem dX12_ditches_169 : decode cX12_ditches 169 = .ok (.getfield 22, 3) := by decide +kernel
theorem dX12_ditches_172 : decode cX12_ditches 172 = .ok (.iload_n 1, 1) := by decide +kernel
theorem dX12_ditches_173 : decode cX12_ditches 173 = .ok (.aload_n 0, 1) := by decide +kernel
theorem dX12_ditches_174 : decode cX12_ditches 174 = .ok (.getfield 9, 3) := by decide +kernel
theorem dX12_ditches_177 : decode cX12_ditches 177 = .ok (.sipush 480, 3) := by decide +kernel
theorem dX12_ditches_180 : decode cX12_ditches 180 = .ok (.iload_n 1, 1) := by decide +kernel
theorem dX12_ditches_181 : decode cX12_ditches 181 = .ok (.iadd, 1) := by decide +kernel
theorem dX12_ditches_182 : decode cX12_ditches 182 = .ok (.iaload, 1) := by decide +kernel
theorem dX12_ditches_183 : decode cX12_ditches 183 = .ok (.i2l, 1) := by decide +kernel
theorem dX12_ditches_184 : decode cX12_ditches 184 = .ok (.aload_n 0, 1) := by decide +kernel
theorem dX12_ditches_185 : decode cX12_ditches 185 = .ok (.getfield 16, 3) := by decide +kernel
theorem dX12_ditches_188 : decode cX12_ditches 188 = .ok (.iload_n 1, 1) := by decide +kernel
theorem dX12_ditches_189 : decode cX12_ditches 189 = .ok (.iaload, 1) := by decide +kernel
theorem dX12_ditches_190 : decode cX12_ditches 190 = .ok (.i2l, 1) := by decide +kernel
theorem dX12_ditches_191 : decode cX12_ditches 191 = .ok (.lmul, 1) := by decide +kernel
theorem dX12_ditches_192 : decode cX12_ditches 192 = .ok (.aload_n 0, 1) := by decide +kernel
theorem dX12_ditches_193 : decode cX12_ditches 193 = .ok (.getfield 9, 3) := by decide +kernel
theorem dX12_ditches_196 : decode cX12_ditches 196 = .ok (.sipush 384, 3) := by decide +kernel
theorem dX12_ditches_199 : decode cX12_ditches 199 = .ok (.iload_n 1, 1) := by decide +kernel
theorem dX12_ditches_200 : decode cX12_ditches 200 = .ok (.iadd, 1) := by decide +kernel
theorem dX12_ditches_201 : decode cX12_ditches 201 = .ok (.iaload, 1) := by decide +kernel
theorem dX12_ditches_202 : decode cX12_ditches 202 = .ok (.bipush 10, 2) := by decide +kernel
theorem dX12_ditches_204 : decode cX12_ditches 204 = .ok (.iadd, 1) := by decide +kernel
theorem dX12_ditches_205 : decode cX12_ditches 205 = .ok (.i2l, 1) := by decide +kernel
theorem dX12_ditches_206 : decode cX12_ditches 206 = .ok (.ldiv, 1) := by decide +kernel
theorem dX12_ditches_207 : decode cX12_ditches 207 = .ok (.l2i, 1) := by decide +kernel
theorem dX12_ditches_208 : decode cX12_ditches 208 = .ok (.iastore, 1) := by decide +kernel
theorem dX12_ditches_209 : decode cX12_ditches 209 = .ok (.iinc 1 1, 3) := by decide +kernel
theorem dX12_ditches_212 : decode cX12_ditches 212 = .ok (.goto (-210), 3) := by decide +kernel
theorem dX12_ditches_215 : decode cX12_ditches 215 = .ok (.iconst 0, 1) := by decide +kernel
theorem dX12_ditches_216 : decode cX12_ditches 216 = .ok (.istore_n 1, 1) := by decide +kernel
theorem dX12_ditches_217 : decode cX12_ditches 217 = .ok (.iload_n 1, 1) := by decide +kernel
theorem dX12_ditches_218 : decode cX12_ditches 218 = .ok (.bipush 96, 2) := by decide +kernel
theorem dX12_ditches_220 : decode cX12_ditches 220 = .ok (.if_icmp .ge 107, 3) := by decide +kernel
theorem dX12_ditches_223 : decode cX12_ditches 223 = .ok (.aload_n 0, 1) := by decide +kernel
theorem dX12_ditches_224 : decode cX12_ditches 224 = .ok (.getfield 16, 3) := by decide +kernel
theorem dX12_ditches_227 : decode cX12_ditches 227 = .ok (.iload_n 1, 1) := by decide +kernel
theorem dX12_ditches_228 : decode cX12_ditches 228 = .ok (.iaload, 1) := by decide +kernel
theorem dX12_ditches_229 : decode cX12_ditches 229 = .ok (.ifCond .ne 6, 3) := by decide +kernel
theorem dX12_ditches_232 : decode cX12_ditches 232 = .ok (.goto 89, 3) := by decide +kernel
theorem dX12_ditches_235 : decode cX12_ditches 235 = .ok (.aload_n 0, 1) := by decide +kernel
theorem dX12_ditches_236 : decode cX12_ditches 236 = .ok (.getfield 9, 3) := by decide +kernel
theorem dX12_ditches_239 : decode cX12_ditches 239 = .ok (.sipush 384, 3) := by decide +kernel
theorem dX12_ditches_242 : decode cX12_ditches 242 = .ok (.iload_n 1, 1) := by decide +kernel
theorem dX12_ditches_243 : decode cX12_ditches 243 = .ok (.iadd, 1) := by decide +kernel
theorem dX12_ditches_244 : decode cX12_ditches 244 = .ok (.dup2, 1) := by decide +kernel
theorem dX12_ditches_245 : decode cX12_ditches 245 = .ok (.iaload, 1) := by decide +kernel
theorem dX12_ditches_246 : decode cX12_ditches 246 = .ok (.aload_n 0, 1) := by decide +kernel
theorem dX12_ditches_247 : decode cX12_ditches 247 = .ok (.getfield 16, 3) := by decide +kernel
theorem dX12_ditches_250 : decode cX12_ditches 250 = .ok (.iload_n 1, 1) := by decide +kernel
theorem dX12_ditches_251 : decode cX12_ditches 251 = .ok (.iaload, 1) := by decide +kernel
theorem dX12_ditches_252 : decode cX12_ditches 252 = .ok (.isub, 1) := by decide +kernel
theorem dX12_ditches_253 : decode cX12_ditches 253 = .ok (.iastore, 1) := by decide +kernel
theorem dX12_ditches_254 : decode cX12_ditches 254 = .ok (.aload_n 0, 1) := by decide +kernel
theorem dX12_ditches_255 : decode cX12_ditches 255 = .ok (.getfield 9, 3) := by decide +kernel
theorem dX12_ditches_258 : decode cX12_ditches 258 = .ok (.sipush 480, 3) := by decide +kernel
theorem dX12_ditches_261 : decode cX12_ditches 261 = .ok (.iload_n 1, 1) := by decide +kernel
theorem dX12_ditches_262 : decode cX12_ditches 262 = .ok (.iadd, 1) := by decide +kernel
theorem dX12_ditches_263 : decode cX12_ditches 263 = .ok (.dup2, 1) := by decide +kernel
theorem dX12_ditches_264 : decode cX12_ditches 264 = .ok (.iaload, 1) := by decide +kernel
theorem dX12_ditches_265 : decode cX12_ditches 265 = .ok (.aload_n 0, 1) := by decide +kernel
theorem dX12_ditches_266 : decode cX12_ditches 266 = .ok (.getfield 22, 3) := by decide +kernel
theorem dX12_ditches_269 : decode cX12_ditches 269 = .ok (.iload_n 1, 1) := by decide +kernel
theorem dX12_ditches_270 : decode cX12_ditches 270 = .ok (.iaload, 1) := by decide +kernel
theorem dX12_ditches_271 : decode cX12_ditches 271 = .ok (.isub, 1) := by decide +kernel
theorem dX12_ditches_272 : decode cX12_ditches 272 = .ok (.iastore, 1) := by decide +kernel
theorem dX12_ditches_273 : decode cX12_ditches 273 = .ok (.aload_n 0, 1) := by decide +kernel
theorem dX12_ditches_274 : decode cX12_ditches 274 = .ok (.getfield 9, 3) := by decide +kernel
theorem dX12_ditches_277 : decode cX12_ditches 277 = .ok (.sipush 384, 3) := by decide +kernel
theorem dX12_ditches_280 : decode cX12_ditches 280 = .ok (.aload_n 0, 1) := by decide +kernel
theorem dX12_ditches_281 : decode cX12_ditches 281 = .ok (.getfield 19, 3) := by decide +kernel
theorem dX12_ditches_284 : decode cX12_ditches 284 = .ok (.iload_n 1, 1) := by decide +kernel
theorem dX12_ditches_285 : decode cX12_ditches 285 = .ok (.iaload, 1) := by decide +kernel
theorem dX12_ditches_286 : decode cX12_ditches 286 = .ok (.iadd, 1) := by decide +kernel
theorem dX12_ditches_287 : decode cX12_ditches 287 = .ok (.dup2, 1) := by decide +kernel
theorem dX12_ditches_288 : decode cX12_ditches 288 = .ok (.iaload, 1) := by decide +kernel
theorem dX12_ditches_289 : decode cX12_ditches 289 = .ok (.aload_n 0, 1) := by decide +kernel
theorem dX12_ditches_290 : decode cX12_ditches 290 = .ok (.getfield 16, 3) := by decide +kernel
theorem dX12_ditches_293 : decode cX12_ditches 293 = .ok (.iload_n 1, 1) := by decide +kernel
theorem dX12_ditches_294 : decode cX12_ditches 294 = .ok (.iaload, 1) := by decide +kernel
theorem dX12_ditches_295 : decode cX12_ditches 295 = .ok (.iadd, 1) := by decide +kernel
theorem dX12_ditches_296 : decode cX12_ditches 296 = .ok (.iastore, 1) := by decide +kernel
theorem dX12_ditches_297 : decode cX12_ditches 297 = .ok (.aload_n 0, 1) := by decide +kernel
theorem dX12_ditches_298 : decode cX12_ditches 298 = .ok (.getfield 9, 3) := by decide +kernel
theorem dX12_ditches_301 : decode cX12_ditches 301 = .ok (.sipush 480, 3) := by decide +kernel
theorem dX12_ditches_304 : decode cX12_ditches 304 = .ok (.aload_n 0, 1) := by decide +kernel
theorem dX12_ditches_305 : decode cX12_ditches 305 = .ok (.getfield 19, 3) := by decide +kernel
theorem dX12_ditches_308 : decode cX12_ditches 308 = .ok (.iload_n 1, 1) := by decide +kernel
theorem dX12_ditches_309 : decode cX12_ditches 309 = .ok (.iaload, 1) := by decide +kernel
theorem dX12_ditches_310 : decode cX12_ditches 310 = .ok (.iadd, 1) := by decide +kernel
theorem dX12_ditches_311 : decode cX12_ditches 311 = .ok (.dup2, 1) := by decide +kernel
theorem dX12_ditches_312 : decode cX12_ditches 312 = .ok (.iaload, 1) := by decide +kernel
theorem dX12_ditches_313 : decode cX12_ditches 313 = .ok (.aload_n 0, 1) := by decide +kernel
theorem dX12_ditches_314 : decode cX12_ditches 314 = .ok (.getfield 22, 3) := by decide +kernel
theorem dX12_ditches_317 : decode cX12_ditches 317 = .ok (.iload_n 1, 1) := by decide +kernel
theorem dX12_ditches_318 : decode cX12_ditches 318 = .ok (.iaload, 1) := by decide +kernel
theorem dX12_ditches_319 : decode cX12_ditches 319 = .ok (.iadd, 1) := by decide +kernel
theorem dX12_ditches_320 : decode cX12_ditches 320 = .ok (.iastore, 1) := by decide +kernel
theorem dX12_ditches_321 : decode cX12_ditches 321 = .ok (.iinc 1 1, 3) := by decide +kernel
theorem dX12_ditches_324 : decode cX12_ditches 324 = .ok (.goto (-107), 3) := by decide +kernel
theorem dX12_ditches_327 : decode cX12_ditches 327 = .ok (.return_, 1) := by decide +kernel
theorem dX12_feed_0 : decode cX12_feed 0 = .ok (.aload_n 0, 1) := by decide +kernel
theorem dX12_feed_1 : decode cX12_feed 1 = .ok (.iconst 0, 1) := by decide +kernel
theorem dX12_feed_2 : decode cX12_feed 2 = .ok (.putfield 194, 3) := by decide +kernel
theorem dX12_feed_5 : decode cX12_feed 5 = .ok (.aload_n 0, 1) := by decide +kernel
theorem dX12_feed_6 : decode cX12_feed 6 = .ok (.getfield 332, 3) := by decide +kernel
theorem dX12_feed_9 : decode cX12_feed 9 = .ok (.bipush 20, 2) := by decide +kernel
theorem dX12_feed_11 : decode cX12_feed 11 = .ok (.iadd, 1) := by decide +kernel
theorem dX12_feed_12 : decode cX12_feed 12 = .ok (.sipush 400, 3) := by decide +kernel
theorem dX12_feed_15 : decode cX12_feed 15 = .ok (.if_icmp .le 5, 3) := by decide +kernel
theorem dX12_feed_18 : decode cX12_feed 18 = .ok (.iconst (-1), 1) := by decide +kernel
theorem dX12_feed_19 : decode cX12_feed 19 = .ok (.ireturn, 1) := by decide +kernel
theorem dX12_feed_20 : decode cX12_feed 20 = .ok (.aload_n 0, 1) := by decide +kernel
theorem dX12_feed_21 : decode cX12_feed 21 = .ok (.getfield 39, 3) := by decide +kernel
theorem dX12_feed_24 : decode cX12_feed 24 = .ok (.iconst 0, 1) := by decide +kernel
theorem dX12_feed_25 : decode cX12_feed 25 = .ok (.iload_n 1, 1) := by decide +kernel
theorem dX12_feed_26 : decode cX12_feed 26 = .ok (.iastore, 1) := by decide +kernel
theorem dX12_feed_27 : decode cX12_feed 27 = .ok (.aload_n 0, 1) := by decide +kernel
theorem dX12_feed_28 : decode cX12_feed 28 = .ok (.getfield 39, 3) := by decide +kernel
theorem dX12_feed_31 : decode cX12_feed 31 = .ok (.iconst 1, 1) := by decide +kernel
theorem dX12_feed_32 : decode cX12_feed 32 = .ok (.iload_n 2, 1) := by decide +kernel
theorem dX12_feed_33 : decode cX12_feed 33 = .ok (.iastore, 1) := by decide +kernel
theorem dX12_feed_34 : decode cX12_feed 34 = .ok (.aload_n 0, 1) := by decide +kernel
theorem dX12_feed_35 : decode cX12_feed 35 = .ok (.getfield 39, 3) := by decide +kernel
theorem dX12_feed_38 : decode cX12_feed 38 = .ok (.iconst 2, 1) := by decide +kernel
theorem dX12_feed_39 : decode cX12_feed 39 = .ok (.iload_n 3, 1) := by decide +kernel
theorem dX12_feed_40 : decode cX12_feed 40 = .ok (.iastore, 1) := by decide +kernel
theorem dX12_feed_41 : decode cX12_feed 41 = .ok (.aload_n 0, 1) := by decide +kernel
theorem dX12_feed_42 : decode cX12_feed 42 = .ok (.getfield 39, 3) := by decide +kernel
theorem dX12_feed_45 : decode cX12_feed 45 = .ok (.iconst 3, 1) := by decide +kernel
theorem dX12_feed_46 : decode cX12_feed 46 = .ok (.iload 4, 2) := by decide +kernel
theorem dX12_feed_48 : decode cX12_feed 48 = .ok (.iastore, 1) := by decide +kernel
theorem dX12_feed_49 : decode cX12_feed 49 = .ok (.aload_n 0, 1) := by decide +kernel
theorem dX12_feed_50 : decode cX12_feed 50 = .ok (.getfield 39, 3) := by decide +kernel
theorem dX12_feed_53 : decode cX12_feed 53 = .ok (.iconst 4, 1) := by decide +kernel
theorem dX12_feed_54 : decode cX12_feed 54 = .ok (.iload 5, 2) := by decide +kernel
theorem dX12_feed_56 : decode cX12_feed 56 = .ok (.iastore, 1) := by decide +kernel
theorem dX12_feed_57 : decode cX12_feed 57 = .ok (.iconst 0, 1) := by decide +kernel
theorem dX12_feed_58 : decode cX12_feed 58 = .ok (.istore 6, 2) := by decide +kernel
theorem dX12_feed_60 : decode cX12_feed 60 = .ok (.iload 6, 2) := by decide +kernel
theorem dX12_feed_62 : decode cX12_feed 62 = .ok (.bipush 20, 2) := by decide +kernel
theorem dX12_feed_64 : decode cX12_feed 64 = .ok (.if_icmp .ge 42, 3) := by decide +kernel
theorem dX12_feed_67 : decode cX12_feed 67 = .ok (.aload_n 0, 1) := by decide +kernel
theorem dX12_feed_68 : decode cX12_feed 68 = .ok (.getfield 31, 3) := by decide +kernel
theorem dX12_feed_71 : decode cX12_feed 71 = .ok (.aload_n 0, 1) := by decide +kernel
theorem dX12_feed_72 : decode cX12_feed 72 = .ok (.getfield 332, 3) := by decide +kernel
theorem dX12_feed_75 : decode cX12_feed 75 = .ok (.iload 6, 2) := by decide +kernel
theorem dX12_feed_77 : decode cX12_feed 77 = .ok (.iadd, 1) := by decide +kernel
theorem dX12_feed_78 : decode cX12_feed 78 = .ok (.aload_n 0, 1) := by decide +kernel
theorem dX12_feed_79 : decode cX12_feed 79 = .ok (.getfield 39, 3) := by decide +kernel
theorem dX12_feed_82 : decode cX12_feed 82 = .ok (.iload 6, 2) := by decide +kernel
theorem dX12_feed_84 : decode cX12_feed 84 = .ok (.iconst 4, 1) := by decide +kernel
theorem dX12_feed_85 : decode cX12_feed 85 = .ok (.idiv, 1) := by decide +kernel
theorem dX12_feed_86 : decode cX12_feed 86 = .ok (.iaload, 1) := by decide +kernel
theorem dX12_feed_87 : decode cX12_feed 87 = .ok (.bipush 24, 2) := by decide +kernel
theorem dX12_feed_89 : decode cX12_feed 89 = .ok (.bipush 8, 2) := by decide +kernel
theorem dX12_feed_91 : decode cX12_feed 91 = .ok (.iload 6, 2) := by decide +kernel
theorem dX12_feed_93 : decode cX12_feed 93 = .ok (.iconst 4, 1) := by decide +kernel
theorem dX12_feed_94 : decode cX12_feed 94 = .ok (.irem, 1) := by decide +kernel
theorem dX12_feed_95 : decode cX12_feed 95 = .ok (.imul, 1) := by decide +kernel
theorem dX12_feed_96 : decode cX12_feed 96 = .ok (.isub, 1) := by decide +kernel
theorem dX12_feed_97 : decode cX12_feed 97 = .ok (.ishr, 1) := by decide +kernel
theorem dX12_feed_98 : decode cX12_feed 98 = .ok (.i2b, 1) := by decide +kernel
theorem dX12_feed_99 : decode cX12_feed 99 = .ok (.bastore, 1) := by decide +kernel
theorem dX12_feed_100 : decode cX12_feed 100 = .ok (.iinc 6 1, 3) := by decide +kernel
theorem dX12_feed_103 : decode cX12_feed 103 = .ok (.goto (-43), 3) := by decide +kernel
theorem dX12_feed_106 : decode cX12_feed 106 = .ok (.aload_n 0, 1) := by decide +kernel
theorem dX12_feed_107 : decode cX12_feed 107 = .ok (.dup, 1) := by decide +kernel
theorem dX12_feed_108 : decode cX12_feed 108 = .ok (.getfield 332, 3) := by decide +kernel
theorem dX12_feed_111 : decode cX12_feed 111 = .ok (.bipush 20, 2) := by decide +kernel
theorem dX12_feed_113 : decode cX12_feed 113 = .ok (.iadd, 1) := by decide +kernel
theorem dX12_feed_114 : decode cX12_feed 114 = .ok (.putfield 332, 3) := by decide +kernel
theorem dX12_feed_117 : decode cX12_feed 117 = .ok (.aload_n 0, 1) := by decide +kernel
theorem dX12_feed_118 : decode cX12_feed 118 = .ok (.getfield 332, 3) := by decide +kernel
theorem dX12_feed_121 : decode cX12_feed 121 = .ok (.ireturn, 1) := by decide +kernel
theorem dX12_jobs_0 : decode cX12_jobs 0 = .ok (.aload_n 0, 1) := by decide +kernel
theorem dX12_jobs_1 : decode cX12_jobs 1 = .ok (.iconst 0, 1) := by decide +kernel
theorem dX12_jobs_2 : decode cX12_jobs 2 = .ok (.putfield 194, 3) := by decide +kernel
theorem dX12_jobs_5 : decode cX12_jobs 5 = .ok (.aload_n 0, 1) := by decide +kernel
theorem dX12_jobs_6 : decode cX12_jobs 6 = .ok (.getfield 553, 3) := by decide +kernel
theorem dX12_jobs_9 : decode cX12_jobs 9 = .ok (.istore_n 1, 1) := by decide +kernel
theorem dX12_jobs_10 : decode cX12_jobs 10 = .ok (.aload_n 0, 1) := by decide +kernel
theorem dX12_jobs_11 : decode cX12_jobs 11 = .ok (.iconst 0, 1) := by decide +kernel
theorem dX12_jobs_12 : decode cX12_jobs 12 = .ok (.putfield 553, 3) := by decide +kernel
theorem dX12_jobs_15 : decode cX12_jobs 15 = .ok (.iload_n 1, 1) := by decide +kernel
theorem dX12_jobs_16 : decode cX12_jobs 16 = .ok (.ireturn, 1) := by decide +kernel
theorem dX12_lawLevel_0 : decode cX12_lawLevel 0 = .ok (.aload_n 0, 1) := by decide +kernel
theorem dX12_lawLevel_1 : decode cX12_lawLevel 1 = .ok (.iconst 0, 1) := by decide +kernel
theorem dX12_lawLevel_2 : decode cX12_lawLevel 2 = .ok (.putfield 194, 3) := by decide +kernel
theorem dX12_lawLevel_5 : decode cX12_lawLevel 5 = .ok (.aload_n 0, 1) := by decide +kernel
theorem dX12_lawLevel_6 : decode cX12_lawLevel 6 = .ok (.iload_n 1, 1) := by decide +kernel
theorem dX12_lawLevel_7 : decode cX12_lawLevel 7 = .ok (.invokestatic 220, 3) := by decide +kernel
theorem dX12_lawLevel_10 : decode cX12_lawLevel 10 = .ok (.iconst 1, 1) := by decide +kernel
theorem dX12_lawLevel_11 : decode cX12_lawLevel 11 = .ok (.invokevirtual 224, 3) := by decide +kernel
theorem dX12_lawLevel_14 : decode cX12_lawLevel 14 = .ok (.ifCond .eq 5, 3) := by decide +kernel
theorem dX12_lawLevel_17 : decode cX12_lawLevel 17 = .ok (.iconst 0, 1) := by decide +kernel
theorem dX12_lawLevel_18 : decode cX12_lawLevel 18 = .ok (.ireturn, 1) := by decide +kernel
theorem dX12_lawLevel_19 : decode cX12_lawLevel 19 = .ok (.sipush 1000, 3) := by decide +kernel
theorem dX12_lawLevel_22 : decode cX12_lawLevel 22 = .ok (.istore_n 2, 1) := by decide +kernel
theorem dX12_lawLevel_23 : decode cX12_lawLevel 23 = .ok (.iconst 0, 1) := by decide +kernel
theorem dX12_lawLevel_24 : decode cX12_lawLevel 24 = .ok (.istore_n 3, 1) := by decide +kernel
theorem dX12_lawLevel_25 : decode cX12_lawLevel 25 = .ok (.iload_n 3, 1) := by decide +kernel
theorem dX12_lawLevel_26 : decode cX12_lawLevel 26 = .ok (.aload_n 0, 1) := by decide +kernel
theorem dX12_lawLevel_27 : decode cX12_lawLevel 27 = .ok (.getfield 42, 3) := by decide +kernel
theorem dX12_lawLevel_30 : decode cX12_lawLevel 30 = .ok (.iconst 0, 1) := by decide +kernel
theorem dX12_lawLevel_31 : decode cX12_lawLevel 31 = .ok (.iaload, 1) := by decide +kernel
theorem dX12_lawLevel_32 : decode cX12_lawLevel 32 = .ok (.if_icmp .ge 79, 3) := by decide +kernel
theorem dX12_lawLevel_35 : decode cX12_lawLevel 35 = .ok (.aload_n 0, 1) := by decide +kernel
theorem dX12_lawLevel_36 : decode cX12_lawLevel 36 = .ok (.getfield 45, 3) := by decide +kernel
theorem dX12_lawLevel_39 : decode cX12_lawLevel 39 = .ok (.iload_n 3, 1) := by decide +kernel
theorem dX12_lawLevel_40 : decode cX12_lawLevel 40 = .ok (.iaload, 1) := by decide +kernel
theorem dX12_lawLevel_41 : decode cX12_lawLevel 41 = .ok (.bipush 7, 2) := by decide +kernel
theorem dX12_lawLevel_43 : decode cX12_lawLevel 43 = .ok (.if_icmp .ne 62, 3) := by decide +kernel
theorem dX12_lawLevel_46 : decode cX12_lawLevel 46 = .ok (.iload_n 1, 1) := by decide +kernel
theorem dX12_lawLevel_47 : decode cX12_lawLevel 47 = .ok (.aload_n 0, 1) := by decide +kernel
theorem dX12_lawLevel_48 : decode cX12_lawLevel 48 = .ok (.getfield 54, 3) := by decide +kernel
theorem dX12_lawLevel_51 : decode cX12_lawLevel 51 = .ok (.iload_n 3, 1) := by decide +kernel
theorem dX12_lawLevel_52 : decode cX12_lawLevel 52 = .ok (.iaload, 1) := by decide +kernel
theorem dX12_lawLevel_53 : decode cX12_lawLevel 53 = .ok (.aload_n 0, 1) := by decide +kernel
theorem dX12_lawLevel_54 : decode cX12_lawLevel 54 = .ok (.getfield 57, 3) := by decide +kernel
theorem dX12_lawLevel_57 : decode cX12_lawLevel 57 = .ok (.iload_n 3, 1) := by decide +kernel
theorem dX12_lawLevel_58 : decode cX12_lawLevel 58 = .ok (.iaload, 1) := by decide +kernel
theorem dX12_lawLevel_59 : decode cX12_lawLevel 59 = .ok (.invokestatic 232, 3) := by decide +kernel
theorem dX12_lawLevel_62 : decode cX12_lawLevel 62 = .ok (.ifCond .eq 43, 3) := by decide +kernel
theorem dX12_lawLevel_65 : decode cX12_lawLevel 65 = .ok (.aload_n 0, 1) := by decide +kernel
theorem dX12_lawLevel_66 : decode cX12_lawLevel 66 = .ok (.invokevirtual 228, 3) := by decide +kernel
theorem dX12_lawLevel_69 : decode cX12_lawLevel 69 = .ok (.bipush 24, 2) := by decide +kernel
theorem dX12_lawLevel_71 : decode cX12_lawLevel 71 = .ok (.idiv, 1) := by decide +kernel
theorem dX12_lawLevel_72 : decode cX12_lawLevel 72 = .ok (.sipush 360, 3) := by decide +kernel
theorem dX12_lawLevel_75 : decode cX12_lawLevel 75 = .ok (.irem, 1) := by decide +kernel
theorem dX12_lawLevel_76 : decode cX12_lawLevel 76 = .ok (.bipush 90, 2) := by decide +kernel
theorem dX12_lawLevel_78 : decode cX12_lawLevel 78 = .ok (.sipush 269, 3) := by decide +kernel
theorem dX12_lawLevel_81 : decode cX12_lawLevel 81 = .ok (.invokestatic 197, 3) := by decide +kernel
theorem dX12_lawLevel_84 : decode cX12_lawLevel 84 = .ok (.ifCond .eq 13, 3) := by decide +kernel
theorem dX12_lawLevel_87 : decode cX12_lawLevel 87 = .ok (.aload_n 0, 1) := by decide +kernel
theorem dX12_lawLevel_88 : decode cX12_lawLevel 88 = .ok (.getfield 48, 3) := by decide +kernel
theorem dX12_lawLevel_91 : decode cX12_lawLevel 91 = .ok (.iload_n 3, 1) := by decide +kernel
theorem dX12_lawLevel_92 : decode cX12_lawLevel 92 = .ok (.iaload, 1) := by decide +kernel
theorem dX12_lawLevel_93 : decode cX12_lawLevel 93 = .ok (.ineg, 1) := by decide +kernel
theorem dX12_lawLevel_94 : decode cX12_lawLevel 94 = .ok (.goto 10, 3) := by decide +kernel
theorem dX12_lawLevel_97 : decode cX12_lawLevel 97 = .ok (.aload_n 0, 1) := by decide +kernel
theorem dX12_lawLevel_98 : decode cX12_lawLevel 98 = .ok (.getfield 51, 3) := by decide +kernel
theorem dX12_lawLevel_101 : decode cX12_lawLevel 101 = .ok (.iload_n 3, 1) := by decide +kernel
theorem dX12_lawLevel_102 : decode cX12_lawLevel 102 = .ok (.iaload, 1) := by decide +kernel
theorem dX12_lawLevel_103 : decode cX12_lawLevel 103 = .ok (.ineg, 1) := by decide +kernel
theorem dX12_lawLevel_104 : decode cX12_lawLevel 104 = .ok (.istore_n 2, 1) := by decide +kernel
theorem dX12_lawLevel_105 : decode cX12_lawLevel 105 = .ok (.iinc 3 1, 3) := by decide +kernel
theorem dX12_lawLevel_108 : decode cX12_lawLevel 108 = .ok (.goto (-83), 3) := by decide +kernel
theorem dX12_lawLevel_111 : decode cX12_lawLevel 111 = .ok (.iload_n 2, 1) := by decide +kernel
theorem dX12_lawLevel_112 : decode cX12_lawLevel 112 = .ok (.ireturn, 1) := by decide +kernel
theorem dX12_lifts_0 : decode cX12_lifts 0 = .ok (.aload_n 0, 1) := by decide +kernel
theorem dX12_lifts_1 : decode cX12_lifts 1 = .ok (.iload_n 1, 1) := by decide +kernel
theorem dX12_lifts_2 : decode cX12_lifts 2 = .ok (.bipush 17, 2) := by decide +kernel
theorem dX12_lifts_4 : decode cX12_lifts 4 = .ok (.invokevirtual 217, 3) := by decide +kernel
theorem dX12_lifts_7 : decode cX12_lifts 7 = .ok (.iload_n 2, 1) := by decide +kernel
theorem dX12_lifts_8 : decode cX12_lifts 8 = .ok (.imul, 1) := by decide +kernel
theorem dX12_lifts_9 : decode cX12_lifts 9 = .ok (.bipush 10, 2) := by decide +kernel
theorem dX12_lifts_11 : decode cX12_lifts 11 = .ok (.idiv, 1) := by decide +kernel
theorem dX12_lifts_12 : decode cX12_lifts 12 = .ok (.istore_n 3, 1) := by decide +kernel
theorem dX12_lifts_13 : decode cX12_lifts 13 = .ok (.aload_n 0, 1) := by decide +kernel
theorem dX12_lifts_14 : decode cX12_lifts 14 = .ok (.iload_n 1, 1) := by decide +kernel
theorem dX12_lifts_15 : decode cX12_lifts 15 = .ok (.iconst 0, 1) := by decide +kernel
theorem dX12_lifts_16 : decode cX12_lifts 16 = .ok (.invokevirtual 217, 3) := by decide +kernel
theorem dX12_lifts_19 : decode cX12_lifts 19 = .ok (.iconst 3, 1) := by decide +kernel
theorem dX12_lifts_20 : decode cX12_lifts 20 = .ok (.if_icmp .ne 72, 3) := by decide +kernel
theorem dX12_lifts_23 : decode cX12_lifts 23 = .ok (.aload_n 0, 1) := by decide +kernel
theorem dX12_lifts_24 : decode cX12_lifts 24 = .ok (.iload_n 1, 1) := by decide +kernel
theorem dX12_lifts_25 : decode cX12_lifts 25 = .ok (.bipush 19, 2) := by decide +kernel
theorem dX12_lifts_27 : decode cX12_lifts 27 = .ok (.invokevirtual 217, 3) := by decide +kernel
theorem dX12_lifts_30 : decode cX12_lifts 30 = .ok (.iconst 1, 1) := by decide +kernel
theorem dX12_lifts_31 : decode cX12_lifts 31 = .ok (.if_icmp .ne 17, 3) := by decide +kernel
theorem dX12_lifts_34 : decode cX12_lifts 34 = .ok (.aload_n 0, 1) := by decide +kernel
theorem dX12_lifts_35 : decode cX12_lifts 35 = .ok (.iload_n 1, 1) := by decide +kernel
theorem dX12_lifts_36 : decode cX12_lifts 36 = .ok (.bipush 18, 2) := by decide +kernel
theorem dX12_lifts_38 : decode cX12_lifts 38 = .ok (.invokevirtual 217, 3) := by decide +kernel
theorem dX12_lifts_41 : decode cX12_lifts 41 = .ok (.ifCond .le 7, 3) := by decide +kernel
theorem dX12_lifts_44 : decode cX12_lifts 44 = .ok (.iconst 1, 1) := by decide +kernel
theorem dX12_lifts_45 : decode cX12_lifts 45 = .ok (.goto 4, 3) := by decide +kernel
theorem dX12_lifts_48 : decode cX12_lifts 48 = .ok (.iconst 0, 1) := by decide +kernel
theorem dX12_lifts_49 : decode cX12_lifts 49 = .ok (.istore 4, 2) := by decide +kernel
theorem dX12_lifts_51 : decode cX12_lifts 51 = .ok (.aload_n 0, 1) := by decide +kernel
theorem dX12_lifts_52 : decode cX12_lifts 52 = .ok (.getfield 9, 3) := by decide +kernel
theorem dX12_lifts_55 : decode cX12_lifts 55 = .ok (.iload_n 1, 1) := by decide +kernel
theorem dX12_lifts_56 : decode cX12_lifts 56 = .ok (.bipush 18, 2) := by decide +kernel
theorem dX12_lifts_58 : decode cX12_lifts 58 = .ok (.invokestatic 214, 3) := by decide +kernel
theorem dX12_lifts_61 : decode cX12_lifts 61 = .ok (.dup2, 1) := by decide +kernel
theorem dX12_lifts_62 : decode cX12_lifts 62 = .ok (.iaload, 1) := by decide +kernel
theorem dX12_lifts_63 : decode cX12_lifts 63 = .ok (.iload 4, 2) := by decide +kernel
theorem dX12_lifts_65 : decode cX12_lifts 65 = .ok (.ifCond .eq 7, 3) := by decide +kernel
theorem dX12_lifts_68 : decode cX12_lifts 68 = .ok (.iconst 1, 1) := by decide +kernel
theorem dX12_lifts_69 : decode cX12_lifts 69 = .ok (.goto 4, 3) := by decide +kernel
theorem dX12_lifts_72 : decode cX12_lifts 72 = .ok (.iconst 0, 1) := by decide +kernel
theorem dX12_lifts_73 : decode cX12_lifts 73 = .ok (.isub, 1) := by decide +kernel
theorem dX12_lifts_74 : decode cX12_lifts 74 = .ok (.iastore, 1) := by decide +kernel
theorem dX12_lifts_75 : decode cX12_lifts 75 = .ok (.iload 4, 2) := by decide +kernel
theorem dX12_lifts_77 : decode cX12_lifts 77 = .ok (.ifCond .eq 13, 3) := by decide +kernel
theorem dX12_lifts_80 : decode cX12_lifts 80 = .ok (.aload_n 0, 1) := by decide +kernel
theorem dX12_lifts_81 : decode cX12_lifts 81 = .ok (.iload_n 1, 1) := by decide +kernel
theorem dX12_lifts_82 : decode cX12_lifts 82 = .ok (.bipush 17, 2) := by decide +kernel
theorem dX12_lifts_84 : decode cX12_lifts 84 = .ok (.invokevirtual 217, 3) := by decide +kernel
theorem dX12_lifts_87 : decode cX12_lifts 87 = .ok (.goto 4, 3) := by decide +kernel
theorem dX12_lifts_90 : decode cX12_lifts 90 = .ok (.iconst 0, 1) := by decide +kernel
theorem dX12_lifts_91 : decode cX12_lifts 91 = .ok (.istore_n 3, 1) := by decide +kernel
theorem dX12_lifts_92 : decode cX12_lifts 92 = .ok (.aload_n 0, 1) := by decide +kernel
theorem dX12_lifts_93 : decode cX12_lifts 93 = .ok (.iload_n 1, 1) := by decide +kernel
theorem dX12_lifts_94 : decode cX12_lifts 94 = .ok (.iconst 1, 1) := by decide +kernel
theorem dX12_lifts_95 : decode cX12_lifts 95 = .ok (.invokevirtual 217, 3) := by decide +kernel
theorem dX12_lifts_98 : decode cX12_lifts 98 = .ok (.istore 4, 2) := by decide +kernel
theorem dX12_lifts_100 : decode cX12_lifts 100 = .ok (.aload_n 0, 1) := by decide +kernel
theorem dX12_lifts_101 : decode cX12_lifts 101 = .ok (.iload_n 1, 1) := by decide +kernel
theorem dX12_lifts_102 : decode cX12_lifts 102 = .ok (.iconst 2, 1) := by decide +kernel
theorem dX12_lifts_103 : decode cX12_lifts 103 = .ok (.invokevirtual 217, 3) := by decide +kernel
theorem dX12_lifts_106 : decode cX12_lifts 106 = .ok (.istore 5, 2) := by decide +kernel
theorem dX12_lifts_108 : decode cX12_lifts 108 = .ok (.iload_n 3, 1) := by decide +kernel
theorem dX12_lifts_109 : decode cX12_lifts 109 = .ok (.aload_n 0, 1) := by decide +kernel
theorem dX12_lifts_110 : decode cX12_lifts 110 = .ok (.getfield 9, 3) := by decide +kernel
theorem dX12_lifts_113 : decode cX12_lifts 113 = .ok (.sipush 384, 3) := by decide +kernel
theorem dX12_lifts_116 : decode cX12_lifts 116 = .ok (.iload 4, 2) := by decide +kernel
theorem dX12_lifts_118 : decode cX12_lifts 118 = .ok (.iadd, 1) := by decide +kernel
theorem dX12_lifts_119 : decode cX12_lifts 119 = .ok (.iaload, 1) := by decide +kernel
theorem dX12_lifts_120 : decode cX12_lifts 120 = .ok (.invokestatic 207, 3) := by decide +kernel
theorem dX12_lifts_123 : decode cX12_lifts 123 = .ok (.istore_n 3, 1) := by decide +kernel
theorem dX12_lifts_124 : decode cX12_lifts 124 = .ok (.aload_n 0, 1) := by decide +kernel
theorem dX12_lifts_125 : decode cX12_lifts 125 = .ok (.iload 4, 2) := by decide +kernel
theorem dX12_lifts_127 : decode cX12_lifts 127 = .ok (.iload_n 3, 1) := by decide +kernel
theorem dX12_lifts_128 : decode cX12_lifts 128 = .ok (.invokevirtual 291, 3) := by decide +kernel
theorem dX12_lifts_131 : decode cX12_lifts 131 = .ok (.istore 6, 2) := by decide +kernel
theorem dX12_lifts_133 : decode cX12_lifts 133 = .ok (.aload_n 0, 1) := by decide +kernel
theorem dX12_lifts_134 : decode cX12_lifts 134 = .ok (.iload 5, 2) := by decide +kernel
theorem dX12_lifts_136 : decode cX12_lifts 136 = .ok (.invokevirtual 235, 3) := by decide +kernel
theorem dX12_lifts_139 : decode cX12_lifts 139 = .ok (.ifCond .eq 37, 3) := by decide +kernel
theorem dX12_lifts_142 : decode cX12_lifts 142 = .ok (.aload_n 0, 1) := by decide +kernel
theorem dX12_lifts_143 : decode cX12_lifts 143 = .ok (.getfield 9, 3) := by decide +kernel
theorem dX12_lifts_146 : decode cX12_lifts 146 = .ok (.sipush 384, 3) := by decide +kernel
theorem dX12_lifts_149 : decode cX12_lifts 149 = .ok (.iload 5, 2) := by decide +kernel
theorem dX12_lifts_151 : decode cX12_lifts 151 = .ok (.iadd, 1) := by decide +kernel
theorem dX12_lifts_152 : decode cX12_lifts 152 = .ok (.dup2, 1) := by decide +kernel
theorem dX12_lifts_153 : decode cX12_lifts 153 = .ok (.iaload, 1) := by decide +kernel
theorem dX12_lifts_154 : decode cX12_lifts 154 = .ok (.iload_n 3, 1) := by decide +kernel
theorem dX12_lifts_155 : decode cX12_lifts 155 = .ok (.iadd, 1) := by decide +kernel
theorem dX12_lifts_156 : decode cX12_lifts 156 = .ok (.iastore, 1) := by decide +kernel
theorem dX12_lifts_157 : decode cX12_lifts 157 = .ok (.aload_n 0, 1) := by decide +kernel
theorem dX12_lifts_158 : decode cX12_lifts 158 = .ok (.getfield 9, 3) := by decide +kernel
theorem dX12_lifts_161 : decode cX12_lifts 161 = .ok (.sipush 480, 3) := by decide +kernel
theorem dX12_lifts_164 : decode cX12_lifts 164 = .ok (.iload 5, 2) := by decide +kernel
theorem dX12_lifts_166 : decode cX12_lifts 166 = .ok (.iadd, 1) := by decide +kernel
theorem dX12_lifts_167 : decode cX12_lifts 167 = .ok (.dup2, 1) := by decide +kernel
theorem dX12_lifts_168 : decode cX12_lifts 168 = .ok (.iaload, 1) := by decide +kernel
theorem dX12_lifts_169 : decode cX12_lifts 169 = .ok (.iload 6, 2) := by decide +kernel
theorem dX12_lifts_171 : decode cX12_lifts 171 = .ok (.iadd, 1) := by decide +kernel
theorem dX12_lifts_172 : decode cX12_lifts 172 = .ok (.iastore, 1) := by decide +kernel
theorem dX12_lifts_173 : decode cX12_lifts 173 = .ok (.goto 15, 3) := by decide +kernel
theorem dX12_lifts_176 : decode cX12_lifts 176 = .ok (.aload_n 0, 1) := by decide +kernel
theorem dX12_lifts_177 : decode cX12_lifts 177 = .ok (.getfield 9, 3) := by decide +kernel
theorem dX12_lifts_180 : decode cX12_lifts 180 = .ok (.sipush 1747, 3) := by decide +kernel
theorem dX12_lifts_183 : decode cX12_lifts 183 = .ok (.dup2, 1) := by decide +kernel
theorem dX12_lifts_184 : decode cX12_lifts 184 = .ok (.iaload, 1) := by decide +kernel
theorem dX12_lifts_185 : decode cX12_lifts 185 = .ok (.iload_n 3, 1) := by decide +kernel
theorem dX12_lifts_186 : decode cX12_lifts 186 = .ok (.iadd, 1) := by decide +kernel
theorem dX12_lifts_187 : decode cX12_lifts 187 = .ok (.iastore, 1) := by decide +kernel
theorem dX12_lifts_188 : decode cX12_lifts 188 = .ok (.aload_n 0, 1) := by decide +kernel
theorem dX12_lifts_189 : decode cX12_lifts 189 = .ok (.iload_n 1, 1) := by decide +kernel
theorem dX12_lifts_190 : decode cX12_lifts 190 = .ok (.iload_n 3, 1) := by decide +kernel
theorem dX12_lifts_191 : decode cX12_lifts 191 = .ok (.invokevirtual 294, 3) := by decide +kernel
theorem dX12_lifts_194 : decode cX12_lifts 194 = .ok (.return_, 1) := by decide +kernel
theorem dX12_noPlace_0 : decode cX12_noPlace 0 = .ok (.aload_n 0, 1) := by decide +kernel
theorem dX12_noPlace_1 : decode cX12_noPlace 1 = .ok (.iload_n 1, 1) := by decide +kernel
theorem dX12_noPlace_2 : decode cX12_noPlace 2 = .ok (.invokevirtual 235, 3) := by decide +kernel
theorem dX12_noPlace_5 : decode cX12_noPlace 5 = .ok (.ifCond .eq 11, 3) := by decide +kernel
theorem dX12_noPlace_8 : decode cX12_noPlace 8 = .ok (.aload_n 0, 1) := by decide +kernel
theorem dX12_noPlace_9 : decode cX12_noPlace 9 = .ok (.iload_n 1, 1) := by decide +kernel
theorem dX12_noPlace_10 : decode cX12_noPlace 10 = .ok (.invokevirtual 256, 3) := by decide +kernel
theorem dX12_noPlace_13 : decode cX12_noPlace 13 = .ok (.ifCond .lt 7, 3) := by decide +kernel
theorem dX12_noPlace_16 : decode cX12_noPlace 16 = .ok (.iconst 1, 1) := by decide +kernel
theorem dX12_noPlace_17 : decode cX12_noPlace 17 = .ok (.goto 4, 3) := by decide +kernel
theorem dX12_noPlace_20 : decode cX12_noPlace 20 = .ok (.iconst 0, 1) := by decide +kernel
theorem dX12_noPlace_21 : decode cX12_noPlace 21 = .ok (.ireturn, 1) := by decide +kernel
theorem dX12_number_0 : decode cX12_number 0 = .ok (.aload_n 0, 1) := by decide +kernel
theorem dX12_number_1 : decode cX12_number 1 = .ok (.invokevirtual 348, 3) := by decide +kernel
theorem dX12_number_4 : decode cX12_number 4 = .ok (.iconst 0, 1) := by decide +kernel
theorem dX12_number_5 : decode cX12_number 5 = .ok (.istore_n 2, 1) := by decide +kernel
theorem dX12_number_6 : decode cX12_number 6 = .ok (.aload_n 0, 1) := by decide +kernel
theorem dX12_number_7 : decode cX12_number 7 = .ok (.bipush 48, 2) := by decide +kernel
theorem dX12_number_9 : decode cX12_number 9 = .ok (.bipush 57, 2) := by decide +kernel
theorem dX12_number_11 : decode cX12_number 11 = .ok (.invokevirtual 341, 3) := by decide +kernel
theorem dX12_number_14 : decode cX12_number 14 = .ok (.ifCond .eq 51, 3) := by decide +kernel
theorem dX12_number_17 : decode cX12_number 17 = .ok (.aload_n 0, 1) := by decide +kernel
theorem dX12_number_18 : decode cX12_number 18 = .ok (.getfield 335, 3) := by decide +kernel
theorem dX12_number_21 : decode cX12_number 21 = .ok (.aload_n 0, 1) := by decide +kernel
theorem dX12_number_22 : decode cX12_number 22 = .ok (.getfield 345, 3) := by decide +kernel
theorem dX12_number_25 : decode cX12_number 25 = .ok (.isub, 1) := by decide +kernel
theorem dX12_number_26 : decode cX12_number 26 = .ok (.iconst 5, 1) := by decide +kernel
theorem dX12_number_27 : decode cX12_number 27 = .ok (.if_icmp .ge 23, 3) := by decide +kernel
theorem dX12_number_30 : decode cX12_number 30 = .ok (.bipush 10, 2) := by decide +kernel
theorem dX12_number_32 : decode cX12_number 32 = .ok (.iload_n 2, 1) := by decide +kernel
theorem dX12_number_33 : decode cX12_number 33 = .ok (.imul, 1) := by decide +kernel
theorem dX12_number_34 : decode cX12_number 34 = .ok (.aload_n 0, 1) := by decide +kernel
theorem dX12_number_35 : decode cX12_number 35 = .ok (.getfield 31, 3) := by decide +kernel
theorem dX12_number_38 : decode cX12_number 38 = .ok (.aload_n 0, 1) := by decide +kernel
theorem dX12_number_39 : decode cX12_number 39 = .ok (.getfield 335, 3) := by decide +kernel
theorem dX12_number_42 : decode cX12_number 42 = .ok (.baload, 1) := by decide +kernel
theorem dX12_number_43 : decode cX12_number 43 = .ok (.iadd, 1) := by decide +kernel
theorem dX12_number_44 : decode cX12_number 44 = .ok (.bipush 48, 2) := by decide +kernel
theorem dX12_number_46 : decode cX12_number 46 = .ok (.isub, 1) := by decide +kernel
theorem dX12_number_47 : decode cX12_number 47 = .ok (.goto 4, 3) := by decide +kernel
theorem dX12_number_50 : decode cX12_number 50 = .ok (.iload_n 2, 1) := by decide +kernel
theorem dX12_number_51 : decode cX12_number 51 = .ok (.istore_n 2, 1) := by decide +kernel
theorem dX12_number_52 : decode cX12_number 52 = .ok (.aload_n 0, 1) := by decide +kernel
theorem dX12_number_53 : decode cX12_number 53 = .ok (.dup, 1) := by decide +kernel
theorem dX12_number_54 : decode cX12_number 54 = .ok (.getfield 335, 3) := by decide +kernel
theorem dX12_number_57 : decode cX12_number 57 = .ok (.iconst 1, 1) := by decide +kernel
theorem dX12_number_58 : decode cX12_number 58 = .ok (.iadd, 1) := by decide +kernel
theorem dX12_number_59 : decode cX12_number 59 = .ok (.putfield 335, 3) := by decide +kernel
theorem dX12_number_62 : decode cX12_number 62 = .ok (.goto (-56), 3) := by decide +kernel
theorem dX12_number_65 : decode cX12_number 65 = .ok (.aload_n 0, 1) := by decide +kernel
theorem dX12_number_66 : decode cX12_number 66 = .ok (.getfield 335, 3) := by decide +kernel
theorem dX12_number_69 : decode cX12_number 69 = .ok (.aload_n 0, 1) := by decide +kernel
theorem dX12_number_70 : decode cX12_number 70 = .ok (.getfield 345, 3) := by decide +kernel
theorem dX12_number_73 : decode cX12_number 73 = .ok (.if_icmp .eq 21, 3) := by decide +kernel
theorem dX12_number_76 : decode cX12_number 76 = .ok (.aload_n 0, 1) := by decide +kernel
theorem dX12_number_77 : decode cX12_number 77 = .ok (.getfield 335, 3) := by decide +kernel
theorem dX12_number_80 : decode cX12_number 80 = .ok (.aload_n 0, 1) := by decide +kernel
theorem dX12_number_81 : decode cX12_number 81 = .ok (.getfield 345, 3) := by decide +kernel
theorem dX12_number_84 : decode cX12_number 84 = .ok (.isub, 1) := by decide +kernel
theorem dX12_number_85 : decode cX12_number 85 = .ok (.iconst 5, 1) := by decide +kernel
theorem dX12_number_86 : decode cX12_number 86 = .ok (.if_icmp .gt 8, 3) := by decide +kernel
theorem dX12_number_89 : decode cX12_number 89 = .ok (.iload_n 2, 1) := by decide +kernel
theorem dX12_number_90 : decode cX12_number 90 = .ok (.iload_n 1, 1) := by decide +kernel
theorem dX12_number_91 : decode cX12_number 91 = .ok (.if_icmp .le 7, 3) := by decide +kernel
theorem dX12_number_94 : decode cX12_number 94 = .ok (.iconst (-1), 1) := by decide +kernel
theorem dX12_number_95 : decode cX12_number 95 = .ok (.goto 4, 3) := by decide +kernel
theorem dX12_number_98 : decode cX12_number 98 = .ok (.iload_n 2, 1) := by decide +kernel
theorem dX12_number_99 : decode cX12_number 99 = .ok (.ireturn, 1) := by decide +kernel
theorem dX12_pay_0 : decode cX12_pay 0 = .ok (.aload_n 0, 1) := by decide +kernel
theorem dX12_pay_1 : decode cX12_pay 1 = .ok (.iconst 0, 1) := by decide +kernel
theorem dX12_pay_2 : decode cX12_pay 2 = .ok (.putfield 194, 3) := by decide +kernel
theorem dX12_pay_5 : decode cX12_pay 5 = .ok (.aload_n 0, 1) := by decide +kernel
theorem dX12_pay_6 : decode cX12_pay 6 = .ok (.aload_n 0, 1) := by decide +kernel
theorem dX12_pay_7 : decode cX12_pay 7 = .ok (.iload_n 1, 1) := by decide +kernel
theorem dX12_pay_8 : decode cX12_pay 8 = .ok (.invokevirtual 539, 3) := by decide +kernel
theorem dX12_pay_11 : decode cX12_pay 11 = .ok (.iconst 1, 1) := by decide +kernel
theorem dX12_pay_12 : decode cX12_pay 12 = .ok (.invokevirtual 224, 3) := by decide +kernel
theorem dX12_pay_15 : decode cX12_pay 15 = .ok (.ifCond .ne 20, 3) := by decide +kernel
theorem dX12_pay_18 : decode cX12_pay 18 = .ok (.aload_n 0, 1) := by decide +kernel
theorem dX12_pay_19 : decode cX12_pay 19 = .ok (.getfield 158, 3) := by decide +kernel
theorem dX12_pay_22 : decode cX12_pay 22 = .ok (.iload_n 1, 1) := by decide +kernel
theorem dX12_pay_23 : decode cX12_pay 23 = .ok (.baload, 1) := by decide +kernel
theorem dX12_pay_24 : decode cX12_pay 24 = .ok (.ifCond .ne 11, 3) := by decide +kernel
theorem dX12_pay_27 : decode cX12_pay 27 = .ok (.aload_n 0, 1) := by decide +kernel
theorem dX12_pay_28 : decode cX12_pay 28 = .ok (.iload_n 1, 1) := by decide +kernel
theorem dX12_pay_29 : decode cX12_pay 29 = .ok (.invokevirtual 542, 3) := by decide +kernel
theorem dX12_pay_32 : decode cX12_pay 32 = .ok (.ifCond .ne 16, 3) := by decide +kernel
theorem dX12_pay_35 : decode cX12_pay 35 = .ok (.aload_n 0, 1) := by decide +kernel
theorem dX12_pay_36 : decode cX12_pay 36 = .ok (.getfield 194, 3) := by decide +kernel
theorem dX12_pay_39 : decode cX12_pay 39 = .ok (.ifCond .eq 7, 3) := by decide +kernel
theorem dX12_pay_42 : decode cX12_pay 42 = .ok (.iconst 0, 1) := by decide +kernel
theorem dX12_pay_43 : decode cX12_pay 43 = .ok (.goto 4, 3) := by decide +kernel
theorem dX12_pay_46 : decode cX12_pay 46 = .ok (.iconst (-1), 1) := by decide +kernel
theorem dX12_pay_47 : decode cX12_pay 47 = .ok (.ireturn, 1) := by decide +kernel
theorem dX12_pay_48 : decode cX12_pay 48 = .ok (.aload_n 0, 1) := by decide +kernel
theorem dX12_pay_49 : decode cX12_pay 49 = .ok (.getfield 137, 3) := by decide +kernel
theorem dX12_pay_52 : decode cX12_pay 52 = .ok (.iload_n 1, 1) := by decide +kernel
theorem dX12_pay_53 : decode cX12_pay 53 = .ok (.iaload, 1) := by decide +kernel
theorem dX12_pay_54 : decode cX12_pay 54 = .ok (.istore_n 2, 1) := by decide +kernel
theorem dX12_pay_55 : decode cX12_pay 55 = .ok (.aload_n 0, 1) := by decide +kernel
theorem dX12_pay_56 : decode cX12_pay 56 = .ok (.iload_n 2, 1) := by decide +kernel
theorem dX12_pay_57 : decode cX12_pay 57 = .ok (.invokevirtual 269, 3) := by decide +kernel
theorem dX12_pay_60 : decode cX12_pay 60 = .ok (.ifCond .ne 15, 3) := by decide +kernel
theorem dX12_pay_63 : decode cX12_pay 63 = .ok (.aload_n 0, 1) := by decide +kernel
theorem dX12_pay_64 : decode cX12_pay 64 = .ok (.iload_n 2, 1) := by decide +kernel
theorem dX12_pay_65 : decode cX12_pay 65 = .ok (.invokevirtual 272, 3) := by decide +kernel
theorem dX12_pay_68 : decode cX12_pay 68 = .ok (.ifCond .eq 7, 3) := by decide +kernel
theorem dX12_pay_71 : decode cX12_pay 71 = .ok (.iconst 1, 1) := by decide +kernel
theorem dX12_pay_72 : decode cX12_pay 72 = .ok (.goto 4, 3) := by decide +kernel
theorem dX12_pay_75 : decode cX12_pay 75 = .ok (.iconst 0, 1) := by decide +kernel
theorem dX12_pay_76 : decode cX12_pay 76 = .ok (.istore_n 3, 1) := by decide +kernel
theorem dX12_pay_77 : decode cX12_pay 77 = .ok (.iload_n 3, 1) := by decide +kernel
theorem dX12_pay_78 : decode cX12_pay 78 = .ok (.ifCond .eq 21, 3) := by decide +kernel
theorem dX12_pay_81 : decode cX12_pay 81 = .ok (.aload_n 0, 1) := by decide +kernel
theorem dX12_pay_82 : decode cX12_pay 82 = .ok (.getfield 9, 3) := by decide +kernel
theorem dX12_pay_85 : decode cX12_pay 85 = .ok (.sipush 192, 3) := by decide +kernel
theorem dX12_pay_88 : decode cX12_pay 88 = .ok (.aload_n 0, 1) := by decide +kernel
theorem dX12_pay_89 : decode cX12_pay 89 = .ok (.iload_n 2, 1) := by decide +kernel
theorem dX12_pay_90 : decode cX12_pay 90 = .ok (.iconst 1, 1) := by decide +kernel
theorem dX12_pay_91 : decode cX12_pay 91 = .ok (.invokevirtual 217, 3) := by decide +kernel
theorem dX12_pay_94 : decode cX12_pay 94 = .ok (.iadd, 1) := by decide +kernel
theorem dX12_pay_95 : decode cX12_pay 95 = .ok (.iaload, 1) := by decide +kernel
theorem dX12_pay_96 : decode cX12_pay 96 = .ok (.goto 4, 3) := by decide +kernel
theorem dX12_pay_99 : decode cX12_pay 99 = .ok (.iconst 0, 1) := by decide +kernel
theorem dX12_pay_100 : decode cX12_pay 100 = .ok (.istore 4, 2) := by decide +kernel
theorem dX12_pay_102 : decode cX12_pay 102 = .ok (.aload_n 0, 1) := by decide +kernel
theorem dX12_pay_103 : decode cX12_pay 103 = .ok (.getfield 149, 3) := by decide +kernel
theorem dX12_pay_106 : decode cX12_pay 106 = .ok (.iload_n 1, 1) := by decide +kernel
theorem dX12_pay_107 : decode cX12_pay 107 = .ok (.iaload, 1) := by decide +kernel
theorem dX12_pay_108 : decode cX12_pay 108 = .ok (.istore 5, 2) := by decide +kernel
theorem dX12_pay_110 : decode cX12_pay 110 = .ok (.iload 5, 2) := by decide +kernel
theorem dX12_pay_112 : decode cX12_pay 112 = .ok (.iload 4, 2) := by decide +kernel
theorem dX12_pay_114 : decode cX12_pay 114 = .ok (.iconst 1, 1) := by decide +kernel
theorem dX12_pay_115 : decode cX12_pay 115 = .ok (.if_icmp .ne 11, 3) := by decide +kernel
theorem dX12_pay_118 : decode cX12_pay 118 = .ok (.iload 5, 2) := by decide +kernel
theorem dX12_pay_120 : decode cX12_pay 120 = .ok (.bipush 10, 2) := by decide +kernel
theorem dX12_pay_122 : decode cX12_pay 122 = .ok (.idiv, 1) := by decide +kernel
theorem dX12_pay_123 : decode cX12_pay 123 = .ok (.goto 17, 3) := by decide +kernel
theorem dX12_pay_126 : decode cX12_pay 126 = .ok (.iload 4, 2) := by decide +kernel
theorem dX12_pay_128 : decode cX12_pay 128 = .ok (.iconst 2, 1) := by decide +kernel
theorem dX12_pay_129 : decode cX12_pay 129 = .ok (.if_icmp .ne 10, 3) := by decide +kernel
theorem dX12_pay_132 : decode cX12_pay 132 = .ok (.iload 5, 2) := by decide +kernel
theorem dX12_pay_134 : decode cX12_pay 134 = .ok (.iconst 5, 1) := by decide +kernel
theorem dX12_pay_135 : decode cX12_pay 135 = .ok (.idiv, 1) := by decide +kernel
theorem dX12_pay_136 : decode cX12_pay 136 = .ok (.goto 4, 3) := by decide +kernel
theorem dX12_pay_139 : decode cX12_pay 139 = .ok (.iconst 0, 1) := by decide +kernel
theorem dX12_pay_140 : decode cX12_pay 140 = .ok (.isub, 1) := by decide +kernel
theorem dX12_pay_141 : decode cX12_pay 141 = .ok (.istore 5, 2) := by decide +kernel
theorem dX12_pay_143 : decode cX12_pay 143 = .ok (.iload 5, 2) := by decide +kernel
theorem dX12_pay_145 : decode cX12_pay 145 = .ok (.aload_n 0, 1) := by decide +kernel
theorem dX12_pay_146 : decode cX12_pay 146 = .ok (.getfield 143, 3) := by decide +kernel
theorem dX12_pay_149 : decode cX12_pay 149 = .ok (.iload_n 1, 1) := by decide +kernel
theorem dX12_pay_150 : decode cX12_pay 150 = .ok (.iaload, 1) := by decide +kernel
theorem dX12_pay_151 : decode cX12_pay 151 = .ok (.imul, 1) := by decide +kernel
theorem dX12_pay_152 : decode cX12_pay 152 = .ok (.istore 6, 2) := by decide +kernel
theorem dX12_pay_154 : decode cX12_pay 154 = .ok (.iload 6, 2) := by decide +kernel
theorem dX12_pay_156 : decode cX12_pay 156 = .ok (.aload_n 0, 1) := by decide +kernel
theorem dX12_pay_157 : decode cX12_pay 157 = .ok (.getfield 519, 3) := by decide +kernel
theorem dX12_pay_160 : decode cX12_pay 160 = .ok (.if_icmp .le 5, 3) := by decide +kernel
theorem dX12_pay_163 : decode cX12_pay 163 = .ok (.iconst (-1), 1) := by decide +kernel
theorem dX12_pay_164 : decode cX12_pay 164 = .ok (.ireturn, 1) := by decide +kernel
theorem dX12_pay_165 : decode cX12_pay 165 = .ok (.aload_n 0, 1) := by decide +kernel
theorem dX12_pay_166 : decode cX12_pay 166 = .ok (.dup, 1) := by decide +kernel
theorem dX12_pay_167 : decode cX12_pay 167 = .ok (.getfield 519, 3) := by decide +kernel
theorem dX12_pay_170 : decode cX12_pay 170 = .ok (.iload 6, 2) := by decide +kernel
theorem dX12_pay_172 : decode cX12_pay 172 = .ok (.isub, 1) := by decide +kernel
theorem dX12_pay_173 : decode cX12_pay 173 = .ok (.putfield 519, 3) := by decide +kernel
theorem dX12_pay_176 : decode cX12_pay 176 = .ok (.aload_n 0, 1) := by decide +kernel
theorem dX12_pay_177 : decode cX12_pay 177 = .ok (.getfield 158, 3) := by decide +kernel
theorem dX12_pay_180 : decode cX12_pay 180 = .ok (.iload_n 1, 1) := by decide +kernel
theorem dX12_pay_181 : decode cX12_pay 181 = .ok (.iconst 1, 1) := by decide +kernel
theorem dX12_pay_182 : decode cX12_pay 182 = .ok (.bastore, 1) := by decide +kernel
theorem dX12_pay_183 : decode cX12_pay 183 = .ok (.iload 5, 2) := by decide +kernel
theorem dX12_pay_185 : decode cX12_pay 185 = .ok (.bipush 10, 2) := by decide +kernel
theorem dX12_pay_187 : decode cX12_pay 187 = .ok (.if_icmp .lt 43, 3) := by decide +kernel
theorem dX12_pay_190 : decode cX12_pay 190 = .ok (.iload_n 3, 1) := by decide +kernel
theorem dX12_pay_191 : decode cX12_pay 191 = .ok (.ifCond .eq 39, 3) := by decide +kernel
theorem dX12_pay_194 : decode cX12_pay 194 = .ok (.aload_n 0, 1) := by decide +kernel
theorem dX12_pay_195 : decode cX12_pay 195 = .ok (.iload_n 2, 1) := by decide +kernel
theorem dX12_pay_196 : decode cX12_pay 196 = .ok (.iconst 0, 1) := by decide +kernel
theorem dX12_pay_197 : decode cX12_pay 197 = .ok (.invokevirtual 217, 3) := by decide +kernel
theorem dX12_pay_200 : decode cX12_pay 200 = .ok (.ifCond .ne 30, 3) := by decide +kernel
theorem dX12_pay_203 : decode cX12_pay 203 = .ok (.aload_n 0, 1) := by decide +kernel
theorem dX12_pay_204 : decode cX12_pay 204 = .ok (.iload_n 2, 1) := by decide +kernel
theorem dX12_pay_205 : decode cX12_pay 205 = .ok (.iconst 4, 1) := by decide +kernel
theorem dX12_pay_206 : decode cX12_pay 206 = .ok (.invokevirtual 217, 3) := by decide +kernel
theorem dX12_pay_209 : decode cX12_pay 209 = .ok (.bipush 6, 2) := by decide +kernel
theorem dX12_pay_211 : decode cX12_pay 211 = .ok (.if_icmp .ge 19, 3) := by decide +kernel
theorem dX12_pay_214 : decode cX12_pay 214 = .ok (.aload_n 0, 1) := by decide +kernel
theorem dX12_pay_215 : decode cX12_pay 215 = .ok (.iload_n 2, 1) := by decide +kernel
theorem dX12_pay_216 : decode cX12_pay 216 = .ok (.iload 5, 2) := by decide +kernel
theorem dX12_pay_218 : decode cX12_pay 218 = .ok (.bipush 10, 2) := by decide +kernel
theorem dX12_pay_220 : decode cX12_pay 220 = .ok (.idiv, 1) := by decide +kernel
theorem dX12_pay_221 : decode cX12_pay 221 = .ok (.aload_n 0, 1) := by decide +kernel
theorem dX12_pay_222 : decode cX12_pay 222 = .ok (.getfield 140, 3) := by decide +kernel
theorem dX12_pay_225 : decode cX12_pay 225 = .ok (.iload_n 1, 1) := by decide +kernel
theorem dX12_pay_226 : decode cX12_pay 226 = .ok (.iaload, 1) := by decide +kernel
theorem dX12_pay_227 : decode cX12_pay 227 = .ok (.invokevirtual 275, 3) := by decide +kernel
theorem dX12_pay_230 : decode cX12_pay 230 = .ok (.iload 6, 2) := by decide +kernel
theorem dX12_pay_232 : decode cX12_pay 232 = .ok (.ireturn, 1) := by decide +kernel
theorem dX12_readAtom_0 : decode cX12_readAtom 0 = .ok (.aload_n 0, 1) := by decide +kernel
theorem dX12_readAtom_1 : decode cX12_readAtom 1 = .ok (.bipush 40, 2) := by decide +kernel
theorem dX12_readAtom_3 : decode cX12_readAtom 3 = .ok (.invokevirtual 398, 3) := by decide +kernel
theorem dX12_readAtom_6 : decode cX12_readAtom 6 = .ok (.ifCond .eq 50, 3) := by decide +kernel
theorem dX12_readAtom_9 : decode cX12_readAtom 9 = .ok (.aload_n 0, 1) := by decide +kernel
theorem dX12_readAtom_10 : decode cX12_readAtom 10 = .ok (.getfield 401, 3) := by decide +kernel
theorem dX12_readAtom_13 : decode cX12_readAtom 13 = .ok (.bipush 6, 2) := by decide +kernel
theorem dX12_readAtom_15 : decode cX12_readAtom 15 = .ok (.if_icmp .ne 5, 3) := by decide +kernel
theorem dX12_readAtom_18 : decode cX12_readAtom 18 = .ok (.iconst 0, 1) := by decide +kernel
theorem dX12_readAtom_19 : decode cX12_readAtom 19 = .ok (.ireturn, 1) := by decide +kernel
theorem dX12_readAtom_20 : decode cX12_readAtom 20 = .ok (.aload_n 0, 1) := by decide +kernel
theorem dX12_readAtom_21 : decode cX12_readAtom 21 = .ok (.dup, 1) := by decide +kernel
theorem dX12_readAtom_22 : decode cX12_readAtom 22 = .ok (.getfield 401, 3) := by decide +kernel
theorem dX12_readAtom_25 : decode cX12_readAtom 25 = .ok (.iconst 1, 1) := by decide +kernel
theorem dX12_readAtom_26 : decode cX12_readAtom 26 = .ok (.iadd, 1) := by decide +kernel
theorem dX12_readAtom_27 : decode cX12_readAtom 27 = .ok (.putfield 401, 3) := by decide +kernel
theorem dX12_readAtom_30 : decode cX12_readAtom 30 = .ok (.aload_n 0, 1) := by decide +kernel
theorem dX12_readAtom_31 : decode cX12_readAtom 31 = .ok (.invokevirtual 404, 3) := by decide +kernel
theorem dX12_readAtom_34 : decode cX12_readAtom 34 = .ok (.ifCond .ne 5, 3) := by decide +kernel
theorem dX12_readAtom_37 : decode cX12_readAtom 37 = .ok (.iconst 0, 1) := by decide +kernel
theorem dX12_readAtom_38 : decode cX12_readAtom 38 = .ok (.ireturn, 1) := by decide +kernel
theorem dX12_readAtom_39 : decode cX12_readAtom 39 = .ok (.aload_n 0, 1) := by decide +kernel
theorem dX12_readAtom_40 : decode cX12_readAtom 40 = .ok (.dup, 1) := by decide +kernel
theorem dX12_readAtom_41 : decode cX12_readAtom 41 = .ok (.getfield 401, 3) := by decide +kernel
theorem dX12_readAtom_44 : decode cX12_readAtom 44 = .ok (.iconst 1, 1) := by decide +kernel
theorem dX12_readAtom_45 : decode cX12_readAtom 45 = .ok (.isub, 1) := by decide +kernel
theorem dX12_readAtom_46 : decode cX12_readAtom 46 = .ok (.putfield 401, 3) := by decide +kernel
theorem dX12_readAtom_49 : decode cX12_readAtom 49 = .ok (.aload_n 0, 1) := by decide +kernel
theorem dX12_readAtom_50 : decode cX12_readAtom 50 = .ok (.bipush 41, 2) := by decide +kernel
theorem dX12_readAtom_52 : decode cX12_readAtom 52 = .ok (.invokevirtual 398, 3) := by decide +kernel
theorem dX12_readAtom_55 : decode cX12_readAtom 55 = .ok (.ireturn, 1) := by decide +kernel
theorem dX12_readAtom_56 : decode cX12_readAtom 56 = .ok (.aload_n 0, 1) := by decide +kernel
theorem dX12_readAtom_57 : decode cX12_readAtom 57 = .ok (.ldc_w 407, 3) := by decide +kernel
theorem dX12_readAtom_60 : decode cX12_readAtom 60 = .ok (.invokevirtual 409, 3) := by decide +kernel
theorem dX12_readAtom_63 : decode cX12_readAtom 63 = .ok (.ifCond .eq 52, 3) := by decide +kernel
theorem dX12_readAtom_66 : decode cX12_readAtom 66 = .ok (.aload_n 0, 1) := by decide +kernel
theorem dX12_readAtom_67 : decode cX12_readAtom 67 = .ok (.getfield 401, 3) := by decide +kernel
theorem dX12_readAtom_70 : decode cX12_readAtom 70 = .ok (.bipush 6, 2) := by decide +kernel
theorem dX12_readAtom_72 : decode cX12_readAtom 72 = .ok (.if_icmp .ne 5, 3) := by decide +kernel
theorem dX12_readAtom_75 : decode cX12_readAtom 75 = .ok (.iconst 0, 1) := by decide +kernel
theorem dX12_readAtom_76 : decode cX12_readAtom 76 = .ok (.ireturn, 1) := by decide +kernel
theorem dX12_readAtom_77 : decode cX12_readAtom 77 = .ok (.aload_n 0, 1) := by decide +kernel
theorem dX12_readAtom_78 : decode cX12_readAtom 78 = .ok (.dup, 1) := by decide +kernel
theorem dX12_readAtom_79 : decode cX12_readAtom 79 = .ok (.getfield 401, 3) := by decide +kernel
theorem dX12_readAtom_82 : decode cX12_readAtom 82 = .ok (.iconst 1, 1) := by decide +kernel
theorem dX12_readAtom_83 : decode cX12_readAtom 83 = .ok (.iadd, 1) := by decide +kernel
theorem dX12_readAtom_84 : decode cX12_readAtom 84 = .ok (.putfield 401, 3) := by decide +kernel
theorem dX12_readAtom_87 : decode cX12_readAtom 87 = .ok (.aload_n 0, 1) := by decide +kernel
theorem dX12_readAtom_88 : decode cX12_readAtom 88 = .ok (.invokevirtual 412, 3) := by decide +kernel
theorem dX12_readAtom_91 : decode cX12_readAtom 91 = .ok (.ifCond .ne 5, 3) := by decide +kernel
theorem dX12_readAtom_94 : decode cX12_readAtom 94 = .ok (.iconst 0, 1) := by decide +kernel
theorem dX12_readAtom_95 : decode cX12_readAtom 95 = .ok (.ireturn, 1) := by decide +kernel
theorem dX12_readAtom_96 : decode cX12_readAtom 96 = .ok (.aload_n 0, 1) := by decide +kernel
theorem dX12_readAtom_97 : decode cX12_readAtom 97 = .ok (.dup, 1) := by decide +kernel
theorem dX12_readAtom_98 : decode cX12_readAtom 98 = .ok (.getfield 401, 3) := by decide +kernel
theorem dX12_readAtom_101 : decode cX12_readAtom 101 = .ok (.iconst 1, 1) := by decide +kernel
theorem dX12_readAtom_102 : decode cX12_readAtom 102 = .ok (.isub, 1) := by decide +kernel
theorem dX12_readAtom_103 : decode cX12_readAtom 103 = .ok (.putfield 401, 3) := by decide +kernel
theorem dX12_readAtom_106 : decode cX12_readAtom 106 = .ok (.aload_n 0, 1) := by decide +kernel
theorem dX12_readAtom_107 : decode cX12_readAtom 107 = .ok (.bipush 104, 2) := by decide +kernel
theorem dX12_readAtom_109 : decode cX12_readAtom 109 = .ok (.iconst 0, 1) := by decide +kernel
theorem dX12_readAtom_110 : decode cX12_readAtom 110 = .ok (.invokevirtual 387, 3) := by decide +kernel
theorem dX12_readAtom_113 : decode cX12_readAtom 113 = .ok (.iconst 1, 1) := by decide +kernel
theorem dX12_readAtom_114 : decode cX12_readAtom 114 = .ok (.ireturn, 1) := by decide +kernel
theorem dX12_readAtom_115 : decode cX12_readAtom 115 = .ok (.aload_n 0, 1) := by decide +kernel
theorem dX12_readAtom_116 : decode cX12_readAtom 116 = .ok (.invokevirtual 415, 3) := by decide +kernel
theorem dX12_readAtom_119 : decode cX12_readAtom 119 = .ok (.ifCond .ne 5, 3) := by decide +kernel
theorem dX12_readAtom_122 : decode cX12_readAtom 122 = .ok (.iconst 0, 1) := by decide +kernel
theorem dX12_readAtom_123 : decode cX12_readAtom 123 = .ok (.ireturn, 1) := by decide +kernel
theorem dX12_readAtom_124 : decode cX12_readAtom 124 = .ok (.aload_n 0, 1) := by decide +kernel
theorem dX12_readAtom_125 : decode cX12_readAtom 125 = .ok (.bipush 60, 2) := by decide +kernel
theorem dX12_readAtom_127 : decode cX12_readAtom 127 = .ok (.invokevirtual 398, 3) := by decide +kernel
theorem dX12_readAtom_130 : decode cX12_readAtom 130 = .ok (.istore_n 1, 1) := by decide +kernel
theorem dX12_readAtom_131 : decode cX12_readAtom 131 = .ok (.iload_n 1, 1) := by decide +kernel
theorem dX12_readAtom_132 : decode cX12_readAtom 132 = .ok (.ifCond .ne 12, 3) := by decide +kernel
theorem dX12_readAtom_135 : decode cX12_readAtom 135 = .ok (.aload_n 0, 1) := by decide +kernel
theorem dX12_readAtom_136 : decode cX12_readAtom 136 = .ok (.bipush 62, 2) := by decide +kernel
theorem dX12_readAtom_138 : decode cX12_readAtom 138 = .ok (.invokevirtual 398, 3) := by decide +kernel
theorem dX12_readAtom_141 : decode cX12_readAtom 141 = .ok (.ifCond .eq 10, 3) := by decide +kernel
theorem dX12_readAtom_144 : decode cX12_readAtom 144 = .ok (.aload_n 0, 1) := by decide +kernel
theorem dX12_readAtom_145 : decode cX12_readAtom 145 = .ok (.invokevirtual 415, 3) := by decide +kernel
theorem dX12_readAtom_148 : decode cX12_readAtom 148 = .ok (.ifCond .ne 5, 3) := by decide +kernel
theorem dX12_readAtom_151 : decode cX12_readAtom 151 = .ok (.iconst 0, 1) := by decide +kernel
theorem dX12_readAtom_152 : decode cX12_readAtom 152 = .ok (.ireturn, 1) := by decide +kernel
theorem dX12_readAtom_153 : decode cX12_readAtom 153 = .ok (.aload_n 0, 1) := by decide +kernel
theorem dX12_readAtom_154 : decode cX12_readAtom 154 = .ok (.iload_n 1, 1) := by decide +kernel
theorem dX12_readAtom_155 : decode cX12_readAtom 155 = .ok (.ifCond .eq 8, 3) := by decide +kernel
theorem dX12_readAtom_158 : decode cX12_readAtom 158 = .ok (.bipush 102, 2) := by decide +kernel
theorem dX12_readAtom_160 : decode cX12_readAtom 160 = .ok (.goto 5, 3) := by decide +kernel
theorem dX12_readAtom_163 : decode cX12_readAtom 163 = .ok (.bipush 103, 2) := by decide +kernel
theorem dX12_readAtom_165 : decode cX12_readAtom 165 = .ok (.iconst 0, 1) := by decide +kernel
theorem dX12_readAtom_166 : decode cX12_readAtom 166 = .ok (.invokevirtual 387, 3) := by decide +kernel
theorem dX12_readAtom_169 : decode cX12_readAtom 169 = .ok (.iconst 1, 1) := by decide +kernel
theorem dX12_readAtom_170 : decode cX12_readAtom 170 = .ok (.ireturn, 1) := by decide +kernel
theorem dX12_readCond_0 : decode cX12_readCond 0 = .ok (.aload_n 0, 1) := by decide +kernel
theorem dX12_readCond_1 : decode cX12_readCond 1 = .ok (.invokevirtual 420, 3) := by decide +kernel
theorem dX12_readCond_4 : decode cX12_readCond 4 = .ok (.ifCond .ne 5, 3) := by decide +kernel
theorem dX12_readCond_7 : decode cX12_readCond 7 = .ok (.iconst 0, 1) := by decide +kernel
theorem dX12_readCond_8 : decode cX12_readCond 8 = .ok (.ireturn, 1) := by decide +kernel
theorem dX12_readCond_9 : decode cX12_readCond 9 = .ok (.aload_n 0, 1) := by decide +kernel
theorem dX12_readCond_10 : decode cX12_readCond 10 = .ok (.ldc_w 423, 3) := by decide +kernel
theorem dX12_readCond_13 : decode cX12_readCond 13 = .ok (.invokevirtual 409, 3) := by decide +kernel
theorem dX12_readCond_16 : decode cX12_readCond 16 = .ok (.ifCond .eq 22, 3) := by decide +kernel
theorem dX12_readCond_19 : decode cX12_readCond 19 = .ok (.aload_n 0, 1) := by decide +kernel
theorem dX12_readCond_20 : decode cX12_readCond 20 = .ok (.invokevirtual 420, 3) := by decide +kernel
theorem dX12_readCond_23 : decode cX12_readCond 23 = .ok (.ifCond .ne 5, 3) := by decide +kernel
theorem dX12_readCond_26 : decode cX12_readCond 26 = .ok (.iconst 0, 1) := by decide +kernel
theorem dX12_readCond_27 : decode cX12_readCond 27 = .ok (.ireturn, 1) := by decide +kernel
theorem dX12_readCond_28 : decode cX12_readCond 28 = .ok (.aload_n 0, 1) := by decide +kernel
theorem dX12_readCond_29 : decode cX12_readCond 29 = .ok (.bipush 106, 2) := by decide +kernel
theorem dX12_readCond_31 : decode cX12_readCond 31 = .ok (.iconst 0, 1) := by decide +kernel
theorem dX12_readCond_32 : decode cX12_readCond 32 = .ok (.invokevirtual 387, 3) := by decide +kernel
theorem dX12_readCond_35 : decode cX12_readCond 35 = .ok (.goto (-26), 3) := by decide +kernel
theorem dX12_readCond_38 : decode cX12_readCond 38 = .ok (.iconst 1, 1) := by decide +kernel
theorem dX12_readCond_39 : decode cX12_readCond 39 = .ok (.ireturn, 1) := by decide +kernel
theorem dX12_seep_0 : decode cX12_seep 0 = .ok (.aload_n 0, 1) := by decide +kernel
theorem dX12_seep_1 : decode cX12_seep 1 = .ok (.iconst 0, 1) := by decide +kernel
theorem dX12_seep_2 : decode cX12_seep 2 = .ok (.putfield 194, 3) := by decide +kernel
theorem dX12_seep_5 : decode cX12_seep 5 = .ok (.aload_n 0, 1) := by decide +kernel
theorem dX12_seep_6 : decode cX12_seep 6 = .ok (.aload_n 0, 1) := by decide +kernel
theorem dX12_seep_7 : decode cX12_seep 7 = .ok (.iload_n 1, 1) := by decide +kernel
theorem dX12_seep_8 : decode cX12_seep 8 = .ok (.invokevirtual 269, 3) := by decide +kernel
theorem dX12_seep_11 : decode cX12_seep 11 = .ok (.iconst 1, 1) := by decide +kernel
theorem dX12_seep_12 : decode cX12_seep 12 = .ok (.invokevirtual 224, 3) := by decide +kernel
theorem dX12_seep_15 : decode cX12_seep 15 = .ok (.ifCond .ne 50, 3) := by decide +kernel
theorem dX12_seep_18 : decode cX12_seep 18 = .ok (.aload_n 0, 1) := by decide +kernel
theorem dX12_seep_19 : decode cX12_seep 19 = .ok (.iload_n 2, 1) := by decide +kernel
theorem dX12_seep_20 : decode cX12_seep 20 = .ok (.sipush (-1000), 3) := by decide +kernel
theorem dX12_seep_23 : decode cX12_seep 23 = .ok (.sipush 1000, 3) := by decide +kernel
theorem dX12_seep_26 : decode cX12_seep 26 = .ok (.invokestatic 197, 3) := by decide +kernel
theorem dX12_seep_29 : decode cX12_seep 29 = .ok (.ifCond .ne 7, 3) := by decide +kernel
theorem dX12_seep_32 : decode cX12_seep 32 = .ok (.iconst 1, 1) := by decide +kernel
theorem dX12_seep_33 : decode cX12_seep 33 = .ok (.goto 4, 3) := by decide +kernel
theorem dX12_seep_36 : decode cX12_seep 36 = .ok (.iconst 0, 1) := by decide +kernel
theorem dX12_seep_37 : decode cX12_seep 37 = .ok (.iconst 2, 1) := by decide +kernel
theorem dX12_seep_38 : decode cX12_seep 38 = .ok (.invokevirtual 224, 3) := by decide +kernel
theorem dX12_seep_41 : decode cX12_seep 41 = .ok (.ifCond .ne 24, 3) := by decide +kernel
theorem dX12_seep_44 : decode cX12_seep 44 = .ok (.aload_n 0, 1) := by decide +kernel
theorem dX12_seep_45 : decode cX12_seep 45 = .ok (.aload_n 0, 1) := by decide +kernel
theorem dX12_seep_46 : decode cX12_seep 46 = .ok (.iload_n 1, 1) := by decide +kernel
theorem dX12_seep_47 : decode cX12_seep 47 = .ok (.invokevirtual 272, 3) := by decide +kernel
theorem dX12_seep_50 : decode cX12_seep 50 = .ok (.ifCond .ne 7, 3) := by decide +kernel
theorem dX12_seep_53 : decode cX12_seep 53 = .ok (.iconst 1, 1) := by decide +kernel
theorem dX12_seep_54 : decode cX12_seep 54 = .ok (.goto 4, 3) := by decide +kernel
theorem dX12_seep_57 : decode cX12_seep 57 = .ok (.iconst 0, 1) := by decide +kernel
theorem dX12_seep_58 : decode cX12_seep 58 = .ok (.iconst 3, 1) := by decide +kernel
theorem dX12_seep_59 : decode cX12_seep 59 = .ok (.invokevirtual 224, 3) := by decide +kernel
theorem dX12_seep_62 : decode cX12_seep 62 = .ok (.ifCond .eq 5, 3) := by decide +kernel
theorem dX12_seep_65 : decode cX12_seep 65 = .ok (.iconst 0, 1) := by decide +kernel
theorem dX12_seep_66 : decode cX12_seep 66 = .ok (.ireturn, 1) := by decide +kernel
theorem dX12_seep_67 : decode cX12_seep 67 = .ok (.aload_n 0, 1) := by decide +kernel
theorem dX12_seep_68 : decode cX12_seep 68 = .ok (.iload_n 1, 1) := by decide +kernel
theorem dX12_seep_69 : decode cX12_seep 69 = .ok (.iconst 0, 1) := by decide +kernel
theorem dX12_seep_70 : decode cX12_seep 70 = .ok (.invokevirtual 217, 3) := by decide +kernel
theorem dX12_seep_73 : decode cX12_seep 73 = .ok (.iconst 1, 1) := by decide +kernel
theorem dX12_seep_74 : decode cX12_seep 74 = .ok (.if_icmp .ne 7, 3) := by decide +kernel
theorem dX12_seep_77 : decode cX12_seep 77 = .ok (.iconst 0, 1) := by decide +kernel
theorem dX12_seep_78 : decode cX12_seep 78 = .ok (.goto 9, 3) := by decide +kernel
theorem dX12_seep_81 : decode cX12_seep 81 = .ok (.aload_n 0, 1) := by decide +kernel
theorem dX12_seep_82 : decode cX12_seep 82 = .ok (.iload_n 1, 1) := by decide +kernel
theorem dX12_seep_83 : decode cX12_seep 83 = .ok (.iload_n 2, 1) := by decide +kernel
theorem dX12_seep_84 : decode cX12_seep 84 = .ok (.invokevirtual 288, 3) := by decide +kernel
theorem dX12_seep_87 : decode cX12_seep 87 = .ok (.ireturn, 1) := by decide +kernel
theorem dX12_shut_0 : decode cX12_shut 0 = .ok (.aload_n 0, 1) := by decide +kernel
theorem dX12_shut_1 : decode cX12_shut 1 = .ok (.iconst 0, 1) := by decide +kernel
theorem dX12_shut_2 : decode cX12_shut 2 = .ok (.putfield 194, 3) := by decide +kernel
theorem dX12_shut_5 : decode cX12_shut 5 = .ok (.aload_n 0, 1) := by decide +kernel
theorem dX12_shut_6 : decode cX12_shut 6 = .ok (.aload_n 0, 1) := by decide +kernel
theorem dX12_shut_7 : decode cX12_shut 7 = .ok (.iload_n 1, 1) := by decide +kernel
theorem dX12_shut_8 : decode cX12_shut 8 = .ok (.invokevirtual 269, 3) := by decide +kernel
theorem dX12_shut_11 : decode cX12_shut 11 = .ok (.iconst 1, 1) := by decide +kernel
theorem dX12_shut_12 : decode cX12_shut 12 = .ok (.invokevirtual 224, 3) := by decide +kernel
theorem dX12_shut_15 : decode cX12_shut 15 = .ok (.ifCond .ne 26, 3) := by decide +kernel
theorem dX12_shut_18 : decode cX12_shut 18 = .ok (.aload_n 0, 1) := by decide +kernel
theorem dX12_shut_19 : decode cX12_shut 19 = .ok (.aload_n 0, 1) := by decide +kernel
theorem dX12_shut_20 : decode cX12_shut 20 = .ok (.iload_n 1, 1) := by decide +kernel
theorem dX12_shut_21 : decode cX12_shut 21 = .ok (.iconst 0, 1) := by decide +kernel
theorem dX12_shut_22 : decode cX12_shut 22 = .ok (.invokevirtual 217, 3) := by decide +kernel
theorem dX12_shut_25 : decode cX12_shut 25 = .ok (.iconst 1, 1) := by decide +kernel
theorem dX12_shut_26 : decode cX12_shut 26 = .ok (.if_icmp .eq 7, 3) := by decide +kernel
theorem dX12_shut_29 : decode cX12_shut 29 = .ok (.iconst 1, 1) := by decide +kernel
theorem dX12_shut_30 : decode cX12_shut 30 = .ok (.goto 4, 3) := by decide +kernel
theorem dX12_shut_33 : decode cX12_shut 33 = .ok (.iconst 0, 1) := by decide +kernel
theorem dX12_shut_34 : decode cX12_shut 34 = .ok (.iconst 2, 1) := by decide +kernel
theorem dX12_shut_35 : decode cX12_shut 35 = .ok (.invokevirtual 224, 3) := by decide +kernel
theorem dX12_shut_38 : decode cX12_shut 38 = .ok (.ifCond .eq 5, 3) := by decide +kernel
theorem dX12_shut_41 : decode cX12_shut 41 = .ok (.iconst 0, 1) := by decide +kernel
theorem dX12_shut_42 : decode cX12_shut 42 = .ok (.ireturn, 1) := by decide +kernel
theorem dX12_shut_43 : decode cX12_shut 43 = .ok (.aload_n 0, 1) := by decide +kernel
theorem dX12_shut_44 : decode cX12_shut 44 = .ok (.getfield 9, 3) := by decide +kernel
theorem dX12_shut_47 : decode cX12_shut 47 = .ok (.iload_n 1, 1) := by decide +kernel
theorem dX12_shut_48 : decode cX12_shut 48 = .ok (.iconst 0, 1) := by decide +kernel
theorem dX12_shut_49 : decode cX12_shut 49 = .ok (.invokestatic 214, 3) := by decide +kernel
theorem dX12_shut_52 : decode cX12_shut 52 = .ok (.iconst 0, 1) := by decide +kernel
theorem dX12_shut_53 : decode cX12_shut 53 = .ok (.iastore, 1) := by decide +kernel
theorem dX12_shut_54 : decode cX12_shut 54 = .ok (.aload_n 0, 1) := by decide +kernel
theorem dX12_shut_55 : decode cX12_shut 55 = .ok (.getfield 9, 3) := by decide +kernel
theorem dX12_shut_58 : decode cX12_shut 58 = .ok (.iload_n 1, 1) := by decide +kernel
theorem dX12_shut_59 : decode cX12_shut 59 = .ok (.bipush 17, 2) := by decide +kernel
theorem dX12_shut_61 : decode cX12_shut 61 = .ok (.invokestatic 214, 3) := by decide +kernel
theorem dX12_shut_64 : decode cX12_shut 64 = .ok (.iconst 0, 1) := by decide +kernel
theorem dX12_shut_65 : decode cX12_shut 65 = .ok (.iastore, 1) := by decide +kernel
theorem dX12_shut_66 : decode cX12_shut 66 = .ok (.aload_n 0, 1) := by decide +kernel
theorem dX12_shut_67 : decode cX12_shut 67 = .ok (.iconst 0, 1) := by decide +kernel
theorem dX12_shut_68 : decode cX12_shut 68 = .ok (.putfield 238, 3) := by decide +kernel
theorem dX12_shut_71 : decode cX12_shut 71 = .ok (.iconst 1, 1) := by decide +kernel
theorem dX12_shut_72 : decode cX12_shut 72 = .ok (.ireturn, 1) := by decide +kernel
theorem dX12_sow_0 : decode cX12_sow 0 = .ok (.aload_n 0, 1) := by decide +kernel
theorem dX12_sow_1 : decode cX12_sow 1 = .ok (.iconst 0, 1) := by decide +kernel
theorem dX12_sow_2 : decode cX12_sow 2 = .ok (.putfield 194, 3) := by decide +kernel
theorem dX12_sow_5 : decode cX12_sow 5 = .ok (.aload_n 0, 1) := by decide +kernel
theorem dX12_sow_6 : decode cX12_sow 6 = .ok (.aload_n 0, 1) := by decide +kernel
theorem dX12_sow_7 : decode cX12_sow 7 = .ok (.iload_n 1, 1) := by decide +kernel
theorem dX12_sow_8 : decode cX12_sow 8 = .ok (.invokevirtual 502, 3) := by decide +kernel
theorem dX12_sow_11 : decode cX12_sow 11 = .ok (.iconst 1, 1) := by decide +kernel
theorem dX12_sow_12 : decode cX12_sow 12 = .ok (.invokevirtual 224, 3) := by decide +kernel
theorem dX12_sow_15 : decode cX12_sow 15 = .ok (.ifCond .ne 25, 3) := by decide +kernel
theorem dX12_sow_18 : decode cX12_sow 18 = .ok (.aload_n 0, 1) := by decide +kernel
theorem dX12_sow_19 : decode cX12_sow 19 = .ok (.iload_n 2, 1) := by decide +kernel
theorem dX12_sow_20 : decode cX12_sow 20 = .ok (.iconst 0, 1) := by decide +kernel
theorem dX12_sow_21 : decode cX12_sow 21 = .ok (.iconst 3, 1) := by decide +kernel
theorem dX12_sow_22 : decode cX12_sow 22 = .ok (.invokestatic 197, 3) := by decide +kernel
theorem dX12_sow_25 : decode cX12_sow 25 = .ok (.ifCond .ne 7, 3) := by decide +kernel
theorem dX12_sow_28 : decode cX12_sow 28 = .ok (.iconst 1, 1) := by decide +kernel
theorem dX12_sow_29 : decode cX12_sow 29 = .ok (.goto 4, 3) := by decide +kernel
theorem dX12_sow_32 : decode cX12_sow 32 = .ok (.iconst 0, 1) := by decide +kernel
theorem dX12_sow_33 : decode cX12_sow 33 = .ok (.iconst 2, 1) := by decide +kernel
theorem dX12_sow_34 : decode cX12_sow 34 = .ok (.invokevirtual 224, 3) := by decide +kernel
theorem dX12_sow_37 : decode cX12_sow 37 = .ok (.ifCond .eq 5, 3) := by decide +kernel
theorem dX12_sow_40 : decode cX12_sow 40 = .ok (.iconst 0, 1) := by decide +kernel
theorem dX12_sow_41 : decode cX12_sow 41 = .ok (.ireturn, 1) := by decide +kernel
theorem dX12_sow_42 : decode cX12_sow 42 = .ok (.aload_n 0, 1) := by decide +kernel
theorem dX12_sow_43 : decode cX12_sow 43 = .ok (.getfield 119, 3) := by decide +kernel
theorem dX12_sow_46 : decode cX12_sow 46 = .ok (.iload_n 1, 1) := by decide +kernel
theorem dX12_sow_47 : decode cX12_sow 47 = .ok (.iaload, 1) := by decide +kernel
theorem dX12_sow_48 : decode cX12_sow 48 = .ok (.iload_n 2, 1) := by decide +kernel
theorem dX12_sow_49 : decode cX12_sow 49 = .ok (.if_icmp .eq 7, 3) := by decide +kernel
theorem dX12_sow_52 : decode cX12_sow 52 = .ok (.iconst 1, 1) := by decide +kernel
theorem dX12_sow_53 : decode cX12_sow 53 = .ok (.goto 4, 3) := by decide +kernel
theorem dX12_sow_56 : decode cX12_sow 56 = .ok (.iconst 0, 1) := by decide +kernel
theorem dX12_sow_57 : decode cX12_sow 57 = .ok (.istore_n 3, 1) := by decide +kernel
theorem dX12_sow_58 : decode cX12_sow 58 = .ok (.aload_n 0, 1) := by decide +kernel
theorem dX12_sow_59 : decode cX12_sow 59 = .ok (.getfield 119, 3) := by decide +kernel
theorem dX12_sow_62 : decode cX12_sow 62 = .ok (.iload_n 1, 1) := by decide +kernel
theorem dX12_sow_63 : decode cX12_sow 63 = .ok (.iload_n 2, 1) := by decide +kernel
theorem dX12_sow_64 : decode cX12_sow 64 = .ok (.iastore, 1) := by decide +kernel
theorem dX12_sow_65 : decode cX12_sow 65 = .ok (.iload_n 3, 1) := by decide +kernel
theorem dX12_sow_66 : decode cX12_sow 66 = .ok (.ireturn, 1) := by decide +kernel
theorem dX12_storm_0 : decode cX12_storm 0 = .ok (.aload_n 0, 1) := by decide +kernel
theorem dX12_storm_1 : decode cX12_storm 1 = .ok (.iconst 0, 1) := by decide +kernel
theorem dX12_storm_2 : decode cX12_storm 2 = .ok (.putfield 194, 3) := by decide +kernel
theorem dX12_storm_5 : decode cX12_storm 5 = .ok (.aload_n 0, 1) := by decide +kernel
theorem dX12_storm_6 : decode cX12_storm 6 = .ok (.iload_n 1, 1) := by decide +kernel
theorem dX12_storm_7 : decode cX12_storm 7 = .ok (.ifCond .lt 25, 3) := by decide +kernel
theorem dX12_storm_10 : decode cX12_storm 10 = .ok (.iload_n 2, 1) := by decide +kernel
theorem dX12_storm_11 : decode cX12_storm 11 = .ok (.iload_n 1, 1) := by decide +kernel
theorem dX12_storm_12 : decode cX12_storm 12 = .ok (.if_icmp .lt 20, 3) := by decide +kernel
theorem dX12_storm_15 : decode cX12_storm 15 = .ok (.iload_n 2, 1) := by decide +kernel
theorem dX12_storm_16 : decode cX12_storm 16 = .ok (.ldc 242, 2) := by decide +kernel
theorem dX12_storm_18 : decode cX12_storm 18 = .ok (.if_icmp .gt 14, 3) := by decide +kernel
theorem dX12_storm_21 : decode cX12_storm 21 = .ok (.iload_n 3, 1) := by decide +kernel
theorem dX12_storm_22 : decode cX12_storm 22 = .ok (.iconst 1, 1) := by decide +kernel
theorem dX12_storm_23 : decode cX12_storm 23 = .ok (.sipush 500, 3) := by decide +kernel
theorem dX12_storm_26 : decode cX12_storm 26 = .ok (.invokestatic 197, 3) := by decide +kernel
theorem dX12_storm_29 : decode cX12_storm 29 = .ok (.ifCond .ne 7, 3) := by decide +kernel
theorem dX12_storm_32 : decode cX12_storm 32 = .ok (.iconst 1, 1) := by decide +kernel
theorem dX12_storm_33 : decode cX12_storm 33 = .ok (.goto 4, 3) := by decide +kernel
theorem dX12_storm_36 : decode cX12_storm 36 = .ok (.iconst 0, 1) := by decide +kernel
theorem dX12_storm_37 : decode cX12_storm 37 = .ok (.iconst 1, 1) := by decide +kernel
theorem dX12_storm_38 : decode cX12_storm 38 = .ok (.invokevirtual 224, 3) := by decide +kernel
theorem dX12_storm_41 : decode cX12_storm 41 = .ok (.ifCond .eq 5, 3) := by decide +kernel
theorem dX12_storm_44 : decode cX12_storm 44 = .ok (.iconst 0, 1) := by decide +kernel
theorem dX12_storm_45 : decode cX12_storm 45 = .ok (.ireturn, 1) := by decide +kernel
theorem dX12_storm_46 : decode cX12_storm 46 = .ok (.aload_n 0, 1) := by decide +kernel
theorem dX12_storm_47 : decode cX12_storm 47 = .ok (.getfield 9, 3) := by decide +kernel
theorem dX12_storm_50 : decode cX12_storm 50 = .ok (.sipush 1442, 3) := by decide +kernel
theorem dX12_storm_53 : decode cX12_storm 53 = .ok (.iaload, 1) := by decide +kernel
theorem dX12_storm_54 : decode cX12_storm 54 = .ok (.istore 4, 2) := by decide +kernel
theorem dX12_storm_56 : decode cX12_storm 56 = .ok (.iload 4, 2) := by decide +kernel
theorem dX12_storm_58 : decode cX12_storm 58 = .ok (.bipush 20, 2) := by decide +kernel
theorem dX12_storm_60 : decode cX12_storm 60 = .ok (.if_icmp .ne 5, 3) := by decide +kernel
theorem dX12_storm_63 : decode cX12_storm 63 = .ok (.iconst (-1), 1) := by decide +kernel
theorem dX12_storm_64 : decode cX12_storm 64 = .ok (.ireturn, 1) := by decide +kernel
theorem dX12_storm_65 : decode cX12_storm 65 = .ok (.aload_n 0, 1) := by decide +kernel
theorem dX12_storm_66 : decode cX12_storm 66 = .ok (.getfield 9, 3) := by decide +kernel
theorem dX12_storm_69 : decode cX12_storm 69 = .ok (.sipush 1443, 3) := by decide +kernel
theorem dX12_storm_72 : decode cX12_storm 72 = .ok (.iconst 3, 1) := by decide +kernel
theorem dX12_storm_73 : decode cX12_storm 73 = .ok (.iload 4, 2) := by decide +kernel
theorem dX12_storm_75 : decode cX12_storm 75 = .ok (.imul, 1) := by decide +kernel
theorem dX12_storm_76 : decode cX12_storm 76 = .ok (.iadd, 1) := by decide +kernel
theorem dX12_storm_77 : decode cX12_storm 77 = .ok (.iload_n 1, 1) := by decide +kernel
theorem dX12_storm_78 : decode cX12_storm 78 = .ok (.iastore, 1) := by decide +kernel
theorem dX12_storm_79 : decode cX12_storm 79 = .ok (.aload_n 0, 1) := by decide +kernel
theorem dX12_storm_80 : decode cX12_storm 80 = .ok (.getfield 9, 3) := by decide +kernel
theorem dX12_storm_83 : decode cX12_storm 83 = .ok (.sipush 1443, 3) := by decide +kernel
theorem dX12_storm_86 : decode cX12_storm 86 = .ok (.iconst 3, 1) := by decide +kernel
theorem dX12_storm_87 : decode cX12_storm 87 = .ok (.iload 4, 2) := by decide +kernel
theorem dX12_storm_89 : decode cX12_storm 89 = .ok (.imul, 1) := by decide +kernel
theorem dX12_storm_90 : decode cX12_storm 90 = .ok (.iadd, 1) := by decide +kernel
theorem dX12_storm_91 : decode cX12_storm 91 = .ok (.iconst 1, 1) := by decide +kernel
theorem dX12_storm_92 : decode cX12_storm 92 = .ok (.iadd, 1) := by decide +kernel
theorem dX12_storm_93 : decode cX12_storm 93 = .ok (.iload_n 2, 1) := by decide +kernel
theorem dX12_storm_94 : decode cX12_storm 94 = .ok (.iastore, 1) := by decide +kernel
theorem dX12_storm_95 : decode cX12_storm 95 = .ok (.aload_n 0, 1) := by decide +kernel
theorem dX12_storm_96 : decode cX12_storm 96 = .ok (.getfield 9, 3) := by decide +kernel
theorem dX12_storm_99 : decode cX12_storm 99 = .ok (.sipush 1443, 3) := by decide +kernel
theorem dX12_storm_102 : decode cX12_storm 102 = .ok (.iconst 3, 1) := by decide +kernel
theorem dX12_storm_103 : decode cX12_storm 103 = .ok (.iload 4, 2) := by decide +kernel
theorem dX12_storm_105 : decode cX12_storm 105 = .ok (.imul, 1) := by decide +kernel
theorem dX12_storm_106 : decode cX12_storm 106 = .ok (.iadd, 1) := by decide +kernel
theorem dX12_storm_107 : decode cX12_storm 107 = .ok (.iconst 2, 1) := by decide +kernel
theorem dX12_storm_108 : decode cX12_storm 108 = .ok (.iadd, 1) := by decide +kernel
theorem dX12_storm_109 : decode cX12_storm 109 = .ok (.iload_n 3, 1) := by decide +kernel
theorem dX12_storm_110 : decode cX12_storm 110 = .ok (.iastore, 1) := by decide +kernel
theorem dX12_storm_111 : decode cX12_storm 111 = .ok (.aload_n 0, 1) := by decide +kernel
theorem dX12_storm_112 : decode cX12_storm 112 = .ok (.getfield 9, 3) := by decide +kernel
theorem dX12_storm_115 : decode cX12_storm 115 = .ok (.sipush 1442, 3) := by decide +kernel
theorem dX12_storm_118 : decode cX12_storm 118 = .ok (.dup2, 1) := by decide +kernel
theorem dX12_storm_119 : decode cX12_storm 119 = .ok (.iaload, 1) := by decide +kernel
theorem dX12_storm_120 : decode cX12_storm 120 = .ok (.iconst 1, 1) := by decide +kernel
theorem dX12_storm_121 : decode cX12_storm 121 = .ok (.iadd, 1) := by decide +kernel
theorem dX12_storm_122 : decode cX12_storm 122 = .ok (.iastore, 1) := by decide +kernel
theorem dX12_storm_123 : decode cX12_storm 123 = .ok (.aload_n 0, 1) := by decide +kernel
theorem dX12_storm_124 : decode cX12_storm 124 = .ok (.iconst 0, 1) := by decide +kernel
theorem dX12_storm_125 : decode cX12_storm 125 = .ok (.putfield 238, 3) := by decide +kernel
theorem dX12_storm_128 : decode cX12_storm 128 = .ok (.iload 4, 2) := by decide +kernel
theorem dX12_storm_130 : decode cX12_storm 130 = .ok (.iconst 1, 1) := by decide +kernel
theorem dX12_storm_131 : decode cX12_storm 131 = .ok (.iadd, 1) := by decide +kernel
theorem dX12_storm_132 : decode cX12_storm 132 = .ok (.ireturn, 1) := by decide +kernel
theorem dX12_telling_0 : decode cX12_telling 0 = .ok (.iconst (-1), 1) := by decide +kernel
theorem dX12_telling_1 : decode cX12_telling 1 = .ok (.istore 4, 2) := by decide +kernel
theorem dX12_telling_3 : decode cX12_telling 3 = .ok (.iload_n 2, 1) := by decide +kernel
theorem dX12_telling_4 : decode cX12_telling 4 = .ok (.istore 5, 2) := by decide +kernel
theorem dX12_telling_6 : decode cX12_telling 6 = .ok (.iload 5, 2) := by decide +kernel
theorem dX12_telling_8 : decode cX12_telling 8 = .ok (.iload_n 2, 1) := by decide +kernel
theorem dX12_telling_9 : decode cX12_telling 9 = .ok (.iconst 2, 1) := by decide +kernel
theorem dX12_telling_10 : decode cX12_telling 10 = .ok (.aload_n 0, 1) := by decide +kernel
theorem dX12_telling_11 : decode cX12_telling 11 = .ok (.getfield 9, 3) := by decide +kernel
theorem dX12_telling_14 : decode cX12_telling 14 = .ok (.iload_n 1, 1) := by decide +kernel
theorem dX12_telling_15 : decode cX12_telling 15 = .ok (.iaload, 1) := by decide +kernel
theorem dX12_telling_16 : decode cX12_telling 16 = .ok (.imul, 1) := by decide +kernel
theorem dX12_telling_17 : decode cX12_telling 17 = .ok (.iadd, 1) := by decide +kernel
theorem dX12_telling_18 : decode cX12_telling 18 = .ok (.if_icmp .ge 46, 3) := by decide +kernel
theorem dX12_telling_21 : decode cX12_telling 21 = .ok (.aload_n 0, 1) := by decide +kernel
theorem dX12_telling_22 : decode cX12_telling 22 = .ok (.getfield 9, 3) := by decide +kernel
theorem dX12_telling_25 : decode cX12_telling 25 = .ok (.iload 5, 2) := by decide +kernel
theorem dX12_telling_27 : decode cX12_telling 27 = .ok (.iaload, 1) := by decide +kernel
theorem dX12_telling_28 : decode cX12_telling 28 = .ok (.iload_n 3, 1) := by decide +kernel
theorem dX12_telling_29 : decode cX12_telling 29 = .ok (.if_icmp .gt 29, 3) := by decide +kernel
theorem dX12_telling_32 : decode cX12_telling 32 = .ok (.iload 4, 2) := by decide +kernel
theorem dX12_telling_34 : decode cX12_telling 34 = .ok (.ifCond .lt 20, 3) := by decide +kernel
theorem dX12_telling_37 : decode cX12_telling 37 = .ok (.aload_n 0, 1) := by decide +kernel
theorem dX12_telling_38 : decode cX12_telling 38 = .ok (.getfield 9, 3) := by decide +kernel
theorem dX12_telling_41 : decode cX12_telling 41 = .ok (.iload 5, 2) := by decide +kernel
theorem dX12_telling_43 : decode cX12_telling 43 = .ok (.iaload, 1) := by decide +kernel
theorem dX12_telling_44 : decode cX12_telling 44 = .ok (.aload_n 0, 1) := by decide +kernel
theorem dX12_telling_45 : decode cX12_telling 45 = .ok (.getfield 9, 3) := by decide +kernel
theorem dX12_telling_48 : decode cX12_telling 48 = .ok (.iload 4, 2) := by decide +kernel
theorem dX12_telling_50 : decode cX12_telling 50 = .ok (.iaload, 1) := by decide +kernel
theorem dX12_telling_51 : decode cX12_telling 51 = .ok (.if_icmp .lt 7, 3) := by decide +kernel
theorem dX12_telling_54 : decode cX12_telling 54 = .ok (.iload 5, 2) := by decide +kernel
theorem dX12_telling_56 : decode cX12_telling 56 = .ok (.istore 4, 2) := by decide +kernel
theorem dX12_telling_58 : decode cX12_telling 58 = .ok (.iinc 5 2, 3) := by decide +kernel
theorem dX12_telling_61 : decode cX12_telling 61 = .ok (.goto (-55), 3) := by decide +kernel
theorem dX12_telling_64 : decode cX12_telling 64 = .ok (.iload 4, 2) := by decide +kernel
theorem dX12_telling_66 : decode cX12_telling 66 = .ok (.ireturn, 1) := by decide +kernel
theorem dX12_worth_0 : decode cX12_worth 0 = .ok (.aload_n 0, 1) := by decide +kernel
theorem dX12_worth_1 : decode cX12_worth 1 = .ok (.iconst 0, 1) := by decide +kernel
theorem dX12_worth_2 : decode cX12_worth 2 = .ok (.putfield 194, 3) := by decide +kernel
theorem dX12_worth_5 : decode cX12_worth 5 = .ok (.aload_n 0, 1) := by decide +kernel
theorem dX12_worth_6 : decode cX12_worth 6 = .ok (.aload_n 0, 1) := by decide +kernel
theorem dX12_worth_7 : decode cX12_worth 7 = .ok (.iload_n 1, 1) := by decide +kernel
theorem dX12_worth_8 : decode cX12_worth 8 = .ok (.invokevirtual 502, 3) := by decide +kernel
theorem dX12_worth_11 : decode cX12_worth 11 = .ok (.iconst 1, 1) := by decide +kernel
theorem dX12_worth_12 : decode cX12_worth 12 = .ok (.invokevirtual 224, 3) := by decide +kernel
theorem dX12_worth_15 : decode cX12_worth 15 = .ok (.ifCond .eq 7, 3) := by decide +kernel
theorem dX12_worth_18 : decode cX12_worth 18 = .ok (.iconst 0, 1) := by decide +kernel
theorem dX12_worth_19 : decode cX12_worth 19 = .ok (.goto 8, 3) := by decide +kernel
theorem dX12_worth_22 : decode cX12_worth 22 = .ok (.aload_n 0, 1) := by decide +kernel
theorem dX12_worth_23 : decode cX12_worth 23 = .ok (.iload_n 1, 1) := by decide +kernel
theorem dX12_worth_24 : decode cX12_worth 24 = .ok (.invokevirtual 505, 3) := by decide +kernel
theorem dX12_worth_27 : decode cX12_worth 27 = .ok (.ireturn, 1) := by decide +kernel
