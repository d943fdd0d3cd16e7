theorem dX11_settler_58 : decode cX11_settler 58 = .ok (.invokestatic 62, 3) := by decide +kernel
theorem dX11_settler_61 : decode cX11_settler 61 = .ok (.aload_n 0, 1) := by decide +kernel
theorem dX11_settler_62 : decode cX11_settler 62 = .ok (.getfield 30, 3) := by decide +kernel
theorem dX11_settler_65 : decode cX11_settler 65 = .ok (.getfield 342, 3) := by decide +kernel
theorem dX11_settler_68 : decode cX11_settler 68 = .ok (.bipush 60, 2) := by decide +kernel
theorem dX11_settler_70 : decode cX11_settler 70 = .ok (.if_icmp .ne 14, 3) := by decide +kernel
theorem dX11_settler_73 : decode cX11_settler 73 = .ok (.new 345, 3) := by decide +kernel
theorem dX11_settler_76 : decode cX11_settler 76 = .ok (.dup, 1) := by decide +kernel
theorem dX11_settler_77 : decode cX11_settler 77 = .ok (.ldc_w 347, 3) := by decide +kernel
theorem dX11_settler_80 : decode cX11_settler 80 = .ok (.invokespecial 349, 3) := by decide +kernel
theorem dX11_settler_83 : decode cX11_settler 83 = .ok (.athrow, 1) := by decide +kernel
theorem dX11_settler_84 : decode cX11_settler 84 = .ok (.aload_n 0, 1) := by decide +kernel
theorem dX11_settler_85 : decode cX11_settler 85 = .ok (.getfield 30, 3) := by decide +kernel
theorem dX11_settler_88 : decode cX11_settler 88 = .ok (.new 350, 3) := by decide +kernel
theorem dX11_settler_91 : decode cX11_settler 91 = .ok (.dup, 1) := by decide +kernel
theorem dX11_settler_92 : decode cX11_settler 92 = .ok (.iload_n 1, 1) := by decide +kernel
theorem dX11_settler_93 : decode cX11_settler 93 = .ok (.iload_n 2, 1) := by decide +kernel
theorem dX11_settler_94 : decode cX11_settler 94 = .ok (.iload_n 3, 1) := by decide +kernel
theorem dX11_settler_95 : decode cX11_settler 95 = .ok (.iload 4, 2) := by decide +kernel
theorem dX11_settler_97 : decode cX11_settler 97 = .ok (.iload 5, 2) := by decide +kernel
theorem dX11_settler_99 : decode cX11_settler 99 = .ok (.iload 6, 2) := by decide +kernel
theorem dX11_settler_101 : decode cX11_settler 101 = .ok (.iload 7, 2) := by decide +kernel
theorem dX11_settler_103 : decode cX11_settler 103 = .ok (.invokespecial 352, 3) := by decide +kernel
theorem dX11_settler_106 : decode cX11_settler 106 = .ok (.invokevirtual 355, 3) := by decide +kernel
theorem dX11_settler_109 : decode cX11_settler 109 = .ok (.ireturn, 1) := by decide +kernel
theorem dX11_farm_0 : decode cX11_farm 0 = .ok (.iload_n 1, 1) := by decide +kernel
theorem dX11_farm_1 : decode cX11_farm 1 = .ok (.invokestatic 55, 3) := by decide +kernel
theorem dX11_farm_4 : decode cX11_farm 4 = .ok (.iload_n 2, 1) := by decide +kernel
theorem dX11_farm_5 : decode cX11_farm 5 = .ok (.invokestatic 55, 3) := by decide +kernel
theorem dX11_farm_8 : decode cX11_farm 8 = .ok (.aload_n 0, 1) := by decide +kernel
theorem dX11_farm_9 : decode cX11_farm 9 = .ok (.getfield 30, 3) := by decide +kernel
theorem dX11_farm_12 : decode cX11_farm 12 = .ok (.iload_n 1, 1) := by decide +kernel
theorem dX11_farm_13 : decode cX11_farm 13 = .ok (.iload_n 2, 1) := by decide +kernel
theorem dX11_farm_14 : decode cX11_farm 14 = .ok (.aload_n 0, 1) := by decide +kernel
theorem dX11_farm_15 : decode cX11_farm 15 = .ok (.getfield 16, 3) := by decide +kernel
theorem dX11_farm_18 : decode cX11_farm 18 = .ok (.getfield 82, 3) := by decide +kernel
theorem dX11_farm_21 : decode cX11_farm 21 = .ok (.invokevirtual 359, 3) := by decide +kernel
theorem dX11_farm_24 : decode cX11_farm 24 = .ok (.ifCond .eq 15, 3) := by decide +kernel
theorem dX11_farm_27 : decode cX11_farm 27 = .ok (.aload_n 0, 1) := by decide +kernel
theorem dX11_farm_28 : decode cX11_farm 28 = .ok (.getfield 30, 3) := by decide +kernel
theorem dX11_farm_31 : decode cX11_farm 31 = .ok (.iload_n 1, 1) := by decide +kernel
theorem dX11_farm_32 : decode cX11_farm 32 = .ok (.iload_n 2, 1) := by decide +kernel
theorem dX11_farm_33 : decode cX11_farm 33 = .ok (.invokevirtual 363, 3) := by decide +kernel
theorem dX11_farm_36 : decode cX11_farm 36 = .ok (.goto 4, 3) := by decide +kernel
theorem dX11_farm_39 : decode cX11_farm 39 = .ok (.iconst (-1), 1) := by decide +kernel
theorem dX11_farm_40 : decode cX11_farm 40 = .ok (.ireturn, 1) := by decide +kernel
theorem dX11_worth_0 : decode cX11_worth 0 = .ok (.aload_n 0, 1) := by decide +kernel
theorem dX11_worth_1 : decode cX11_worth 1 = .ok (.iload_n 1, 1) := by decide +kernel
theorem dX11_worth_2 : decode cX11_worth 2 = .ok (.invokevirtual 366, 3) := by decide +kernel
theorem dX11_worth_5 : decode cX11_worth 5 = .ok (.aload_n 0, 1) := by decide +kernel
theorem dX11_worth_6 : decode cX11_worth 6 = .ok (.getfield 30, 3) := by decide +kernel
theorem dX11_worth_9 : decode cX11_worth 9 = .ok (.iload_n 1, 1) := by decide +kernel
theorem dX11_worth_10 : decode cX11_worth 10 = .ok (.aload_n 0, 1) := by decide +kernel
theorem dX11_worth_11 : decode cX11_worth 11 = .ok (.getfield 16, 3) := by decide +kernel
theorem dX11_worth_14 : decode cX11_worth 14 = .ok (.getfield 82, 3) := by decide +kernel
theorem dX11_worth_17 : decode cX11_worth 17 = .ok (.invokevirtual 369, 3) := by decide +kernel
theorem dX11_worth_20 : decode cX11_worth 20 = .ok (.ireturn, 1) := by decide +kernel
theorem dX11_choose_0 : decode cX11_choose 0 = .ok (.iload_n 1, 1) := by decide +kernel
theorem dX11_choose_1 : decode cX11_choose 1 = .ok (.iconst 0, 1) := by decide +kernel
theorem dX11_choose_2 : decode cX11_choose 2 = .ok (.bipush 60, 2) := by decide +kernel
theorem dX11_choose_4 : decode cX11_choose 4 = .ok (.invokestatic 58, 3) := by decide +kernel
theorem dX11_choose_7 : decode cX11_choose 7 = .ok (.invokestatic 62, 3) := by decide +kernel
theorem dX11_choose_10 : decode cX11_choose 10 = .ok (.aload_n 0, 1) := by decide +kernel
theorem dX11_choose_11 : decode cX11_choose 11 = .ok (.getfield 30, 3) := by decide +kernel
theorem dX11_choose_14 : decode cX11_choose 14 = .ok (.iload_n 1, 1) := by decide +kernel
theorem dX11_choose_15 : decode cX11_choose 15 = .ok (.aload_n 0, 1) := by decide +kernel
theorem dX11_choose_16 : decode cX11_choose 16 = .ok (.getfield 16, 3) := by decide +kernel
theorem dX11_choose_19 : decode cX11_choose 19 = .ok (.invokevirtual 373, 3) := by decide +kernel
theorem dX11_choose_22 : decode cX11_choose 22 = .ok (.ireturn, 1) := by decide +kernel
theorem dX11_sow_0 : decode cX11_sow 0 = .ok (.aload_n 0, 1) := by decide +kernel
theorem dX11_sow_1 : decode cX11_sow 1 = .ok (.iload_n 1, 1) := by decide +kernel
theorem dX11_sow_2 : decode cX11_sow 2 = .ok (.invokevirtual 366, 3) := by decide +kernel
theorem dX11_sow_5 : decode cX11_sow 5 = .ok (.iload_n 2, 1) := by decide +kernel
theorem dX11_sow_6 : decode cX11_sow 6 = .ok (.iconst 0, 1) := by decide +kernel
theorem dX11_sow_7 : decode cX11_sow 7 = .ok (.iconst 3, 1) := by decide +kernel
theorem dX11_sow_8 : decode cX11_sow 8 = .ok (.invokestatic 58, 3) := by decide +kernel
theorem dX11_sow_11 : decode cX11_sow 11 = .ok (.invokestatic 62, 3) := by decide +kernel
theorem dX11_sow_14 : decode cX11_sow 14 = .ok (.aload_n 0, 1) := by decide +kernel
theorem dX11_sow_15 : decode cX11_sow 15 = .ok (.getfield 30, 3) := by decide +kernel
theorem dX11_sow_18 : decode cX11_sow 18 = .ok (.getfield 377, 3) := by decide +kernel
theorem dX11_sow_21 : decode cX11_sow 21 = .ok (.iload_n 1, 1) := by decide +kernel
theorem dX11_sow_22 : decode cX11_sow 22 = .ok (.iaload, 1) := by decide +kernel
theorem dX11_sow_23 : decode cX11_sow 23 = .ok (.iload_n 2, 1) := by decide +kernel
theorem dX11_sow_24 : decode cX11_sow 24 = .ok (.if_icmp .eq 7, 3) := by decide +kernel
theorem dX11_sow_27 : decode cX11_sow 27 = .ok (.iconst 1, 1) := by decide +kernel
theorem dX11_sow_28 : decode cX11_sow 28 = .ok (.goto 4, 3) := by decide +kernel
theorem dX11_sow_31 : decode cX11_sow 31 = .ok (.iconst 0, 1) := by decide +kernel
theorem dX11_sow_32 : decode cX11_sow 32 = .ok (.istore_n 3, 1) := by decide +kernel
theorem dX11_sow_33 : decode cX11_sow 33 = .ok (.aload_n 0, 1) := by decide +kernel
theorem dX11_sow_34 : decode cX11_sow 34 = .ok (.getfield 30, 3) := by decide +kernel
theorem dX11_sow_37 : decode cX11_sow 37 = .ok (.getfield 377, 3) := by decide +kernel
theorem dX11_sow_40 : decode cX11_sow 40 = .ok (.iload_n 1, 1) := by decide +kernel
theorem dX11_sow_41 : decode cX11_sow 41 = .ok (.iload_n 2, 1) := by decide +kernel
theorem dX11_sow_42 : decode cX11_sow 42 = .ok (.iastore, 1) := by decide +kernel
theorem dX11_sow_43 : decode cX11_sow 43 = .ok (.iload_n 3, 1) := by decide +kernel
theorem dX11_sow_44 : decode cX11_sow 44 = .ok (.ireturn, 1) := by decide +kernel
theorem dX11_come_0 : decode cX11_come 0 = .ok (.aload_n 0, 1) := by decide +kernel
theorem dX11_come_1 : decode cX11_come 1 = .ok (.iload_n 1, 1) := by decide +kernel
theorem dX11_come_2 : decode cX11_come 2 = .ok (.invokevirtual 292, 3) := by decide +kernel
theorem dX11_come_5 : decode cX11_come 5 = .ok (.astore_n 2, 1) := by decide +kernel
theorem dX11_come_6 : decode cX11_come 6 = .ok (.aload_n 2, 1) := by decide +kernel
theorem dX11_come_7 : decode cX11_come 7 = .ok (.getfield 380, 3) := by decide +kernel
theorem dX11_come_10 : decode cX11_come 10 = .ok (.iconst (-1), 1) := by decide +kernel
theorem dX11_come_11 : decode cX11_come 11 = .ok (.if_icmp .eq 14, 3) := by decide +kernel
theorem dX11_come_14 : decode cX11_come 14 = .ok (.aload_n 2, 1) := by decide +kernel
theorem dX11_come_15 : decode cX11_come 15 = .ok (.getfield 383, 3) := by decide +kernel
theorem dX11_come_18 : decode cX11_come 18 = .ok (.ifCond .ne 7, 3) := by decide +kernel
theorem dX11_come_21 : decode cX11_come 21 = .ok (.iconst 1, 1) := by decide +kernel
theorem dX11_come_22 : decode cX11_come 22 = .ok (.goto 4, 3) := by decide +kernel
theorem dX11_come_25 : decode cX11_come 25 = .ok (.iconst 0, 1) := by decide +kernel
theorem dX11_come_26 : decode cX11_come 26 = .ok (.istore_n 3, 1) := by decide +kernel
theorem dX11_come_27 : decode cX11_come 27 = .ok (.aload_n 2, 1) := by decide +kernel
theorem dX11_come_28 : decode cX11_come 28 = .ok (.iconst 1, 1) := by decide +kernel
theorem dX11_come_29 : decode cX11_come 29 = .ok (.putfield 383, 3) := by decide +kernel
theorem dX11_come_32 : decode cX11_come 32 = .ok (.iload_n 3, 1) := by decide +kernel
theorem dX11_come_33 : decode cX11_come 33 = .ok (.ireturn, 1) := by decide +kernel
theorem dX11_harvest_0 : decode cX11_harvest 0 = .ok (.aload_n 0, 1) := by decide +kernel
theorem dX11_harvest_1 : decode cX11_harvest 1 = .ok (.getfield 30, 3) := by decide +kernel
theorem dX11_harvest_4 : decode cX11_harvest 4 = .ok (.aload_n 0, 1) := by decide +kernel
theorem dX11_harvest_5 : decode cX11_harvest 5 = .ok (.getfield 16, 3) := by decide +kernel
theorem dX11_harvest_8 : decode cX11_harvest 8 = .ok (.invokevirtual 386, 3) := by decide +kernel
theorem dX11_harvest_11 : decode cX11_harvest 11 = .ok (.ireturn, 1) := by decide +kernel
theorem dX11_who_0 : decode cX11_who 0 = .ok (.aload_n 0, 1) := by decide +kernel
theorem dX11_who_1 : decode cX11_who 1 = .ok (.iload_n 1, 1) := by decide +kernel
theorem dX11_who_2 : decode cX11_who 2 = .ok (.invokevirtual 292, 3) := by decide +kernel
theorem dX11_who_5 : decode cX11_who 5 = .ok (.astore_n 3, 1) := by decide +kernel
theorem dX11_who_6 : decode cX11_who 6 = .ok (.iload_n 2, 1) := by decide +kernel
theorem dX11_who_7 : decode cX11_who 7 = .ok (.tableswitch 79 0 5 #[37, 42, 47, 52, 57, 66], 37) := by decide +kernel
theorem dX11_who_44 : decode cX11_who 44 = .ok (.aload_n 3, 1) := by decide +kernel
theorem dX11_who_45 : decode cX11_who 45 = .ok (.getfield 380, 3) := by decide +kernel
theorem dX11_who_48 : decode cX11_who 48 = .ok (.ireturn, 1) := by decide +kernel
theorem dX11_who_49 : decode cX11_who 49 = .ok (.aload_n 3, 1) := by decide +kernel
theorem dX11_who_50 : decode cX11_who 50 = .ok (.getfield 390, 3) := by decide +kernel
theorem dX11_who_53 : decode cX11_who 53 = .ok (.ireturn, 1) := by decide +kernel
theorem dX11_who_54 : decode cX11_who 54 = .ok (.aload_n 3, 1) := by decide +kernel
theorem dX11_who_55 : decode cX11_who 55 = .ok (.getfield 393, 3) := by decide +kernel
theorem dX11_who_58 : decode cX11_who 58 = .ok (.ireturn, 1) := by decide +kernel
theorem dX11_who_59 : decode cX11_who 59 = .ok (.aload_n 3, 1) := by decide +kernel
theorem dX11_who_60 : decode cX11_who 60 = .ok (.getfield 396, 3) := by decide +kernel
theorem dX11_who_63 : decode cX11_who 63 = .ok (.ireturn, 1) := by decide +kernel
theorem dX11_who_64 : decode cX11_who 64 = .ok (.aload_n 0, 1) := by decide +kernel
theorem dX11_who_65 : decode cX11_who 65 = .ok (.getfield 30, 3) := by decide +kernel
theorem dX11_who_68 : decode cX11_who 68 = .ok (.aload_n 3, 1) := by decide +kernel
theorem dX11_who_69 : decode cX11_who 69 = .ok (.invokevirtual 399, 3) := by decide +kernel
theorem dX11_who_72 : decode cX11_who 72 = .ok (.ireturn, 1) := by decide +kernel
theorem dX11_who_73 : decode cX11_who 73 = .ok (.aload_n 0, 1) := by decide +kernel
theorem dX11_who_74 : decode cX11_who 74 = .ok (.getfield 30, 3) := by decide +kernel
theorem dX11_who_77 : decode cX11_who 77 = .ok (.aload_n 3, 1) := by decide +kernel
theorem dX11_who_78 : decode cX11_who 78 = .ok (.aload_n 0, 1) := by decide +kernel
theorem dX11_who_79 : decode cX11_who 79 = .ok (.getfield 16, 3) := by decide +kernel
theorem dX11_who_82 : decode cX11_who 82 = .ok (.invokevirtual 402, 3) := by decide +kernel
theorem dX11_who_85 : decode cX11_who 85 = .ok (.ireturn, 1) := by decide +kernel
theorem dX11_who_86 : decode cX11_who 86 = .ok (.new 134, 3) := by decide +kernel
theorem dX11_who_89 : decode cX11_who 89 = .ok (.dup, 1) := by decide +kernel
theorem dX11_who_90 : decode cX11_who 90 = .ok (.ldc_w 406, 3) := by decide +kernel
theorem dX11_who_93 : decode cX11_who 93 = .ok (.invokespecial 138, 3) := by decide +kernel
theorem dX11_who_96 : decode cX11_who 96 = .ok (.athrow, 1) := by decide +kernel
theorem dX11_arrears_0 : decode cX11_arrears 0 = .ok (.aload_n 0, 1) := by decide +kernel
theorem dX11_arrears_1 : decode cX11_arrears 1 = .ok (.getfield 30, 3) := by decide +kernel
theorem dX11_arrears_4 : decode cX11_arrears 4 = .ok (.iload_n 1, 1) := by decide +kernel
theorem dX11_arrears_5 : decode cX11_arrears 5 = .ok (.invokevirtual 408, 3) := by decide +kernel
theorem dX11_arrears_8 : decode cX11_arrears 8 = .ok (.ireturn, 1) := by decide +kernel
theorem dX11_coin_0 : decode cX11_coin 0 = .ok (.iload_n 1, 1) := by decide +kernel
theorem dX11_coin_1 : decode cX11_coin 1 = .ok (.iconst 0, 1) := by decide +kernel
theorem dX11_coin_2 : decode cX11_coin 2 = .ok (.ldc_w 411, 3) := by decide +kernel
theorem dX11_coin_5 : decode cX11_coin 5 = .ok (.invokestatic 58, 3) := by decide +kernel
theorem dX11_coin_8 : decode cX11_coin 8 = .ok (.ifCond .eq 22, 3) := by decide +kernel
theorem dX11_coin_11 : decode cX11_coin 11 = .ok (.aload_n 0, 1) := by decide +kernel
theorem dX11_coin_12 : decode cX11_coin 12 = .ok (.getfield 30, 3) := by decide +kernel
theorem dX11_coin_15 : decode cX11_coin 15 = .ok (.getfield 412, 3) := by decide +kernel
theorem dX11_coin_18 : decode cX11_coin 18 = .ok (.ldc_w 413, 3) := by decide +kernel
theorem dX11_coin_21 : decode cX11_coin 21 = .ok (.iload_n 1, 1) := by decide +kernel
theorem dX11_coin_22 : decode cX11_coin 22 = .ok (.isub, 1) := by decide +kernel
theorem dX11_coin_23 : decode cX11_coin 23 = .ok (.if_icmp .gt 7, 3) := by decide +kernel
theorem dX11_coin_26 : decode cX11_coin 26 = .ok (.iconst 1, 1) := by decide +kernel
theorem dX11_coin_27 : decode cX11_coin 27 = .ok (.goto 4, 3) := by decide +kernel
theorem dX11_coin_30 : decode cX11_coin 30 = .ok (.iconst 0, 1) := by decide +kernel
theorem dX11_coin_31 : decode cX11_coin 31 = .ok (.invokestatic 62, 3) := by decide +kernel
theorem dX11_coin_34 : decode cX11_coin 34 = .ok (.aload_n 0, 1) := by decide +kernel
theorem dX11_coin_35 : decode cX11_coin 35 = .ok (.getfield 30, 3) := by decide +kernel
theorem dX11_coin_38 : decode cX11_coin 38 = .ok (.dup, 1) := by decide +kernel
theorem dX11_coin_39 : decode cX11_coin 39 = .ok (.getfield 412, 3) := by decide +kernel
theorem dX11_coin_42 : decode cX11_coin 42 = .ok (.iload_n 1, 1) := by decide +kernel
theorem dX11_coin_43 : decode cX11_coin 43 = .ok (.iadd, 1) := by decide +kernel
theorem dX11_coin_44 : decode cX11_coin 44 = .ok (.putfield 412, 3) := by decide +kernel
theorem dX11_coin_47 : decode cX11_coin 47 = .ok (.aload_n 0, 1) := by decide +kernel
theorem dX11_coin_48 : decode cX11_coin 48 = .ok (.getfield 30, 3) := by decide +kernel
theorem dX11_coin_51 : decode cX11_coin 51 = .ok (.getfield 412, 3) := by decide +kernel
theorem dX11_coin_54 : decode cX11_coin 54 = .ok (.ireturn, 1) := by decide +kernel
theorem dX11_contract_0 : decode cX11_contract 0 = .ok (.aload_n 0, 1) := by decide +kernel
theorem dX11_contract_1 : decode cX11_contract 1 = .ok (.iload_n 1, 1) := by decide +kernel
theorem dX11_contract_2 : decode cX11_contract 2 = .ok (.invokevirtual 167, 3) := by decide +kernel
theorem dX11_contract_5 : decode cX11_contract 5 = .ok (.astore 5, 2) := by decide +kernel
theorem dX11_contract_7 : decode cX11_contract 7 = .ok (.iload_n 2, 1) := by decide +kernel
theorem dX11_contract_8 : decode cX11_contract 8 = .ok (.iconst 0, 1) := by decide +kernel
theorem dX11_contract_9 : decode cX11_contract 9 = .ok (.bipush 9, 2) := by decide +kernel
theorem dX11_contract_11 : decode cX11_contract 11 = .ok (.invokestatic 58, 3) := by decide +kernel
theorem dX11_contract_14 : decode cX11_contract 14 = .ok (.ifCond .eq 30, 3) := by decide +kernel
theorem dX11_contract_17 : decode cX11_contract 17 = .ok (.iload_n 3, 1) := by decide +kernel
theorem dX11_contract_18 : decode cX11_contract 18 = .ok (.iconst 1, 1) := by decide +kernel
theorem dX11_contract_19 : decode cX11_contract 19 = .ok (.sipush 1000, 3) := by decide +kernel
theorem dX11_contract_22 : decode cX11_contract 22 = .ok (.invokestatic 58, 3) := by decide +kernel
theorem dX11_contract_25 : decode cX11_contract 25 = .ok (.ifCond .eq 19, 3) := by decide +kernel
theorem dX11_contract_28 : decode cX11_contract 28 = .ok (.iload 4, 2) := by decide +kernel
theorem dX11_contract_30 : decode cX11_contract 30 = .ok (.iconst 0, 1) := by decide +kernel
theorem dX11_contract_31 : decode cX11_contract 31 = .ok (.sipush 200, 3) := by decide +kernel
theorem dX11_contract_34 : decode cX11_contract 34 = .ok (.invokestatic 58, 3) := by decide +kernel
theorem dX11_contract_37 : decode cX11_contract 37 = .ok (.ifCond .eq 7, 3) := by decide +kernel
theorem dX11_contract_40 : decode cX11_contract 40 = .ok (.iconst 1, 1) := by decide +kernel
theorem dX11_contract_41 : decode cX11_contract 41 = .ok (.goto 4, 3) := by decide +kernel
theorem dX11_contract_44 : decode cX11_contract 44 = .ok (.iconst 0, 1) := by decide +kernel
theorem dX11_contract_45 : decode cX11_contract 45 = .ok (.invokestatic 62, 3) := by decide +kernel
theorem dX11_contract_48 : decode cX11_contract 48 = .ok (.aload 5, 2) := by decide +kernel
theorem dX11_contract_50 : decode cX11_contract 50 = .ok (.invokevirtual 171, 3) := by decide +kernel
theorem dX11_contract_53 : decode cX11_contract 53 = .ok (.invokestatic 177, 3) := by decide +kernel
theorem dX11_contract_56 : decode cX11_contract 56 = .ok (.aload_n 0, 1) := by decide +kernel
theorem dX11_contract_57 : decode cX11_contract 57 = .ok (.getfield 414, 3) := by decide +kernel
theorem dX11_contract_60 : decode cX11_contract 60 = .ok (.bipush 40, 2) := by decide +kernel
theorem dX11_contract_62 : decode cX11_contract 62 = .ok (.if_icmp .ne 5, 3) := by decide +kernel
theorem dX11_contract_65 : decode cX11_contract 65 = .ok (.iconst (-1), 1) := by decide +kernel
theorem dX11_contract_66 : decode cX11_contract 66 = .ok (.ireturn, 1) := by decide +kernel
theorem dX11_contract_67 : decode cX11_contract 67 = .ok (.aload_n 0, 1) := by decide +kernel
theorem dX11_contract_68 : decode cX11_contract 68 = .ok (.getfield 36, 3) := by decide +kernel
theorem dX11_contract_71 : decode cX11_contract 71 = .ok (.aload_n 0, 1) := by decide +kernel
theorem dX11_contract_72 : decode cX11_contract 72 = .ok (.getfield 414, 3) := by decide +kernel
theorem dX11_contract_75 : decode cX11_contract 75 = .ok (.new 34, 3) := by decide +kernel
theorem dX11_contract_78 : decode cX11_contract 78 = .ok (.dup, 1) := by decide +kernel
theorem dX11_contract_79 : decode cX11_contract 79 = .ok (.iload_n 1, 1) := by decide +kernel
theorem dX11_contract_80 : decode cX11_contract 80 = .ok (.iload_n 2, 1) := by decide +kernel
theorem dX11_contract_81 : decode cX11_contract 81 = .ok (.iload_n 3, 1) := by decide +kernel
theorem dX11_contract_82 : decode cX11_contract 82 = .ok (.iload 4, 2) := by decide +kernel
theorem dX11_contract_84 : decode cX11_contract 84 = .ok (.invokespecial 417, 3) := by decide +kernel
theorem dX11_contract_87 : decode cX11_contract 87 = .ok (.aastore, 1) := by decide +kernel
theorem dX11_contract_88 : decode cX11_contract 88 = .ok (.aload_n 0, 1) := by decide +kernel
theorem dX11_contract_89 : decode cX11_contract 89 = .ok (.dup, 1) := by decide +kernel
theorem dX11_contract_90 : decode cX11_contract 90 = .ok (.getfield 414, 3) := by decide +kernel
theorem dX11_contract_93 : decode cX11_contract 93 = .ok (.iconst 1, 1) := by decide +kernel
theorem dX11_contract_94 : decode cX11_contract 94 = .ok (.iadd, 1) := by decide +kernel
theorem dX11_contract_95 : decode cX11_contract 95 = .ok (.putfield 414, 3) := by decide +kernel
theorem dX11_contract_98 : decode cX11_contract 98 = .ok (.aload_n 0, 1) := by decide +kernel
theorem dX11_contract_99 : decode cX11_contract 99 = .ok (.getfield 414, 3) := by decide +kernel
theorem dX11_contract_102 : decode cX11_contract 102 = .ok (.iconst 1, 1) := by decide +kernel
theorem dX11_contract_103 : decode cX11_contract 103 = .ok (.isub, 1) := by decide +kernel
theorem dX11_contract_104 : decode cX11_contract 104 = .ok (.ireturn, 1) := by decide +kernel
theorem dX11_measure_0 : decode cX11_measure 0 = .ok (.aload_n 0, 1) := by decide +kernel
theorem dX11_measure_1 : decode cX11_measure 1 = .ok (.iload_n 1, 1) := by decide +kernel
theorem dX11_measure_2 : decode cX11_measure 2 = .ok (.invokevirtual 419, 3) := by decide +kernel
theorem dX11_measure_5 : decode cX11_measure 5 = .ok (.astore_n 3, 1) := by decide +kernel
theorem dX11_measure_6 : decode cX11_measure 6 = .ok (.iload_n 2, 1) := by decide +kernel
theorem dX11_measure_7 : decode cX11_measure 7 = .ok (.iconst 0, 1) := by decide +kernel
theorem dX11_measure_8 : decode cX11_measure 8 = .ok (.sipush 2000, 3) := by decide +kernel
theorem dX11_measure_11 : decode cX11_measure 11 = .ok (.invokestatic 58, 3) := by decide +kernel
theorem dX11_measure_14 : decode cX11_measure 14 = .ok (.invokestatic 62, 3) := by decide +kernel
theorem dX11_measure_17 : decode cX11_measure 17 = .ok (.aload_n 3, 1) := by decide +kernel
theorem dX11_measure_18 : decode cX11_measure 18 = .ok (.getfield 423, 3) := by decide +kernel
theorem dX11_measure_21 : decode cX11_measure 21 = .ok (.ifCond .eq 14, 3) := by decide +kernel
theorem dX11_measure_24 : decode cX11_measure 24 = .ok (.new 69, 3) := by decide +kernel
theorem dX11_measure_27 : decode cX11_measure 27 = .ok (.dup, 1) := by decide +kernel
theorem dX11_measure_28 : decode cX11_measure 28 = .ok (.ldc_w 426, 3) := by decide +kernel
theorem dX11_measure_31 : decode cX11_measure 31 = .ok (.invokespecial 73, 3) := by decide +kernel
theorem dX11_measure_34 : decode cX11_measure 34 = .ok (.athrow, 1) := by decide +kernel
theorem dX11_measure_35 : decode cX11_measure 35 = .ok (.aload_n 3, 1) := by decide +kernel
theorem dX11_measure_36 : decode cX11_measure 36 = .ok (.iload_n 2, 1) := by decide +kernel
theorem dX11_measure_37 : decode cX11_measure 37 = .ok (.invokevirtual 428, 3) := by decide +kernel
theorem dX11_measure_40 : decode cX11_measure 40 = .ok (.aload_n 3, 1) := by decide +kernel
theorem dX11_measure_41 : decode cX11_measure 41 = .ok (.invokevirtual 431, 3) := by decide +kernel
theorem dX11_measure_44 : decode cX11_measure 44 = .ok (.ireturn, 1) := by decide +kernel
theorem dX11_yards_0 : decode cX11_yards 0 = .ok (.aload_n 0, 1) := by decide +kernel
theorem dX11_yards_1 : decode cX11_yards 1 = .ok (.iload_n 1, 1) := by decide +kernel
theorem dX11_yards_2 : decode cX11_yards 2 = .ok (.invokevirtual 419, 3) := by decide +kernel
theorem dX11_yards_5 : decode cX11_yards 5 = .ok (.astore_n 3, 1) := by decide +kernel
theorem dX11_yards_6 : decode cX11_yards 6 = .ok (.aload_n 3, 1) := by decide +kernel
theorem dX11_yards_7 : decode cX11_yards 7 = .ok (.invokevirtual 431, 3) := by decide +kernel
theorem dX11_yards_10 : decode cX11_yards 10 = .ok (.ifCond .ne 5, 3) := by decide +kernel
theorem dX11_yards_13 : decode cX11_yards 13 = .ok (.iconst (-1), 1) := by decide +kernel
theorem dX11_yards_14 : decode cX11_yards 14 = .ok (.ireturn, 1) := by decide +kernel
theorem dX11_yards_15 : decode cX11_yards 15 = .ok (.iload_n 2, 1) := by decide +kernel
theorem dX11_yards_16 : decode cX11_yards 16 = .ok (.ifCond .eq 10, 3) := by decide +kernel
theorem dX11_yards_19 : decode cX11_yards 19 = .ok (.aload_n 3, 1) := by decide +kernel
theorem dX11_yards_20 : decode cX11_yards 20 = .ok (.getfield 434, 3) := by decide +kernel
theorem dX11_yards_23 : decode cX11_yards 23 = .ok (.goto 7, 3) := by decide +kernel
theorem dX11_yards_26 : decode cX11_yards 26 = .ok (.aload_n 3, 1) := by decide +kernel
theorem dX11_yards_27 : decode cX11_yards 27 = .ok (.getfield 437, 3) := by decide +kernel
theorem dX11_yards_30 : decode cX11_yards 30 = .ok (.ireturn, 1) := by decide +kernel
theorem dX11_pay_0 : decode cX11_pay 0 = .ok (.aload_n 0, 1) := by decide +kernel
theorem dX11_pay_1 : decode cX11_pay 1 = .ok (.iload_n 1, 1) := by decide +kernel
theorem dX11_pay_2 : decode cX11_pay 2 = .ok (.invokevirtual 419, 3) := by decide +kernel
theorem dX11_pay_5 : decode cX11_pay 5 = .ok (.astore_n 2, 1) := by decide +kernel
theorem dX11_pay_6 : decode cX11_pay 6 = .ok (.aload_n 2, 1) := by decide +kernel
theorem dX11_pay_7 : decode cX11_pay 7 = .ok (.getfield 423, 3) := by decide +kernel
theorem dX11_pay_10 : decode cX11_pay 10 = .ok (.ifCond .ne 10, 3) := by decide +kernel
theorem dX11_pay_13 : decode cX11_pay 13 = .ok (.aload_n 2, 1) := by decide +kernel
theorem dX11_pay_14 : decode cX11_pay 14 = .ok (.invokevirtual 431, 3) := by decide +kernel
theorem dX11_pay_17 : decode cX11_pay 17 = .ok (.ifCond .ne 5, 3) := by decide +kernel
theorem dX11_pay_20 : decode cX11_pay 20 = .ok (.iconst (-1), 1) := by decide +kernel
theorem dX11_pay_21 : decode cX11_pay 21 = .ok (.ireturn, 1) := by decide +kernel
theorem dX11_pay_22 : decode cX11_pay 22 = .ok (.aload_n 0, 1) := by decide +kernel
theorem dX11_pay_23 : decode cX11_pay 23 = .ok (.aload_n 2, 1) := by decide +kernel
theorem dX11_pay_24 : decode cX11_pay 24 = .ok (.invokevirtual 440, 3) := by decide +kernel
theorem dX11_pay_27 : decode cX11_pay 27 = .ok (.astore_n 3, 1) := by decide +kernel
theorem dX11_pay_28 : decode cX11_pay 28 = .ok (.aload_n 2, 1) := by decide +kernel
theorem dX11_pay_29 : decode cX11_pay 29 = .ok (.getfield 437, 3) := by decide +kernel
theorem dX11_pay_32 : decode cX11_pay 32 = .ok (.aload_n 0, 1) := by decide +kernel
theorem dX11_pay_33 : decode cX11_pay 33 = .ok (.aload_n 3, 1) := by decide +kernel
theorem dX11_pay_34 : decode cX11_pay 34 = .ok (.aload_n 2, 1) := by decide +kernel
theorem dX11_pay_35 : decode cX11_pay 35 = .ok (.getfield 437, 3) := by decide +kernel
theorem dX11_pay_38 : decode cX11_pay 38 = .ok (.invokevirtual 444, 3) := by decide +kernel
theorem dX11_pay_41 : decode cX11_pay 41 = .ok (.isub, 1) := by decide +kernel
theorem dX11_pay_42 : decode cX11_pay 42 = .ok (.istore 4, 2) := by decide +kernel
theorem dX11_pay_44 : decode cX11_pay 44 = .ok (.iload 4, 2) := by decide +kernel
theorem dX11_pay_46 : decode cX11_pay 46 = .ok (.aload_n 2, 1) := by decide +kernel
theorem dX11_pay_47 : decode cX11_pay 47 = .ok (.getfield 447, 3) := by decide +kernel
theorem dX11_pay_50 : decode cX11_pay 50 = .ok (.imul, 1) := by decide +kernel
theorem dX11_pay_51 : decode cX11_pay 51 = .ok (.istore 5, 2) := by decide +kernel
theorem dX11_pay_53 : decode cX11_pay 53 = .ok (.iload 5, 2) := by decide +kernel
theorem dX11_pay_55 : decode cX11_pay 55 = .ok (.aload_n 0, 1) := by decide +kernel
theorem dX11_pay_56 : decode cX11_pay 56 = .ok (.getfield 30, 3) := by decide +kernel
theorem dX11_pay_59 : decode cX11_pay 59 = .ok (.getfield 412, 3) := by decide +kernel
theorem dX11_pay_62 : decode cX11_pay 62 = .ok (.if_icmp .le 5, 3) := by decide +kernel
theorem dX11_pay_65 : decode cX11_pay 65 = .ok (.iconst (-1), 1) := by decide +kernel
theorem dX11_pay_66 : decode cX11_pay 66 = .ok (.ireturn, 1) := by decide +kernel
theorem dX11_pay_67 : decode cX11_pay 67 = .ok (.aload_n 0, 1) := by decide +kernel
theorem dX11_pay_68 : decode cX11_pay 68 = .ok (.getfield 30, 3) := by decide +kernel
theorem dX11_pay_71 : decode cX11_pay 71 = .ok (.dup, 1) := by decide +kernel
theorem dX11_pay_72 : decode cX11_pay 72 = .ok (.getfield 412, 3) := by decide +kernel
theorem dX11_pay_75 : decode cX11_pay 75 = .ok (.iload 5, 2) := by decide +kernel
theorem dX11_pay_77 : decode cX11_pay 77 = .ok (.isub, 1) := by decide +kernel
theorem dX11_pay_78 : decode cX11_pay 78 = .ok (.putfield 412, 3) := by decide +kernel
theorem dX11_pay_81 : decode cX11_pay 81 = .ok (.aload_n 2, 1) := by decide +kernel
theorem dX11_pay_82 : decode cX11_pay 82 = .ok (.iconst 1, 1) := by decide +kernel
theorem dX11_pay_83 : decode cX11_pay 83 = .ok (.putfield 423, 3) := by decide +kernel
theorem dX11_pay_86 : decode cX11_pay 86 = .ok (.iload 4, 2) := by decide +kernel
theorem dX11_pay_88 : decode cX11_pay 88 = .ok (.bipush 10, 2) := by decide +kernel
theorem dX11_pay_90 : decode cX11_pay 90 = .ok (.idiv, 1) := by decide +kernel
theorem dX11_pay_91 : decode cX11_pay 91 = .ok (.istore 6, 2) := by decide +kernel
theorem dX11_pay_93 : decode cX11_pay 93 = .ok (.aload_n 3, 1) := by decide +kernel
theorem dX11_pay_94 : decode cX11_pay 94 = .ok (.ifnull 32, 3) := by decide +kernel
theorem dX11_pay_97 : decode cX11_pay 97 = .ok (.aload_n 3, 1) := by decide +kernel
theorem dX11_pay_98 : decode cX11_pay 98 = .ok (.invokevirtual 180, 3) := by decide +kernel
theorem dX11_pay_101 : decode cX11_pay 101 = .ok (.ifCond .eq 25, 3) := by decide +kernel
theorem dX11_pay_104 : decode cX11_pay 104 = .ok (.iload 6, 2) := by decide +kernel
theorem dX11_pay_106 : decode cX11_pay 106 = .ok (.ifCond .le 20, 3) := by decide +kernel
theorem dX11_pay_109 : decode cX11_pay 109 = .ok (.aload_n 0, 1) := by decide +kernel
theorem dX11_pay_110 : decode cX11_pay 110 = .ok (.getfield 23, 3) := by decide +kernel
theorem dX11_pay_113 : decode cX11_pay 113 = .ok (.invokevirtual 76, 3) := by decide +kernel
theorem dX11_pay_116 : decode cX11_pay 116 = .ok (.aload_n 3, 1) := by decide +kernel
theorem dX11_pay_117 : decode cX11_pay 117 = .ok (.iload 6, 2) := by decide +kernel
theorem dX11_pay_119 : decode cX11_pay 119 = .ok (.aload_n 2, 1) := by decide +kernel
theorem dX11_pay_120 : decode cX11_pay 120 = .ok (.getfield 450, 3) := by decide +kernel
theorem dX11_pay_123 : decode cX11_pay 123 = .ok (.invokevirtual 183, 3) := by decide +kernel
theorem dX11_pay_126 : decode cX11_pay 126 = .ok (.iload 5, 2) := by decide +kernel
theorem dX11_pay_128 : decode cX11_pay 128 = .ok (.ireturn, 1) := by decide +kernel
theorem dX11_bankOf_0 : decode cX11_bankOf 0 = .ok (.aload_n 1, 1) := by decide +kernel
theorem dX11_bankOf_1 : decode cX11_bankOf 1 = .ok (.getfield 453, 3) := by decide +kernel
theorem dX11_bankOf_4 : decode cX11_bankOf 4 = .ok (.aload_n 0, 1) := by decide +kernel
theorem dX11_bankOf_5 : decode cX11_bankOf 5 = .ok (.getfield 16, 3) := by decide +kernel
theorem dX11_bankOf_8 : decode cX11_bankOf 8 = .ok (.getfield 456, 3) := by decide +kernel
theorem dX11_bankOf_11 : decode cX11_bankOf 11 = .ok (.if_icmp .lt 5, 3) := by decide +kernel
theorem dX11_bankOf_14 : decode cX11_bankOf 14 = .ok (.aconst_null, 1) := by decide +kernel
theorem dX11_bankOf_15 : decode cX11_bankOf 15 = .ok (.areturn, 1) := by decide +kernel
theorem dX11_bankOf_16 : decode cX11_bankOf 16 = .ok (.aload_n 0, 1) := by decide +kernel
theorem dX11_bankOf_17 : decode cX11_bankOf 17 = .ok (.getfield 16, 3) := by decide +kernel
theorem dX11_bankOf_20 : decode cX11_bankOf 20 = .ok (.getfield 459, 3) := by decide +kernel
theorem dX11_bankOf_23 : decode cX11_bankOf 23 = .ok (.aload_n 1, 1) := by decide +kernel
theorem dX11_bankOf_24 : decode cX11_bankOf 24 = .ok (.getfield 453, 3) := by decide +kernel
theorem dX11_bankOf_27 : decode cX11_bankOf 27 = .ok (.aaload, 1) := by decide +kernel
theorem dX11_bankOf_28 : decode cX11_bankOf 28 = .ok (.astore_n 2, 1) := by decide +kernel
theorem dX11_bankOf_29 : decode cX11_bankOf 29 = .ok (.aload_n 2, 1) := by decide +kernel
theorem dX11_bankOf_30 : decode cX11_bankOf 30 = .ok (.invokevirtual 171, 3) := by decide +kernel
theorem dX11_bankOf_33 : decode cX11_bankOf 33 = .ok (.ifCond .eq 7, 3) := by decide +kernel
theorem dX11_bankOf_36 : decode cX11_bankOf 36 = .ok (.aload_n 2, 1) := by decide +kernel
theorem dX11_bankOf_37 : decode cX11_bankOf 37 = .ok (.goto 4, 3) := by decide +kernel
theorem dX11_bankOf_40 : decode cX11_bankOf 40 = .ok (.aconst_null, 1) := by decide +kernel
theorem dX11_bankOf_41 : decode cX11_bankOf 41 = .ok (.areturn, 1) := by decide +kernel
theorem dX11_lessFor_0 : decode cX11_lessFor 0 = .ok (.aload_n 1, 1) := by decide +kernel
theorem dX11_lessFor_1 : decode cX11_lessFor 1 = .ok (.ifnonnull 5, 3) := by decide +kernel
theorem dX11_lessFor_4 : decode cX11_lessFor 4 = .ok (.iconst 0, 1) := by decide +kernel
theorem dX11_lessFor_5 : decode cX11_lessFor 5 = .ok (.ireturn, 1) := by decide +kernel
theorem dX11_lessFor_6 : decode cX11_lessFor 6 = .ok (.aload_n 0, 1) := by decide +kernel
theorem dX11_lessFor_7 : decode cX11_lessFor 7 = .ok (.getfield 16, 3) := by decide +kernel
theorem dX11_lessFor_10 : decode cX11_lessFor 10 = .ok (.getfield 82, 3) := by decide +kernel
theorem dX11_lessFor_13 : decode cX11_lessFor 13 = .ok (.getfield 233, 3) := by decide +kernel
theorem dX11_lessFor_16 : decode cX11_lessFor 16 = .ok (.aload_n 1, 1) := by decide +kernel
theorem dX11_lessFor_17 : decode cX11_lessFor 17 = .ok (.getfield 204, 3) := by decide +kernel
theorem dX11_lessFor_20 : decode cX11_lessFor 20 = .ok (.iaload, 1) := by decide +kernel
theorem dX11_lessFor_21 : decode cX11_lessFor 21 = .ok (.istore_n 3, 1) := by decide +kernel
theorem dX11_lessFor_22 : decode cX11_lessFor 22 = .ok (.iload_n 3, 1) := by decide +kernel
theorem dX11_lessFor_23 : decode cX11_lessFor 23 = .ok (.iconst 1, 1) := by decide +kernel
theorem dX11_lessFor_24 : decode cX11_lessFor 24 = .ok (.if_icmp .ne 8, 3) := by decide +kernel
theorem dX11_lessFor_27 : decode cX11_lessFor 27 = .ok (.iload_n 2, 1) := by decide +kernel
theorem dX11_lessFor_28 : decode cX11_lessFor 28 = .ok (.bipush 10, 2) := by decide +kernel
theorem dX11_lessFor_30 : decode cX11_lessFor 30 = .ok (.idiv, 1) := by decide +kernel
theorem dX11_lessFor_31 : decode cX11_lessFor 31 = .ok (.ireturn, 1) := by decide +kernel
theorem dX11_lessFor_32 : decode cX11_lessFor 32 = .ok (.iload_n 3, 1) := by decide +kernel
theorem dX11_lessFor_33 : decode cX11_lessFor 33 = .ok (.iconst 2, 1) := by decide +kernel
theorem dX11_lessFor_34 : decode cX11_lessFor 34 = .ok (.if_icmp .ne 9, 3) := by decide +kernel
theorem dX11_lessFor_37 : decode cX11_lessFor 37 = .ok (.iload_n 2, 1) := by decide +kernel
theorem dX11_lessFor_38 : decode cX11_lessFor 38 = .ok (.iconst 5, 1) := by decide +kernel
theorem dX11_lessFor_39 : decode cX11_lessFor 39 = .ok (.idiv, 1) := by decide +kernel
theorem dX11_lessFor_40 : decode cX11_lessFor 40 = .ok (.goto 4, 3) := by decide +kernel
theorem dX11_lessFor_43 : decode cX11_lessFor 43 = .ok (.iconst 0, 1) := by decide +kernel
theorem dX11_lessFor_44 : decode cX11_lessFor 44 = .ok (.ireturn, 1) := by decide +kernel
theorem dX11_lifts_0 : decode cX11_lifts 0 = .ok (.iload_n 1, 1) := by decide +kernel
theorem dX11_lifts_1 : decode cX11_lifts 1 = .ok (.iconst 0, 1) := by decide +kernel
theorem dX11_lifts_2 : decode cX11_lifts 2 = .ok (.sipush 1000, 3) := by decide +kernel
theorem dX11_lifts_5 : decode cX11_lifts 5 = .ok (.invokestatic 58, 3) := by decide +kernel
theorem dX11_lifts_8 : decode cX11_lifts 8 = .ok (.ifCond .eq 39, 3) := by decide +kernel
theorem dX11_lifts_11 : decode cX11_lifts 11 = .ok (.iload_n 2, 1) := by decide +kernel
theorem dX11_lifts_12 : decode cX11_lifts 12 = .ok (.iconst 0, 1) := by decide +kernel
theorem dX11_lifts_13 : decode cX11_lifts 13 = .ok (.bipush 100, 2) := by decide +kernel
theorem dX11_lifts_15 : decode cX11_lifts 15 = .ok (.invokestatic 58, 3) := by decide +kernel
theorem dX11_lifts_18 : decode cX11_lifts 18 = .ok (.ifCond .eq 29, 3) := by decide +kernel
theorem dX11_lifts_21 : decode cX11_lifts 21 = .ok (.iload_n 3, 1) := by decide +kernel
theorem dX11_lifts_22 : decode cX11_lifts 22 = .ok (.iconst 1, 1) := by decide +kernel
theorem dX11_lifts_23 : decode cX11_lifts 23 = .ok (.bipush 24, 2) := by decide +kernel
theorem dX11_lifts_25 : decode cX11_lifts 25 = .ok (.invokestatic 58, 3) := by decide +kernel
theorem dX11_lifts_28 : decode cX11_lifts 28 = .ok (.ifCond .eq 19, 3) := by decide +kernel
theorem dX11_lifts_31 : decode cX11_lifts 31 = .ok (.iload 4, 2) := by decide +kernel
theorem dX11_lifts_33 : decode cX11_lifts 33 = .ok (.iconst 0, 1) := by decide +kernel
theorem dX11_lifts_34 : decode cX11_lifts 34 = .ok (.sipush 1000, 3) := by decide +kernel
theorem dX11_lifts_37 : decode cX11_lifts 37 = .ok (.invokestatic 58, 3) := by decide +kernel
theorem dX11_lifts_40 : decode cX11_lifts 40 = .ok (.ifCond .eq 7, 3) := by decide +kernel
theorem dX11_lifts_43 : decode cX11_lifts 43 = .ok (.iconst 1, 1) := by decide +kernel
theorem dX11_lifts_44 : decode cX11_lifts 44 = .ok (.goto 4, 3) := by decide +kernel
theorem dX11_lifts_47 : decode cX11_lifts 47 = .ok (.iconst 0, 1) := by decide +kernel
theorem dX11_lifts_48 : decode cX11_lifts 48 = .ok (.invokestatic 62, 3) := by decide +kernel
theorem dX11_lifts_51 : decode cX11_lifts 51 = .ok (.aload_n 0, 1) := by decide +kernel
theorem dX11_lifts_52 : decode cX11_lifts 52 = .ok (.getfield 43, 3) := by decide +kernel
theorem dX11_lifts_55 : decode cX11_lifts 55 = .ok (.aload_n 0, 1) := by decide +kernel
theorem dX11_lifts_56 : decode cX11_lifts 56 = .ok (.getfield 16, 3) := by decide +kernel
theorem dX11_lifts_59 : decode cX11_lifts 59 = .ok (.iload_n 1, 1) := by decide +kernel
theorem dX11_lifts_60 : decode cX11_lifts 60 = .ok (.iload_n 2, 1) := by decide +kernel
theorem dX11_lifts_61 : decode cX11_lifts 61 = .ok (.iload_n 3, 1) := by decide +kernel
theorem dX11_lifts_62 : decode cX11_lifts 62 = .ok (.iload 4, 2) := by decide +kernel
theorem dX11_lifts_64 : decode cX11_lifts 64 = .ok (.invokevirtual 463, 3) := by decide +kernel
theorem dX11_lifts_67 : decode cX11_lifts 67 = .ok (.ireturn, 1) := by decide +kernel
theorem dX11_soonest_0 : decode cX11_soonest 0 = .ok (.aload_n 0, 1) := by decide +kernel
theorem dX11_soonest_1 : decode cX11_soonest 1 = .ok (.iload_n 1, 1) := by decide +kernel
theorem dX11_soonest_2 : decode cX11_soonest 2 = .ok (.invokevirtual 167, 3) := by decide +kernel
theorem dX11_soonest_5 : decode cX11_soonest 5 = .ok (.astore 4, 2) := by decide +kernel
theorem dX11_soonest_7 : decode cX11_soonest 7 = .ok (.iload_n 2, 1) := by decide +kernel
theorem dX11_soonest_8 : decode cX11_soonest 8 = .ok (.iconst 1, 1) := by decide +kernel
theorem dX11_soonest_9 : decode cX11_soonest 9 = .ok (.bipush 60, 2) := by decide +kernel
theorem dX11_soonest_11 : decode cX11_soonest 11 = .ok (.invokestatic 58, 3) := by decide +kernel
theorem dX11_soonest_14 : decode cX11_soonest 14 = .ok (.ifCond .eq 20, 3) := by decide +kernel
theorem dX11_soonest_17 : decode cX11_soonest 17 = .ok (.iload_n 3, 1) := by decide +kernel
theorem dX11_soonest_18 : decode cX11_soonest 18 = .ok (.sipush (-1000), 3) := by decide +kernel
theorem dX11_soonest_21 : decode cX11_soonest 21 = .ok (.sipush 1000, 3) := by decide +kernel
theorem dX11_soonest_24 : decode cX11_soonest 24 = .ok (.invokestatic 58, 3) := by decide +kernel
theorem dX11_soonest_27 : decode cX11_soonest 27 = .ok (.ifCond .eq 7, 3) := by decide +kernel
theorem dX11_soonest_30 : decode cX11_soonest 30 = .ok (.iconst 1, 1) := by decide +kernel
theorem dX11_soonest_31 : decode cX11_soonest 31 = .ok (.goto 4, 3) := by decide +kernel
theorem dX11_soonest_34 : decode cX11_soonest 34 = .ok (.iconst 0, 1) := by decide +kernel
theorem dX11_soonest_35 : decode cX11_soonest 35 = .ok (.invokestatic 62, 3) := by decide +kernel
theorem dX11_soonest_38 : decode cX11_soonest 38 = .ok (.aload 4, 2) := by decide +kernel
theorem dX11_soonest_40 : decode cX11_soonest 40 = .ok (.getfield 194, 3) := by decide +kernel
theorem dX11_soonest_43 : decode cX11_soonest 43 = .ok (.iconst 1, 1) := by decide +kernel
theorem dX11_soonest_44 : decode cX11_soonest 44 = .ok (.if_icmp .ne 7, 3) := by decide +kernel
theorem dX11_soonest_47 : decode cX11_soonest 47 = .ok (.iconst 1, 1) := by decide +kernel
theorem dX11_soonest_48 : decode cX11_soonest 48 = .ok (.goto 4, 3) := by decide +kernel
theorem dX11_soonest_51 : decode cX11_soonest 51 = .ok (.iconst 0, 1) := by decide +kernel
theorem dX11_soonest_52 : decode cX11_soonest 52 = .ok (.invokestatic 177, 3) := by decide +kernel
theorem dX11_soonest_55 : decode cX11_soonest 55 = .ok (.aload_n 0, 1) := by decide +kernel
theorem dX11_soonest_56 : decode cX11_soonest 56 = .ok (.getfield 43, 3) := by decide +kernel
theorem dX11_soonest_59 : decode cX11_soonest 59 = .ok (.aload_n 0, 1) := by decide +kernel
theorem dX11_soonest_60 : decode cX11_soonest 60 = .ok (.getfield 16, 3) := by decide +kernel
theorem dX11_soonest_63 : decode cX11_soonest 63 = .ok (.aload 4, 2) := by decide +kernel
theorem dX11_soonest_65 : decode cX11_soonest 65 = .ok (.getfield 467, 3) := by decide +kernel
theorem dX11_soonest_68 : decode cX11_soonest 68 = .ok (.iload_n 2, 1) := by decide +kernel
theorem dX11_soonest_69 : decode cX11_soonest 69 = .ok (.iload_n 3, 1) := by decide +kernel
theorem dX11_soonest_70 : decode cX11_soonest 70 = .ok (.invokevirtual 470, 3) := by decide +kernel
theorem dX11_soonest_73 : decode cX11_soonest 73 = .ok (.ireturn, 1) := by decide +kernel
theorem dX11_levels_0 : decode cX11_levels 0 = .ok (.aload_n 0, 1) := by decide +kernel
theorem dX11_levels_1 : decode cX11_levels 1 = .ok (.iload_n 1, 1) := by decide +kernel
theorem dX11_levels_2 : decode cX11_levels 2 = .ok (.invokevirtual 366, 3) := by decide +kernel
theorem dX11_levels_5 : decode cX11_levels 5 = .ok (.iload_n 2, 1) := by decide +kernel
theorem dX11_levels_6 : decode cX11_levels 6 = .ok (.iconst 0, 1) := by decide +kernel
theorem dX11_levels_7 : decode cX11_levels 7 = .ok (.sipush 1000, 3) := by decide +kernel
theorem dX11_levels_10 : decode cX11_levels 10 = .ok (.invokestatic 58, 3) := by decide +kernel
theorem dX11_levels_13 : decode cX11_levels 13 = .ok (.invokestatic 62, 3) := by decide +kernel
theorem dX11_levels_16 : decode cX11_levels 16 = .ok (.aload_n 0, 1) := by decide +kernel
theorem dX11_levels_17 : decode cX11_levels 17 = .ok (.getfield 43, 3) := by decide +kernel
theorem dX11_levels_20 : decode cX11_levels 20 = .ok (.aload_n 0, 1) := by decide +kernel
theorem dX11_levels_21 : decode cX11_levels 21 = .ok (.getfield 30, 3) := by decide +kernel
theorem dX11_levels_24 : decode cX11_levels 24 = .ok (.iload_n 1, 1) := by decide +kernel
theorem dX11_levels_25 : decode cX11_levels 25 = .ok (.aload_n 0, 1) := by decide +kernel
theorem dX11_levels_26 : decode cX11_levels 26 = .ok (.getfield 16, 3) := by decide +kernel
theorem dX11_levels_29 : decode cX11_levels 29 = .ok (.getfield 82, 3) := by decide +kernel
theorem dX11_levels_32 : decode cX11_levels 32 = .ok (.iload_n 2, 1) := by decide +kernel
theorem dX11_levels_33 : decode cX11_levels 33 = .ok (.invokevirtual 474, 3) := by decide +kernel
theorem dX11_levels_36 : decode cX11_levels 36 = .ok (.ireturn, 1) := by decide +kernel
theorem dX11_job_0 : decode cX11_job 0 = .ok (.iload_n 1, 1) := by decide +kernel
theorem dX11_job_1 : decode cX11_job 1 = .ok (.iconst 0, 1) := by decide +kernel
theorem dX11_job_2 : decode cX11_job 2 = .ok (.ldc_w 411, 3) := by decide +kernel
theorem dX11_job_5 : decode cX11_job 5 = .ok (.invokestatic 58, 3) := by decide +kernel
theorem dX11_job_8 : decode cX11_job 8 = .ok (.ifCond .eq 39, 3) := by decide +kernel
theorem dX11_job_11 : decode cX11_job 11 = .ok (.iload_n 2, 1) := by decide +kernel
theorem dX11_job_12 : decode cX11_job 12 = .ok (.iconst 1, 1) := by decide +kernel
theorem dX11_job_13 : decode cX11_job 13 = .ok (.bipush 20, 2) := by decide +kernel
theorem dX11_job_15 : decode cX11_job 15 = .ok (.invokestatic 58, 3) := by decide +kernel
theorem dX11_job_18 : decode cX11_job 18 = .ok (.ifCond .eq 29, 3) := by decide +kernel
theorem dX11_job_21 : decode cX11_job 21 = .ok (.iload_n 3, 1) := by decide +kernel
theorem dX11_job_22 : decode cX11_job 22 = .ok (.iconst 0, 1) := by decide +kernel
theorem dX11_job_23 : decode cX11_job 23 = .ok (.ldc 96, 2) := by decide +kernel
theorem dX11_job_25 : decode cX11_job 25 = .ok (.invokestatic 58, 3) := by decide +kernel
theorem dX11_job_28 : decode cX11_job 28 = .ok (.ifCond .eq 19, 3) := by decide +kernel
theorem dX11_job_31 : decode cX11_job 31 = .ok (.iload 4, 2) := by decide +kernel
theorem dX11_job_33 : decode cX11_job 33 = .ok (.iconst 0, 1) := by decide +kernel
theorem dX11_job_34 : decode cX11_job 34 = .ok (.sipush 1000, 3) := by decide +kernel
theorem dX11_job_37 : decode cX11_job 37 = .ok (.invokestatic 58, 3) := by decide +kernel
theorem dX11_job_40 : decode cX11_job 40 = .ok (.ifCond .eq 7, 3) := by decide +kernel
theorem dX11_job_43 : decode cX11_job 43 = .ok (.iconst 1, 1) := by decide +kernel
theorem dX11_job_44 : decode cX11_job 44 = .ok (.goto 4, 3) := by decide +kernel
theorem dX11_job_47 : decode cX11_job 47 = .ok (.iconst 0, 1) := by decide +kernel
theorem dX11_job_48 : decode cX11_job 48 = .ok (.invokestatic 62, 3) := by decide +kernel
theorem dX11_job_51 : decode cX11_job 51 = .ok (.aload_n 0, 1) := by decide +kernel
theorem dX11_job_52 : decode cX11_job 52 = .ok (.getfield 43, 3) := by decide +kernel
theorem dX11_job_55 : decode cX11_job 55 = .ok (.getfield 478, 3) := by decide +kernel
theorem dX11_job_58 : decode cX11_job 58 = .ok (.bipush 7, 2) := by decide +kernel
theorem dX11_job_60 : decode cX11_job 60 = .ok (.if_icmp .ne 7, 3) := by decide +kernel
theorem dX11_job_63 : decode cX11_job 63 = .ok (.iconst (-1), 1) := by decide +kernel
theorem dX11_job_64 : decode cX11_job 64 = .ok (.goto 15, 3) := by decide +kernel
theorem dX11_job_67 : decode cX11_job 67 = .ok (.aload_n 0, 1) := by decide +kernel
theorem dX11_job_68 : decode cX11_job 68 = .ok (.getfield 43, 3) := by decide +kernel
theorem dX11_job_71 : decode cX11_job 71 = .ok (.iload_n 1, 1) := by decide +kernel
theorem dX11_job_72 : decode cX11_job 72 = .ok (.iload_n 2, 1) := by decide +kernel
theorem dX11_job_73 : decode cX11_job 73 = .ok (.iload_n 3, 1) := by decide +kernel
theorem dX11_job_74 : decode cX11_job 74 = .ok (.iload 4, 2) := by decide +kernel
theorem dX11_job_76 : decode cX11_job 76 = .ok (.invokevirtual 481, 3) := by decide +kernel
theorem dX11_job_79 : decode cX11_job 79 = .ok (.ireturn, 1) := by decide +kernel
theorem dX11_order_0 : decode cX11_order 0 = .ok (.iload_n 1, 1) := by decide +kernel
theorem dX11_order_1 : decode cX11_order 1 = .ok (.iconst 0, 1) := by decide +kernel
theorem dX11_order_2 : decode cX11_order 2 = .ok (.ldc_w 411, 3) := by decide +kernel
theorem dX11_order_5 : decode cX11_order 5 = .ok (.invokestatic 58, 3) := by decide +kernel
theorem dX11_order_8 : decode cX11_order 8 = .ok (.invokestatic 62, 3) := by decide +kernel
theorem dX11_order_11 : decode cX11_order 11 = .ok (.aload_n 0, 1) := by decide +kernel
theorem dX11_order_12 : decode cX11_order 12 = .ok (.getfield 43, 3) := by decide +kernel
theorem dX11_order_15 : decode cX11_order 15 = .ok (.iload_n 1, 1) := by decide +kernel
theorem dX11_order_16 : decode cX11_order 16 = .ok (.invokevirtual 484, 3) := by decide +kernel
theorem dX11_order_19 : decode cX11_order 19 = .ok (.iload_n 2, 1) := by decide +kernel
theorem dX11_order_20 : decode cX11_order 20 = .ok (.iconst (-1), 1) := by decide +kernel
theorem dX11_order_21 : decode cX11_order 21 = .ok (.if_icmp .ne 11, 3) := by decide +kernel
theorem dX11_order_24 : decode cX11_order 24 = .ok (.aload_n 0, 1) := by decide +kernel
theorem dX11_order_25 : decode cX11_order 25 = .ok (.getfield 43, 3) := by decide +kernel
theorem dX11_order_28 : decode cX11_order 28 = .ok (.getfield 487, 3) := by decide +kernel
theorem dX11_order_31 : decode cX11_order 31 = .ok (.ireturn, 1) := by decide +kernel
theorem dX11_order_32 : decode cX11_order 32 = .ok (.aload_n 0, 1) := by decide +kernel
theorem dX11_order_33 : decode cX11_order 33 = .ok (.getfield 43, 3) := by decide +kernel
theorem dX11_order_36 : decode cX11_order 36 = .ok (.getfield 487, 3) := by decide +kernel
theorem dX11_order_39 : decode cX11_order 39 = .ok (.iconst (-1), 1) := by decide +kernel
theorem dX11_order_40 : decode cX11_order 40 = .ok (.if_icmp .eq 32, 3) := by decide +kernel
theorem dX11_order_43 : decode cX11_order 43 = .ok (.iload_n 2, 1) := by decide +kernel
theorem dX11_order_44 : decode cX11_order 44 = .ok (.iconst 0, 1) := by decide +kernel
theorem dX11_order_45 : decode cX11_order 45 = .ok (.aload_n 0, 1) := by decide +kernel
theorem dX11_order_46 : decode cX11_order 46 = .ok (.getfield 43, 3) := by decide +kernel
theorem dX11_order_49 : decode cX11_order 49 = .ok (.getfield 478, 3) := by decide +kernel
theorem dX11_order_52 : decode cX11_order 52 = .ok (.iconst 1, 1) := by decide +kernel
theorem dX11_order_53 : decode cX11_order 53 = .ok (.isub, 1) := by decide +kernel
theorem dX11_order_54 : decode cX11_order 54 = .ok (.invokestatic 58, 3) := by decide +kernel
theorem dX11_order_57 : decode cX11_order 57 = .ok (.ifCond .eq 15, 3) := by decide +kernel
theorem dX11_order_60 : decode cX11_order 60 = .ok (.aload_n 0, 1) := by decide +kernel
theorem dX11_order_61 : decode cX11_order 61 = .ok (.getfield 43, 3) := by decide +kernel
theorem dX11_order_64 : decode cX11_order 64 = .ok (.getfield 490, 3) := by decide +kernel
theorem dX11_order_67 : decode cX11_order 67 = .ok (.iload_n 2, 1) := by decide +kernel
theorem dX11_order_68 : decode cX11_order 68 = .ok (.iaload, 1) := by decide +kernel
theorem dX11_order_69 : decode cX11_order 69 = .ok (.goto 4, 3) := by decide +kernel
theorem dX11_order_72 : decode cX11_order 72 = .ok (.iconst (-1), 1) := by decide +kernel
theorem dX11_order_73 : decode cX11_order 73 = .ok (.ireturn, 1) := by decide +kernel
theorem dX11_jobs_0 : decode cX11_jobs 0 = .ok (.aload_n 0, 1) := by decide +kernel
theorem dX11_jobs_1 : decode cX11_jobs 1 = .ok (.getfield 43, 3) := by decide +kernel
theorem dX11_jobs_4 : decode cX11_jobs 4 = .ok (.getfield 478, 3) := by decide +kernel
theorem dX11_jobs_7 : decode cX11_jobs 7 = .ok (.istore_n 1, 1) := by decide +kernel
theorem dX11_jobs_8 : decode cX11_jobs 8 = .ok (.aload_n 0, 1) := by decide +kernel
theorem dX11_jobs_9 : decode cX11_jobs 9 = .ok (.getfield 43, 3) := by decide +kernel
theorem dX11_jobs_12 : decode cX11_jobs 12 = .ok (.iconst 0, 1) := by decide +kernel
theorem dX11_jobs_13 : decode cX11_jobs 13 = .ok (.putfield 478, 3) := by decide +kernel
theorem dX11_jobs_16 : decode cX11_jobs 16 = .ok (.iload_n 1, 1) := by decide +kernel
theorem dX11_jobs_17 : decode cX11_jobs 17 = .ok (.ireturn, 1) := by decide +kernel
theorem dX11_row_0 : decode cX11_row 0 = .ok (.iload_n 2, 1) := by decide +kernel
theorem dX11_row_1 : decode cX11_row 1 = .ok (.invokestatic 55, 3) := by decide +kernel
theorem dX11_row_4 : decode cX11_row 4 = .ok (.aload_n 0, 1) := by decide +kernel
theorem dX11_row_5 : decode cX11_row 5 = .ok (.iload_n 1, 1) := by decide +kernel
theorem dX11_row_6 : decode cX11_row 6 = .ok (.invokevirtual 493, 3) := by decide +kernel
theorem dX11_row_9 : decode cX11_row 9 = .ok (.aload_n 0, 1) := by decide +kernel
theorem dX11_row_10 : decode cX11_row 10 = .ok (.getfield 23, 3) := by decide +kernel
theorem dX11_row_13 : decode cX11_row 13 = .ok (.getfield 496, 3) := by decide +kernel
theorem dX11_row_16 : decode cX11_row 16 = .ok (.aload_n 0, 1) := by decide +kernel
theorem dX11_row_17 : decode cX11_row 17 = .ok (.getfield 23, 3) := by decide +kernel
theorem dX11_row_20 : decode cX11_row 20 = .ok (.iload_n 1, 1) := by decide +kernel
theorem dX11_row_21 : decode cX11_row 21 = .ok (.iload_n 2, 1) := by decide +kernel
theorem dX11_row_22 : decode cX11_row 22 = .ok (.invokevirtual 499, 3) := by decide +kernel
theorem dX11_row_25 : decode cX11_row 25 = .ok (.iaload, 1) := by decide +kernel
theorem dX11_row_26 : decode cX11_row 26 = .ok (.ireturn, 1) := by decide +kernel
theorem dX11_tear_0 : decode cX11_tear 0 = .ok (.iload_n 2, 1) := by decide +kernel
theorem dX11_tear_1 : decode cX11_tear 1 = .ok (.invokestatic 55, 3) := by decide +kernel
theorem dX11_tear_4 : decode cX11_tear 4 = .ok (.aload_n 0, 1) := by decide +kernel
theorem dX11_tear_5 : decode cX11_tear 5 = .ok (.iload_n 1, 1) := by decide +kernel
theorem dX11_tear_6 : decode cX11_tear 6 = .ok (.invokevirtual 493, 3) := by decide +kernel
theorem dX11_tear_9 : decode cX11_tear 9 = .ok (.aload_n 0, 1) := by decide +kernel
theorem dX11_tear_10 : decode cX11_tear 10 = .ok (.getfield 23, 3) := by decide +kernel
theorem dX11_tear_13 : decode cX11_tear 13 = .ok (.iload_n 1, 1) := by decide +kernel
theorem dX11_tear_14 : decode cX11_tear 14 = .ok (.iload_n 2, 1) := by decide +kernel
theorem dX11_tear_15 : decode cX11_tear 15 = .ok (.invokevirtual 499, 3) := by decide +kernel
theorem dX11_tear_18 : decode cX11_tear 18 = .ok (.istore 4, 2) := by decide +kernel
theorem dX11_tear_20 : decode cX11_tear 20 = .ok (.aload_n 0, 1) := by decide +kernel
theorem dX11_tear_21 : decode cX11_tear 21 = .ok (.getfield 23, 3) := by decide +kernel
theorem dX11_tear_24 : decode cX11_tear 24 = .ok (.getfield 496, 3) := by decide +kernel
theorem dX11_tear_27 : decode cX11_tear 27 = .ok (.iload 4, 2) := by decide +kernel
theorem dX11_tear_29 : decode cX11_tear 29 = .ok (.dup2, 1) := by decide +kernel
theorem dX11_tear_30 : decode cX11_tear 30 = .ok (.iaload, 1) := by decide +kernel
theorem dX11_tear_31 : decode cX11_tear 31 = .ok (.iload_n 3, 1) := by decide +kernel
theorem dX11_tear_32 : decode cX11_tear 32 = .ok (.ixor, 1) := by decide +kernel
theorem dX11_tear_33 : decode cX11_tear 33 = .ok (.iastore, 1) := by decide +kernel
theorem dX11_tear_34 : decode cX11_tear 34 = .ok (.aload_n 0, 1) := by decide +kernel
theorem dX11_tear_35 : decode cX11_tear 35 = .ok (.getfield 23, 3) := by decide +kernel
theorem dX11_tear_38 : decode cX11_tear 38 = .ok (.getfield 496, 3) := by decide +kernel
theorem dX11_tear_41 : decode cX11_tear 41 = .ok (.iload 4, 2) := by decide +kernel
theorem dX11_tear_43 : decode cX11_tear 43 = .ok (.iaload, 1) := by decide +kernel
theorem dX11_tear_44 : decode cX11_tear 44 = .ok (.ireturn, 1) := by decide +kernel
theorem dX11_check_0 : decode cX11_check 0 = .ok (.aload_n 0, 1) := by decide +kernel
theorem dX11_check_1 : decode cX11_check 1 = .ok (.getfield 23, 3) := by decide +kernel
theorem dX11_check_4 : decode cX11_check 4 = .ok (.invokevirtual 502, 3) := by decide +kernel
theorem dX11_check_7 : decode cX11_check 7 = .ok (.ireturn, 1) := by decide +kernel
theorem dX11_keep_0 : decode cX11_keep 0 = .ok (.aload_n 0, 1) := by decide +kernel
theorem dX11_keep_1 : decode cX11_keep 1 = .ok (.getfield 16, 3) := by decide +kernel
theorem dX11_keep_4 : decode cX11_keep 4 = .ok (.getfield 66, 3) := by decide +kernel
theorem dX11_keep_7 : decode cX11_keep 7 = .ok (.ifCond .ne 5, 3) := by decide +kernel
theorem dX11_keep_10 : decode cX11_keep 10 = .ok (.iconst 0, 1) := by decide +kernel
theorem dX11_keep_11 : decode cX11_keep 11 = .ok (.ireturn, 1) := by decide +kernel
theorem dX11_keep_12 : decode cX11_keep 12 = .ok (.aload_n 0, 1) := by decide +kernel
theorem dX11_keep_13 : decode cX11_keep 13 = .ok (.getfield 505, 3) := by decide +kernel
theorem dX11_keep_16 : decode cX11_keep 16 = .ok (.ifnonnull 14, 3) := by decide +kernel
theorem dX11_keep_19 : decode cX11_keep 19 = .ok (.aload_n 0, 1) := by decide +kernel
theorem dX11_keep_20 : decode cX11_keep 20 = .ok (.new 13, 3) := by decide +kernel
theorem dX11_keep_23 : decode cX11_keep 23 = .ok (.dup, 1) := by decide +kernel
theorem dX11_keep_24 : decode cX11_keep 24 = .ok (.invokespecial 15, 3) := by decide +kernel
theorem dX11_keep_27 : decode cX11_keep 27 = .ok (.putfield 505, 3) := by decide +kernel
theorem dX11_keep_30 : decode cX11_keep 30 = .ok (.aload_n 0, 1) := by decide +kernel
theorem dX11_keep_31 : decode cX11_keep 31 = .ok (.getfield 505, 3) := by decide +kernel
theorem dX11_keep_34 : decode cX11_keep 34 = .ok (.aload_n 0, 1) := by decide +kernel
theorem dX11_keep_35 : decode cX11_keep 35 = .ok (.getfield 16, 3) := by decide +kernel
theorem dX11_keep_38 : decode cX11_keep 38 = .ok (.invokevirtual 508, 3) := by decide +kernel
theorem dX11_keep_41 : decode cX11_keep 41 = .ok (.iconst 1, 1) := by decide +kernel
theorem dX11_keep_42 : decode cX11_keep 42 = .ok (.ireturn, 1) := by decide +kernel
theorem dX11_back_0 : decode cX11_back 0 = .ok (.aload_n 0, 1) := by decide +kernel
theorem dX11_back_1 : decode cX11_back 1 = .ok (.getfield 505, 3) := by decide +kernel
theorem dX11_back_4 : decode cX11_back 4 = .ok (.ifnull 20, 3) := by decide +kernel
theorem dX11_back_7 : decode cX11_back 7 = .ok (.aload_n 0, 1) := by decide +kernel
theorem dX11_back_8 : decode cX11_back 8 = .ok (.getfield 505, 3) := by decide +kernel
theorem dX11_back_11 : decode cX11_back 11 = .ok (.getfield 66, 3) := by decide +kernel
theorem dX11_back_14 : decode cX11_back 14 = .ok (.aload_n 0, 1) := by decide +kernel
theorem dX11_back_15 : decode cX11_back 15 = .ok (.getfield 16, 3) := by decide +kernel
theorem dX11_back_18 : decode cX11_back 18 = .ok (.getfield 66, 3) := by decide +kernel
theorem dX11_back_21 : decode cX11_back 21 = .ok (.if_icmp .le 5, 3) := by decide +kernel
theorem dX11_back_24 : decode cX11_back 24 = .ok (.iconst 0, 1) := by decide +kernel
theorem dX11_back_25 : decode cX11_back 25 = .ok (.ireturn, 1) := by decide +kernel
theorem dX11_back_26 : decode cX11_back 26 = .ok (.aload_n 0, 1) := by decide +kernel
theorem dX11_back_27 : decode cX11_back 27 = .ok (.getfield 16, 3) := by decide +kernel
theorem dX11_back_30 : decode cX11_back 30 = .ok (.aload_n 0, 1) := by decide +kernel
theorem dX11_back_31 : decode cX11_back 31 = .ok (.getfield 505, 3) := by decide +kernel
theorem dX11_back_34 : decode cX11_back 34 = .ok (.invokevirtual 508, 3) := by decide +kernel
theorem dX11_back_37 : decode cX11_back 37 = .ok (.aload_n 0, 1) := by decide +kernel
theorem dX11_back_38 : decode cX11_back 38 = .ok (.getfield 23, 3) := by decide +kernel
theorem dX11_back_41 : decode cX11_back 41 = .ok (.invokevirtual 76, 3) := by decide +kernel
theorem dX11_back_44 : decode cX11_back 44 = .ok (.iconst 1, 1) := by decide +kernel
theorem dX11_back_45 : decode cX11_back 45 = .ok (.ireturn, 1) := by decide +kernel
theorem dX11_count_0 : decode cX11_count 0 = .ok (.iload_n 1, 1) := by decide +kernel
theorem dX11_count_1 : decode cX11_count 1 = .ok (.tableswitch 193 0 17 #[87, 95, 103, 111, 119, 130, 193, 193, 193, 193, 193, 193, 193, 141, 152, 163, 174, 185], 87) := by decide +kernel
theorem dX11_count_88 : decode cX11_count 88 = .ok (.aload_n 0, 1) := by decide +kernel
theorem dX11_count_89 : decode cX11_count 89 = .ok (.getfield 16, 3) := by decide +kernel
theorem dX11_count_92 : decode cX11_count 92 = .ok (.getfield 66, 3) := by decide +kernel
theorem dX11_count_95 : decode cX11_count 95 = .ok (.ireturn, 1) := by decide +kernel
theorem dX11_count_96 : decode cX11_count 96 = .ok (.aload_n 0, 1) := by decide +kernel
theorem dX11_count_97 : decode cX11_count 97 = .ok (.getfield 16, 3) := by decide +kernel
theorem dX11_count_100 : decode cX11_count 100 = .ok (.invokevirtual 334, 3) := by decide +kernel
theorem dX11_count_103 : decode cX11_count 103 = .ok (.ireturn, 1) := by decide +kernel
theorem dX11_count_104 : decode cX11_count 104 = .ok (.aload_n 0, 1) := by decide +kernel
theorem dX11_count_105 : decode cX11_count 105 = .ok (.getfield 16, 3) := by decide +kernel
theorem dX11_count_108 : decode cX11_count 108 = .ok (.getfield 456, 3) := by decide +kernel
theorem dX11_count_111 : decode cX11_count 111 = .ok (.ireturn, 1) := by decide +kernel
theorem dX11_count_112 : decode cX11_count 112 = .ok (.aload_n 0, 1) := by decide +kernel
theorem dX11_count_113 : decode cX11_count 113 = .ok (.getfield 16, 3) := by decide +kernel
theorem dX11_count_116 : decode cX11_count 116 = .ok (.invokevirtual 511, 3) := by decide +kernel
theorem dX11_count_119 : decode cX11_count 119 = .ok (.ireturn, 1) := by decide +kernel
theorem dX11_count_120 : decode cX11_count 120 = .ok (.aload_n 0, 1) := by decide +kernel
theorem dX11_count_121 : decode cX11_count 121 = .ok (.getfield 16, 3) := by decide +kernel
theorem dX11_count_124 : decode cX11_count 124 = .ok (.getfield 82, 3) := by decide +kernel
theorem dX11_count_127 : decode cX11_count 127 = .ok (.invokevirtual 514, 3) := by decide +kernel
theorem dX11_count_130 : decode cX11_count 130 = .ok (.ireturn, 1) := by decide +kernel
theorem dX11_count_131 : decode cX11_count 131 = .ok (.aload_n 0, 1) := by decide +kernel
theorem dX11_count_132 : decode cX11_count 132 = .ok (.getfield 16, 3) := by decide +kernel
theorem dX11_count_135 : decode cX11_count 135 = .ok (.getfield 82, 3) := by decide +kernel
theorem dX11_count_138 : decode cX11_count 138 = .ok (.invokevirtual 517, 3) := by decide +kernel
theorem dX11_count_141 : decode cX11_count 141 = .ok (.ireturn, 1) := by decide +kernel
theorem dX11_count_142 : decode cX11_count 142 = .ok (.aload_n 0, 1) := by decide +kernel
theorem dX11_count_143 : decode cX11_count 143 = .ok (.getfield 16, 3) := by decide +kernel
theorem dX11_count_146 : decode cX11_count 146 = .ok (.getfield 82, 3) := by decide +kernel
theorem dX11_count_149 : decode cX11_count 149 = .ok (.getfield 520, 3) := by decide +kernel
theorem dX11_count_152 : decode cX11_count 152 = .ok (.ireturn, 1) := by decide +kernel
theorem dX11_count_153 : decode cX11_count 153 = .ok (.aload_n 0, 1) := by decide +kernel
theorem dX11_count_154 : decode cX11_count 154 = .ok (.getfield 16, 3) := by decide +kernel
theorem dX11_count_157 : decode cX11_count 157 = .ok (.getfield 82, 3) := by decide +kernel
theorem dX11_count_160 : decode cX11_count 160 = .ok (.getfield 523, 3) := by decide +kernel
theorem dX11_count_163 : decode cX11_count 163 = .ok (.ireturn, 1) := by decide +kernel
theorem dX11_count_164 : decode cX11_count 164 = .ok (.aload_n 0, 1) := by decide +kernel
theorem dX11_count_165 : decode cX11_count 165 = .ok (.getfield 16, 3) := by decide +kernel
theorem dX11_count_168 : decode cX11_count 168 = .ok (.getfield 82, 3) := by decide +kernel
theorem dX11_count_171 : decode cX11_count 171 = .ok (.getfield 526, 3) := by decide +kernel
theorem dX11_count_174 : decode cX11_count 174 = .ok (.ireturn, 1) := by decide +kernel
theorem dX11_count_175 : decode cX11_count 175 = .ok (.aload_n 0, 1) := by decide +kernel
theorem dX11_count_176 : decode cX11_count 176 = .ok (.getfield 16, 3) := by decide +kernel
theorem dX11_count_179 : decode cX11_count 179 = .ok (.getfield 82, 3) := by decide +kernel
theorem dX11_count_182 : decode cX11_count 182 = .ok (.getfield 529, 3) := by decide +kernel
theorem dX11_count_185 : decode cX11_count 185 = .ok (.ireturn, 1) := by decide +kernel
theorem dX11_count_186 : decode cX11_count 186 = .ok (.aload_n 0, 1) := by decide +kernel
theorem dX11_count_187 : decode cX11_count 187 = .ok (.getfield 23, 3) := by decide +kernel
theorem dX11_count_190 : decode cX11_count 190 = .ok (.getfield 532, 3) := by decide +kernel
theorem dX11_count_193 : decode cX11_count 193 = .ok (.ireturn, 1) := by decide +kernel
theorem dX11_count_194 : decode cX11_count 194 = .ok (.aload_n 0, 1) := by decide +kernel
theorem dX11_count_195 : decode cX11_count 195 = .ok (.iload_n 1, 1) := by decide +kernel
theorem dX11_count_196 : decode cX11_count 196 = .ok (.invokevirtual 535, 3) := by decide +kernel
theorem dX11_count_199 : decode cX11_count 199 = .ok (.ireturn, 1) := by decide +kernel
theorem dX11_countPeople_0 : decode cX11_countPeople 0 = .ok (.iload_n 1, 1) := by decide +kernel
theorem dX11_countPeople_1 : decode cX11_countPeople 1 = .ok (.tableswitch 99 6 12 #[43, 54, 62, 70, 78, 86, 94], 43) := by decide +kernel
theorem dX11_countPeople_44 : decode cX11_countPeople 44 = .ok (.aload_n 0, 1) := by decide +kernel
theorem dX11_countPeople_45 : decode cX11_countPeople 45 = .ok (.getfield 30, 3) := by decide +kernel
theorem dX11_countPeople_48 : decode cX11_countPeople 48 = .ok (.getfield 323, 3) := by decide +kernel
theorem dX11_countPeople_51 : decode cX11_countPeople 51 = .ok (.getfield 538, 3) := by decide +kernel
theorem dX11_countPeople_54 : decode cX11_countPeople 54 = .ok (.ireturn, 1) := by decide +kernel
theorem dX11_countPeople_55 : decode cX11_countPeople 55 = .ok (.aload_n 0, 1) := by decide +kernel
theorem dX11_countPeople_56 : decode cX11_countPeople 56 = .ok (.getfield 30, 3) := by decide +kernel
theorem dX11_countPeople_59 : decode cX11_countPeople 59 = .ok (.getfield 342, 3) := by decide +kernel
theorem dX11_countPeople_62 : decode cX11_countPeople 62 = .ok (.ireturn, 1) := by decide +kernel
theorem dX11_countPeople_63 : decode cX11_countPeople 63 = .ok (.aload_n 0, 1) := by decide +kernel
theorem dX11_countPeople_64 : decode cX11_countPeople 64 = .ok (.getfield 30, 3) := by decide +kernel
theorem dX11_countPeople_67 : decode cX11_countPeople 67 = .ok (.getfield 275, 3) := by decide +kernel
theorem dX11_countPeople_70 : decode cX11_countPeople 70 = .ok (.ireturn, 1) := by decide +kernel
theorem dX11_countPeople_71 : decode cX11_countPeople 71 = .ok (.aload_n 0, 1) := by decide +kernel
theorem dX11_countPeople_72 : decode cX11_countPeople 72 = .ok (.getfield 30, 3) := by decide +kernel
theorem dX11_countPeople_75 : decode cX11_countPeople 75 = .ok (.getfield 541, 3) := by decide +kernel
theorem dX11_countPeople_78 : decode cX11_countPeople 78 = .ok (.ireturn, 1) := by decide +kernel
theorem dX11_countPeople_79 : decode cX11_countPeople 79 = .ok (.aload_n 0, 1) := by decide +kernel
theorem dX11_countPeople_80 : decode cX11_countPeople 80 = .ok (.getfield 30, 3) := by decide +kernel
theorem dX11_countPeople_83 : decode cX11_countPeople 83 = .ok (.getfield 412, 3) := by decide +kernel
theorem dX11_countPeople_86 : decode cX11_countPeople 86 = .ok (.ireturn, 1) := by decide +kernel
theorem dX11_countPeople_87 : decode cX11_countPeople 87 = .ok (.aload_n 0, 1) := by decide +kernel
theorem dX11_countPeople_88 : decode cX11_countPeople 88 = .ok (.getfield 30, 3) := by decide +kernel
theorem dX11_countPeople_91 : decode cX11_countPeople 91 = .ok (.invokevirtual 544, 3) := by decide +kernel
theorem dX11_countPeople_94 : decode cX11_countPeople 94 = .ok (.ireturn, 1) := by decide +kernel
theorem dX11_countPeople_95 : decode cX11_countPeople 95 = .ok (.aload_n 0, 1) := by decide +kernel
theorem dX11_countPeople_96 : decode cX11_countPeople 96 = .ok (.getfield 414, 3) := by decide +kernel
theorem dX11_countPeople_99 : decode cX11_countPeople 99 = .ok (.ireturn, 1) := by decide +kernel
theorem dX11_countPeople_100 : decode cX11_countPeople 100 = .ok (.iconst (-1), 1) := by decide +kernel
theorem dX11_countPeople_101 : decode cX11_countPeople 101 = .ok (.ireturn, 1) := by decide +kernel
theorem dX11_within_0 : decode cX11_within 0 = .ok (.iload_n 1, 1) := by decide +kernel
theorem dX11_within_1 : decode cX11_within 1 = .ok (.iload_n 0, 1) := by decide +kernel
theorem dX11_within_2 : decode cX11_within 2 = .ok (.if_icmp .gt 12, 3) := by decide +kernel
theorem dX11_within_5 : decode cX11_within 5 = .ok (.iload_n 0, 1) := by decide +kernel
theorem dX11_within_6 : decode cX11_within 6 = .ok (.iload_n 2, 1) := by decide +kernel
theorem dX11_within_7 : decode cX11_within 7 = .ok (.if_icmp .gt 7, 3) := by decide +kernel
theorem dX11_within_10 : decode cX11_within 10 = .ok (.iconst 1, 1) := by decide +kernel
theorem dX11_within_11 : decode cX11_within 11 = .ok (.goto 4, 3) := by decide +kernel
theorem dX11_within_14 : decode cX11_within 14 = .ok (.iconst 0, 1) := by decide +kernel
theorem dX11_within_15 : decode cX11_within 15 = .ok (.ireturn, 1) := by decide +kernel
theorem dX11_needNumbers_0 : decode cX11_needNumbers 0 = .ok (.iload_n 0, 1) := by decide +kernel
theorem dX11_needNumbers_1 : decode cX11_needNumbers 1 = .ok (.ifCond .ne 14, 3) := by decide +kernel
theorem dX11_needNumbers_4 : decode cX11_needNumbers 4 = .ok (.new 547, 3) := by decide +kernel
theorem dX11_needNumbers_7 : decode cX11_needNumbers 7 = .ok (.dup, 1) := by decide +kernel
theorem dX11_needNumbers_8 : decode cX11_needNumbers 8 = .ok (.ldc_w 549, 3) := by decide +kernel
theorem dX11_needNumbers_11 : decode cX11_needNumbers 11 = .ok (.invokespecial 551, 3) := by decide +kernel
theorem dX11_needNumbers_14 : decode cX11_needNumbers 14 = .ok (.athrow, 1) := by decide +kernel
theorem dX11_needNumbers_15 : decode cX11_needNumbers 15 = .ok (.return_, 1) := by decide +kernel
theorem dX11_needKind_0 : decode cX11_needKind 0 = .ok (.iload_n 0, 1) := by decide +kernel
theorem dX11_needKind_1 : decode cX11_needKind 1 = .ok (.ifCond .ne 14, 3) := by decide +kernel
theorem dX11_needKind_4 : decode cX11_needKind 4 = .ok (.new 552, 3) := by decide +kernel
theorem dX11_needKind_7 : decode cX11_needKind 7 = .ok (.dup, 1) := by decide +kernel
theorem dX11_needKind_8 : decode cX11_needKind 8 = .ok (.ldc_w 554, 3) := by decide +kernel
theorem dX11_needKind_11 : decode cX11_needKind 11 = .ok (.invokespecial 556, 3) := by decide +kernel
theorem dX11_needKind_14 : decode cX11_needKind 14 = .ok (.athrow, 1) := by decide +kernel
theorem dX11_needKind_15 : decode cX11_needKind 15 = .ok (.return_, 1) := by decide +kernel
theorem dX11_needSquare_0 : decode cX11_needSquare 0 = .ok (.iload_n 0, 1) := by decide +kernel
theorem dX11_needSquare_1 : decode cX11_needSquare 1 = .ok (.iconst 0, 1) := by decide +kernel
theorem dX11_needSquare_2 : decode cX11_needSquare 2 = .ok (.bipush 95, 2) := by decide +kernel
theorem dX11_needSquare_4 : decode cX11_needSquare 4 = .ok (.invokestatic 58, 3) := by decide +kernel
theorem dX11_needSquare_7 : decode cX11_needSquare 7 = .ok (.ifCond .ne 14, 3) := by decide +kernel
theorem dX11_needSquare_10 : decode cX11_needSquare 10 = .ok (.new 557, 3) := by decide +kernel
theorem dX11_needSquare_13 : decode cX11_needSquare 13 = .ok (.dup, 1) := by decide +kernel
theorem dX11_needSquare_14 : decode cX11_needSquare 14 = .ok (.ldc_w 559, 3) := by decide +kernel
theorem dX11_needSquare_17 : decode cX11_needSquare 17 = .ok (.invokespecial 561, 3) := by decide +kernel
theorem dX11_needSquare_20 : decode cX11_needSquare 20 = .ok (.athrow, 1) := by decide +kernel
theorem dX11_needSquare_21 : decode cX11_needSquare 21 = .ok (.return_, 1) := by decide +kernel
theorem dX11_needFarm_0 : decode cX11_needFarm 0 = .ok (.iload_n 1, 1) := by decide +kernel
theorem dX11_needFarm_1 : decode cX11_needFarm 1 = .ok (.iconst 0, 1) := by decide +kernel
theorem dX11_needFarm_2 : decode cX11_needFarm 2 = .ok (.aload_n 0, 1) := by decide +kernel
theorem dX11_needFarm_3 : decode cX11_needFarm 3 = .ok (.getfield 30, 3) := by decide +kernel
theorem dX11_needFarm_6 : decode cX11_needFarm 6 = .ok (.getfield 541, 3) := by decide +kernel
theorem dX11_needFarm_9 : decode cX11_needFarm 9 = .ok (.iconst 1, 1) := by decide +kernel
theorem dX11_needFarm_10 : decode cX11_needFarm 10 = .ok (.isub, 1) := by decide +kernel
theorem dX11_needFarm_11 : decode cX11_needFarm 11 = .ok (.invokestatic 58, 3) := by decide +kernel
theorem dX11_needFarm_14 : decode cX11_needFarm 14 = .ok (.ifCond .ne 14, 3) := by decide +kernel
theorem dX11_needFarm_17 : decode cX11_needFarm 17 = .ok (.new 557, 3) := by decide +kernel
theorem dX11_needFarm_20 : decode cX11_needFarm 20 = .ok (.dup, 1) := by decide +kernel
theorem dX11_needFarm_21 : decode cX11_needFarm 21 = .ok (.ldc_w 562, 3) := by decide +kernel
theorem dX11_needFarm_24 : decode cX11_needFarm 24 = .ok (.invokespecial 561, 3) := by decide +kernel
theorem dX11_needFarm_27 : decode cX11_needFarm 27 = .ok (.athrow, 1) := by decide +kernel
theorem dX11_needFarm_28 : decode cX11_needFarm 28 = .ok (.return_, 1) := by decide +kernel
theorem dX11_needRow_0 : decode cX11_needRow 0 = .ok (.iload_n 1, 1) := by decide +kernel
theorem dX11_needRow_1 : decode cX11_needRow 1 = .ok (.iconst 0, 1) := by decide +kernel
theorem dX11_needRow_2 : decode cX11_needRow 2 = .ok (.aload_n 0, 1) := by decide +kernel
theorem dX11_needRow_3 : decode cX11_needRow 3 = .ok (.getfield 23, 3) := by decide +kernel
theorem dX11_needRow_6 : decode cX11_needRow 6 = .ok (.getfield 532, 3) := by decide +kernel
theorem dX11_needRow_9 : decode cX11_needRow 9 = .ok (.iconst 1, 1) := by decide +kernel
theorem dX11_needRow_10 : decode cX11_needRow 10 = .ok (.isub, 1) := by decide +kernel
theorem dX11_needRow_11 : decode cX11_needRow 11 = .ok (.invokestatic 58, 3) := by decide +kernel
theorem dX11_needRow_14 : decode cX11_needRow 14 = .ok (.ifCond .ne 14, 3) := by decide +kernel
theorem dX11_needRow_17 : decode cX11_needRow 17 = .ok (.new 134, 3) := by decide +kernel
theorem dX11_needRow_20 : decode cX11_needRow 20 = .ok (.dup, 1) := by decide +kernel
theorem dX11_needRow_21 : decode cX11_needRow 21 = .ok (.ldc_w 564, 3) := by decide +kernel
theorem dX11_needRow_24 : decode cX11_needRow 24 = .ok (.invokespecial 138, 3) := by decide +kernel
theorem dX11_needRow_27 : decode cX11_needRow 27 = .ok (.athrow, 1) := by decide +kernel
theorem dX11_needRow_28 : decode cX11_needRow 28 = .ok (.return_, 1) := by decide +kernel
theorem dX11_needRoomForWork_0 : decode cX11_needRoomForWork 0 = .ok (.aload_n 0, 1) := by decide +kernel
theorem dX11_needRoomForWork_1 : decode cX11_needRoomForWork 1 = .ok (.getfield 16, 3) := by decide +kernel
theorem dX11_needRoomForWork_4 : decode cX11_needRoomForWork 4 = .ok (.getfield 456, 3) := by decide +kernel
theorem dX11_needRoomForWork_7 : decode cX11_needRoomForWork 7 = .ok (.bipush 30, 2) := by decide +kernel
theorem dX11_needRoomForWork_9 : decode cX11_needRoomForWork 9 = .ok (.if_icmp .ne 14, 3) := by decide +kernel
theorem dX11_needRoomForWork_12 : decode cX11_needRoomForWork 12 = .ok (.new 345, 3) := by decide +kernel
theorem dX11_needRoomForWork_15 : decode cX11_needRoomForWork 15 = .ok (.dup, 1) := by decide +kernel
theorem dX11_needRoomForWork_16 : decode cX11_needRoomForWork 16 = .ok (.ldc_w 566, 3) := by decide +kernel
theorem dX11_needRoomForWork_19 : decode cX11_needRoomForWork 19 = .ok (.invokespecial 349, 3) := by decide +kernel
theorem dX11_needRoomForWork_22 : decode cX11_needRoomForWork 22 = .ok (.athrow, 1) := by decide +kernel
theorem dX11_needRoomForWork_23 : decode cX11_needRoomForWork 23 = .ok (.return_, 1) := by decide +kernel
theorem dX11_needVote_0 : decode cX11_needVote 0 = .ok (.aload_n 0, 1) := by decide +kernel
theorem dX11_needVote_1 : decode cX11_needVote 1 = .ok (.getfield 30, 3) := by decide +kernel
theorem dX11_needVote_4 : decode cX11_needVote 4 = .ok (.getfield 284, 3) := by decide +kernel
theorem dX11_needVote_7 : decode cX11_needVote 7 = .ok (.ifCond .ne 14, 3) := by decide +kernel
theorem dX11_needVote_10 : decode cX11_needVote 10 = .ok (.new 69, 3) := by decide +kernel
theorem dX11_needVote_13 : decode cX11_needVote 13 = .ok (.dup, 1) := by decide +kernel
theorem dX11_needVote_14 : decode cX11_needVote 14 = .ok (.ldc_w 568, 3) := by decide +kernel
theorem dX11_needVote_17 : decode cX11_needVote 17 = .ok (.invokespecial 73, 3) := by decide +kernel
theorem dX11_needVote_20 : decode cX11_needVote 20 = .ok (.athrow, 1) := by decide +kernel
theorem dX11_needVote_21 : decode cX11_needVote 21 = .ok (.return_, 1) := by decide +kernel
theorem dX11_workOf_0 : decode cX11_workOf 0 = .ok (.iload_n 1, 1) := by decide +kernel
theorem dX11_workOf_1 : decode cX11_workOf 1 = .ok (.iconst 0, 1) := by decide +kernel
theorem dX11_workOf_2 : decode cX11_workOf 2 = .ok (.aload_n 0, 1) := by decide +kernel
theorem dX11_workOf_3 : decode cX11_workOf 3 = .ok (.getfield 16, 3) := by decide +kernel
theorem dX11_workOf_6 : decode cX11_workOf 6 = .ok (.getfield 456, 3) := by decide +kernel
theorem dX11_workOf_9 : decode cX11_workOf 9 = .ok (.iconst 1, 1) := by decide +kernel
theorem dX11_workOf_10 : decode cX11_workOf 10 = .ok (.isub, 1) := by decide +kernel
theorem dX11_workOf_11 : decode cX11_workOf 11 = .ok (.invokestatic 58, 3) := by decide +kernel
theorem dX11_workOf_14 : decode cX11_workOf 14 = .ok (.ifCond .ne 14, 3) := by decide +kernel
theorem dX11_workOf_17 : decode cX11_workOf 17 = .ok (.new 557, 3) := by decide +kernel
theorem dX11_workOf_20 : decode cX11_workOf 20 = .ok (.dup, 1) := by decide +kernel
theorem dX11_workOf_21 : decode cX11_workOf 21 = .ok (.ldc_w 570, 3) := by decide +kernel
theorem dX11_workOf_24 : decode cX11_workOf 24 = .ok (.invokespecial 561, 3) := by decide +kernel
theorem dX11_workOf_27 : decode cX11_workOf 27 = .ok (.athrow, 1) := by decide +kernel
theorem dX11_workOf_28 : decode cX11_workOf 28 = .ok (.aload_n 0, 1) := by decide +kernel
theorem dX11_workOf_29 : decode cX11_workOf 29 = .ok (.getfield 16, 3) := by decide +kernel
theorem dX11_workOf_32 : decode cX11_workOf 32 = .ok (.getfield 459, 3) := by decide +kernel
theorem dX11_workOf_35 : decode cX11_workOf 35 = .ok (.iload_n 1, 1) := by decide +kernel
theorem dX11_workOf_36 : decode cX11_workOf 36 = .ok (.aaload, 1) := by decide +kernel
theorem dX11_workOf_37 : decode cX11_workOf 37 = .ok (.areturn, 1) := by decide +kernel
theorem dX11_settlerOf_0 : decode cX11_settlerOf 0 = .ok (.iload_n 1, 1) := by decide +kernel
theorem dX11_settlerOf_1 : decode cX11_settlerOf 1 = .ok (.iconst 0, 1) := by decide +kernel
theorem dX11_settlerOf_2 : decode cX11_settlerOf 2 = .ok (.aload_n 0, 1) := by decide +kernel
theorem dX11_settlerOf_3 : decode cX11_settlerOf 3 = .ok (.getfield 30, 3) := by decide +kernel
theorem dX11_settlerOf_6 : decode cX11_settlerOf 6 = .ok (.getfield 342, 3) := by decide +kernel
theorem dX11_settlerOf_9 : decode cX11_settlerOf 9 = .ok (.iconst 1, 1) := by decide +kernel
theorem dX11_settlerOf_10 : decode cX11_settlerOf 10 = .ok (.isub, 1) := by decide +kernel
theorem dX11_settlerOf_11 : decode cX11_settlerOf 11 = .ok (.invokestatic 58, 3) := by decide +kernel
theorem dX11_settlerOf_14 : decode cX11_settlerOf 14 = .ok (.ifCond .ne 14, 3) := by decide +kernel
theorem dX11_settlerOf_17 : decode cX11_settlerOf 17 = .ok (.new 557, 3) := by decide +kernel
theorem dX11_settlerOf_20 : decode cX11_settlerOf 20 = .ok (.dup, 1) := by decide +kernel
theorem dX11_settlerOf_21 : decode cX11_settlerOf 21 = .ok (.ldc_w 572, 3) := by decide +kernel
theorem dX11_settlerOf_24 : decode cX11_settlerOf 24 = .ok (.invokespecial 561, 3) := by decide +kernel
theorem dX11_settlerOf_27 : decode cX11_settlerOf 27 = .ok (.athrow, 1) := by decide +kernel
theorem dX11_settlerOf_28 : decode cX11_settlerOf 28 = .ok (.aload_n 0, 1) := by decide +kernel
theorem dX11_settlerOf_29 : decode cX11_settlerOf 29 = .ok (.getfield 30, 3) := by decide +kernel
theorem dX11_settlerOf_32 : decode cX11_settlerOf 32 = .ok (.getfield 574, 3) := by decide +kernel
theorem dX11_settlerOf_35 : decode cX11_settlerOf 35 = .ok (.iload_n 1, 1) := by decide +kernel
theorem dX11_settlerOf_36 : decode cX11_settlerOf 36 = .ok (.aaload, 1) := by decide +kernel
theorem dX11_settlerOf_37 : decode cX11_settlerOf 37 = .ok (.areturn, 1) := by decide +kernel
theorem dX11_contractOf_0 : decode cX11_contractOf 0 = .ok (.iload_n 1, 1) := by decide +kernel
theorem dX11_contractOf_1 : decode cX11_contractOf 1 = .ok (.iconst 0, 1) := by decide +kernel
theorem dX11_contractOf_2 : decode cX11_contractOf 2 = .ok (.aload_n 0, 1) := by decide +kernel
theorem dX11_contractOf_3 : decode cX11_contractOf 3 = .ok (.getfield 414, 3) := by decide +kernel
theorem dX11_contractOf_6 : decode cX11_contractOf 6 = .ok (.iconst 1, 1) := by decide +kernel
theorem dX11_contractOf_7 : decode cX11_contractOf 7 = .ok (.isub, 1) := by decide +kernel
theorem dX11_contractOf_8 : decode cX11_contractOf 8 = .ok (.invokestatic 58, 3) := by decide +kernel
theorem dX11_contractOf_11 : decode cX11_contractOf 11 = .ok (.ifCond .ne 14, 3) := by decide +kernel
theorem dX11_contractOf_14 : decode cX11_contractOf 14 = .ok (.new 557, 3) := by decide +kernel
theorem dX11_contractOf_17 : decode cX11_contractOf 17 = .ok (.dup, 1) := by decide +kernel
theorem dX11_contractOf_18 : decode cX11_contractOf 18 = .ok (.ldc_w 578, 3) := by decide +kernel
theorem dX11_contractOf_21 : decode cX11_contractOf 21 = .ok (.invokespecial 561, 3) := by decide +kernel
theorem dX11_contractOf_24 : decode cX11_contractOf 24 = .ok (.athrow, 1) := by decide +kernel
theorem dX11_contractOf_25 : decode cX11_contractOf 25 = .ok (.aload_n 0, 1) := by decide +kernel
theorem dX11_contractOf_26 : decode cX11_contractOf 26 = .ok (.getfield 36, 3) := by decide +kernel
theorem dX11_contractOf_29 : decode cX11_contractOf 29 = .ok (.iload_n 1, 1) := by decide +kernel
theorem dX11_contractOf_30 : decode cX11_contractOf 30 = .ok (.aaload, 1) := by decide +kernel
theorem dX11_contractOf_31 : decode cX11_contractOf 31 = .ok (.areturn, 1) := by decide +kernel
theorem dX11_stepsApart_0 : decode cX11_stepsApart 0 = .ok (.iload_n 0, 1) := by decide +kernel
theorem dX11_stepsApart_1 : decode cX11_stepsApart 1 = .ok (.bipush 12, 2) := by decide +kernel
theorem dX11_stepsApart_3 : decode cX11_stepsApart 3 = .ok (.irem, 1) := by decide +kernel
theorem dX11_stepsApart_4 : decode cX11_stepsApart 4 = .ok (.iload_n 1, 1) := by decide +kernel
theorem dX11_stepsApart_5 : decode cX11_stepsApart 5 = .ok (.bipush 12, 2) := by decide +kernel
theorem dX11_stepsApart_7 : decode cX11_stepsApart 7 = .ok (.irem, 1) := by decide +kernel
theorem dX11_stepsApart_8 : decode cX11_stepsApart 8 = .ok (.isub, 1) := by decide +kernel
theorem dX11_stepsApart_9 : decode cX11_stepsApart 9 = .ok (.invokestatic 580, 3) := by decide +kernel
theorem dX11_stepsApart_12 : decode cX11_stepsApart 12 = .ok (.iload_n 0, 1) := by decide +kernel
theorem dX11_stepsApart_13 : decode cX11_stepsApart 13 = .ok (.bipush 12, 2) := by decide +kernel
theorem dX11_stepsApart_15 : decode cX11_stepsApart 15 = .ok (.idiv, 1) := by decide +kernel
theorem dX11_stepsApart_16 : decode cX11_stepsApart 16 = .ok (.iload_n 1, 1) := by decide +kernel
theorem dX11_stepsApart_17 : decode cX11_stepsApart 17 = .ok (.bipush 12, 2) := by decide +kernel
theorem dX11_stepsApart_19 : decode cX11_stepsApart 19 = .ok (.idiv, 1) := by decide +kernel
theorem dX11_stepsApart_20 : decode cX11_stepsApart 20 = .ok (.isub, 1) := by decide +kernel
theorem dX11_stepsApart_21 : decode cX11_stepsApart 21 = .ok (.invokestatic 580, 3) := by decide +kernel
theorem dX11_stepsApart_24 : decode cX11_stepsApart 24 = .ok (.iadd, 1) := by decide +kernel
theorem dX11_stepsApart_25 : decode cX11_stepsApart 25 = .ok (.ireturn, 1) := by decide +kernel
theorem dX11_inRectangle_0 : decode cX11_inRectangle 0 = .ok (.iload_n 0, 1) := by decide +kernel
theorem dX11_inRectangle_1 : decode cX11_inRectangle 1 = .ok (.bipush 12, 2) := by decide +kernel
theorem dX11_inRectangle_3 : decode cX11_inRectangle 3 = .ok (.irem, 1) := by decide +kernel
theorem dX11_inRectangle_4 : decode cX11_inRectangle 4 = .ok (.iload_n 1, 1) := by decide +kernel
theorem dX11_inRectangle_5 : decode cX11_inRectangle 5 = .ok (.bipush 12, 2) := by decide +kernel
theorem dX11_inRectangle_7 : decode cX11_inRectangle 7 = .ok (.irem, 1) := by decide +kernel
theorem dX11_inRectangle_8 : decode cX11_inRectangle 8 = .ok (.iload_n 2, 1) := by decide +kernel
theorem dX11_inRectangle_9 : decode cX11_inRectangle 9 = .ok (.bipush 12, 2) := by decide +kernel
theorem dX11_inRectangle_11 : decode cX11_inRectangle 11 = .ok (.irem, 1) := by decide +kernel
theorem dX11_inRectangle_12 : decode cX11_inRectangle 12 = .ok (.invokestatic 585, 3) := by decide +kernel
theorem dX11_inRectangle_15 : decode cX11_inRectangle 15 = .ok (.ifCond .eq 25, 3) := by decide +kernel
theorem dX11_inRectangle_18 : decode cX11_inRectangle 18 = .ok (.iload_n 0, 1) := by decide +kernel
theorem dX11_inRectangle_19 : decode cX11_inRectangle 19 = .ok (.bipush 12, 2) := by decide +kernel
theorem dX11_inRectangle_21 : decode cX11_inRectangle 21 = .ok (.idiv, 1) := by decide +kernel
theorem dX11_inRectangle_22 : decode cX11_inRectangle 22 = .ok (.iload_n 1, 1) := by decide +kernel
theorem dX11_inRectangle_23 : decode cX11_inRectangle 23 = .ok (.bipush 12, 2) := by decide +kernel
theorem dX11_inRectangle_25 : decode cX11_inRectangle 25 = .ok (.idiv, 1) := by decide +kernel
theorem dX11_inRectangle_26 : decode cX11_inRectangle 26 = .ok (.iload_n 2, 1) := by decide +kernel
theorem dX11_inRectangle_27 : decode cX11_inRectangle 27 = .ok (.bipush 12, 2) := by decide +kernel
theorem dX11_inRectangle_29 : decode cX11_inRectangle 29 = .ok (.idiv, 1) := by decide +kernel
theorem dX11_inRectangle_30 : decode cX11_inRectangle 30 = .ok (.invokestatic 585, 3) := by decide +kernel
theorem dX11_inRectangle_33 : decode cX11_inRectangle 33 = .ok (.ifCond .eq 7, 3) := by decide +kernel
theorem dX11_inRectangle_36 : decode cX11_inRectangle 36 = .ok (.iconst 1, 1) := by decide +kernel
theorem dX11_inRectangle_37 : decode cX11_inRectangle 37 = .ok (.goto 4, 3) := by decide +kernel
theorem dX11_inRectangle_40 : decode cX11_inRectangle 40 = .ok (.iconst 0, 1) := by decide +kernel
theorem dX11_inRectangle_41 : decode cX11_inRectangle 41 = .ok (.ireturn, 1) := by decide +kernel
theorem dX11_isBetween_0 : decode cX11_isBetween 0 = .ok (.iload_n 1, 1) := by decide +kernel
theorem dX11_isBetween_1 : decode cX11_isBetween 1 = .ok (.iload_n 2, 1) := by decide +kernel
theorem dX11_isBetween_2 : decode cX11_isBetween 2 = .ok (.invokestatic 588, 3) := by decide +kernel
theorem dX11_isBetween_5 : decode cX11_isBetween 5 = .ok (.iload_n 0, 1) := by decide +kernel
theorem dX11_isBetween_6 : decode cX11_isBetween 6 = .ok (.if_icmp .gt 16, 3) := by decide +kernel
theorem dX11_isBetween_9 : decode cX11_isBetween 9 = .ok (.iload_n 0, 1) := by decide +kernel
theorem dX11_isBetween_10 : decode cX11_isBetween 10 = .ok (.iload_n 1, 1) := by decide +kernel
theorem dX11_isBetween_11 : decode cX11_isBetween 11 = .ok (.iload_n 2, 1) := by decide +kernel
theorem dX11_isBetween_12 : decode cX11_isBetween 12 = .ok (.invokestatic 591, 3) := by decide +kernel
theorem dX11_isBetween_15 : decode cX11_isBetween 15 = .ok (.if_icmp .gt 7, 3) := by decide +kernel
theorem dX11_isBetween_18 : decode cX11_isBetween 18 = .ok (.iconst 1, 1) := by decide +kernel
theorem dX11_isBetween_19 : decode cX11_isBetween 19 = .ok (.goto 4, 3) := by decide +kernel
theorem dX11_isBetween_22 : decode cX11_isBetween 22 = .ok (.iconst 0, 1) := by decide +kernel
theorem dX11_isBetween_23 : decode cX11_isBetween 23 = .ok (.ireturn, 1) := by decide +kernel
