theorem dX0_init_0 : decode cX0_init 0 = .ok (.aload_n 0, 1) := by decide +kernel
theorem dX0_init_1 : decode cX0_init 1 = .ok (.invokespecial 3, 3) := by decide +kernel
theorem dX0_init_4 : decode cX0_init 4 = .ok (.aload_n 0, 1) := by decide +kernel
theorem dX0_init_5 : decode cX0_init 5 = .ok (.bipush 60, 2) := by decide +kernel
theorem dX0_init_7 : decode cX0_init 7 = .ok (.anewarray 9, 3) := by decide +kernel
theorem dX0_init_10 : decode cX0_init 10 = .ok (.putfield 11, 3) := by decide +kernel
theorem dX0_init_13 : decode cX0_init 13 = .ok (.aload_n 0, 1) := by decide +kernel
theorem dX0_init_14 : decode cX0_init 14 = .ok (.bipush 96, 2) := by decide +kernel
theorem dX0_init_16 : decode cX0_init 16 = .ok (.newarray .int, 2) := by decide +kernel
theorem dX0_init_18 : decode cX0_init 18 = .ok (.putfield 17, 3) := by decide +kernel
theorem dX0_init_21 : decode cX0_init 21 = .ok (.aload_n 0, 1) := by decide +kernel
theorem dX0_init_22 : decode cX0_init 22 = .ok (.bipush 30, 2) := by decide +kernel
theorem dX0_init_24 : decode cX0_init 24 = .ok (.newarray .int, 2) := by decide +kernel
theorem dX0_init_26 : decode cX0_init 26 = .ok (.putfield 21, 3) := by decide +kernel
theorem dX0_init_29 : decode cX0_init 29 = .ok (.aload_n 0, 1) := by decide +kernel
theorem dX0_init_30 : decode cX0_init 30 = .ok (.bipush 30, 2) := by decide +kernel
theorem dX0_init_32 : decode cX0_init 32 = .ok (.newarray .boolean, 2) := by decide +kernel
theorem dX0_init_34 : decode cX0_init 34 = .ok (.putfield 24, 3) := by decide +kernel
theorem dX0_init_37 : decode cX0_init 37 = .ok (.aload_n 0, 1) := by decide +kernel
theorem dX0_init_38 : decode cX0_init 38 = .ok (.iconst 5, 1) := by decide +kernel
theorem dX0_init_39 : decode cX0_init 39 = .ok (.newarray .boolean, 2) := by decide +kernel
theorem dX0_init_41 : decode cX0_init 41 = .ok (.putfield 28, 3) := by decide +kernel
theorem dX0_init_44 : decode cX0_init 44 = .ok (.aload_n 0, 1) := by decide +kernel
theorem dX0_init_45 : decode cX0_init 45 = .ok (.bipush 10, 2) := by decide +kernel
theorem dX0_init_47 : decode cX0_init 47 = .ok (.newarray .long, 2) := by decide +kernel
theorem dX0_init_49 : decode cX0_init 49 = .ok (.putfield 33, 3) := by decide +kernel
theorem dX0_init_52 : decode cX0_init 52 = .ok (.aload_n 0, 1) := by decide +kernel
theorem dX0_init_53 : decode cX0_init 53 = .ok (.bipush 60, 2) := by decide +kernel
theorem dX0_init_55 : decode cX0_init 55 = .ok (.newarray .int, 2) := by decide +kernel
theorem dX0_init_57 : decode cX0_init 57 = .ok (.putfield 37, 3) := by decide +kernel
theorem dX0_init_60 : decode cX0_init 60 = .ok (.aload_n 0, 1) := by decide +kernel
theorem dX0_init_61 : decode cX0_init 61 = .ok (.new 31, 3) := by decide +kernel
theorem dX0_init_64 : decode cX0_init 64 = .ok (.dup, 1) := by decide +kernel
theorem dX0_init_65 : decode cX0_init 65 = .ok (.invokespecial 40, 3) := by decide +kernel
theorem dX0_init_68 : decode cX0_init 68 = .ok (.putfield 41, 3) := by decide +kernel
theorem dX0_init_71 : decode cX0_init 71 = .ok (.aload_n 0, 1) := by decide +kernel
theorem dX0_init_72 : decode cX0_init 72 = .ok (.new 31, 3) := by decide +kernel
theorem dX0_init_75 : decode cX0_init 75 = .ok (.dup, 1) := by decide +kernel
theorem dX0_init_76 : decode cX0_init 76 = .ok (.invokespecial 40, 3) := by decide +kernel
theorem dX0_init_79 : decode cX0_init 79 = .ok (.putfield 45, 3) := by decide +kernel
theorem dX0_init_82 : decode cX0_init 82 = .ok (.aload_n 0, 1) := by decide +kernel
theorem dX0_init_83 : decode cX0_init 83 = .ok (.new 31, 3) := by decide +kernel
theorem dX0_init_86 : decode cX0_init 86 = .ok (.dup, 1) := by decide +kernel
theorem dX0_init_87 : decode cX0_init 87 = .ok (.invokespecial 40, 3) := by decide +kernel
theorem dX0_init_90 : decode cX0_init 90 = .ok (.putfield 48, 3) := by decide +kernel
theorem dX0_init_93 : decode cX0_init 93 = .ok (.aload_n 0, 1) := by decide +kernel
theorem dX0_init_94 : decode cX0_init 94 = .ok (.iconst (-1), 1) := by decide +kernel
theorem dX0_init_95 : decode cX0_init 95 = .ok (.putfield 51, 3) := by decide +kernel
theorem dX0_init_98 : decode cX0_init 98 = .ok (.aload_n 0, 1) := by decide +kernel
theorem dX0_init_99 : decode cX0_init 99 = .ok (.getfield 17, 3) := by decide +kernel
theorem dX0_init_102 : decode cX0_init 102 = .ok (.iconst (-1), 1) := by decide +kernel
theorem dX0_init_103 : decode cX0_init 103 = .ok (.invokestatic 55, 3) := by decide +kernel
theorem dX0_init_106 : decode cX0_init 106 = .ok (.return_, 1) := by decide +kernel
theorem dX0_foundSpare_0 : decode cX0_foundSpare 0 = .ok (.aload_n 0, 1) := by decide +kernel
theorem dX0_foundSpare_1 : decode cX0_foundSpare 1 = .ok (.getfield 41, 3) := by decide +kernel
theorem dX0_foundSpare_4 : decode cX0_foundSpare 4 = .ok (.astore_n 1, 1) := by decide +kernel
theorem dX0_foundSpare_5 : decode cX0_foundSpare 5 = .ok (.aload_n 0, 1) := by decide +kernel
theorem dX0_foundSpare_6 : decode cX0_foundSpare 6 = .ok (.aload_n 0, 1) := by decide +kernel
theorem dX0_foundSpare_7 : decode cX0_foundSpare 7 = .ok (.getfield 48, 3) := by decide +kernel
theorem dX0_foundSpare_10 : decode cX0_foundSpare 10 = .ok (.putfield 41, 3) := by decide +kernel
theorem dX0_foundSpare_13 : decode cX0_foundSpare 13 = .ok (.aload_n 0, 1) := by decide +kernel
theorem dX0_foundSpare_14 : decode cX0_foundSpare 14 = .ok (.aload_n 1, 1) := by decide +kernel
theorem dX0_foundSpare_15 : decode cX0_foundSpare 15 = .ok (.putfield 48, 3) := by decide +kernel
theorem dX0_foundSpare_18 : decode cX0_foundSpare 18 = .ok (.aload_n 0, 1) := by decide +kernel
theorem dX0_foundSpare_19 : decode cX0_foundSpare 19 = .ok (.getfield 41, 3) := by decide +kernel
theorem dX0_foundSpare_22 : decode cX0_foundSpare 22 = .ok (.getfield 61, 3) := by decide +kernel
theorem dX0_foundSpare_25 : decode cX0_foundSpare 25 = .ok (.ireturn, 1) := by decide +kernel
theorem dX0_proposeSpare_0 : decode cX0_proposeSpare 0 = .ok (.aload_n 0, 1) := by decide +kernel
theorem dX0_proposeSpare_1 : decode cX0_proposeSpare 1 = .ok (.getfield 45, 3) := by decide +kernel
theorem dX0_proposeSpare_4 : decode cX0_proposeSpare 4 = .ok (.astore_n 1, 1) := by decide +kernel
theorem dX0_proposeSpare_5 : decode cX0_proposeSpare 5 = .ok (.aload_n 0, 1) := by decide +kernel
theorem dX0_proposeSpare_6 : decode cX0_proposeSpare 6 = .ok (.aload_n 0, 1) := by decide +kernel
theorem dX0_proposeSpare_7 : decode cX0_proposeSpare 7 = .ok (.getfield 48, 3) := by decide +kernel
theorem dX0_proposeSpare_10 : decode cX0_proposeSpare 10 = .ok (.putfield 45, 3) := by decide +kernel
theorem dX0_proposeSpare_13 : decode cX0_proposeSpare 13 = .ok (.aload_n 0, 1) := by decide +kernel
theorem dX0_proposeSpare_14 : decode cX0_proposeSpare 14 = .ok (.aload_n 1, 1) := by decide +kernel
theorem dX0_proposeSpare_15 : decode cX0_proposeSpare 15 = .ok (.putfield 48, 3) := by decide +kernel
theorem dX0_proposeSpare_18 : decode cX0_proposeSpare 18 = .ok (.aload_n 0, 1) := by decide +kernel
theorem dX0_proposeSpare_19 : decode cX0_proposeSpare 19 = .ok (.iconst 1, 1) := by decide +kernel
theorem dX0_proposeSpare_20 : decode cX0_proposeSpare 20 = .ok (.putfield 64, 3) := by decide +kernel
theorem dX0_proposeSpare_23 : decode cX0_proposeSpare 23 = .ok (.aload_n 0, 1) := by decide +kernel
theorem dX0_proposeSpare_24 : decode cX0_proposeSpare 24 = .ok (.lconst 0, 1) := by decide +kernel
theorem dX0_proposeSpare_25 : decode cX0_proposeSpare 25 = .ok (.putfield 68, 3) := by decide +kernel
theorem dX0_proposeSpare_28 : decode cX0_proposeSpare 28 = .ok (.aload_n 0, 1) := by decide +kernel
theorem dX0_proposeSpare_29 : decode cX0_proposeSpare 29 = .ok (.lconst 0, 1) := by decide +kernel
theorem dX0_proposeSpare_30 : decode cX0_proposeSpare 30 = .ok (.putfield 72, 3) := by decide +kernel
theorem dX0_proposeSpare_33 : decode cX0_proposeSpare 33 = .ok (.iconst 0, 1) := by decide +kernel
theorem dX0_proposeSpare_34 : decode cX0_proposeSpare 34 = .ok (.istore_n 2, 1) := by decide +kernel
theorem dX0_proposeSpare_35 : decode cX0_proposeSpare 35 = .ok (.iload_n 2, 1) := by decide +kernel
theorem dX0_proposeSpare_36 : decode cX0_proposeSpare 36 = .ok (.aload_n 0, 1) := by decide +kernel
theorem dX0_proposeSpare_37 : decode cX0_proposeSpare 37 = .ok (.getfield 75, 3) := by decide +kernel
theorem dX0_proposeSpare_40 : decode cX0_proposeSpare 40 = .ok (.if_icmp .ge 19, 3) := by decide +kernel
theorem dX0_proposeSpare_43 : decode cX0_proposeSpare 43 = .ok (.aload_n 0, 1) := by decide +kernel
theorem dX0_proposeSpare_44 : decode cX0_proposeSpare 44 = .ok (.getfield 11, 3) := by decide +kernel
theorem dX0_proposeSpare_47 : decode cX0_proposeSpare 47 = .ok (.iload_n 2, 1) := by decide +kernel
theorem dX0_proposeSpare_48 : decode cX0_proposeSpare 48 = .ok (.aaload, 1) := by decide +kernel
theorem dX0_proposeSpare_49 : decode cX0_proposeSpare 49 = .ok (.iconst 0, 1) := by decide +kernel
theorem dX0_proposeSpare_50 : decode cX0_proposeSpare 50 = .ok (.putfield 78, 3) := by decide +kernel
theorem dX0_proposeSpare_53 : decode cX0_proposeSpare 53 = .ok (.iinc 2 1, 3) := by decide +kernel
theorem dX0_proposeSpare_56 : decode cX0_proposeSpare 56 = .ok (.goto (-21), 3) := by decide +kernel
theorem dX0_proposeSpare_59 : decode cX0_proposeSpare 59 = .ok (.aload_n 0, 1) := by decide +kernel
theorem dX0_proposeSpare_60 : decode cX0_proposeSpare 60 = .ok (.getfield 45, 3) := by decide +kernel
theorem dX0_proposeSpare_63 : decode cX0_proposeSpare 63 = .ok (.getfield 61, 3) := by decide +kernel
theorem dX0_proposeSpare_66 : decode cX0_proposeSpare 66 = .ok (.ireturn, 1) := by decide +kernel
theorem dX0_hear_0 : decode cX0_hear 0 = .ok (.aload_n 1, 1) := by decide +kernel
theorem dX0_hear_1 : decode cX0_hear 1 = .ok (.getfield 81, 3) := by decide +kernel
theorem dX0_hear_4 : decode cX0_hear 4 = .ok (.iconst (-1), 1) := by decide +kernel
theorem dX0_hear_5 : decode cX0_hear 5 = .ok (.if_icmp .eq 10, 3) := by decide +kernel
theorem dX0_hear_8 : decode cX0_hear 8 = .ok (.aload_n 1, 1) := by decide +kernel
theorem dX0_hear_9 : decode cX0_hear 9 = .ok (.getfield 78, 3) := by decide +kernel
theorem dX0_hear_12 : decode cX0_hear 12 = .ok (.ifCond .eq 5, 3) := by decide +kernel
theorem dX0_hear_15 : decode cX0_hear 15 = .ok (.iconst (-1), 1) := by decide +kernel
theorem dX0_hear_16 : decode cX0_hear 16 = .ok (.ireturn, 1) := by decide +kernel
theorem dX0_hear_17 : decode cX0_hear 17 = .ok (.aload_n 0, 1) := by decide +kernel
theorem dX0_hear_18 : decode cX0_hear 18 = .ok (.aload_n 1, 1) := by decide +kernel
theorem dX0_hear_19 : decode cX0_hear 19 = .ok (.aload_n 3, 1) := by decide +kernel
theorem dX0_hear_20 : decode cX0_hear 20 = .ok (.invokevirtual 84, 3) := by decide +kernel
theorem dX0_hear_23 : decode cX0_hear 23 = .ok (.aload_n 0, 1) := by decide +kernel
theorem dX0_hear_24 : decode cX0_hear 24 = .ok (.iconst 2, 1) := by decide +kernel
theorem dX0_hear_25 : decode cX0_hear 25 = .ok (.invokevirtual 88, 3) := by decide +kernel
theorem dX0_hear_28 : decode cX0_hear 28 = .ok (.istore 4, 2) := by decide +kernel
theorem dX0_hear_30 : decode cX0_hear 30 = .ok (.aload_n 1, 1) := by decide +kernel
theorem dX0_hear_31 : decode cX0_hear 31 = .ok (.iconst 1, 1) := by decide +kernel
theorem dX0_hear_32 : decode cX0_hear 32 = .ok (.putfield 78, 3) := by decide +kernel
theorem dX0_hear_35 : decode cX0_hear 35 = .ok (.aload_n 0, 1) := by decide +kernel
theorem dX0_hear_36 : decode cX0_hear 36 = .ok (.dup, 1) := by decide +kernel
theorem dX0_hear_37 : decode cX0_hear 37 = .ok (.getfield 72, 3) := by decide +kernel
theorem dX0_hear_40 : decode cX0_hear 40 = .ok (.iload 4, 2) := by decide +kernel
theorem dX0_hear_42 : decode cX0_hear 42 = .ok (.i2l, 1) := by decide +kernel
theorem dX0_hear_43 : decode cX0_hear 43 = .ok (.ladd, 1) := by decide +kernel
theorem dX0_hear_44 : decode cX0_hear 44 = .ok (.putfield 72, 3) := by decide +kernel
theorem dX0_hear_47 : decode cX0_hear 47 = .ok (.aload_n 0, 1) := by decide +kernel
theorem dX0_hear_48 : decode cX0_hear 48 = .ok (.dup, 1) := by decide +kernel
theorem dX0_hear_49 : decode cX0_hear 49 = .ok (.getfield 68, 3) := by decide +kernel
theorem dX0_hear_52 : decode cX0_hear 52 = .ok (.iload_n 2, 1) := by decide +kernel
theorem dX0_hear_53 : decode cX0_hear 53 = .ok (.ifCond .eq 9, 3) := by decide +kernel
theorem dX0_hear_56 : decode cX0_hear 56 = .ok (.iload 4, 2) := by decide +kernel
theorem dX0_hear_58 : decode cX0_hear 58 = .ok (.i2l, 1) := by decide +kernel
theorem dX0_hear_59 : decode cX0_hear 59 = .ok (.goto 4, 3) := by decide +kernel
theorem dX0_hear_62 : decode cX0_hear 62 = .ok (.lconst 0, 1) := by decide +kernel
theorem dX0_hear_63 : decode cX0_hear 63 = .ok (.ladd, 1) := by decide +kernel
theorem dX0_hear_64 : decode cX0_hear 64 = .ok (.putfield 68, 3) := by decide +kernel
theorem dX0_hear_67 : decode cX0_hear 67 = .ok (.iload 4, 2) := by decide +kernel
theorem dX0_hear_69 : decode cX0_hear 69 = .ok (.ireturn, 1) := by decide +kernel
theorem dX0_closeVote_0 : decode cX0_closeVote 0 = .ok (.aload_n 0, 1) := by decide +kernel
theorem dX0_closeVote_1 : decode cX0_closeVote 1 = .ok (.getfield 68, 3) := by decide +kernel
theorem dX0_closeVote_4 : decode cX0_closeVote 4 = .ok (.ldc2_w 92, 3) := by decide +kernel
theorem dX0_closeVote_7 : decode cX0_closeVote 7 = .ok (.lmul, 1) := by decide +kernel
theorem dX0_closeVote_8 : decode cX0_closeVote 8 = .ok (.aload_n 0, 1) := by decide +kernel
theorem dX0_closeVote_9 : decode cX0_closeVote 9 = .ok (.getfield 72, 3) := by decide +kernel
theorem dX0_closeVote_12 : decode cX0_closeVote 12 = .ok (.aload_n 0, 1) := by decide +kernel
theorem dX0_closeVote_13 : decode cX0_closeVote 13 = .ok (.getfield 41, 3) := by decide +kernel
theorem dX0_closeVote_16 : decode cX0_closeVote 16 = .ok (.bipush 8, 2) := by decide +kernel
theorem dX0_closeVote_18 : decode cX0_closeVote 18 = .ok (.bipush 50, 2) := by decide +kernel
theorem dX0_closeVote_20 : decode cX0_closeVote 20 = .ok (.invokevirtual 94, 3) := by decide +kernel
theorem dX0_closeVote_23 : decode cX0_closeVote 23 = .ok (.i2l, 1) := by decide +kernel
theorem dX0_closeVote_24 : decode cX0_closeVote 24 = .ok (.lmul, 1) := by decide +kernel
theorem dX0_closeVote_25 : decode cX0_closeVote 25 = .ok (.lcmp, 1) := by decide +kernel
theorem dX0_closeVote_26 : decode cX0_closeVote 26 = .ok (.ifCond .le 7, 3) := by decide +kernel
theorem dX0_closeVote_29 : decode cX0_closeVote 29 = .ok (.iconst 1, 1) := by decide +kernel
theorem dX0_closeVote_30 : decode cX0_closeVote 30 = .ok (.goto 4, 3) := by decide +kernel
theorem dX0_closeVote_33 : decode cX0_closeVote 33 = .ok (.iconst 0, 1) := by decide +kernel
theorem dX0_closeVote_34 : decode cX0_closeVote 34 = .ok (.istore_n 1, 1) := by decide +kernel
theorem dX0_closeVote_35 : decode cX0_closeVote 35 = .ok (.aload_n 0, 1) := by decide +kernel
theorem dX0_closeVote_36 : decode cX0_closeVote 36 = .ok (.iconst 0, 1) := by decide +kernel
theorem dX0_closeVote_37 : decode cX0_closeVote 37 = .ok (.putfield 64, 3) := by decide +kernel
theorem dX0_closeVote_40 : decode cX0_closeVote 40 = .ok (.iload_n 1, 1) := by decide +kernel
theorem dX0_closeVote_41 : decode cX0_closeVote 41 = .ok (.ifCond .eq 21, 3) := by decide +kernel
theorem dX0_closeVote_44 : decode cX0_closeVote 44 = .ok (.aload_n 0, 1) := by decide +kernel
theorem dX0_closeVote_45 : decode cX0_closeVote 45 = .ok (.getfield 41, 3) := by decide +kernel
theorem dX0_closeVote_48 : decode cX0_closeVote 48 = .ok (.astore_n 2, 1) := by decide +kernel
theorem dX0_closeVote_49 : decode cX0_closeVote 49 = .ok (.aload_n 0, 1) := by decide +kernel
theorem dX0_closeVote_50 : decode cX0_closeVote 50 = .ok (.aload_n 0, 1) := by decide +kernel
theorem dX0_closeVote_51 : decode cX0_closeVote 51 = .ok (.getfield 45, 3) := by decide +kernel
theorem dX0_closeVote_54 : decode cX0_closeVote 54 = .ok (.putfield 41, 3) := by decide +kernel
theorem dX0_closeVote_57 : decode cX0_closeVote 57 = .ok (.aload_n 0, 1) := by decide +kernel
theorem dX0_closeVote_58 : decode cX0_closeVote 58 = .ok (.aload_n 2, 1) := by decide +kernel
theorem dX0_closeVote_59 : decode cX0_closeVote 59 = .ok (.putfield 45, 3) := by decide +kernel
theorem dX0_closeVote_62 : decode cX0_closeVote 62 = .ok (.iload_n 1, 1) := by decide +kernel
theorem dX0_closeVote_63 : decode cX0_closeVote 63 = .ok (.ireturn, 1) := by decide +kernel
theorem dX0_gatherFacts_0 : decode cX0_gatherFacts 0 = .ok (.aload_n 0, 1) := by decide +kernel
theorem dX0_gatherFacts_1 : decode cX0_gatherFacts 1 = .ok (.getfield 33, 3) := by decide +kernel
theorem dX0_gatherFacts_4 : decode cX0_gatherFacts 4 = .ok (.iconst 0, 1) := by decide +kernel
theorem dX0_gatherFacts_5 : decode cX0_gatherFacts 5 = .ok (.aload_n 0, 1) := by decide +kernel
theorem dX0_gatherFacts_6 : decode cX0_gatherFacts 6 = .ok (.aload_n 1, 1) := by decide +kernel
theorem dX0_gatherFacts_7 : decode cX0_gatherFacts 7 = .ok (.invokevirtual 98, 3) := by decide +kernel
theorem dX0_gatherFacts_10 : decode cX0_gatherFacts 10 = .ok (.i2l, 1) := by decide +kernel
theorem dX0_gatherFacts_11 : decode cX0_gatherFacts 11 = .ok (.lastore, 1) := by decide +kernel
theorem dX0_gatherFacts_12 : decode cX0_gatherFacts 12 = .ok (.aload_n 0, 1) := by decide +kernel
theorem dX0_gatherFacts_13 : decode cX0_gatherFacts 13 = .ok (.getfield 33, 3) := by decide +kernel
theorem dX0_gatherFacts_16 : decode cX0_gatherFacts 16 = .ok (.iconst 1, 1) := by decide +kernel
theorem dX0_gatherFacts_17 : decode cX0_gatherFacts 17 = .ok (.aload_n 1, 1) := by decide +kernel
theorem dX0_gatherFacts_18 : decode cX0_gatherFacts 18 = .ok (.getfield 102, 3) := by decide +kernel
theorem dX0_gatherFacts_21 : decode cX0_gatherFacts 21 = .ok (.i2l, 1) := by decide +kernel
theorem dX0_gatherFacts_22 : decode cX0_gatherFacts 22 = .ok (.lastore, 1) := by decide +kernel
theorem dX0_gatherFacts_23 : decode cX0_gatherFacts 23 = .ok (.aload_n 0, 1) := by decide +kernel
theorem dX0_gatherFacts_24 : decode cX0_gatherFacts 24 = .ok (.getfield 33, 3) := by decide +kernel
theorem dX0_gatherFacts_27 : decode cX0_gatherFacts 27 = .ok (.iconst 2, 1) := by decide +kernel
theorem dX0_gatherFacts_28 : decode cX0_gatherFacts 28 = .ok (.aload_n 1, 1) := by decide +kernel
theorem dX0_gatherFacts_29 : decode cX0_gatherFacts 29 = .ok (.getfield 105, 3) := by decide +kernel
theorem dX0_gatherFacts_32 : decode cX0_gatherFacts 32 = .ok (.i2l, 1) := by decide +kernel
theorem dX0_gatherFacts_33 : decode cX0_gatherFacts 33 = .ok (.lastore, 1) := by decide +kernel
theorem dX0_gatherFacts_34 : decode cX0_gatherFacts 34 = .ok (.aload_n 0, 1) := by decide +kernel
theorem dX0_gatherFacts_35 : decode cX0_gatherFacts 35 = .ok (.getfield 33, 3) := by decide +kernel
theorem dX0_gatherFacts_38 : decode cX0_gatherFacts 38 = .ok (.iconst 3, 1) := by decide +kernel
theorem dX0_gatherFacts_39 : decode cX0_gatherFacts 39 = .ok (.aload_n 1, 1) := by decide +kernel
theorem dX0_gatherFacts_40 : decode cX0_gatherFacts 40 = .ok (.getfield 108, 3) := by decide +kernel
theorem dX0_gatherFacts_43 : decode cX0_gatherFacts 43 = .ok (.i2l, 1) := by decide +kernel
theorem dX0_gatherFacts_44 : decode cX0_gatherFacts 44 = .ok (.lastore, 1) := by decide +kernel
theorem dX0_gatherFacts_45 : decode cX0_gatherFacts 45 = .ok (.aload_n 0, 1) := by decide +kernel
theorem dX0_gatherFacts_46 : decode cX0_gatherFacts 46 = .ok (.getfield 33, 3) := by decide +kernel
theorem dX0_gatherFacts_49 : decode cX0_gatherFacts 49 = .ok (.iconst 4, 1) := by decide +kernel
theorem dX0_gatherFacts_50 : decode cX0_gatherFacts 50 = .ok (.aload_n 1, 1) := by decide +kernel
theorem dX0_gatherFacts_51 : decode cX0_gatherFacts 51 = .ok (.getfield 111, 3) := by decide +kernel
theorem dX0_gatherFacts_54 : decode cX0_gatherFacts 54 = .ok (.i2l, 1) := by decide +kernel
theorem dX0_gatherFacts_55 : decode cX0_gatherFacts 55 = .ok (.lastore, 1) := by decide +kernel
theorem dX0_gatherFacts_56 : decode cX0_gatherFacts 56 = .ok (.aload_n 0, 1) := by decide +kernel
theorem dX0_gatherFacts_57 : decode cX0_gatherFacts 57 = .ok (.getfield 33, 3) := by decide +kernel
theorem dX0_gatherFacts_60 : decode cX0_gatherFacts 60 = .ok (.iconst 5, 1) := by decide +kernel
theorem dX0_gatherFacts_61 : decode cX0_gatherFacts 61 = .ok (.aload_n 1, 1) := by decide +kernel
theorem dX0_gatherFacts_62 : decode cX0_gatherFacts 62 = .ok (.getfield 114, 3) := by decide +kernel
theorem dX0_gatherFacts_65 : decode cX0_gatherFacts 65 = .ok (.i2l, 1) := by decide +kernel
theorem dX0_gatherFacts_66 : decode cX0_gatherFacts 66 = .ok (.lastore, 1) := by decide +kernel
theorem dX0_gatherFacts_67 : decode cX0_gatherFacts 67 = .ok (.aload_n 0, 1) := by decide +kernel
theorem dX0_gatherFacts_68 : decode cX0_gatherFacts 68 = .ok (.getfield 33, 3) := by decide +kernel
theorem dX0_gatherFacts_71 : decode cX0_gatherFacts 71 = .ok (.bipush 6, 2) := by decide +kernel
theorem dX0_gatherFacts_73 : decode cX0_gatherFacts 73 = .ok (.aload_n 1, 1) := by decide +kernel
theorem dX0_gatherFacts_74 : decode cX0_gatherFacts 74 = .ok (.getfield 117, 3) := by decide +kernel
theorem dX0_gatherFacts_77 : decode cX0_gatherFacts 77 = .ok (.ifCond .eq 7, 3) := by decide +kernel
theorem dX0_gatherFacts_80 : decode cX0_gatherFacts 80 = .ok (.lconst 1, 1) := by decide +kernel
theorem dX0_gatherFacts_81 : decode cX0_gatherFacts 81 = .ok (.goto 4, 3) := by decide +kernel
theorem dX0_gatherFacts_84 : decode cX0_gatherFacts 84 = .ok (.lconst 0, 1) := by decide +kernel
theorem dX0_gatherFacts_85 : decode cX0_gatherFacts 85 = .ok (.lastore, 1) := by decide +kernel
theorem dX0_gatherFacts_86 : decode cX0_gatherFacts 86 = .ok (.aload_n 0, 1) := by decide +kernel
theorem dX0_gatherFacts_87 : decode cX0_gatherFacts 87 = .ok (.getfield 33, 3) := by decide +kernel
theorem dX0_gatherFacts_90 : decode cX0_gatherFacts 90 = .ok (.bipush 7, 2) := by decide +kernel
theorem dX0_gatherFacts_92 : decode cX0_gatherFacts 92 = .ok (.aload_n 1, 1) := by decide +kernel
theorem dX0_gatherFacts_93 : decode cX0_gatherFacts 93 = .ok (.getfield 120, 3) := by decide +kernel
theorem dX0_gatherFacts_96 : decode cX0_gatherFacts 96 = .ok (.ifCond .eq 7, 3) := by decide +kernel
theorem dX0_gatherFacts_99 : decode cX0_gatherFacts 99 = .ok (.lconst 1, 1) := by decide +kernel
theorem dX0_gatherFacts_100 : decode cX0_gatherFacts 100 = .ok (.goto 4, 3) := by decide +kernel
theorem dX0_gatherFacts_103 : decode cX0_gatherFacts 103 = .ok (.lconst 0, 1) := by decide +kernel
theorem dX0_gatherFacts_104 : decode cX0_gatherFacts 104 = .ok (.lastore, 1) := by decide +kernel
theorem dX0_gatherFacts_105 : decode cX0_gatherFacts 105 = .ok (.aload_n 0, 1) := by decide +kernel
theorem dX0_gatherFacts_106 : decode cX0_gatherFacts 106 = .ok (.getfield 33, 3) := by decide +kernel
theorem dX0_gatherFacts_109 : decode cX0_gatherFacts 109 = .ok (.bipush 8, 2) := by decide +kernel
theorem dX0_gatherFacts_111 : decode cX0_gatherFacts 111 = .ok (.aload_n 0, 1) := by decide +kernel
theorem dX0_gatherFacts_112 : decode cX0_gatherFacts 112 = .ok (.aload_n 1, 1) := by decide +kernel
theorem dX0_gatherFacts_113 : decode cX0_gatherFacts 113 = .ok (.aload_n 2, 1) := by decide +kernel
theorem dX0_gatherFacts_114 : decode cX0_gatherFacts 114 = .ok (.invokevirtual 123, 3) := by decide +kernel
theorem dX0_gatherFacts_117 : decode cX0_gatherFacts 117 = .ok (.i2l, 1) := by decide +kernel
theorem dX0_gatherFacts_118 : decode cX0_gatherFacts 118 = .ok (.lastore, 1) := by decide +kernel
theorem dX0_gatherFacts_119 : decode cX0_gatherFacts 119 = .ok (.aload_n 0, 1) := by decide +kernel
theorem dX0_gatherFacts_120 : decode cX0_gatherFacts 120 = .ok (.getfield 33, 3) := by decide +kernel
theorem dX0_gatherFacts_123 : decode cX0_gatherFacts 123 = .ok (.bipush 9, 2) := by decide +kernel
theorem dX0_gatherFacts_125 : decode cX0_gatherFacts 125 = .ok (.aload_n 1, 1) := by decide +kernel
theorem dX0_gatherFacts_126 : decode cX0_gatherFacts 126 = .ok (.getfield 127, 3) := by decide +kernel
theorem dX0_gatherFacts_129 : decode cX0_gatherFacts 129 = .ok (.i2l, 1) := by decide +kernel
theorem dX0_gatherFacts_130 : decode cX0_gatherFacts 130 = .ok (.lastore, 1) := by decide +kernel
theorem dX0_gatherFacts_131 : decode cX0_gatherFacts 131 = .ok (.return_, 1) := by decide +kernel
theorem dX0_ruled_0 : decode cX0_ruled 0 = .ok (.aload_n 0, 1) := by decide +kernel
theorem dX0_ruled_1 : decode cX0_ruled 1 = .ok (.getfield 41, 3) := by decide +kernel
theorem dX0_ruled_4 : decode cX0_ruled 4 = .ok (.iload_n 1, 1) := by decide +kernel
theorem dX0_ruled_5 : decode cX0_ruled 5 = .ok (.aload_n 0, 1) := by decide +kernel
theorem dX0_ruled_6 : decode cX0_ruled 6 = .ok (.getfield 33, 3) := by decide +kernel
theorem dX0_ruled_9 : decode cX0_ruled 9 = .ok (.invokevirtual 130, 3) := by decide +kernel
theorem dX0_ruled_12 : decode cX0_ruled 12 = .ok (.l2i, 1) := by decide +kernel
theorem dX0_ruled_13 : decode cX0_ruled 13 = .ok (.ireturn, 1) := by decide +kernel
theorem dX0_isRuled_0 : decode cX0_isRuled 0 = .ok (.aload_n 0, 1) := by decide +kernel
theorem dX0_isRuled_1 : decode cX0_isRuled 1 = .ok (.getfield 41, 3) := by decide +kernel
theorem dX0_isRuled_4 : decode cX0_isRuled 4 = .ok (.iload_n 1, 1) := by decide +kernel
theorem dX0_isRuled_5 : decode cX0_isRuled 5 = .ok (.aload_n 0, 1) := by decide +kernel
theorem dX0_isRuled_6 : decode cX0_isRuled 6 = .ok (.getfield 33, 3) := by decide +kernel
theorem dX0_isRuled_9 : decode cX0_isRuled 9 = .ok (.invokevirtual 134, 3) := by decide +kernel
theorem dX0_isRuled_12 : decode cX0_isRuled 12 = .ok (.iconst (-1), 1) := by decide +kernel
theorem dX0_isRuled_13 : decode cX0_isRuled 13 = .ok (.if_icmp .eq 7, 3) := by decide +kernel
theorem dX0_isRuled_16 : decode cX0_isRuled 16 = .ok (.iconst 1, 1) := by decide +kernel
theorem dX0_isRuled_17 : decode cX0_isRuled 17 = .ok (.goto 4, 3) := by decide +kernel
theorem dX0_isRuled_20 : decode cX0_isRuled 20 = .ok (.iconst 0, 1) := by decide +kernel
theorem dX0_isRuled_21 : decode cX0_isRuled 21 = .ok (.ireturn, 1) := by decide +kernel
theorem dX0_duesAndGain_0 : decode cX0_duesAndGain 0 = .ok (.aload_n 0, 1) := by decide +kernel
theorem dX0_duesAndGain_1 : decode cX0_duesAndGain 1 = .ok (.getfield 41, 3) := by decide +kernel
theorem dX0_duesAndGain_4 : decode cX0_duesAndGain 4 = .ok (.iconst 1, 1) := by decide +kernel
theorem dX0_duesAndGain_5 : decode cX0_duesAndGain 5 = .ok (.aload_n 0, 1) := by decide +kernel
theorem dX0_duesAndGain_6 : decode cX0_duesAndGain 6 = .ok (.getfield 33, 3) := by decide +kernel
theorem dX0_duesAndGain_9 : decode cX0_duesAndGain 9 = .ok (.invokevirtual 130, 3) := by decide +kernel
theorem dX0_duesAndGain_12 : decode cX0_duesAndGain 12 = .ok (.aload_n 0, 1) := by decide +kernel
theorem dX0_duesAndGain_13 : decode cX0_duesAndGain 13 = .ok (.getfield 33, 3) := by decide +kernel
theorem dX0_duesAndGain_16 : decode cX0_duesAndGain 16 = .ok (.iconst 1, 1) := by decide +kernel
theorem dX0_duesAndGain_17 : decode cX0_duesAndGain 17 = .ok (.laload, 1) := by decide +kernel
theorem dX0_duesAndGain_18 : decode cX0_duesAndGain 18 = .ok (.lmul, 1) := by decide +kernel
theorem dX0_duesAndGain_19 : decode cX0_duesAndGain 19 = .ok (.ldc2_w 92, 3) := by decide +kernel
theorem dX0_duesAndGain_22 : decode cX0_duesAndGain 22 = .ok (.ldiv, 1) := by decide +kernel
theorem dX0_duesAndGain_23 : decode cX0_duesAndGain 23 = .ok (.lstore_n 1, 1) := by decide +kernel
theorem dX0_duesAndGain_24 : decode cX0_duesAndGain 24 = .ok (.aload_n 0, 1) := by decide +kernel
theorem dX0_duesAndGain_25 : decode cX0_duesAndGain 25 = .ok (.getfield 41, 3) := by decide +kernel
theorem dX0_duesAndGain_28 : decode cX0_duesAndGain 28 = .ok (.iconst 0, 1) := by decide +kernel
theorem dX0_duesAndGain_29 : decode cX0_duesAndGain 29 = .ok (.aload_n 0, 1) := by decide +kernel
theorem dX0_duesAndGain_30 : decode cX0_duesAndGain 30 = .ok (.getfield 33, 3) := by decide +kernel
theorem dX0_duesAndGain_33 : decode cX0_duesAndGain 33 = .ok (.invokevirtual 130, 3) := by decide +kernel
theorem dX0_duesAndGain_36 : decode cX0_duesAndGain 36 = .ok (.lload_n 1, 1) := by decide +kernel
theorem dX0_duesAndGain_37 : decode cX0_duesAndGain 37 = .ok (.ladd, 1) := by decide +kernel
theorem dX0_duesAndGain_38 : decode cX0_duesAndGain 38 = .ok (.l2i, 1) := by decide +kernel
theorem dX0_duesAndGain_39 : decode cX0_duesAndGain 39 = .ok (.ireturn, 1) := by decide +kernel
theorem dX0_buildingAllowed_0 : decode cX0_buildingAllowed 0 = .ok (.aload_n 2, 1) := by decide +kernel
theorem dX0_buildingAllowed_1 : decode cX0_buildingAllowed 1 = .ok (.iload_n 1, 1) := by decide +kernel
theorem dX0_buildingAllowed_2 : decode cX0_buildingAllowed 2 = .ok (.invokevirtual 138, 3) := by decide +kernel
theorem dX0_buildingAllowed_5 : decode cX0_buildingAllowed 5 = .ok (.aload_n 0, 1) := by decide +kernel
theorem dX0_buildingAllowed_6 : decode cX0_buildingAllowed 6 = .ok (.getfield 41, 3) := by decide +kernel
theorem dX0_buildingAllowed_9 : decode cX0_buildingAllowed 9 = .ok (.bipush 9, 2) := by decide +kernel
theorem dX0_buildingAllowed_11 : decode cX0_buildingAllowed 11 = .ok (.iconst 0, 1) := by decide +kernel
theorem dX0_buildingAllowed_12 : decode cX0_buildingAllowed 12 = .ok (.invokevirtual 94, 3) := by decide +kernel
theorem dX0_buildingAllowed_15 : decode cX0_buildingAllowed 15 = .ok (.if_icmp .lt 7, 3) := by decide +kernel
theorem dX0_buildingAllowed_18 : decode cX0_buildingAllowed 18 = .ok (.iconst 1, 1) := by decide +kernel
theorem dX0_buildingAllowed_19 : decode cX0_buildingAllowed 19 = .ok (.goto 4, 3) := by decide +kernel
theorem dX0_buildingAllowed_22 : decode cX0_buildingAllowed 22 = .ok (.iconst 0, 1) := by decide +kernel
theorem dX0_buildingAllowed_23 : decode cX0_buildingAllowed 23 = .ok (.ireturn, 1) := by decide +kernel
theorem dX0_settle_0 : decode cX0_settle 0 = .ok (.aload_n 0, 1) := by decide +kernel
theorem dX0_settle_1 : decode cX0_settle 1 = .ok (.getfield 11, 3) := by decide +kernel
theorem dX0_settle_4 : decode cX0_settle 4 = .ok (.aload_n 0, 1) := by decide +kernel
theorem dX0_settle_5 : decode cX0_settle 5 = .ok (.getfield 75, 3) := by decide +kernel
theorem dX0_settle_8 : decode cX0_settle 8 = .ok (.aload_n 1, 1) := by decide +kernel
theorem dX0_settle_9 : decode cX0_settle 9 = .ok (.aastore, 1) := by decide +kernel
theorem dX0_settle_10 : decode cX0_settle 10 = .ok (.aload_n 0, 1) := by decide +kernel
theorem dX0_settle_11 : decode cX0_settle 11 = .ok (.dup, 1) := by decide +kernel
theorem dX0_settle_12 : decode cX0_settle 12 = .ok (.getfield 75, 3) := by decide +kernel
theorem dX0_settle_15 : decode cX0_settle 15 = .ok (.iconst 1, 1) := by decide +kernel
theorem dX0_settle_16 : decode cX0_settle 16 = .ok (.iadd, 1) := by decide +kernel
theorem dX0_settle_17 : decode cX0_settle 17 = .ok (.putfield 75, 3) := by decide +kernel
theorem dX0_settle_20 : decode cX0_settle 20 = .ok (.aload_n 0, 1) := by decide +kernel
theorem dX0_settle_21 : decode cX0_settle 21 = .ok (.getfield 75, 3) := by decide +kernel
theorem dX0_settle_24 : decode cX0_settle 24 = .ok (.iconst 1, 1) := by decide +kernel
theorem dX0_settle_25 : decode cX0_settle 25 = .ok (.isub, 1) := by decide +kernel
theorem dX0_settle_26 : decode cX0_settle 26 = .ok (.ireturn, 1) := by decide +kernel
theorem dX0_farmMayBe_0 : decode cX0_farmMayBe 0 = .ok (.aload_n 0, 1) := by decide +kernel
theorem dX0_farmMayBe_1 : decode cX0_farmMayBe 1 = .ok (.getfield 143, 3) := by decide +kernel
theorem dX0_farmMayBe_4 : decode cX0_farmMayBe 4 = .ok (.bipush 30, 2) := by decide +kernel
theorem dX0_farmMayBe_6 : decode cX0_farmMayBe 6 = .ok (.if_icmp .ge 7, 3) := by decide +kernel
theorem dX0_farmMayBe_9 : decode cX0_farmMayBe 9 = .ok (.iconst 1, 1) := by decide +kernel
theorem dX0_farmMayBe_10 : decode cX0_farmMayBe 10 = .ok (.goto 4, 3) := by decide +kernel
theorem dX0_farmMayBe_13 : decode cX0_farmMayBe 13 = .ok (.iconst 0, 1) := by decide +kernel
theorem dX0_farmMayBe_14 : decode cX0_farmMayBe 14 = .ok (.istore 4, 2) := by decide +kernel
theorem dX0_farmMayBe_16 : decode cX0_farmMayBe 16 = .ok (.iconst 0, 1) := by decide +kernel
theorem dX0_farmMayBe_17 : decode cX0_farmMayBe 17 = .ok (.istore 5, 2) := by decide +kernel
theorem dX0_farmMayBe_19 : decode cX0_farmMayBe 19 = .ok (.iload 5, 2) := by decide +kernel
theorem dX0_farmMayBe_21 : decode cX0_farmMayBe 21 = .ok (.bipush 96, 2) := by decide +kernel
theorem dX0_farmMayBe_23 : decode cX0_farmMayBe 23 = .ok (.if_icmp .ge 52, 3) := by decide +kernel
theorem dX0_farmMayBe_26 : decode cX0_farmMayBe 26 = .ok (.iload 4, 2) := by decide +kernel
theorem dX0_farmMayBe_28 : decode cX0_farmMayBe 28 = .ok (.ifCond .eq 47, 3) := by decide +kernel
theorem dX0_farmMayBe_31 : decode cX0_farmMayBe 31 = .ok (.iload 5, 2) := by decide +kernel
theorem dX0_farmMayBe_33 : decode cX0_farmMayBe 33 = .ok (.iload_n 1, 1) := by decide +kernel
theorem dX0_farmMayBe_34 : decode cX0_farmMayBe 34 = .ok (.iload_n 2, 1) := by decide +kernel
theorem dX0_farmMayBe_35 : decode cX0_farmMayBe 35 = .ok (.invokestatic 146, 3) := by decide +kernel
theorem dX0_farmMayBe_38 : decode cX0_farmMayBe 38 = .ok (.ifCond .eq 31, 3) := by decide +kernel
theorem dX0_farmMayBe_41 : decode cX0_farmMayBe 41 = .ok (.aload_n 3, 1) := by decide +kernel
theorem dX0_farmMayBe_42 : decode cX0_farmMayBe 42 = .ok (.getfield 150, 3) := by decide +kernel
theorem dX0_farmMayBe_45 : decode cX0_farmMayBe 45 = .ok (.iload 5, 2) := by decide +kernel
theorem dX0_farmMayBe_47 : decode cX0_farmMayBe 47 = .ok (.baload, 1) := by decide +kernel
theorem dX0_farmMayBe_48 : decode cX0_farmMayBe 48 = .ok (.ifCond .eq 18, 3) := by decide +kernel
theorem dX0_farmMayBe_51 : decode cX0_farmMayBe 51 = .ok (.aload_n 0, 1) := by decide +kernel
theorem dX0_farmMayBe_52 : decode cX0_farmMayBe 52 = .ok (.getfield 17, 3) := by decide +kernel
theorem dX0_farmMayBe_55 : decode cX0_farmMayBe 55 = .ok (.iload 5, 2) := by decide +kernel
theorem dX0_farmMayBe_57 : decode cX0_farmMayBe 57 = .ok (.iaload, 1) := by decide +kernel
theorem dX0_farmMayBe_58 : decode cX0_farmMayBe 58 = .ok (.iconst (-1), 1) := by decide +kernel
theorem dX0_farmMayBe_59 : decode cX0_farmMayBe 59 = .ok (.if_icmp .ne 7, 3) := by decide +kernel
theorem dX0_farmMayBe_62 : decode cX0_farmMayBe 62 = .ok (.iconst 1, 1) := by decide +kernel
theorem dX0_farmMayBe_63 : decode cX0_farmMayBe 63 = .ok (.goto 4, 3) := by decide +kernel
theorem dX0_farmMayBe_66 : decode cX0_farmMayBe 66 = .ok (.iconst 0, 1) := by decide +kernel
theorem dX0_farmMayBe_67 : decode cX0_farmMayBe 67 = .ok (.istore 4, 2) := by decide +kernel
theorem dX0_farmMayBe_69 : decode cX0_farmMayBe 69 = .ok (.iinc 5 1, 3) := by decide +kernel
theorem dX0_farmMayBe_72 : decode cX0_farmMayBe 72 = .ok (.goto (-53), 3) := by decide +kernel
theorem dX0_farmMayBe_75 : decode cX0_farmMayBe 75 = .ok (.iload 4, 2) := by decide +kernel
theorem dX0_farmMayBe_77 : decode cX0_farmMayBe 77 = .ok (.ireturn, 1) := by decide +kernel
theorem dX0_layOut_0 : decode cX0_layOut 0 = .ok (.iconst 0, 1) := by decide +kernel
theorem dX0_layOut_1 : decode cX0_layOut 1 = .ok (.istore_n 3, 1) := by decide +kernel
theorem dX0_layOut_2 : decode cX0_layOut 2 = .ok (.iload_n 3, 1) := by decide +kernel
theorem dX0_layOut_3 : decode cX0_layOut 3 = .ok (.bipush 96, 2) := by decide +kernel
theorem dX0_layOut_5 : decode cX0_layOut 5 = .ok (.if_icmp .ge 28, 3) := by decide +kernel
theorem dX0_layOut_8 : decode cX0_layOut 8 = .ok (.iload_n 3, 1) := by decide +kernel
theorem dX0_layOut_9 : decode cX0_layOut 9 = .ok (.iload_n 1, 1) := by decide +kernel
theorem dX0_layOut_10 : decode cX0_layOut 10 = .ok (.iload_n 2, 1) := by decide +kernel
theorem dX0_layOut_11 : decode cX0_layOut 11 = .ok (.invokestatic 146, 3) := by decide +kernel
theorem dX0_layOut_14 : decode cX0_layOut 14 = .ok (.ifCond .eq 13, 3) := by decide +kernel
theorem dX0_layOut_17 : decode cX0_layOut 17 = .ok (.aload_n 0, 1) := by decide +kernel
theorem dX0_layOut_18 : decode cX0_layOut 18 = .ok (.getfield 17, 3) := by decide +kernel
theorem dX0_layOut_21 : decode cX0_layOut 21 = .ok (.iload_n 3, 1) := by decide +kernel
theorem dX0_layOut_22 : decode cX0_layOut 22 = .ok (.aload_n 0, 1) := by decide +kernel
theorem dX0_layOut_23 : decode cX0_layOut 23 = .ok (.getfield 143, 3) := by decide +kernel
theorem dX0_layOut_26 : decode cX0_layOut 26 = .ok (.iastore, 1) := by decide +kernel
theorem dX0_layOut_27 : decode cX0_layOut 27 = .ok (.iinc 3 1, 3) := by decide +kernel
theorem dX0_layOut_30 : decode cX0_layOut 30 = .ok (.goto (-28), 3) := by decide +kernel
theorem dX0_layOut_33 : decode cX0_layOut 33 = .ok (.aload_n 0, 1) := by decide +kernel
theorem dX0_layOut_34 : decode cX0_layOut 34 = .ok (.dup, 1) := by decide +kernel
theorem dX0_layOut_35 : decode cX0_layOut 35 = .ok (.getfield 143, 3) := by decide +kernel
theorem dX0_layOut_38 : decode cX0_layOut 38 = .ok (.iconst 1, 1) := by decide +kernel
theorem dX0_layOut_39 : decode cX0_layOut 39 = .ok (.iadd, 1) := by decide +kernel
theorem dX0_layOut_40 : decode cX0_layOut 40 = .ok (.putfield 143, 3) := by decide +kernel
theorem dX0_layOut_43 : decode cX0_layOut 43 = .ok (.aload_n 0, 1) := by decide +kernel
theorem dX0_layOut_44 : decode cX0_layOut 44 = .ok (.getfield 143, 3) := by decide +kernel
theorem dX0_layOut_47 : decode cX0_layOut 47 = .ok (.iconst 1, 1) := by decide +kernel
theorem dX0_layOut_48 : decode cX0_layOut 48 = .ok (.isub, 1) := by decide +kernel
theorem dX0_layOut_49 : decode cX0_layOut 49 = .ok (.ireturn, 1) := by decide +kernel
theorem dX0_worthOf_0 : decode cX0_worthOf 0 = .ok (.iconst 0, 1) := by decide +kernel
theorem dX0_worthOf_1 : decode cX0_worthOf 1 = .ok (.istore_n 3, 1) := by decide +kernel
theorem dX0_worthOf_2 : decode cX0_worthOf 2 = .ok (.iconst 0, 1) := by decide +kernel
theorem dX0_worthOf_3 : decode cX0_worthOf 3 = .ok (.istore 4, 2) := by decide +kernel
theorem dX0_worthOf_5 : decode cX0_worthOf 5 = .ok (.iload 4, 2) := by decide +kernel
theorem dX0_worthOf_7 : decode cX0_worthOf 7 = .ok (.bipush 96, 2) := by decide +kernel
theorem dX0_worthOf_9 : decode cX0_worthOf 9 = .ok (.if_icmp .ge 75, 3) := by decide +kernel
theorem dX0_worthOf_12 : decode cX0_worthOf 12 = .ok (.aload_n 0, 1) := by decide +kernel
theorem dX0_worthOf_13 : decode cX0_worthOf 13 = .ok (.getfield 17, 3) := by decide +kernel
theorem dX0_worthOf_16 : decode cX0_worthOf 16 = .ok (.iload 4, 2) := by decide +kernel
theorem dX0_worthOf_18 : decode cX0_worthOf 18 = .ok (.iaload, 1) := by decide +kernel
theorem dX0_worthOf_19 : decode cX0_worthOf 19 = .ok (.iload_n 1, 1) := by decide +kernel
theorem dX0_worthOf_20 : decode cX0_worthOf 20 = .ok (.if_icmp .ne 58, 3) := by decide +kernel
theorem dX0_worthOf_23 : decode cX0_worthOf 23 = .ok (.aload_n 2, 1) := by decide +kernel
theorem dX0_worthOf_24 : decode cX0_worthOf 24 = .ok (.getfield 155, 3) := by decide +kernel
theorem dX0_worthOf_27 : decode cX0_worthOf 27 = .ok (.iload 4, 2) := by decide +kernel
theorem dX0_worthOf_29 : decode cX0_worthOf 29 = .ok (.iaload, 1) := by decide +kernel
theorem dX0_worthOf_30 : decode cX0_worthOf 30 = .ok (.istore 5, 2) := by decide +kernel
theorem dX0_worthOf_32 : decode cX0_worthOf 32 = .ok (.iload 5, 2) := by decide +kernel
theorem dX0_worthOf_34 : decode cX0_worthOf 34 = .ok (.ifCond .ne 8, 3) := by decide +kernel
theorem dX0_worthOf_37 : decode cX0_worthOf 37 = .ok (.bipush 100, 2) := by decide +kernel
theorem dX0_worthOf_39 : decode cX0_worthOf 39 = .ok (.goto 17, 3) := by decide +kernel
theorem dX0_worthOf_42 : decode cX0_worthOf 42 = .ok (.iload 5, 2) := by decide +kernel
theorem dX0_worthOf_44 : decode cX0_worthOf 44 = .ok (.iconst 1, 1) := by decide +kernel
theorem dX0_worthOf_45 : decode cX0_worthOf 45 = .ok (.if_icmp .ne 9, 3) := by decide +kernel
theorem dX0_worthOf_48 : decode cX0_worthOf 48 = .ok (.sipush 150, 3) := by decide +kernel
theorem dX0_worthOf_51 : decode cX0_worthOf 51 = .ok (.goto 5, 3) := by decide +kernel
theorem dX0_worthOf_54 : decode cX0_worthOf 54 = .ok (.bipush 60, 2) := by decide +kernel
theorem dX0_worthOf_56 : decode cX0_worthOf 56 = .ok (.istore 6, 2) := by decide +kernel
theorem dX0_worthOf_58 : decode cX0_worthOf 58 = .ok (.iload_n 3, 1) := by decide +kernel
theorem dX0_worthOf_59 : decode cX0_worthOf 59 = .ok (.iconst 0, 1) := by decide +kernel
theorem dX0_worthOf_60 : decode cX0_worthOf 60 = .ok (.iload 6, 2) := by decide +kernel
theorem dX0_worthOf_62 : decode cX0_worthOf 62 = .ok (.aload_n 2, 1) := by decide +kernel
theorem dX0_worthOf_63 : decode cX0_worthOf 63 = .ok (.getfield 158, 3) := by decide +kernel
theorem dX0_worthOf_66 : decode cX0_worthOf 66 = .ok (.iload 4, 2) := by decide +kernel
theorem dX0_worthOf_68 : decode cX0_worthOf 68 = .ok (.iaload, 1) := by decide +kernel
theorem dX0_worthOf_69 : decode cX0_worthOf 69 = .ok (.bipush 100, 2) := by decide +kernel
theorem dX0_worthOf_71 : decode cX0_worthOf 71 = .ok (.idiv, 1) := by decide +kernel
theorem dX0_worthOf_72 : decode cX0_worthOf 72 = .ok (.isub, 1) := by decide +kernel
theorem dX0_worthOf_73 : decode cX0_worthOf 73 = .ok (.invokestatic 161, 3) := by decide +kernel
theorem dX0_worthOf_76 : decode cX0_worthOf 76 = .ok (.iadd, 1) := by decide +kernel
theorem dX0_worthOf_77 : decode cX0_worthOf 77 = .ok (.istore_n 3, 1) := by decide +kernel
theorem dX0_worthOf_78 : decode cX0_worthOf 78 = .ok (.iinc 4 1, 3) := by decide +kernel
theorem dX0_worthOf_81 : decode cX0_worthOf 81 = .ok (.goto (-76), 3) := by decide +kernel
theorem dX0_worthOf_84 : decode cX0_worthOf 84 = .ok (.iload_n 3, 1) := by decide +kernel
theorem dX0_worthOf_85 : decode cX0_worthOf 85 = .ok (.ireturn, 1) := by decide +kernel
theorem dX0_acresOf_0 : decode cX0_acresOf 0 = .ok (.iconst 0, 1) := by decide +kernel
theorem dX0_acresOf_1 : decode cX0_acresOf 1 = .ok (.istore_n 2, 1) := by decide +kernel
theorem dX0_acresOf_2 : decode cX0_acresOf 2 = .ok (.iconst 0, 1) := by decide +kernel
theorem dX0_acresOf_3 : decode cX0_acresOf 3 = .ok (.istore_n 3, 1) := by decide +kernel
theorem dX0_acresOf_4 : decode cX0_acresOf 4 = .ok (.iload_n 3, 1) := by decide +kernel
theorem dX0_acresOf_5 : decode cX0_acresOf 5 = .ok (.bipush 96, 2) := by decide +kernel
theorem dX0_acresOf_7 : decode cX0_acresOf 7 = .ok (.if_icmp .ge 38, 3) := by decide +kernel
theorem dX0_acresOf_10 : decode cX0_acresOf 10 = .ok (.aload_n 1, 1) := by decide +kernel
theorem dX0_acresOf_11 : decode cX0_acresOf 11 = .ok (.getfield 81, 3) := by decide +kernel
theorem dX0_acresOf_14 : decode cX0_acresOf 14 = .ok (.iconst (-1), 1) := by decide +kernel
theorem dX0_acresOf_15 : decode cX0_acresOf 15 = .ok (.if_icmp .eq 30, 3) := by decide +kernel
theorem dX0_acresOf_18 : decode cX0_acresOf 18 = .ok (.iload_n 2, 1) := by decide +kernel
theorem dX0_acresOf_19 : decode cX0_acresOf 19 = .ok (.aload_n 0, 1) := by decide +kernel
theorem dX0_acresOf_20 : decode cX0_acresOf 20 = .ok (.getfield 17, 3) := by decide +kernel
theorem dX0_acresOf_23 : decode cX0_acresOf 23 = .ok (.iload_n 3, 1) := by decide +kernel
theorem dX0_acresOf_24 : decode cX0_acresOf 24 = .ok (.iaload, 1) := by decide +kernel
theorem dX0_acresOf_25 : decode cX0_acresOf 25 = .ok (.aload_n 1, 1) := by decide +kernel
theorem dX0_acresOf_26 : decode cX0_acresOf 26 = .ok (.getfield 81, 3) := by decide +kernel
theorem dX0_acresOf_29 : decode cX0_acresOf 29 = .ok (.if_icmp .ne 7, 3) := by decide +kernel
theorem dX0_acresOf_32 : decode cX0_acresOf 32 = .ok (.iconst 1, 1) := by decide +kernel
theorem dX0_acresOf_33 : decode cX0_acresOf 33 = .ok (.goto 4, 3) := by decide +kernel
theorem dX0_acresOf_36 : decode cX0_acresOf 36 = .ok (.iconst 0, 1) := by decide +kernel
theorem dX0_acresOf_37 : decode cX0_acresOf 37 = .ok (.iadd, 1) := by decide +kernel
theorem dX0_acresOf_38 : decode cX0_acresOf 38 = .ok (.istore_n 2, 1) := by decide +kernel
theorem dX0_acresOf_39 : decode cX0_acresOf 39 = .ok (.iinc 3 1, 3) := by decide +kernel
theorem dX0_acresOf_42 : decode cX0_acresOf 42 = .ok (.goto (-38), 3) := by decide +kernel
theorem dX0_acresOf_45 : decode cX0_acresOf 45 = .ok (.iload_n 2, 1) := by decide +kernel
theorem dX0_acresOf_46 : decode cX0_acresOf 46 = .ok (.ireturn, 1) := by decide +kernel
theorem dX0_nearOf_0 : decode cX0_nearOf 0 = .ok (.bipush 99, 2) := by decide +kernel
theorem dX0_nearOf_2 : decode cX0_nearOf 2 = .ok (.istore_n 3, 1) := by decide +kernel
theorem dX0_nearOf_3 : decode cX0_nearOf 3 = .ok (.iconst 0, 1) := by decide +kernel
theorem dX0_nearOf_4 : decode cX0_nearOf 4 = .ok (.istore 4, 2) := by decide +kernel
theorem dX0_nearOf_6 : decode cX0_nearOf 6 = .ok (.iload 4, 2) := by decide +kernel
theorem dX0_nearOf_8 : decode cX0_nearOf 8 = .ok (.bipush 96, 2) := by decide +kernel
theorem dX0_nearOf_10 : decode cX0_nearOf 10 = .ok (.if_icmp .ge 42, 3) := by decide +kernel
theorem dX0_nearOf_13 : decode cX0_nearOf 13 = .ok (.aload_n 1, 1) := by decide +kernel
theorem dX0_nearOf_14 : decode cX0_nearOf 14 = .ok (.getfield 81, 3) := by decide +kernel
theorem dX0_nearOf_17 : decode cX0_nearOf 17 = .ok (.iconst (-1), 1) := by decide +kernel
theorem dX0_nearOf_18 : decode cX0_nearOf 18 = .ok (.if_icmp .eq 34, 3) := by decide +kernel
theorem dX0_nearOf_21 : decode cX0_nearOf 21 = .ok (.aload_n 0, 1) := by decide +kernel
theorem dX0_nearOf_22 : decode cX0_nearOf 22 = .ok (.getfield 17, 3) := by decide +kernel
theorem dX0_nearOf_25 : decode cX0_nearOf 25 = .ok (.iload 4, 2) := by decide +kernel
theorem dX0_nearOf_27 : decode cX0_nearOf 27 = .ok (.iaload, 1) := by decide +kernel
theorem dX0_nearOf_28 : decode cX0_nearOf 28 = .ok (.aload_n 1, 1) := by decide +kernel
theorem dX0_nearOf_29 : decode cX0_nearOf 29 = .ok (.getfield 81, 3) := by decide +kernel
theorem dX0_nearOf_32 : decode cX0_nearOf 32 = .ok (.if_icmp .ne 14, 3) := by decide +kernel
theorem dX0_nearOf_35 : decode cX0_nearOf 35 = .ok (.iload_n 3, 1) := by decide +kernel
theorem dX0_nearOf_36 : decode cX0_nearOf 36 = .ok (.aload_n 2, 1) := by decide +kernel
theorem dX0_nearOf_37 : decode cX0_nearOf 37 = .ok (.iload 4, 2) := by decide +kernel
theorem dX0_nearOf_39 : decode cX0_nearOf 39 = .ok (.invokevirtual 138, 3) := by decide +kernel
theorem dX0_nearOf_42 : decode cX0_nearOf 42 = .ok (.invokestatic 166, 3) := by decide +kernel
theorem dX0_nearOf_45 : decode cX0_nearOf 45 = .ok (.istore_n 3, 1) := by decide +kernel
theorem dX0_nearOf_46 : decode cX0_nearOf 46 = .ok (.iinc 4 1, 3) := by decide +kernel
theorem dX0_nearOf_49 : decode cX0_nearOf 49 = .ok (.goto (-43), 3) := by decide +kernel
theorem dX0_nearOf_52 : decode cX0_nearOf 52 = .ok (.iload_n 3, 1) := by decide +kernel
theorem dX0_nearOf_53 : decode cX0_nearOf 53 = .ok (.ireturn, 1) := by decide +kernel
theorem dX0_giveFarms_0 : decode cX0_giveFarms 0 = .ok (.iconst 0, 1) := by decide +kernel
theorem dX0_giveFarms_1 : decode cX0_giveFarms 1 = .ok (.istore_n 3, 1) := by decide +kernel
theorem dX0_giveFarms_2 : decode cX0_giveFarms 2 = .ok (.iload_n 3, 1) := by decide +kernel
theorem dX0_giveFarms_3 : decode cX0_giveFarms 3 = .ok (.aload_n 0, 1) := by decide +kernel
theorem dX0_giveFarms_4 : decode cX0_giveFarms 4 = .ok (.getfield 75, 3) := by decide +kernel
theorem dX0_giveFarms_7 : decode cX0_giveFarms 7 = .ok (.if_icmp .ge 69, 3) := by decide +kernel
theorem dX0_giveFarms_10 : decode cX0_giveFarms 10 = .ok (.aload_n 0, 1) := by decide +kernel
theorem dX0_giveFarms_11 : decode cX0_giveFarms 11 = .ok (.aload_n 0, 1) := by decide +kernel
theorem dX0_giveFarms_12 : decode cX0_giveFarms 12 = .ok (.getfield 11, 3) := by decide +kernel
theorem dX0_giveFarms_15 : decode cX0_giveFarms 15 = .ok (.iload_n 3, 1) := by decide +kernel
theorem dX0_giveFarms_16 : decode cX0_giveFarms 16 = .ok (.aaload, 1) := by decide +kernel
theorem dX0_giveFarms_17 : decode cX0_giveFarms 17 = .ok (.aload_n 2, 1) := by decide +kernel
theorem dX0_giveFarms_18 : decode cX0_giveFarms 18 = .ok (.invokevirtual 84, 3) := by decide +kernel
theorem dX0_giveFarms_21 : decode cX0_giveFarms 21 = .ok (.aload_n 0, 1) := by decide +kernel
theorem dX0_giveFarms_22 : decode cX0_giveFarms 22 = .ok (.getfield 11, 3) := by decide +kernel
theorem dX0_giveFarms_25 : decode cX0_giveFarms 25 = .ok (.iload_n 3, 1) := by decide +kernel
theorem dX0_giveFarms_26 : decode cX0_giveFarms 26 = .ok (.aaload, 1) := by decide +kernel
theorem dX0_giveFarms_27 : decode cX0_giveFarms 27 = .ok (.getfield 81, 3) := by decide +kernel
theorem dX0_giveFarms_30 : decode cX0_giveFarms 30 = .ok (.iconst (-1), 1) := by decide +kernel
theorem dX0_giveFarms_31 : decode cX0_giveFarms 31 = .ok (.if_icmp .ne 16, 3) := by decide +kernel
theorem dX0_giveFarms_34 : decode cX0_giveFarms 34 = .ok (.aload_n 0, 1) := by decide +kernel
theorem dX0_giveFarms_35 : decode cX0_giveFarms 35 = .ok (.bipush 6, 2) := by decide +kernel
theorem dX0_giveFarms_37 : decode cX0_giveFarms 37 = .ok (.invokevirtual 169, 3) := by decide +kernel
theorem dX0_giveFarms_40 : decode cX0_giveFarms 40 = .ok (.ifCond .ne 7, 3) := by decide +kernel
theorem dX0_giveFarms_43 : decode cX0_giveFarms 43 = .ok (.iconst 1, 1) := by decide +kernel
theorem dX0_giveFarms_44 : decode cX0_giveFarms 44 = .ok (.goto 4, 3) := by decide +kernel
theorem dX0_giveFarms_47 : decode cX0_giveFarms 47 = .ok (.iconst 0, 1) := by decide +kernel
theorem dX0_giveFarms_48 : decode cX0_giveFarms 48 = .ok (.istore 4, 2) := by decide +kernel
theorem dX0_giveFarms_50 : decode cX0_giveFarms 50 = .ok (.aload_n 0, 1) := by decide +kernel
theorem dX0_giveFarms_51 : decode cX0_giveFarms 51 = .ok (.getfield 37, 3) := by decide +kernel
theorem dX0_giveFarms_54 : decode cX0_giveFarms 54 = .ok (.iload_n 3, 1) := by decide +kernel
theorem dX0_giveFarms_55 : decode cX0_giveFarms 55 = .ok (.iload 4, 2) := by decide +kernel
theorem dX0_giveFarms_57 : decode cX0_giveFarms 57 = .ok (.ifCond .eq 11, 3) := by decide +kernel
theorem dX0_giveFarms_60 : decode cX0_giveFarms 60 = .ok (.aload_n 0, 1) := by decide +kernel
theorem dX0_giveFarms_61 : decode cX0_giveFarms 61 = .ok (.iconst 4, 1) := by decide +kernel
theorem dX0_giveFarms_62 : decode cX0_giveFarms 62 = .ok (.invokevirtual 88, 3) := by decide +kernel
theorem dX0_giveFarms_65 : decode cX0_giveFarms 65 = .ok (.goto 4, 3) := by decide +kernel
theorem dX0_giveFarms_68 : decode cX0_giveFarms 68 = .ok (.iconst (-1), 1) := by decide +kernel
theorem dX0_giveFarms_69 : decode cX0_giveFarms 69 = .ok (.iastore, 1) := by decide +kernel
theorem dX0_giveFarms_70 : decode cX0_giveFarms 70 = .ok (.iinc 3 1, 3) := by decide +kernel
theorem dX0_giveFarms_73 : decode cX0_giveFarms 73 = .ok (.goto (-71), 3) := by decide +kernel
theorem dX0_giveFarms_76 : decode cX0_giveFarms 76 = .ok (.iconst 0, 1) := by decide +kernel
theorem dX0_giveFarms_77 : decode cX0_giveFarms 77 = .ok (.istore_n 3, 1) := by decide +kernel
theorem dX0_giveFarms_78 : decode cX0_giveFarms 78 = .ok (.iconst 0, 1) := by decide +kernel
theorem dX0_giveFarms_79 : decode cX0_giveFarms 79 = .ok (.istore 4, 2) := by decide +kernel
theorem dX0_giveFarms_81 : decode cX0_giveFarms 81 = .ok (.iload 4, 2) := by decide +kernel
theorem dX0_giveFarms_83 : decode cX0_giveFarms 83 = .ok (.iload_n 1, 1) := by decide +kernel
theorem dX0_giveFarms_84 : decode cX0_giveFarms 84 = .ok (.if_icmp .ge 71, 3) := by decide +kernel
theorem dX0_giveFarms_87 : decode cX0_giveFarms 87 = .ok (.aload_n 0, 1) := by decide +kernel
theorem dX0_giveFarms_88 : decode cX0_giveFarms 88 = .ok (.invokevirtual 173, 3) := by decide +kernel
theorem dX0_giveFarms_91 : decode cX0_giveFarms 91 = .ok (.istore 5, 2) := by decide +kernel
theorem dX0_giveFarms_93 : decode cX0_giveFarms 93 = .ok (.aload_n 0, 1) := by decide +kernel
theorem dX0_giveFarms_94 : decode cX0_giveFarms 94 = .ok (.aload_n 2, 1) := by decide +kernel
theorem dX0_giveFarms_95 : decode cX0_giveFarms 95 = .ok (.getfield 177, 3) := by decide +kernel
theorem dX0_giveFarms_98 : decode cX0_giveFarms 98 = .ok (.invokevirtual 181, 3) := by decide +kernel
theorem dX0_giveFarms_101 : decode cX0_giveFarms 101 = .ok (.istore 6, 2) := by decide +kernel
theorem dX0_giveFarms_103 : decode cX0_giveFarms 103 = .ok (.iload 5, 2) := by decide +kernel
theorem dX0_giveFarms_105 : decode cX0_giveFarms 105 = .ok (.iconst (-1), 1) := by decide +kernel
theorem dX0_giveFarms_106 : decode cX0_giveFarms 106 = .ok (.if_icmp .eq 49, 3) := by decide +kernel
theorem dX0_giveFarms_109 : decode cX0_giveFarms 109 = .ok (.iload 6, 2) := by decide +kernel
theorem dX0_giveFarms_111 : decode cX0_giveFarms 111 = .ok (.iconst (-1), 1) := by decide +kernel
theorem dX0_giveFarms_112 : decode cX0_giveFarms 112 = .ok (.if_icmp .ne 6, 3) := by decide +kernel
theorem dX0_giveFarms_115 : decode cX0_giveFarms 115 = .ok (.goto 40, 3) := by decide +kernel
theorem dX0_giveFarms_118 : decode cX0_giveFarms 118 = .ok (.aload_n 0, 1) := by decide +kernel
theorem dX0_giveFarms_119 : decode cX0_giveFarms 119 = .ok (.getfield 37, 3) := by decide +kernel
theorem dX0_giveFarms_122 : decode cX0_giveFarms 122 = .ok (.iload 5, 2) := by decide +kernel
theorem dX0_giveFarms_124 : decode cX0_giveFarms 124 = .ok (.iconst (-1), 1) := by decide +kernel
theorem dX0_giveFarms_125 : decode cX0_giveFarms 125 = .ok (.iastore, 1) := by decide +kernel
theorem dX0_giveFarms_126 : decode cX0_giveFarms 126 = .ok (.aload_n 0, 1) := by decide +kernel
theorem dX0_giveFarms_127 : decode cX0_giveFarms 127 = .ok (.getfield 11, 3) := by decide +kernel
theorem dX0_giveFarms_130 : decode cX0_giveFarms 130 = .ok (.iload 5, 2) := by decide +kernel
theorem dX0_giveFarms_132 : decode cX0_giveFarms 132 = .ok (.aaload, 1) := by decide +kernel
theorem dX0_giveFarms_133 : decode cX0_giveFarms 133 = .ok (.iload 6, 2) := by decide +kernel
theorem dX0_giveFarms_135 : decode cX0_giveFarms 135 = .ok (.putfield 81, 3) := by decide +kernel
theorem dX0_giveFarms_138 : decode cX0_giveFarms 138 = .ok (.aload_n 0, 1) := by decide +kernel
theorem dX0_giveFarms_139 : decode cX0_giveFarms 139 = .ok (.getfield 24, 3) := by decide +kernel
theorem dX0_giveFarms_142 : decode cX0_giveFarms 142 = .ok (.iload 6, 2) := by decide +kernel
theorem dX0_giveFarms_144 : decode cX0_giveFarms 144 = .ok (.iconst 1, 1) := by decide +kernel
theorem dX0_giveFarms_145 : decode cX0_giveFarms 145 = .ok (.bastore, 1) := by decide +kernel
theorem dX0_giveFarms_146 : decode cX0_giveFarms 146 = .ok (.iinc 3 1, 3) := by decide +kernel
theorem dX0_giveFarms_149 : decode cX0_giveFarms 149 = .ok (.iinc 4 1, 3) := by decide +kernel
theorem dX0_giveFarms_152 : decode cX0_giveFarms 152 = .ok (.goto (-71), 3) := by decide +kernel
theorem dX0_giveFarms_155 : decode cX0_giveFarms 155 = .ok (.aload_n 0, 1) := by decide +kernel
theorem dX0_giveFarms_156 : decode cX0_giveFarms 156 = .ok (.dup, 1) := by decide +kernel
theorem dX0_giveFarms_157 : decode cX0_giveFarms 157 = .ok (.getfield 185, 3) := by decide +kernel
theorem dX0_giveFarms_160 : decode cX0_giveFarms 160 = .ok (.iload_n 3, 1) := by decide +kernel
theorem dX0_giveFarms_161 : decode cX0_giveFarms 161 = .ok (.iadd, 1) := by decide +kernel
theorem dX0_giveFarms_162 : decode cX0_giveFarms 162 = .ok (.putfield 185, 3) := by decide +kernel
theorem dX0_giveFarms_165 : decode cX0_giveFarms 165 = .ok (.iload_n 3, 1) := by decide +kernel
theorem dX0_giveFarms_166 : decode cX0_giveFarms 166 = .ok (.ireturn, 1) := by decide +kernel
theorem dX0_firstByMark_0 : decode cX0_firstByMark 0 = .ok (.iconst (-1), 1) := by decide +kernel
theorem dX0_firstByMark_1 : decode cX0_firstByMark 1 = .ok (.istore_n 1, 1) := by decide +kernel
theorem dX0_firstByMark_2 : decode cX0_firstByMark 2 = .ok (.iconst 0, 1) := by decide +kernel
theorem dX0_firstByMark_3 : decode cX0_firstByMark 3 = .ok (.istore_n 2, 1) := by decide +kernel
theorem dX0_firstByMark_4 : decode cX0_firstByMark 4 = .ok (.iload_n 2, 1) := by decide +kernel
theorem dX0_firstByMark_5 : decode cX0_firstByMark 5 = .ok (.aload_n 0, 1) := by decide +kernel
theorem dX0_firstByMark_6 : decode cX0_firstByMark 6 = .ok (.getfield 75, 3) := by decide +kernel
theorem dX0_firstByMark_9 : decode cX0_firstByMark 9 = .ok (.if_icmp .ge 77, 3) := by decide +kernel
theorem dX0_firstByMark_12 : decode cX0_firstByMark 12 = .ok (.aload_n 0, 1) := by decide +kernel
theorem dX0_firstByMark_13 : decode cX0_firstByMark 13 = .ok (.getfield 37, 3) := by decide +kernel
theorem dX0_firstByMark_16 : decode cX0_firstByMark 16 = .ok (.iload_n 2, 1) := by decide +kernel
theorem dX0_firstByMark_17 : decode cX0_firstByMark 17 = .ok (.iaload, 1) := by decide +kernel
theorem dX0_firstByMark_18 : decode cX0_firstByMark 18 = .ok (.iconst (-1), 1) := by decide +kernel
theorem dX0_firstByMark_19 : decode cX0_firstByMark 19 = .ok (.if_icmp .eq 61, 3) := by decide +kernel
theorem dX0_firstByMark_22 : decode cX0_firstByMark 22 = .ok (.iload_n 1, 1) := by decide +kernel
theorem dX0_firstByMark_23 : decode cX0_firstByMark 23 = .ok (.iconst (-1), 1) := by decide +kernel
theorem dX0_firstByMark_24 : decode cX0_firstByMark 24 = .ok (.if_icmp .eq 54, 3) := by decide +kernel
theorem dX0_firstByMark_27 : decode cX0_firstByMark 27 = .ok (.aload_n 0, 1) := by decide +kernel
theorem dX0_firstByMark_28 : decode cX0_firstByMark 28 = .ok (.getfield 37, 3) := by decide +kernel
theorem dX0_firstByMark_31 : decode cX0_firstByMark 31 = .ok (.iload_n 2, 1) := by decide +kernel
theorem dX0_firstByMark_32 : decode cX0_firstByMark 32 = .ok (.iaload, 1) := by decide +kernel
theorem dX0_firstByMark_33 : decode cX0_firstByMark 33 = .ok (.aload_n 0, 1) := by decide +kernel
theorem dX0_firstByMark_34 : decode cX0_firstByMark 34 = .ok (.getfield 37, 3) := by decide +kernel
theorem dX0_firstByMark_37 : decode cX0_firstByMark 37 = .ok (.iload_n 1, 1) := by decide +kernel
theorem dX0_firstByMark_38 : decode cX0_firstByMark 38 = .ok (.iaload, 1) := by decide +kernel
theorem dX0_firstByMark_39 : decode cX0_firstByMark 39 = .ok (.if_icmp .gt 39, 3) := by decide +kernel
theorem dX0_firstByMark_42 : decode cX0_firstByMark 42 = .ok (.aload_n 0, 1) := by decide +kernel
theorem dX0_firstByMark_43 : decode cX0_firstByMark 43 = .ok (.getfield 37, 3) := by decide +kernel
theorem dX0_firstByMark_46 : decode cX0_firstByMark 46 = .ok (.iload_n 2, 1) := by decide +kernel
theorem dX0_firstByMark_47 : decode cX0_firstByMark 47 = .ok (.iaload, 1) := by decide +kernel
theorem dX0_firstByMark_48 : decode cX0_firstByMark 48 = .ok (.aload_n 0, 1) := by decide +kernel
theorem dX0_firstByMark_49 : decode cX0_firstByMark 49 = .ok (.getfield 37, 3) := by decide +kernel
theorem dX0_firstByMark_52 : decode cX0_firstByMark 52 = .ok (.iload_n 1, 1) := by decide +kernel
theorem dX0_firstByMark_53 : decode cX0_firstByMark 53 = .ok (.iaload, 1) := by decide +kernel
theorem dX0_firstByMark_54 : decode cX0_firstByMark 54 = .ok (.if_icmp .ne 26, 3) := by decide +kernel
theorem dX0_firstByMark_57 : decode cX0_firstByMark 57 = .ok (.aload_n 0, 1) := by decide +kernel
theorem dX0_firstByMark_58 : decode cX0_firstByMark 58 = .ok (.getfield 11, 3) := by decide +kernel
theorem dX0_firstByMark_61 : decode cX0_firstByMark 61 = .ok (.iload_n 2, 1) := by decide +kernel
theorem dX0_firstByMark_62 : decode cX0_firstByMark 62 = .ok (.aaload, 1) := by decide +kernel
theorem dX0_firstByMark_63 : decode cX0_firstByMark 63 = .ok (.getfield 188, 3) := by decide +kernel
theorem dX0_firstByMark_66 : decode cX0_firstByMark 66 = .ok (.aload_n 0, 1) := by decide +kernel
theorem dX0_firstByMark_67 : decode cX0_firstByMark 67 = .ok (.getfield 11, 3) := by decide +kernel
theorem dX0_firstByMark_70 : decode cX0_firstByMark 70 = .ok (.iload_n 1, 1) := by decide +kernel
theorem dX0_firstByMark_71 : decode cX0_firstByMark 71 = .ok (.aaload, 1) := by decide +kernel
theorem dX0_firstByMark_72 : decode cX0_firstByMark 72 = .ok (.getfield 188, 3) := by decide +kernel
theorem dX0_firstByMark_75 : decode cX0_firstByMark 75 = .ok (.if_icmp .ge 5, 3) := by decide +kernel
theorem dX0_firstByMark_78 : decode cX0_firstByMark 78 = .ok (.iload_n 2, 1) := by decide +kernel
theorem dX0_firstByMark_79 : decode cX0_firstByMark 79 = .ok (.istore_n 1, 1) := by decide +kernel
theorem dX0_firstByMark_80 : decode cX0_firstByMark 80 = .ok (.iinc 2 1, 3) := by decide +kernel
theorem dX0_firstByMark_83 : decode cX0_firstByMark 83 = .ok (.goto (-79), 3) := by decide +kernel
theorem dX0_firstByMark_86 : decode cX0_firstByMark 86 = .ok (.iload_n 1, 1) := by decide +kernel
theorem dX0_firstByMark_87 : decode cX0_firstByMark 87 = .ok (.ireturn, 1) := by decide +kernel
theorem dX0_bestFreeFarm_0 : decode cX0_bestFreeFarm 0 = .ok (.iconst (-1), 1) := by decide +kernel
theorem dX0_bestFreeFarm_1 : decode cX0_bestFreeFarm 1 = .ok (.istore_n 2, 1) := by decide +kernel
theorem dX0_bestFreeFarm_2 : decode cX0_bestFreeFarm 2 = .ok (.iconst (-1), 1) := by decide +kernel
theorem dX0_bestFreeFarm_3 : decode cX0_bestFreeFarm 3 = .ok (.istore_n 3, 1) := by decide +kernel
theorem dX0_bestFreeFarm_4 : decode cX0_bestFreeFarm 4 = .ok (.iconst 0, 1) := by decide +kernel
theorem dX0_bestFreeFarm_5 : decode cX0_bestFreeFarm 5 = .ok (.istore 4, 2) := by decide +kernel
theorem dX0_bestFreeFarm_7 : decode cX0_bestFreeFarm 7 = .ok (.iload 4, 2) := by decide +kernel
theorem dX0_bestFreeFarm_9 : decode cX0_bestFreeFarm 9 = .ok (.aload_n 0, 1) := by decide +kernel
theorem dX0_bestFreeFarm_10 : decode cX0_bestFreeFarm 10 = .ok (.getfield 143, 3) := by decide +kernel
theorem dX0_bestFreeFarm_13 : decode cX0_bestFreeFarm 13 = .ok (.if_icmp .ge 44, 3) := by decide +kernel
theorem dX0_bestFreeFarm_16 : decode cX0_bestFreeFarm 16 = .ok (.aload_n 0, 1) := by decide +kernel
theorem dX0_bestFreeFarm_17 : decode cX0_bestFreeFarm 17 = .ok (.getfield 24, 3) := by decide +kernel
theorem dX0_bestFreeFarm_20 : decode cX0_bestFreeFarm 20 = .ok (.iload 4, 2) := by decide +kernel
theorem dX0_bestFreeFarm_22 : decode cX0_bestFreeFarm 22 = .ok (.baload, 1) := by decide +kernel
theorem dX0_bestFreeFarm_23 : decode cX0_bestFreeFarm 23 = .ok (.ifCond .eq 7, 3) := by decide +kernel
theorem dX0_bestFreeFarm_26 : decode cX0_bestFreeFarm 26 = .ok (.iconst (-1), 1) := by decide +kernel
theorem dX0_bestFreeFarm_27 : decode cX0_bestFreeFarm 27 = .ok (.goto 10, 3) := by decide +kernel
theorem dX0_bestFreeFarm_30 : decode cX0_bestFreeFarm 30 = .ok (.aload_n 0, 1) := by decide +kernel
theorem dX0_bestFreeFarm_31 : decode cX0_bestFreeFarm 31 = .ok (.iload 4, 2) := by decide +kernel
theorem dX0_bestFreeFarm_33 : decode cX0_bestFreeFarm 33 = .ok (.aload_n 1, 1) := by decide +kernel
theorem dX0_bestFreeFarm_34 : decode cX0_bestFreeFarm 34 = .ok (.invokevirtual 191, 3) := by decide +kernel
theorem dX0_bestFreeFarm_37 : decode cX0_bestFreeFarm 37 = .ok (.istore 5, 2) := by decide +kernel
theorem dX0_bestFreeFarm_39 : decode cX0_bestFreeFarm 39 = .ok (.iload 5, 2) := by decide +kernel
theorem dX0_bestFreeFarm_41 : decode cX0_bestFreeFarm 41 = .ok (.iload_n 3, 1) := by decide +kernel
theorem dX0_bestFreeFarm_42 : decode cX0_bestFreeFarm 42 = .ok (.if_icmp .le 9, 3) := by decide +kernel
theorem dX0_bestFreeFarm_45 : decode cX0_bestFreeFarm 45 = .ok (.iload 5, 2) := by decide +kernel
theorem dX0_bestFreeFarm_47 : decode cX0_bestFreeFarm 47 = .ok (.istore_n 3, 1) := by decide +kernel
theorem dX0_bestFreeFarm_48 : decode cX0_bestFreeFarm 48 = .ok (.iload 4, 2) := by decide +kernel
theorem dX0_bestFreeFarm_50 : decode cX0_bestFreeFarm 50 = .ok (.istore_n 2, 1) := by decide +kernel
theorem dX0_bestFreeFarm_51 : decode cX0_bestFreeFarm 51 = .ok (.iinc 4 1, 3) := by decide +kernel
theorem dX0_bestFreeFarm_54 : decode cX0_bestFreeFarm 54 = .ok (.goto (-47), 3) := by decide +kernel
theorem dX0_bestFreeFarm_57 : decode cX0_bestFreeFarm 57 = .ok (.iload_n 2, 1) := by decide +kernel
theorem dX0_bestFreeFarm_58 : decode cX0_bestFreeFarm 58 = .ok (.ireturn, 1) := by decide +kernel
theorem dX0_reap_0 : decode cX0_reap 0 = .ok (.aload_n 1, 1) := by decide +kernel
theorem dX0_reap_1 : decode cX0_reap 1 = .ok (.invokevirtual 195, 3) := by decide +kernel
theorem dX0_reap_4 : decode cX0_reap 4 = .ok (.sipush 360, 3) := by decide +kernel
theorem dX0_reap_7 : decode cX0_reap 7 = .ok (.idiv, 1) := by decide +kernel
theorem dX0_reap_8 : decode cX0_reap 8 = .ok (.iconst 4, 1) := by decide +kernel
theorem dX0_reap_9 : decode cX0_reap 9 = .ok (.invokestatic 166, 3) := by decide +kernel
theorem dX0_reap_12 : decode cX0_reap 12 = .ok (.istore_n 2, 1) := by decide +kernel
theorem dX0_reap_13 : decode cX0_reap 13 = .ok (.aload_n 0, 1) := by decide +kernel
theorem dX0_reap_14 : decode cX0_reap 14 = .ok (.getfield 28, 3) := by decide +kernel
theorem dX0_reap_17 : decode cX0_reap 17 = .ok (.iload_n 2, 1) := by decide +kernel
theorem dX0_reap_18 : decode cX0_reap 18 = .ok (.baload, 1) := by decide +kernel
theorem dX0_reap_19 : decode cX0_reap 19 = .ok (.ifCond .eq 5, 3) := by decide +kernel
theorem dX0_reap_22 : decode cX0_reap 22 = .ok (.iconst (-1), 1) := by decide +kernel
theorem dX0_reap_23 : decode cX0_reap 23 = .ok (.ireturn, 1) := by decide +kernel
theorem dX0_reap_24 : decode cX0_reap 24 = .ok (.aload_n 0, 1) := by decide +kernel
theorem dX0_reap_25 : decode cX0_reap 25 = .ok (.getfield 28, 3) := by decide +kernel
theorem dX0_reap_28 : decode cX0_reap 28 = .ok (.iload_n 2, 1) := by decide +kernel
theorem dX0_reap_29 : decode cX0_reap 29 = .ok (.iconst 1, 1) := by decide +kernel
theorem dX0_reap_30 : decode cX0_reap 30 = .ok (.bastore, 1) := by decide +kernel
theorem dX0_reap_31 : decode cX0_reap 31 = .ok (.iconst 0, 1) := by decide +kernel
theorem dX0_reap_32 : decode cX0_reap 32 = .ok (.istore_n 3, 1) := by decide +kernel
theorem dX0_reap_33 : decode cX0_reap 33 = .ok (.iconst 0, 1) := by decide +kernel
theorem dX0_reap_34 : decode cX0_reap 34 = .ok (.istore 4, 2) := by decide +kernel
theorem dX0_reap_36 : decode cX0_reap 36 = .ok (.iload 4, 2) := by decide +kernel
theorem dX0_reap_38 : decode cX0_reap 38 = .ok (.aload_n 0, 1) := by decide +kernel
theorem dX0_reap_39 : decode cX0_reap 39 = .ok (.getfield 75, 3) := by decide +kernel
theorem dX0_reap_42 : decode cX0_reap 42 = .ok (.if_icmp .ge 64, 3) := by decide +kernel
theorem dX0_reap_45 : decode cX0_reap 45 = .ok (.aload_n 0, 1) := by decide +kernel
theorem dX0_reap_46 : decode cX0_reap 46 = .ok (.getfield 11, 3) := by decide +kernel
theorem dX0_reap_49 : decode cX0_reap 49 = .ok (.iload 4, 2) := by decide +kernel
theorem dX0_reap_51 : decode cX0_reap 51 = .ok (.aaload, 1) := by decide +kernel
theorem dX0_reap_52 : decode cX0_reap 52 = .ok (.getfield 81, 3) := by decide +kernel
theorem dX0_reap_55 : decode cX0_reap 55 = .ok (.iconst (-1), 1) := by decide +kernel
theorem dX0_reap_56 : decode cX0_reap 56 = .ok (.if_icmp .eq 33, 3) := by decide +kernel
theorem dX0_reap_59 : decode cX0_reap 59 = .ok (.iload_n 3, 1) := by decide +kernel
theorem dX0_reap_60 : decode cX0_reap 60 = .ok (.aload_n 0, 1) := by decide +kernel
theorem dX0_reap_61 : decode cX0_reap 61 = .ok (.aload_n 0, 1) := by decide +kernel
theorem dX0_reap_62 : decode cX0_reap 62 = .ok (.getfield 11, 3) := by decide +kernel
theorem dX0_reap_65 : decode cX0_reap 65 = .ok (.iload 4, 2) := by decide +kernel
theorem dX0_reap_67 : decode cX0_reap 67 = .ok (.aaload, 1) := by decide +kernel
theorem dX0_reap_68 : decode cX0_reap 68 = .ok (.aload_n 1, 1) := by decide +kernel
theorem dX0_reap_69 : decode cX0_reap 69 = .ok (.getfield 177, 3) := by decide +kernel
theorem dX0_reap_72 : decode cX0_reap 72 = .ok (.invokevirtual 198, 3) := by decide +kernel
theorem dX0_reap_75 : decode cX0_reap 75 = .ok (.iadd, 1) := by decide +kernel
theorem dX0_reap_76 : decode cX0_reap 76 = .ok (.istore_n 3, 1) := by decide +kernel
theorem dX0_reap_77 : decode cX0_reap 77 = .ok (.aload_n 0, 1) := by decide +kernel
theorem dX0_reap_78 : decode cX0_reap 78 = .ok (.aload_n 0, 1) := by decide +kernel
theorem dX0_reap_79 : decode cX0_reap 79 = .ok (.getfield 11, 3) := by decide +kernel
theorem dX0_reap_82 : decode cX0_reap 82 = .ok (.iload 4, 2) := by decide +kernel
theorem dX0_reap_84 : decode cX0_reap 84 = .ok (.aaload, 1) := by decide +kernel
theorem dX0_reap_85 : decode cX0_reap 85 = .ok (.aload_n 1, 1) := by decide +kernel
theorem dX0_reap_86 : decode cX0_reap 86 = .ok (.invokevirtual 202, 3) := by decide +kernel
theorem dX0_reap_89 : decode cX0_reap 89 = .ok (.aload_n 0, 1) := by decide +kernel
theorem dX0_reap_90 : decode cX0_reap 90 = .ok (.getfield 11, 3) := by decide +kernel
theorem dX0_reap_93 : decode cX0_reap 93 = .ok (.iload 4, 2) := by decide +kernel
theorem dX0_reap_95 : decode cX0_reap 95 = .ok (.aaload, 1) := by decide +kernel
theorem dX0_reap_96 : decode cX0_reap 96 = .ok (.iconst 0, 1) := by decide +kernel
theorem dX0_reap_97 : decode cX0_reap 97 = .ok (.putfield 205, 3) := by decide +kernel
theorem dX0_reap_100 : decode cX0_reap 100 = .ok (.iinc 4 1, 3) := by decide +kernel
theorem dX0_reap_103 : decode cX0_reap 103 = .ok (.goto (-67), 3) := by decide +kernel
theorem dX0_reap_106 : decode cX0_reap 106 = .ok (.aload_n 1, 1) := by decide +kernel
theorem dX0_reap_107 : decode cX0_reap 107 = .ok (.getfield 177, 3) := by decide +kernel
theorem dX0_reap_110 : decode cX0_reap 110 = .ok (.getfield 208, 3) := by decide +kernel
theorem dX0_reap_113 : decode cX0_reap 113 = .ok (.iconst 0, 1) := by decide +kernel
theorem dX0_reap_114 : decode cX0_reap 114 = .ok (.invokestatic 55, 3) := by decide +kernel
theorem dX0_reap_117 : decode cX0_reap 117 = .ok (.iload_n 3, 1) := by decide +kernel
theorem dX0_reap_118 : decode cX0_reap 118 = .ok (.ireturn, 1) := by decide +kernel
theorem dX0_reapFor_0 : decode cX0_reapFor 0 = .ok (.iconst 0, 1) := by decide +kernel
theorem dX0_reapFor_1 : decode cX0_reapFor 1 = .ok (.istore_n 3, 1) := by decide +kernel
theorem dX0_reapFor_2 : decode cX0_reapFor 2 = .ok (.iconst 0, 1) := by decide +kernel
theorem dX0_reapFor_3 : decode cX0_reapFor 3 = .ok (.istore 4, 2) := by decide +kernel
theorem dX0_reapFor_5 : decode cX0_reapFor 5 = .ok (.iload 4, 2) := by decide +kernel
theorem dX0_reapFor_7 : decode cX0_reapFor 7 = .ok (.bipush 96, 2) := by decide +kernel
theorem dX0_reapFor_9 : decode cX0_reapFor 9 = .ok (.if_icmp .ge 52, 3) := by decide +kernel
theorem dX0_reapFor_12 : decode cX0_reapFor 12 = .ok (.aload_n 0, 1) := by decide +kernel
theorem dX0_reapFor_13 : decode cX0_reapFor 13 = .ok (.getfield 17, 3) := by decide +kernel
theorem dX0_reapFor_16 : decode cX0_reapFor 16 = .ok (.iload 4, 2) := by decide +kernel
theorem dX0_reapFor_18 : decode cX0_reapFor 18 = .ok (.iaload, 1) := by decide +kernel
theorem dX0_reapFor_19 : decode cX0_reapFor 19 = .ok (.aload_n 1, 1) := by decide +kernel
theorem dX0_reapFor_20 : decode cX0_reapFor 20 = .ok (.getfield 81, 3) := by decide +kernel
theorem dX0_reapFor_23 : decode cX0_reapFor 23 = .ok (.if_icmp .ne 32, 3) := by decide +kernel
theorem dX0_reapFor_26 : decode cX0_reapFor 26 = .ok (.iload_n 3, 1) := by decide +kernel
theorem dX0_reapFor_27 : decode cX0_reapFor 27 = .ok (.aload_n 0, 1) := by decide +kernel
theorem dX0_reapFor_28 : decode cX0_reapFor 28 = .ok (.getfield 21, 3) := by decide +kernel
theorem dX0_reapFor_31 : decode cX0_reapFor 31 = .ok (.aload_n 1, 1) := by decide +kernel
theorem dX0_reapFor_32 : decode cX0_reapFor 32 = .ok (.getfield 81, 3) := by decide +kernel
theorem dX0_reapFor_35 : decode cX0_reapFor 35 = .ok (.iaload, 1) := by decide +kernel
theorem dX0_reapFor_36 : decode cX0_reapFor 36 = .ok (.aload_n 2, 1) := by decide +kernel
theorem dX0_reapFor_37 : decode cX0_reapFor 37 = .ok (.getfield 208, 3) := by decide +kernel
theorem dX0_reapFor_40 : decode cX0_reapFor 40 = .ok (.iload 4, 2) := by decide +kernel
theorem dX0_reapFor_42 : decode cX0_reapFor 42 = .ok (.iaload, 1) := by decide +kernel
theorem dX0_reapFor_43 : decode cX0_reapFor 43 = .ok (.aload_n 2, 1) := by decide +kernel
theorem dX0_reapFor_44 : decode cX0_reapFor 44 = .ok (.getfield 158, 3) := by decide +kernel
theorem dX0_reapFor_47 : decode cX0_reapFor 47 = .ok (.iload 4, 2) := by decide +kernel
theorem dX0_reapFor_49 : decode cX0_reapFor 49 = .ok (.iaload, 1) := by decide +kernel
theorem dX0_reapFor_50 : decode cX0_reapFor 50 = .ok (.invokestatic 211, 3) := by decide +kernel
theorem dX0_reapFor_53 : decode cX0_reapFor 53 = .ok (.iadd, 1) := by decide +kernel
theorem dX0_reapFor_54 : decode cX0_reapFor 54 = .ok (.istore_n 3, 1) := by decide +kernel
theorem dX0_reapFor_55 : decode cX0_reapFor 55 = .ok (.iinc 4 1, 3) := by decide +kernel
theorem dX0_reapFor_58 : decode cX0_reapFor 58 = .ok (.goto (-53), 3) := by decide +kernel
theorem dX0_reapFor_61 : decode cX0_reapFor 61 = .ok (.aload_n 1, 1) := by decide +kernel
theorem dX0_reapFor_62 : decode cX0_reapFor 62 = .ok (.iload_n 3, 1) := by decide +kernel
theorem dX0_reapFor_63 : decode cX0_reapFor 63 = .ok (.putfield 102, 3) := by decide +kernel
theorem dX0_reapFor_66 : decode cX0_reapFor 66 = .ok (.aload_n 1, 1) := by decide +kernel
theorem dX0_reapFor_67 : decode cX0_reapFor 67 = .ok (.dup, 1) := by decide +kernel
theorem dX0_reapFor_68 : decode cX0_reapFor 68 = .ok (.getfield 111, 3) := by decide +kernel
theorem dX0_reapFor_71 : decode cX0_reapFor 71 = .ok (.iload_n 3, 1) := by decide +kernel
theorem dX0_reapFor_72 : decode cX0_reapFor 72 = .ok (.iadd, 1) := by decide +kernel
theorem dX0_reapFor_73 : decode cX0_reapFor 73 = .ok (.putfield 111, 3) := by decide +kernel
theorem dX0_reapFor_76 : decode cX0_reapFor 76 = .ok (.iload_n 3, 1) := by decide +kernel
theorem dX0_reapFor_77 : decode cX0_reapFor 77 = .ok (.ireturn, 1) := by decide +kernel
theorem dX0_broughtBy_0 : decode cX0_broughtBy 0 = .ok (.iload_n 0, 1) := by decide +kernel
theorem dX0_broughtBy_1 : decode cX0_broughtBy 1 = .ok (.ifCond .ne 5, 3) := by decide +kernel
theorem dX0_broughtBy_4 : decode cX0_broughtBy 4 = .ok (.iconst 0, 1) := by decide +kernel
theorem dX0_broughtBy_5 : decode cX0_broughtBy 5 = .ok (.ireturn, 1) := by decide +kernel
theorem dX0_broughtBy_6 : decode cX0_broughtBy 6 = .ok (.iload_n 0, 1) := by decide +kernel
theorem dX0_broughtBy_7 : decode cX0_broughtBy 7 = .ok (.iconst 1, 1) := by decide +kernel
theorem dX0_broughtBy_8 : decode cX0_broughtBy 8 = .ok (.if_icmp .ne 8, 3) := by decide +kernel
theorem dX0_broughtBy_11 : decode cX0_broughtBy 11 = .ok (.bipush 20, 2) := by decide +kernel
theorem dX0_broughtBy_13 : decode cX0_broughtBy 13 = .ok (.goto 15, 3) := by decide +kernel
theorem dX0_broughtBy_16 : decode cX0_broughtBy 16 = .ok (.iload_n 0, 1) := by decide +kernel
theorem dX0_broughtBy_17 : decode cX0_broughtBy 17 = .ok (.iconst 2, 1) := by decide +kernel
theorem dX0_broughtBy_18 : decode cX0_broughtBy 18 = .ok (.if_icmp .ne 8, 3) := by decide +kernel
theorem dX0_broughtBy_21 : decode cX0_broughtBy 21 = .ok (.bipush 50, 2) := by decide +kernel
theorem dX0_broughtBy_23 : decode cX0_broughtBy 23 = .ok (.goto 5, 3) := by decide +kernel
theorem dX0_broughtBy_26 : decode cX0_broughtBy 26 = .ok (.bipush 40, 2) := by decide +kernel
theorem dX0_broughtBy_28 : decode cX0_broughtBy 28 = .ok (.istore_n 3, 1) := by decide +kernel
theorem dX0_broughtBy_29 : decode cX0_broughtBy 29 = .ok (.iload_n 1, 1) := by decide +kernel
theorem dX0_broughtBy_30 : decode cX0_broughtBy 30 = .ok (.iload_n 0, 1) := by decide +kernel
theorem dX0_broughtBy_31 : decode cX0_broughtBy 31 = .ok (.iconst 1, 1) := by decide +kernel
theorem dX0_broughtBy_32 : decode cX0_broughtBy 32 = .ok (.if_icmp .ne 8, 3) := by decide +kernel
theorem dX0_broughtBy_35 : decode cX0_broughtBy 35 = .ok (.bipush 60, 2) := by decide +kernel
theorem dX0_broughtBy_37 : decode cX0_broughtBy 37 = .ok (.goto 15, 3) := by decide +kernel
theorem dX0_broughtBy_40 : decode cX0_broughtBy 40 = .ok (.iload_n 0, 1) := by decide +kernel
theorem dX0_broughtBy_41 : decode cX0_broughtBy 41 = .ok (.iconst 2, 1) := by decide +kernel
theorem dX0_broughtBy_42 : decode cX0_broughtBy 42 = .ok (.if_icmp .ne 8, 3) := by decide +kernel
theorem dX0_broughtBy_45 : decode cX0_broughtBy 45 = .ok (.bipush 20, 2) := by decide +kernel
theorem dX0_broughtBy_47 : decode cX0_broughtBy 47 = .ok (.goto 5, 3) := by decide +kernel
theorem dX0_broughtBy_50 : decode cX0_broughtBy 50 = .ok (.bipush 10, 2) := by decide +kernel
theorem dX0_broughtBy_52 : decode cX0_broughtBy 52 = .ok (.if_icmp .gt 7, 3) := by decide +kernel
theorem dX0_broughtBy_55 : decode cX0_broughtBy 55 = .ok (.iconst 1, 1) := by decide +kernel
theorem dX0_broughtBy_56 : decode cX0_broughtBy 56 = .ok (.goto 4, 3) := by decide +kernel
theorem dX0_broughtBy_59 : decode cX0_broughtBy 59 = .ok (.iconst 0, 1) := by decide +kernel
theorem dX0_broughtBy_60 : decode cX0_broughtBy 60 = .ok (.istore 4, 2) := by decide +kernel
theorem dX0_broughtBy_62 : decode cX0_broughtBy 62 = .ok (.iload_n 2, 1) := by decide +kernel
theorem dX0_broughtBy_63 : decode cX0_broughtBy 63 = .ok (.iload_n 0, 1) := by decide +kernel
theorem dX0_broughtBy_64 : decode cX0_broughtBy 64 = .ok (.iconst 1, 1) := by decide +kernel
theorem dX0_broughtBy_65 : decode cX0_broughtBy 65 = .ok (.if_icmp .ne 9, 3) := by decide +kernel
theorem dX0_broughtBy_68 : decode cX0_broughtBy 68 = .ok (.sipush 4000, 3) := by decide +kernel
theorem dX0_broughtBy_71 : decode cX0_broughtBy 71 = .ok (.goto 17, 3) := by decide +kernel
theorem dX0_broughtBy_74 : decode cX0_broughtBy 74 = .ok (.iload_n 0, 1) := by decide +kernel
theorem dX0_broughtBy_75 : decode cX0_broughtBy 75 = .ok (.iconst 2, 1) := by decide +kernel
theorem dX0_broughtBy_76 : decode cX0_broughtBy 76 = .ok (.if_icmp .ne 9, 3) := by decide +kernel
theorem dX0_broughtBy_79 : decode cX0_broughtBy 79 = .ok (.sipush 2000, 3) := by decide +kernel
theorem dX0_broughtBy_82 : decode cX0_broughtBy 82 = .ok (.goto 6, 3) := by decide +kernel
theorem dX0_broughtBy_85 : decode cX0_broughtBy 85 = .ok (.sipush 8000, 3) := by decide +kernel
theorem dX0_broughtBy_88 : decode cX0_broughtBy 88 = .ok (.if_icmp .gt 7, 3) := by decide +kernel
theorem dX0_broughtBy_91 : decode cX0_broughtBy 91 = .ok (.iconst 1, 1) := by decide +kernel
theorem dX0_broughtBy_92 : decode cX0_broughtBy 92 = .ok (.goto 4, 3) := by decide +kernel
theorem dX0_broughtBy_95 : decode cX0_broughtBy 95 = .ok (.iconst 0, 1) := by decide +kernel
theorem dX0_broughtBy_96 : decode cX0_broughtBy 96 = .ok (.istore 5, 2) := by decide +kernel
theorem dX0_broughtBy_98 : decode cX0_broughtBy 98 = .ok (.iload 4, 2) := by decide +kernel
theorem dX0_broughtBy_100 : decode cX0_broughtBy 100 = .ok (.ifCond .eq 10, 3) := by decide +kernel
theorem dX0_broughtBy_103 : decode cX0_broughtBy 103 = .ok (.iload 5, 2) := by decide +kernel
theorem dX0_broughtBy_105 : decode cX0_broughtBy 105 = .ok (.ifCond .eq 5, 3) := by decide +kernel
theorem dX0_broughtBy_108 : decode cX0_broughtBy 108 = .ok (.iload_n 3, 1) := by decide +kernel
theorem dX0_broughtBy_109 : decode cX0_broughtBy 109 = .ok (.ireturn, 1) := by decide +kernel
theorem dX0_broughtBy_110 : decode cX0_broughtBy 110 = .ok (.iload 4, 2) := by decide +kernel
theorem dX0_broughtBy_112 : decode cX0_broughtBy 112 = .ok (.ifCond .ne 8, 3) := by decide +kernel
theorem dX0_broughtBy_115 : decode cX0_broughtBy 115 = .ok (.iload 5, 2) := by decide +kernel
theorem dX0_broughtBy_117 : decode cX0_broughtBy 117 = .ok (.ifCond .eq 9, 3) := by decide +kernel
theorem dX0_broughtBy_120 : decode cX0_broughtBy 120 = .ok (.iload_n 3, 1) := by decide +kernel
theorem dX0_broughtBy_121 : decode cX0_broughtBy 121 = .ok (.iconst 2, 1) := by decide +kernel
theorem dX0_broughtBy_122 : decode cX0_broughtBy 122 = .ok (.idiv, 1) := by decide +kernel
theorem dX0_broughtBy_123 : decode cX0_broughtBy 123 = .ok (.goto 4, 3) := by decide +kernel
theorem dX0_broughtBy_126 : decode cX0_broughtBy 126 = .ok (.iconst 0, 1) := by decide +kernel
theorem dX0_broughtBy_127 : decode cX0_broughtBy 127 = .ok (.ireturn, 1) := by decide +kernel
theorem dX0_payDues_0 : decode cX0_payDues 0 = .ok (.aload_n 0, 1) := by decide +kernel
theorem dX0_payDues_1 : decode cX0_payDues 1 = .ok (.aload_n 1, 1) := by decide +kernel
theorem dX0_payDues_2 : decode cX0_payDues 2 = .ok (.aload_n 2, 1) := by decide +kernel
theorem dX0_payDues_3 : decode cX0_payDues 3 = .ok (.invokevirtual 84, 3) := by decide +kernel
theorem dX0_payDues_6 : decode cX0_payDues 6 = .ok (.aload_n 0, 1) := by decide +kernel
theorem dX0_payDues_7 : decode cX0_payDues 7 = .ok (.invokevirtual 215, 3) := by decide +kernel
theorem dX0_payDues_10 : decode cX0_payDues 10 = .ok (.istore_n 3, 1) := by decide +kernel
theorem dX0_payDues_11 : decode cX0_payDues 11 = .ok (.aload_n 1, 1) := by decide +kernel
theorem dX0_payDues_12 : decode cX0_payDues 12 = .ok (.getfield 205, 3) := by decide +kernel
theorem dX0_payDues_15 : decode cX0_payDues 15 = .ok (.ifCond .ne 19, 3) := by decide +kernel
theorem dX0_payDues_18 : decode cX0_payDues 18 = .ok (.aload_n 0, 1) := by decide +kernel
theorem dX0_payDues_19 : decode cX0_payDues 19 = .ok (.iconst 5, 1) := by decide +kernel
theorem dX0_payDues_20 : decode cX0_payDues 20 = .ok (.invokevirtual 169, 3) := by decide +kernel
theorem dX0_payDues_23 : decode cX0_payDues 23 = .ok (.ifCond .eq 11, 3) := by decide +kernel
theorem dX0_payDues_26 : decode cX0_payDues 26 = .ok (.iload_n 3, 1) := by decide +kernel
theorem dX0_payDues_27 : decode cX0_payDues 27 = .ok (.aload_n 0, 1) := by decide +kernel
theorem dX0_payDues_28 : decode cX0_payDues 28 = .ok (.iconst 3, 1) := by decide +kernel
theorem dX0_payDues_29 : decode cX0_payDues 29 = .ok (.invokevirtual 88, 3) := by decide +kernel
theorem dX0_payDues_32 : decode cX0_payDues 32 = .ok (.iadd, 1) := by decide +kernel
theorem dX0_payDues_33 : decode cX0_payDues 33 = .ok (.istore_n 3, 1) := by decide +kernel
theorem dX0_payDues_34 : decode cX0_payDues 34 = .ok (.aload_n 1, 1) := by decide +kernel
theorem dX0_payDues_35 : decode cX0_payDues 35 = .ok (.dup, 1) := by decide +kernel
theorem dX0_payDues_36 : decode cX0_payDues 36 = .ok (.getfield 127, 3) := by decide +kernel
theorem dX0_payDues_39 : decode cX0_payDues 39 = .ok (.iload_n 3, 1) := by decide +kernel
theorem dX0_payDues_40 : decode cX0_payDues 40 = .ok (.iadd, 1) := by decide +kernel
theorem dX0_payDues_41 : decode cX0_payDues 41 = .ok (.putfield 127, 3) := by decide +kernel
theorem dX0_payDues_44 : decode cX0_payDues 44 = .ok (.aload_n 1, 1) := by decide +kernel
theorem dX0_payDues_45 : decode cX0_payDues 45 = .ok (.getfield 127, 3) := by decide +kernel
theorem dX0_payDues_48 : decode cX0_payDues 48 = .ok (.aload_n 1, 1) := by decide +kernel
theorem dX0_payDues_49 : decode cX0_payDues 49 = .ok (.getfield 111, 3) := by decide +kernel
theorem dX0_payDues_52 : decode cX0_payDues 52 = .ok (.invokestatic 166, 3) := by decide +kernel
theorem dX0_payDues_55 : decode cX0_payDues 55 = .ok (.istore 4, 2) := by decide +kernel
theorem dX0_payDues_57 : decode cX0_payDues 57 = .ok (.aload_n 1, 1) := by decide +kernel
theorem dX0_payDues_58 : decode cX0_payDues 58 = .ok (.dup, 1) := by decide +kernel
theorem dX0_payDues_59 : decode cX0_payDues 59 = .ok (.getfield 127, 3) := by decide +kernel
theorem dX0_payDues_62 : decode cX0_payDues 62 = .ok (.iload 4, 2) := by decide +kernel
theorem dX0_payDues_64 : decode cX0_payDues 64 = .ok (.isub, 1) := by decide +kernel
theorem dX0_payDues_65 : decode cX0_payDues 65 = .ok (.putfield 127, 3) := by decide +kernel
theorem dX0_payDues_68 : decode cX0_payDues 68 = .ok (.aload_n 1, 1) := by decide +kernel
theorem dX0_payDues_69 : decode cX0_payDues 69 = .ok (.dup, 1) := by decide +kernel
theorem dX0_payDues_70 : decode cX0_payDues 70 = .ok (.getfield 111, 3) := by decide +kernel
theorem dX0_payDues_73 : decode cX0_payDues 73 = .ok (.iload 4, 2) := by decide +kernel
theorem dX0_payDues_75 : decode cX0_payDues 75 = .ok (.isub, 1) := by decide +kernel
theorem dX0_payDues_76 : decode cX0_payDues 76 = .ok (.putfield 111, 3) := by decide +kernel
theorem dX0_payDues_79 : decode cX0_payDues 79 = .ok (.aload_n 0, 1) := by decide +kernel
theorem dX0_payDues_80 : decode cX0_payDues 80 = .ok (.ldc 218, 2) := by decide +kernel
theorem dX0_payDues_82 : decode cX0_payDues 82 = .ok (.iload 4, 2) := by decide +kernel
theorem dX0_payDues_84 : decode cX0_payDues 84 = .ok (.isub, 1) := by decide +kernel
theorem dX0_payDues_85 : decode cX0_payDues 85 = .ok (.aload_n 0, 1) := by decide +kernel
theorem dX0_payDues_86 : decode cX0_payDues 86 = .ok (.getfield 219, 3) := by decide +kernel
theorem dX0_payDues_89 : decode cX0_payDues 89 = .ok (.invokestatic 166, 3) := by decide +kernel
theorem dX0_payDues_92 : decode cX0_payDues 92 = .ok (.iload 4, 2) := by decide +kernel
theorem dX0_payDues_94 : decode cX0_payDues 94 = .ok (.iadd, 1) := by decide +kernel
theorem dX0_payDues_95 : decode cX0_payDues 95 = .ok (.putfield 219, 3) := by decide +kernel
theorem dX0_payDues_98 : decode cX0_payDues 98 = .ok (.return_, 1) := by decide +kernel
theorem dX0_debtorOfRank_0 : decode cX0_debtorOfRank 0 = .ok (.iconst 0, 1) := by decide +kernel
theorem dX0_debtorOfRank_1 : decode cX0_debtorOfRank 1 = .ok (.istore_n 2, 1) := by decide +kernel
theorem dX0_debtorOfRank_2 : decode cX0_debtorOfRank 2 = .ok (.iload_n 2, 1) := by decide +kernel
theorem dX0_debtorOfRank_3 : decode cX0_debtorOfRank 3 = .ok (.aload_n 0, 1) := by decide +kernel
theorem dX0_debtorOfRank_4 : decode cX0_debtorOfRank 4 = .ok (.getfield 75, 3) := by decide +kernel
theorem dX0_debtorOfRank_7 : decode cX0_debtorOfRank 7 = .ok (.if_icmp .ge 32, 3) := by decide +kernel
theorem dX0_debtorOfRank_10 : decode cX0_debtorOfRank 10 = .ok (.aload_n 0, 1) := by decide +kernel
theorem dX0_debtorOfRank_11 : decode cX0_debtorOfRank 11 = .ok (.getfield 11, 3) := by decide +kernel
theorem dX0_debtorOfRank_14 : decode cX0_debtorOfRank 14 = .ok (.iload_n 2, 1) := by decide +kernel
theorem dX0_debtorOfRank_15 : decode cX0_debtorOfRank 15 = .ok (.aaload, 1) := by decide +kernel
theorem dX0_debtorOfRank_16 : decode cX0_debtorOfRank 16 = .ok (.getfield 127, 3) := by decide +kernel
theorem dX0_debtorOfRank_19 : decode cX0_debtorOfRank 19 = .ok (.ifCond .le 14, 3) := by decide +kernel
theorem dX0_debtorOfRank_22 : decode cX0_debtorOfRank 22 = .ok (.aload_n 0, 1) := by decide +kernel
theorem dX0_debtorOfRank_23 : decode cX0_debtorOfRank 23 = .ok (.iload_n 2, 1) := by decide +kernel
theorem dX0_debtorOfRank_24 : decode cX0_debtorOfRank 24 = .ok (.invokevirtual 220, 3) := by decide +kernel
theorem dX0_debtorOfRank_27 : decode cX0_debtorOfRank 27 = .ok (.iload_n 1, 1) := by decide +kernel
theorem dX0_debtorOfRank_28 : decode cX0_debtorOfRank 28 = .ok (.if_icmp .ne 5, 3) := by decide +kernel
theorem dX0_debtorOfRank_31 : decode cX0_debtorOfRank 31 = .ok (.iload_n 2, 1) := by decide +kernel
theorem dX0_debtorOfRank_32 : decode cX0_debtorOfRank 32 = .ok (.ireturn, 1) := by decide +kernel
theorem dX0_debtorOfRank_33 : decode cX0_debtorOfRank 33 = .ok (.iinc 2 1, 3) := by decide +kernel
theorem dX0_debtorOfRank_36 : decode cX0_debtorOfRank 36 = .ok (.goto (-34), 3) := by decide +kernel
theorem dX0_debtorOfRank_39 : decode cX0_debtorOfRank 39 = .ok (.iconst (-1), 1) := by decide +kernel
theorem dX0_debtorOfRank_40 : decode cX0_debtorOfRank 40 = .ok (.ireturn, 1) := by decide +kernel
theorem dX0_debtorsAheadOf_0 : decode cX0_debtorsAheadOf 0 = .ok (.iconst 0, 1) := by decide +kernel
theorem dX0_debtorsAheadOf_1 : decode cX0_debtorsAheadOf 1 = .ok (.istore_n 2, 1) := by decide +kernel
theorem dX0_debtorsAheadOf_2 : decode cX0_debtorsAheadOf 2 = .ok (.iconst 0, 1) := by decide +kernel
theorem dX0_debtorsAheadOf_3 : decode cX0_debtorsAheadOf 3 = .ok (.istore_n 3, 1) := by decide +kernel
theorem dX0_debtorsAheadOf_4 : decode cX0_debtorsAheadOf 4 = .ok (.iload_n 3, 1) := by decide +kernel
theorem dX0_debtorsAheadOf_5 : decode cX0_debtorsAheadOf 5 = .ok (.aload_n 0, 1) := by decide +kernel
theorem dX0_debtorsAheadOf_6 : decode cX0_debtorsAheadOf 6 = .ok (.getfield 75, 3) := by decide +kernel
theorem dX0_debtorsAheadOf_9 : decode cX0_debtorsAheadOf 9 = .ok (.if_icmp .ge 53, 3) := by decide +kernel
theorem dX0_debtorsAheadOf_12 : decode cX0_debtorsAheadOf 12 = .ok (.aload_n 0, 1) := by decide +kernel
theorem dX0_debtorsAheadOf_13 : decode cX0_debtorsAheadOf 13 = .ok (.getfield 11, 3) := by decide +kernel
theorem dX0_debtorsAheadOf_16 : decode cX0_debtorsAheadOf 16 = .ok (.iload_n 3, 1) := by decide +kernel
theorem dX0_debtorsAheadOf_17 : decode cX0_debtorsAheadOf 17 = .ok (.aaload, 1) := by decide +kernel
theorem dX0_debtorsAheadOf_18 : decode cX0_debtorsAheadOf 18 = .ok (.getfield 127, 3) := by decide +kernel
theorem dX0_debtorsAheadOf_21 : decode cX0_debtorsAheadOf 21 = .ok (.aload_n 0, 1) := by decide +kernel
theorem dX0_debtorsAheadOf_22 : decode cX0_debtorsAheadOf 22 = .ok (.getfield 11, 3) := by decide +kernel
theorem dX0_debtorsAheadOf_25 : decode cX0_debtorsAheadOf 25 = .ok (.iload_n 1, 1) := by decide +kernel
theorem dX0_debtorsAheadOf_26 : decode cX0_debtorsAheadOf 26 = .ok (.aaload, 1) := by decide +kernel
theorem dX0_debtorsAheadOf_27 : decode cX0_debtorsAheadOf 27 = .ok (.getfield 127, 3) := by decide +kernel
theorem dX0_debtorsAheadOf_30 : decode cX0_debtorsAheadOf 30 = .ok (.isub, 1) := by decide +kernel
theorem dX0_debtorsAheadOf_31 : decode cX0_debtorsAheadOf 31 = .ok (.istore 4, 2) := by decide +kernel
theorem dX0_debtorsAheadOf_33 : decode cX0_debtorsAheadOf 33 = .ok (.iload_n 2, 1) := by decide +kernel
theorem dX0_debtorsAheadOf_34 : decode cX0_debtorsAheadOf 34 = .ok (.iload 4, 2) := by decide +kernel
theorem dX0_debtorsAheadOf_36 : decode cX0_debtorsAheadOf 36 = .ok (.ifCond .gt 13, 3) := by decide +kernel
theorem dX0_debtorsAheadOf_39 : decode cX0_debtorsAheadOf 39 = .ok (.iload 4, 2) := by decide +kernel
theorem dX0_debtorsAheadOf_41 : decode cX0_debtorsAheadOf 41 = .ok (.ifCond .ne 12, 3) := by decide +kernel
theorem dX0_debtorsAheadOf_44 : decode cX0_debtorsAheadOf 44 = .ok (.iload_n 3, 1) := by decide +kernel
theorem dX0_debtorsAheadOf_45 : decode cX0_debtorsAheadOf 45 = .ok (.iload_n 1, 1) := by decide +kernel
theorem dX0_debtorsAheadOf_46 : decode cX0_debtorsAheadOf 46 = .ok (.if_icmp .ge 7, 3) := by decide +kernel
theorem dX0_debtorsAheadOf_49 : decode cX0_debtorsAheadOf 49 = .ok (.iconst 1, 1) := by decide +kernel
theorem dX0_debtorsAheadOf_50 : decode cX0_debtorsAheadOf 50 = .ok (.goto 4, 3) := by decide +kernel
theorem dX0_debtorsAheadOf_53 : decode cX0_debtorsAheadOf 53 = .ok (.iconst 0, 1) := by decide +kernel
theorem dX0_debtorsAheadOf_54 : decode cX0_debtorsAheadOf 54 = .ok (.iadd, 1) := by decide +kernel
theorem dX0_debtorsAheadOf_55 : decode cX0_debtorsAheadOf 55 = .ok (.istore_n 2, 1) := by decide +kernel
theorem dX0_debtorsAheadOf_56 : decode cX0_debtorsAheadOf 56 = .ok (.iinc 3 1, 3) := by decide +kernel
theorem dX0_debtorsAheadOf_59 : decode cX0_debtorsAheadOf 59 = .ok (.goto (-55), 3) := by decide +kernel
theorem dX0_debtorsAheadOf_62 : decode cX0_debtorsAheadOf 62 = .ok (.iload_n 2, 1) := by decide +kernel
theorem dX0_debtorsAheadOf_63 : decode cX0_debtorsAheadOf 63 = .ok (.ireturn, 1) := by decide +kernel
theorem dX0_allArrears_0 : decode cX0_allArrears 0 = .ok (.iconst 0, 1) := by decide +kernel
theorem dX0_allArrears_1 : decode cX0_allArrears 1 = .ok (.istore_n 1, 1) := by decide +kernel
theorem dX0_allArrears_2 : decode cX0_allArrears 2 = .ok (.iconst 0, 1) := by decide +kernel
theorem dX0_allArrears_3 : decode cX0_allArrears 3 = .ok (.istore_n 2, 1) := by decide +kernel
theorem dX0_allArrears_4 : decode cX0_allArrears 4 = .ok (.iload_n 2, 1) := by decide +kernel
theorem dX0_allArrears_5 : decode cX0_allArrears 5 = .ok (.aload_n 0, 1) := by decide +kernel
theorem dX0_allArrears_6 : decode cX0_allArrears 6 = .ok (.getfield 75, 3) := by decide +kernel
theorem dX0_allArrears_9 : decode cX0_allArrears 9 = .ok (.if_icmp .ge 21, 3) := by decide +kernel
theorem dX0_allArrears_12 : decode cX0_allArrears 12 = .ok (.iload_n 1, 1) := by decide +kernel
theorem dX0_allArrears_13 : decode cX0_allArrears 13 = .ok (.aload_n 0, 1) := by decide +kernel
theorem dX0_allArrears_14 : decode cX0_allArrears 14 = .ok (.getfield 11, 3) := by decide +kernel
theorem dX0_allArrears_17 : decode cX0_allArrears 17 = .ok (.iload_n 2, 1) := by decide +kernel
theorem dX0_allArrears_18 : decode cX0_allArrears 18 = .ok (.aaload, 1) := by decide +kernel
theorem dX0_allArrears_19 : decode cX0_allArrears 19 = .ok (.getfield 127, 3) := by decide +kernel
theorem dX0_allArrears_22 : decode cX0_allArrears 22 = .ok (.iadd, 1) := by decide +kernel
theorem dX0_allArrears_23 : decode cX0_allArrears 23 = .ok (.istore_n 1, 1) := by decide +kernel
theorem dX0_allArrears_24 : decode cX0_allArrears 24 = .ok (.iinc 2 1, 3) := by decide +kernel
theorem dX0_allArrears_27 : decode cX0_allArrears 27 = .ok (.goto (-23), 3) := by decide +kernel
theorem dX0_allArrears_30 : decode cX0_allArrears 30 = .ok (.iload_n 1, 1) := by decide +kernel
theorem dX0_allArrears_31 : decode cX0_allArrears 31 = .ok (.ireturn, 1) := by decide +kernel
theorem dX1_init_0 : decode cX1_init 0 = .ok (.aload_n 0, 1) := by decide +kernel
