theorem dX11_workOf_0 : decode cX11_workOf 0 = .ok (.iload_n 1, 1) := by decide +kernel
theorem dX11_workOf_1 : decode cX11_workOf 1 = .ok (.iconst 0, 1) := by decide +kernel
theorem dX11_workOf_2 : decode cX11_workOf 2 = .ok (.aload_n 0, 1) := by decide +kernel
theorem dX11_workOf_3 : decode cX11_workOf 3 = .ok (.getfield 16, 3) := by decide +kernel
theorem dX11_workOf_6 : decode cX11_workOf 6 = .ok (.getfield 456, 3) := by decide +kernel
theorem dX11_workOf_9 : decode cX11_workOf 9 = .ok (.iconst 1, 1) := by decide +kernel
theorem dX11_workOf_10 : decode cX11_workOf 10 = .ok (.isub, 1) := by decide +kernel
theorem dX11_workOf_11 : decode cX11_workOf 11 = .ok (.invokestatic 58, 3) := by decide +kernel
theorem dX11_workOf_14 : decode cX11_workOf 14 = .ok (.ifCond .ne 14, 3) := by decide +kernel
theorem dX11_workOf_17 : decode cX11_workOf 17 = .ok (.new 557, 3) := by decide +kernel
theorem dX11_workOf_20 : decode cX11_workOf 20 = .ok (.dup, 1) := by decide +kernel
theorem dX11_workOf_21 : decode cX11_workOf 21 = .ok (.ldc_w 570, 3) := by decide +kernel
theorem dX11_workOf_24 : decode cX11_workOf 24 = .ok (.invokespecial 561, 3) := by decide +kernel
theorem dX11_workOf_27 : decode cX11_workOf 27 = .ok (.athrow, 1) := by decide +kernel
theorem dX11_workOf_28 : decode cX11_workOf 28 = .ok (.aload_n 0, 1) := by decide +kernel
theorem dX11_workOf_29 : decode cX11_workOf 29 = .ok (.getfield 16, 3) := by decide +kernel
theorem dX11_workOf_32 : decode cX11_workOf 32 = .ok (.getfield 459, 3) := by decide +kernel
theorem dX11_workOf_35 : decode cX11_workOf 35 = .ok (.iload_n 1, 1) := by decide +kernel
theorem dX11_workOf_36 : decode cX11_workOf 36 = .ok (.aaload, 1) := by decide +kernel
theorem dX11_workOf_37 : decode cX11_workOf 37 = .ok (.areturn, 1) := by decide +kernel
theorem dX11_settlerOf_0 : decode cX11_settlerOf 0 = .ok (.iload_n 1, 1) := by decide +kernel
theorem dX11_settlerOf_1 : decode cX11_settlerOf 1 = .ok (.iconst 0, 1) := by decide +kernel
theorem dX11_settlerOf_2 : decode cX11_settlerOf 2 = .ok (.aload_n 0, 1) := by decide +kernel
theorem dX11_settlerOf_3 : decode cX11_settlerOf 3 = .ok (.getfield 30, 3) := by decide +kernel
theorem dX11_settlerOf_6 : decode cX11_settlerOf 6 = .ok (.getfield 342, 3) := by decide +kernel
theorem dX11_settlerOf_9 : decode cX11_settlerOf 9 = .ok (.iconst 1, 1) := by decide +kernel
theorem dX11_settlerOf_10 : decode cX11_settlerOf 10 = .ok (.isub, 1) := by decide +kernel
theorem dX11_settlerOf_11 : decode cX11_settlerOf 11 = .ok (.invokestatic 58, 3) := by decide +kernel
theorem dX11_settlerOf_14 : decode cX11_settlerOf 14 = .ok (.ifCond .ne 14, 3) := by decide +kernel
theorem dX11_settlerOf_17 : decode cX11_settlerOf 17 = .ok (.new 557, 3) := by decide +kernel
theorem dX11_settlerOf_20 : decode cX11_settlerOf 20 = .ok (.dup, 1) := by decide +kernel
theorem dX11_settlerOf_21 : decode cX11_settlerOf 21 = .ok (.ldc_w 572, 3) := by decide +kernel
theorem dX11_settlerOf_24 : decode cX11_settlerOf 24 = .ok (.invokespecial 561, 3) := by decide +kernel
theorem dX11_settlerOf_27 : decode cX11_settlerOf 27 = .ok (.athrow, 1) := by decide +kernel
theorem dX11_settlerOf_28 : decode cX11_settlerOf 28 = .ok (.aload_n 0, 1) := by decide +kernel
theorem dX11_settlerOf_29 : decode cX11_settlerOf 29 = .ok (.getfield 30, 3) := by decide +kernel
theorem dX11_settlerOf_32 : decode cX11_settlerOf 32 = .ok (.getfield 574, 3) := by decide +kernel
theorem dX11_settlerOf_35 : decode cX11_settlerOf 35 = .ok (.iload_n 1, 1) := by decide +kernel
theorem dX11_settlerOf_36 : decode cX11_settlerOf 36 = .ok (.aaload, 1) := by decide +kernel
theorem dX11_settlerOf_37 : decode cX11_settlerOf 37 = .ok (.areturn, 1) := by decide +kernel
theorem dX11_contractOf_0 : decode cX11_contractOf 0 = .ok (.iload_n 1, 1) := by decide +kernel
theorem dX11_contractOf_1 : decode cX11_contractOf 1 = .ok (.iconst 0, 1) := by decide +kernel
theorem dX11_contractOf_2 : decode cX11_contractOf 2 = .ok (.aload_n 0, 1) := by decide +kernel
theorem dX11_contractOf_3 : decode cX11_contractOf 3 = .ok (.getfield 414, 3) := by decide +kernel
theorem dX11_contractOf_6 : decode cX11_contractOf 6 = .ok (.iconst 1, 1) := by decide +kernel
theorem dX11_contractOf_7 : decode cX11_contractOf 7 = .ok (.isub, 1) := by decide +kernel
theorem dX11_contractOf_8 : decode cX11_contractOf 8 = .ok (.invokestatic 58, 3) := by decide +kernel
theorem dX11_contractOf_11 : decode cX11_contractOf 11 = .ok (.ifCond .ne 14, 3) := by decide +kernel
theorem dX11_contractOf_14 : decode cX11_contractOf 14 = .ok (.new 557, 3) := by decide +kernel
theorem dX11_contractOf_17 : decode cX11_contractOf 17 = .ok (.dup, 1) := by decide +kernel
theorem dX11_contractOf_18 : decode cX11_contractOf 18 = .ok (.ldc_w 578, 3) := by decide +kernel
theorem dX11_contractOf_21 : decode cX11_contractOf 21 = .ok (.invokespecial 561, 3) := by decide +kernel
theorem dX11_contractOf_24 : decode cX11_contractOf 24 = .ok (.athrow, 1) := by decide +kernel
theorem dX11_contractOf_25 : decode cX11_contractOf 25 = .ok (.aload_n 0, 1) := by decide +kernel
theorem dX11_contractOf_26 : decode cX11_contractOf 26 = .ok (.getfield 36, 3) := by decide +kernel
theorem dX11_contractOf_29 : decode cX11_contractOf 29 = .ok (.iload_n 1, 1) := by decide +kernel
theorem dX11_contractOf_30 : decode cX11_contractOf 30 = .ok (.aaload, 1) := by decide +kernel
theorem dX11_contractOf_31 : decode cX11_contractOf 31 = .ok (.areturn, 1) := by decide +kernel
theorem dX11_needFarm_0 : decode cX11_needFarm 0 = .ok (.iload_n 1, 1) := by decide +kernel
theorem dX11_needFarm_1 : decode cX11_needFarm 1 = .ok (.iconst 0, 1) := by decide +kernel
theorem dX11_needFarm_2 : decode cX11_needFarm 2 = .ok (.aload_n 0, 1) := by decide +kernel
theorem dX11_needFarm_3 : decode cX11_needFarm 3 = .ok (.getfield 30, 3) := by decide +kernel
theorem dX11_needFarm_6 : decode cX11_needFarm 6 = .ok (.getfield 541, 3) := by decide +kernel
theorem dX11_needFarm_9 : decode cX11_needFarm 9 = .ok (.iconst 1, 1) := by decide +kernel
theorem dX11_needFarm_10 : decode cX11_needFarm 10 = .ok (.isub, 1) := by decide +kernel
theorem dX11_needFarm_11 : decode cX11_needFarm 11 = .ok (.invokestatic 58, 3) := by decide +kernel
theorem dX11_needFarm_14 : decode cX11_needFarm 14 = .ok (.ifCond .ne 14, 3) := by decide +kernel
theorem dX11_needFarm_17 : decode cX11_needFarm 17 = .ok (.new 557, 3) := by decide +kernel
theorem dX11_needFarm_20 : decode cX11_needFarm 20 = .ok (.dup, 1) := by decide +kernel
theorem dX11_needFarm_21 : decode cX11_needFarm 21 = .ok (.ldc_w 562, 3) := by decide +kernel
theorem dX11_needFarm_24 : decode cX11_needFarm 24 = .ok (.invokespecial 561, 3) := by decide +kernel
theorem dX11_needFarm_27 : decode cX11_needFarm 27 = .ok (.athrow, 1) := by decide +kernel
theorem dX11_needFarm_28 : decode cX11_needFarm 28 = .ok (.return_, 1) := by decide +kernel
theorem dX11_needRow_0 : decode cX11_needRow 0 = .ok (.iload_n 1, 1) := by decide +kernel
theorem dX11_needRow_1 : decode cX11_needRow 1 = .ok (.iconst 0, 1) := by decide +kernel
theorem dX11_needRow_2 : decode cX11_needRow 2 = .ok (.aload_n 0, 1) := by decide +kernel
theorem dX11_needRow_3 : decode cX11_needRow 3 = .ok (.getfield 23, 3) := by decide +kernel
theorem dX11_needRow_6 : decode cX11_needRow 6 = .ok (.getfield 532, 3) := by decide +kernel
theorem dX11_needRow_9 : decode cX11_needRow 9 = .ok (.iconst 1, 1) := by decide +kernel
theorem dX11_needRow_10 : decode cX11_needRow 10 = .ok (.isub, 1) := by decide +kernel
theorem dX11_needRow_11 : decode cX11_needRow 11 = .ok (.invokestatic 58, 3) := by decide +kernel
theorem dX11_needRow_14 : decode cX11_needRow 14 = .ok (.ifCond .ne 14, 3) := by decide +kernel
theorem dX11_needRow_17 : decode cX11_needRow 17 = .ok (.new 134, 3) := by decide +kernel
theorem dX11_needRow_20 : decode cX11_needRow 20 = .ok (.dup, 1) := by decide +kernel
theorem dX11_needRow_21 : decode cX11_needRow 21 = .ok (.ldc_w 564, 3) := by decide +kernel
theorem dX11_needRow_24 : decode cX11_needRow 24 = .ok (.invokespecial 138, 3) := by decide +kernel
theorem dX11_needRow_27 : decode cX11_needRow 27 = .ok (.athrow, 1) := by decide +kernel
theorem dX11_needRow_28 : decode cX11_needRow 28 = .ok (.return_, 1) := by decide +kernel
theorem dX11_needVote_0 : decode cX11_needVote 0 = .ok (.aload_n 0, 1) := by decide +kernel
theorem dX11_needVote_1 : decode cX11_needVote 1 = .ok (.getfield 30, 3) := by decide +kernel
theorem dX11_needVote_4 : decode cX11_needVote 4 = .ok (.getfield 284, 3) := by decide +kernel
theorem dX11_needVote_7 : decode cX11_needVote 7 = .ok (.ifCond .ne 14, 3) := by decide +kernel
theorem dX11_needVote_10 : decode cX11_needVote 10 = .ok (.new 69, 3) := by decide +kernel
theorem dX11_needVote_13 : decode cX11_needVote 13 = .ok (.dup, 1) := by decide +kernel
theorem dX11_needVote_14 : decode cX11_needVote 14 = .ok (.ldc_w 568, 3) := by decide +kernel
theorem dX11_needVote_17 : decode cX11_needVote 17 = .ok (.invokespecial 73, 3) := by decide +kernel
theorem dX11_needVote_20 : decode cX11_needVote 20 = .ok (.athrow, 1) := by decide +kernel
theorem dX11_needVote_21 : decode cX11_needVote 21 = .ok (.return_, 1) := by decide +kernel
theorem dX11_layer_0 : decode cX11_layer 0 = .ok (.aload_n 0, 1) := by decide +kernel
theorem dX11_layer_1 : decode cX11_layer 1 = .ok (.iload_n 1, 1) := by decide +kernel
theorem dX11_layer_2 : decode cX11_layer 2 = .ok (.invokevirtual 167, 3) := by decide +kernel
theorem dX11_layer_5 : decode cX11_layer 5 = .ok (.astore 4, 2) := by decide +kernel
theorem dX11_layer_7 : decode cX11_layer 7 = .ok (.iload_n 2, 1) := by decide +kernel
theorem dX11_layer_8 : decode cX11_layer 8 = .ok (.iconst 1, 1) := by decide +kernel
theorem dX11_layer_9 : decode cX11_layer 9 = .ok (.sipush 300, 3) := by decide +kernel
theorem dX11_layer_12 : decode cX11_layer 12 = .ok (.invokestatic 58, 3) := by decide +kernel
theorem dX11_layer_15 : decode cX11_layer 15 = .ok (.ifCond .eq 17, 3) := by decide +kernel
theorem dX11_layer_18 : decode cX11_layer 18 = .ok (.iload_n 3, 1) := by decide +kernel
theorem dX11_layer_19 : decode cX11_layer 19 = .ok (.iconst 0, 1) := by decide +kernel
theorem dX11_layer_20 : decode cX11_layer 20 = .ok (.bipush 9, 2) := by decide +kernel
theorem dX11_layer_22 : decode cX11_layer 22 = .ok (.invokestatic 58, 3) := by decide +kernel
theorem dX11_layer_25 : decode cX11_layer 25 = .ok (.ifCond .eq 7, 3) := by decide +kernel
theorem dX11_layer_28 : decode cX11_layer 28 = .ok (.iconst 1, 1) := by decide +kernel
theorem dX11_layer_29 : decode cX11_layer 29 = .ok (.goto 4, 3) := by decide +kernel
theorem dX11_layer_32 : decode cX11_layer 32 = .ok (.iconst 0, 1) := by decide +kernel
theorem dX11_layer_33 : decode cX11_layer 33 = .ok (.invokestatic 62, 3) := by decide +kernel
theorem dX11_layer_36 : decode cX11_layer 36 = .ok (.aload 4, 2) := by decide +kernel
theorem dX11_layer_38 : decode cX11_layer 38 = .ok (.invokevirtual 171, 3) := by decide +kernel
theorem dX11_layer_41 : decode cX11_layer 41 = .ok (.invokestatic 177, 3) := by decide +kernel
theorem dX11_layer_44 : decode cX11_layer 44 = .ok (.aload 4, 2) := by decide +kernel
theorem dX11_layer_46 : decode cX11_layer 46 = .ok (.invokevirtual 180, 3) := by decide +kernel
theorem dX11_layer_49 : decode cX11_layer 49 = .ok (.ifCond .ne 5, 3) := by decide +kernel
theorem dX11_layer_52 : decode cX11_layer 52 = .ok (.iconst (-1), 1) := by decide +kernel
theorem dX11_layer_53 : decode cX11_layer 53 = .ok (.ireturn, 1) := by decide +kernel
theorem dX11_layer_54 : decode cX11_layer 54 = .ok (.aload_n 0, 1) := by decide +kernel
theorem dX11_layer_55 : decode cX11_layer 55 = .ok (.getfield 23, 3) := by decide +kernel
theorem dX11_layer_58 : decode cX11_layer 58 = .ok (.invokevirtual 76, 3) := by decide +kernel
theorem dX11_layer_61 : decode cX11_layer 61 = .ok (.aload 4, 2) := by decide +kernel
theorem dX11_layer_63 : decode cX11_layer 63 = .ok (.iload_n 2, 1) := by decide +kernel
theorem dX11_layer_64 : decode cX11_layer 64 = .ok (.iload_n 3, 1) := by decide +kernel
theorem dX11_layer_65 : decode cX11_layer 65 = .ok (.invokevirtual 183, 3) := by decide +kernel
theorem dX11_layer_68 : decode cX11_layer 68 = .ok (.aload 4, 2) := by decide +kernel
theorem dX11_layer_70 : decode cX11_layer 70 = .ok (.getfield 187, 3) := by decide +kernel
theorem dX11_layer_73 : decode cX11_layer 73 = .ok (.ireturn, 1) := by decide +kernel
theorem dX11_turn_0 : decode cX11_turn 0 = .ok (.aload_n 0, 1) := by decide +kernel
theorem dX11_turn_1 : decode cX11_turn 1 = .ok (.iload_n 1, 1) := by decide +kernel
theorem dX11_turn_2 : decode cX11_turn 2 = .ok (.invokevirtual 167, 3) := by decide +kernel
theorem dX11_turn_5 : decode cX11_turn 5 = .ok (.astore_n 3, 1) := by decide +kernel
theorem dX11_turn_6 : decode cX11_turn 6 = .ok (.aload_n 3, 1) := by decide +kernel
theorem dX11_turn_7 : decode cX11_turn 7 = .ok (.getfield 194, 3) := by decide +kernel
theorem dX11_turn_10 : decode cX11_turn 10 = .ok (.iconst 3, 1) := by decide +kernel
theorem dX11_turn_11 : decode cX11_turn 11 = .ok (.if_icmp .eq 11, 3) := by decide +kernel
theorem dX11_turn_14 : decode cX11_turn 14 = .ok (.aload_n 3, 1) := by decide +kernel
theorem dX11_turn_15 : decode cX11_turn 15 = .ok (.getfield 194, 3) := by decide +kernel
theorem dX11_turn_18 : decode cX11_turn 18 = .ok (.iconst 4, 1) := by decide +kernel
theorem dX11_turn_19 : decode cX11_turn 19 = .ok (.if_icmp .ne 7, 3) := by decide +kernel
theorem dX11_turn_22 : decode cX11_turn 22 = .ok (.iconst 1, 1) := by decide +kernel
theorem dX11_turn_23 : decode cX11_turn 23 = .ok (.goto 4, 3) := by decide +kernel
theorem dX11_turn_26 : decode cX11_turn 26 = .ok (.iconst 0, 1) := by decide +kernel
theorem dX11_turn_27 : decode cX11_turn 27 = .ok (.invokestatic 177, 3) := by decide +kernel
theorem dX11_turn_30 : decode cX11_turn 30 = .ok (.aload_n 0, 1) := by decide +kernel
theorem dX11_turn_31 : decode cX11_turn 31 = .ok (.getfield 23, 3) := by decide +kernel
theorem dX11_turn_34 : decode cX11_turn 34 = .ok (.invokevirtual 76, 3) := by decide +kernel
theorem dX11_turn_37 : decode cX11_turn 37 = .ok (.aload_n 3, 1) := by decide +kernel
theorem dX11_turn_38 : decode cX11_turn 38 = .ok (.getfield 197, 3) := by decide +kernel
theorem dX11_turn_41 : decode cX11_turn 41 = .ok (.iload_n 2, 1) := by decide +kernel
theorem dX11_turn_42 : decode cX11_turn 42 = .ok (.if_icmp .eq 7, 3) := by decide +kernel
theorem dX11_turn_45 : decode cX11_turn 45 = .ok (.iconst 1, 1) := by decide +kernel
theorem dX11_turn_46 : decode cX11_turn 46 = .ok (.goto 4, 3) := by decide +kernel
theorem dX11_turn_49 : decode cX11_turn 49 = .ok (.iconst 0, 1) := by decide +kernel
theorem dX11_turn_50 : decode cX11_turn 50 = .ok (.istore 4, 2) := by decide +kernel
theorem dX11_turn_52 : decode cX11_turn 52 = .ok (.aload_n 3, 1) := by decide +kernel
theorem dX11_turn_53 : decode cX11_turn 53 = .ok (.iload_n 2, 1) := by decide +kernel
theorem dX11_turn_54 : decode cX11_turn 54 = .ok (.putfield 197, 3) := by decide +kernel
theorem dX11_turn_57 : decode cX11_turn 57 = .ok (.iload 4, 2) := by decide +kernel
theorem dX11_turn_59 : decode cX11_turn 59 = .ok (.ireturn, 1) := by decide +kernel
theorem dX11_coal_0 : decode cX11_coal 0 = .ok (.aload_n 0, 1) := by decide +kernel
theorem dX11_coal_1 : decode cX11_coal 1 = .ok (.iload_n 1, 1) := by decide +kernel
theorem dX11_coal_2 : decode cX11_coal 2 = .ok (.invokevirtual 167, 3) := by decide +kernel
theorem dX11_coal_5 : decode cX11_coal 5 = .ok (.astore_n 3, 1) := by decide +kernel
theorem dX11_coal_6 : decode cX11_coal 6 = .ok (.iload_n 2, 1) := by decide +kernel
theorem dX11_coal_7 : decode cX11_coal 7 = .ok (.iconst 0, 1) := by decide +kernel
theorem dX11_coal_8 : decode cX11_coal 8 = .ok (.sipush 10000, 3) := by decide +kernel
theorem dX11_coal_11 : decode cX11_coal 11 = .ok (.invokestatic 58, 3) := by decide +kernel
theorem dX11_coal_14 : decode cX11_coal 14 = .ok (.ifCond .eq 18, 3) := by decide +kernel
theorem dX11_coal_17 : decode cX11_coal 17 = .ok (.aload_n 3, 1) := by decide +kernel
theorem dX11_coal_18 : decode cX11_coal 18 = .ok (.getfield 201, 3) := by decide +kernel
theorem dX11_coal_21 : decode cX11_coal 21 = .ok (.iload_n 2, 1) := by decide +kernel
theorem dX11_coal_22 : decode cX11_coal 22 = .ok (.iadd, 1) := by decide +kernel
theorem dX11_coal_23 : decode cX11_coal 23 = .ok (.ldc 96, 2) := by decide +kernel
theorem dX11_coal_25 : decode cX11_coal 25 = .ok (.if_icmp .gt 7, 3) := by decide +kernel
theorem dX11_coal_28 : decode cX11_coal 28 = .ok (.iconst 1, 1) := by decide +kernel
theorem dX11_coal_29 : decode cX11_coal 29 = .ok (.goto 4, 3) := by decide +kernel
theorem dX11_coal_32 : decode cX11_coal 32 = .ok (.iconst 0, 1) := by decide +kernel
theorem dX11_coal_33 : decode cX11_coal 33 = .ok (.invokestatic 62, 3) := by decide +kernel
theorem dX11_coal_36 : decode cX11_coal 36 = .ok (.aload_n 3, 1) := by decide +kernel
theorem dX11_coal_37 : decode cX11_coal 37 = .ok (.getfield 194, 3) := by decide +kernel
theorem dX11_coal_40 : decode cX11_coal 40 = .ok (.iconst 3, 1) := by decide +kernel
theorem dX11_coal_41 : decode cX11_coal 41 = .ok (.if_icmp .ne 7, 3) := by decide +kernel
theorem dX11_coal_44 : decode cX11_coal 44 = .ok (.iconst 1, 1) := by decide +kernel
theorem dX11_coal_45 : decode cX11_coal 45 = .ok (.goto 4, 3) := by decide +kernel
theorem dX11_coal_48 : decode cX11_coal 48 = .ok (.iconst 0, 1) := by decide +kernel
theorem dX11_coal_49 : decode cX11_coal 49 = .ok (.invokestatic 177, 3) := by decide +kernel
theorem dX11_coal_52 : decode cX11_coal 52 = .ok (.aload_n 0, 1) := by decide +kernel
theorem dX11_coal_53 : decode cX11_coal 53 = .ok (.getfield 23, 3) := by decide +kernel
theorem dX11_coal_56 : decode cX11_coal 56 = .ok (.invokevirtual 76, 3) := by decide +kernel
theorem dX11_coal_59 : decode cX11_coal 59 = .ok (.aload_n 3, 1) := by decide +kernel
theorem dX11_coal_60 : decode cX11_coal 60 = .ok (.dup, 1) := by decide +kernel
theorem dX11_coal_61 : decode cX11_coal 61 = .ok (.getfield 201, 3) := by decide +kernel
theorem dX11_coal_64 : decode cX11_coal 64 = .ok (.iload_n 2, 1) := by decide +kernel
theorem dX11_coal_65 : decode cX11_coal 65 = .ok (.iadd, 1) := by decide +kernel
theorem dX11_coal_66 : decode cX11_coal 66 = .ok (.putfield 201, 3) := by decide +kernel
theorem dX11_coal_69 : decode cX11_coal 69 = .ok (.aload_n 3, 1) := by decide +kernel
theorem dX11_coal_70 : decode cX11_coal 70 = .ok (.getfield 201, 3) := by decide +kernel
theorem dX11_coal_73 : decode cX11_coal 73 = .ok (.ireturn, 1) := by decide +kernel
theorem dX11_work_0 : decode cX11_work 0 = .ok (.aload_n 0, 1) := by decide +kernel
theorem dX11_work_1 : decode cX11_work 1 = .ok (.iload_n 1, 1) := by decide +kernel
theorem dX11_work_2 : decode cX11_work 2 = .ok (.invokevirtual 167, 3) := by decide +kernel
theorem dX11_work_5 : decode cX11_work 5 = .ok (.astore_n 3, 1) := by decide +kernel
theorem dX11_work_6 : decode cX11_work 6 = .ok (.iload_n 2, 1) := by decide +kernel
theorem dX11_work_7 : decode cX11_work 7 = .ok (.tableswitch 119 0 7 #[45, 50, 55, 68, 73, 78, 87, 106], 45) := by decide +kernel
theorem dX11_work_52 : decode cX11_work 52 = .ok (.aload_n 3, 1) := by decide +kernel
theorem dX11_work_53 : decode cX11_work 53 = .ok (.getfield 194, 3) := by decide +kernel
theorem dX11_work_56 : decode cX11_work 56 = .ok (.ireturn, 1) := by decide +kernel
theorem dX11_work_57 : decode cX11_work 57 = .ok (.aload_n 3, 1) := by decide +kernel
theorem dX11_work_58 : decode cX11_work 58 = .ok (.getfield 204, 3) := by decide +kernel
theorem dX11_work_61 : decode cX11_work 61 = .ok (.ireturn, 1) := by decide +kernel
theorem dX11_work_62 : decode cX11_work 62 = .ok (.aload_n 3, 1) := by decide +kernel
theorem dX11_work_63 : decode cX11_work 63 = .ok (.getfield 194, 3) := by decide +kernel
theorem dX11_work_66 : decode cX11_work 66 = .ok (.ifCond .ne 7, 3) := by decide +kernel
theorem dX11_work_69 : decode cX11_work 69 = .ok (.iconst 1, 1) := by decide +kernel
theorem dX11_work_70 : decode cX11_work 70 = .ok (.goto 4, 3) := by decide +kernel
theorem dX11_work_73 : decode cX11_work 73 = .ok (.iconst 0, 1) := by decide +kernel
theorem dX11_work_74 : decode cX11_work 74 = .ok (.ireturn, 1) := by decide +kernel
theorem dX11_work_75 : decode cX11_work 75 = .ok (.aload_n 3, 1) := by decide +kernel
theorem dX11_work_76 : decode cX11_work 76 = .ok (.getfield 207, 3) := by decide +kernel
theorem dX11_work_79 : decode cX11_work 79 = .ok (.ireturn, 1) := by decide +kernel
theorem dX11_work_80 : decode cX11_work 80 = .ok (.aload_n 3, 1) := by decide +kernel
theorem dX11_work_81 : decode cX11_work 81 = .ok (.getfield 210, 3) := by decide +kernel
theorem dX11_work_84 : decode cX11_work 84 = .ok (.ireturn, 1) := by decide +kernel
theorem dX11_work_85 : decode cX11_work 85 = .ok (.aload_n 0, 1) := by decide +kernel
theorem dX11_work_86 : decode cX11_work 86 = .ok (.getfield 16, 3) := by decide +kernel
theorem dX11_work_89 : decode cX11_work 89 = .ok (.aload_n 3, 1) := by decide +kernel
theorem dX11_work_90 : decode cX11_work 90 = .ok (.invokevirtual 213, 3) := by decide +kernel
theorem dX11_work_93 : decode cX11_work 93 = .ok (.ireturn, 1) := by decide +kernel
theorem dX11_work_94 : decode cX11_work 94 = .ok (.aload_n 3, 1) := by decide +kernel
theorem dX11_work_95 : decode cX11_work 95 = .ok (.invokevirtual 171, 3) := by decide +kernel
theorem dX11_work_98 : decode cX11_work 98 = .ok (.ifCond .eq 10, 3) := by decide +kernel
theorem dX11_work_101 : decode cX11_work 101 = .ok (.aload_n 3, 1) := by decide +kernel
theorem dX11_work_102 : decode cX11_work 102 = .ok (.getfield 187, 3) := by decide +kernel
theorem dX11_work_105 : decode cX11_work 105 = .ok (.goto 7, 3) := by decide +kernel
theorem dX11_work_108 : decode cX11_work 108 = .ok (.aload_n 3, 1) := by decide +kernel
theorem dX11_work_109 : decode cX11_work 109 = .ok (.getfield 201, 3) := by decide +kernel
theorem dX11_work_112 : decode cX11_work 112 = .ok (.ireturn, 1) := by decide +kernel
theorem dX11_work_113 : decode cX11_work 113 = .ok (.aload_n 3, 1) := by decide +kernel
theorem dX11_work_114 : decode cX11_work 114 = .ok (.getfield 197, 3) := by decide +kernel
theorem dX11_work_117 : decode cX11_work 117 = .ok (.ifCond .eq 7, 3) := by decide +kernel
theorem dX11_work_120 : decode cX11_work 120 = .ok (.iconst 1, 1) := by decide +kernel
theorem dX11_work_121 : decode cX11_work 121 = .ok (.goto 4, 3) := by decide +kernel
theorem dX11_work_124 : decode cX11_work 124 = .ok (.iconst 0, 1) := by decide +kernel
theorem dX11_work_125 : decode cX11_work 125 = .ok (.ireturn, 1) := by decide +kernel
theorem dX11_work_126 : decode cX11_work 126 = .ok (.new 134, 3) := by decide +kernel
theorem dX11_work_129 : decode cX11_work 129 = .ok (.dup, 1) := by decide +kernel
theorem dX11_work_130 : decode cX11_work 130 = .ok (.ldc 217, 2) := by decide +kernel
theorem dX11_work_132 : decode cX11_work 132 = .ok (.invokespecial 138, 3) := by decide +kernel
theorem dX11_work_135 : decode cX11_work 135 = .ok (.athrow, 1) := by decide +kernel
theorem dX11_seep_0 : decode cX11_seep 0 = .ok (.aload_n 0, 1) := by decide +kernel
theorem dX11_seep_1 : decode cX11_seep 1 = .ok (.iload_n 1, 1) := by decide +kernel
theorem dX11_seep_2 : decode cX11_seep 2 = .ok (.invokevirtual 167, 3) := by decide +kernel
theorem dX11_seep_5 : decode cX11_seep 5 = .ok (.astore_n 3, 1) := by decide +kernel
theorem dX11_seep_6 : decode cX11_seep 6 = .ok (.iload_n 2, 1) := by decide +kernel
theorem dX11_seep_7 : decode cX11_seep 7 = .ok (.sipush (-1000), 3) := by decide +kernel
theorem dX11_seep_10 : decode cX11_seep 10 = .ok (.sipush 1000, 3) := by decide +kernel
theorem dX11_seep_13 : decode cX11_seep 13 = .ok (.invokestatic 58, 3) := by decide +kernel
theorem dX11_seep_16 : decode cX11_seep 16 = .ok (.invokestatic 62, 3) := by decide +kernel
theorem dX11_seep_19 : decode cX11_seep 19 = .ok (.aload_n 3, 1) := by decide +kernel
theorem dX11_seep_20 : decode cX11_seep 20 = .ok (.invokevirtual 171, 3) := by decide +kernel
theorem dX11_seep_23 : decode cX11_seep 23 = .ok (.invokestatic 177, 3) := by decide +kernel
theorem dX11_seep_26 : decode cX11_seep 26 = .ok (.aload_n 3, 1) := by decide +kernel
theorem dX11_seep_27 : decode cX11_seep 27 = .ok (.getfield 194, 3) := by decide +kernel
theorem dX11_seep_30 : decode cX11_seep 30 = .ok (.iconst 1, 1) := by decide +kernel
theorem dX11_seep_31 : decode cX11_seep 31 = .ok (.if_icmp .ne 7, 3) := by decide +kernel
theorem dX11_seep_34 : decode cX11_seep 34 = .ok (.iconst 0, 1) := by decide +kernel
theorem dX11_seep_35 : decode cX11_seep 35 = .ok (.goto 12, 3) := by decide +kernel
theorem dX11_seep_38 : decode cX11_seep 38 = .ok (.aload_n 0, 1) := by decide +kernel
theorem dX11_seep_39 : decode cX11_seep 39 = .ok (.getfield 16, 3) := by decide +kernel
theorem dX11_seep_42 : decode cX11_seep 42 = .ok (.aload_n 3, 1) := by decide +kernel
theorem dX11_seep_43 : decode cX11_seep 43 = .ok (.iload_n 2, 1) := by decide +kernel
theorem dX11_seep_44 : decode cX11_seep 44 = .ok (.invokevirtual 219, 3) := by decide +kernel
theorem dX11_seep_47 : decode cX11_seep 47 = .ok (.ireturn, 1) := by decide +kernel
theorem dX11_shut_0 : decode cX11_shut 0 = .ok (.aload_n 0, 1) := by decide +kernel
theorem dX11_shut_1 : decode cX11_shut 1 = .ok (.iload_n 1, 1) := by decide +kernel
theorem dX11_shut_2 : decode cX11_shut 2 = .ok (.invokevirtual 167, 3) := by decide +kernel
theorem dX11_shut_5 : decode cX11_shut 5 = .ok (.astore_n 2, 1) := by decide +kernel
theorem dX11_shut_6 : decode cX11_shut 6 = .ok (.aload_n 2, 1) := by decide +kernel
theorem dX11_shut_7 : decode cX11_shut 7 = .ok (.getfield 194, 3) := by decide +kernel
theorem dX11_shut_10 : decode cX11_shut 10 = .ok (.iconst 1, 1) := by decide +kernel
theorem dX11_shut_11 : decode cX11_shut 11 = .ok (.if_icmp .ne 7, 3) := by decide +kernel
theorem dX11_shut_14 : decode cX11_shut 14 = .ok (.iconst 1, 1) := by decide +kernel
theorem dX11_shut_15 : decode cX11_shut 15 = .ok (.goto 4, 3) := by decide +kernel
theorem dX11_shut_18 : decode cX11_shut 18 = .ok (.iconst 0, 1) := by decide +kernel
theorem dX11_shut_19 : decode cX11_shut 19 = .ok (.invokestatic 177, 3) := by decide +kernel
theorem dX11_shut_22 : decode cX11_shut 22 = .ok (.aload_n 0, 1) := by decide +kernel
theorem dX11_shut_23 : decode cX11_shut 23 = .ok (.getfield 23, 3) := by decide +kernel
theorem dX11_shut_26 : decode cX11_shut 26 = .ok (.invokevirtual 76, 3) := by decide +kernel
theorem dX11_shut_29 : decode cX11_shut 29 = .ok (.aload_n 2, 1) := by decide +kernel
theorem dX11_shut_30 : decode cX11_shut 30 = .ok (.iconst 0, 1) := by decide +kernel
theorem dX11_shut_31 : decode cX11_shut 31 = .ok (.putfield 194, 3) := by decide +kernel
theorem dX11_shut_34 : decode cX11_shut 34 = .ok (.iconst 1, 1) := by decide +kernel
theorem dX11_shut_35 : decode cX11_shut 35 = .ok (.ireturn, 1) := by decide +kernel
theorem dX11_soonest_0 : decode cX11_soonest 0 = .ok (.aload_n 0, 1) := by decide +kernel
theorem dX11_soonest_1 : decode cX11_soonest 1 = .ok (.iload_n 1, 1) := by decide +kernel
theorem dX11_soonest_2 : decode cX11_soonest 2 = .ok (.invokevirtual 167, 3) := by decide +kernel
theorem dX11_soonest_5 : decode cX11_soonest 5 = .ok (.astore 4, 2) := by decide +kernel
theorem dX11_soonest_7 : decode cX11_soonest 7 = .ok (.iload_n 2, 1) := by decide +kernel
theorem dX11_soonest_8 : decode cX11_soonest 8 = .ok (.iconst 1, 1) := by decide +kernel
theorem dX11_soonest_9 : decode cX11_soonest 9 = .ok (.bipush 60, 2) := by decide +kernel
theorem dX11_soonest_11 : decode cX11_soonest 11 = .ok (.invokestatic 58, 3) := by decide +kernel
theorem dX11_soonest_14 : decode cX11_soonest 14 = .ok (.ifCond .eq 20, 3) := by decide +kernel
theorem dX11_soonest_17 : decode cX11_soonest 17 = .ok (.iload_n 3, 1) := by decide +kernel
theorem dX11_soonest_18 : decode cX11_soonest 18 = .ok (.sipush (-1000), 3) := by decide +kernel
theorem dX11_soonest_21 : decode cX11_soonest 21 = .ok (.sipush 1000, 3) := by decide +kernel
theorem dX11_soonest_24 : decode cX11_soonest 24 = .ok (.invokestatic 58, 3) := by decide +kernel
theorem dX11_soonest_27 : decode cX11_soonest 27 = .ok (.ifCond .eq 7, 3) := by decide +kernel
theorem dX11_soonest_30 : decode cX11_soonest 30 = .ok (.iconst 1, 1) := by decide +kernel
theorem dX11_soonest_31 : decode cX11_soonest 31 = .ok (.goto 4, 3) := by decide +kernel
theorem dX11_soonest_34 : decode cX11_soonest 34 = .ok (.iconst 0, 1) := by decide +kernel
theorem dX11_soonest_35 : decode cX11_soonest 35 = .ok (.invokestatic 62, 3) := by decide +kernel
theorem dX11_soonest_38 : decode cX11_soonest 38 = .ok (.aload 4, 2) := by decide +kernel
theorem dX11_soonest_40 : decode cX11_soonest 40 = .ok (.getfield 194, 3) := by decide +kernel
theorem dX11_soonest_43 : decode cX11_soonest 43 = .ok (.iconst 1, 1) := by decide +kernel
theorem dX11_soonest_44 : decode cX11_soonest 44 = .ok (.if_icmp .ne 7, 3) := by decide +kernel
theorem dX11_soonest_47 : decode cX11_soonest 47 = .ok (.iconst 1, 1) := by decide +kernel
theorem dX11_soonest_48 : decode cX11_soonest 48 = .ok (.goto 4, 3) := by decide +kernel
theorem dX11_soonest_51 : decode cX11_soonest 51 = .ok (.iconst 0, 1) := by decide +kernel
theorem dX11_soonest_52 : decode cX11_soonest 52 = .ok (.invokestatic 177, 3) := by decide +kernel
theorem dX11_soonest_55 : decode cX11_soonest 55 = .ok (.aload_n 0, 1) := by decide +kernel
theorem dX11_soonest_56 : decode cX11_soonest 56 = .ok (.getfield 43, 3) := by decide +kernel
theorem dX11_soonest_59 : decode cX11_soonest 59 = .ok (.aload_n 0, 1) := by decide +kernel
theorem dX11_soonest_60 : decode cX11_soonest 60 = .ok (.getfield 16, 3) := by decide +kernel
theorem dX11_soonest_63 : decode cX11_soonest 63 = .ok (.aload 4, 2) := by decide +kernel
theorem dX11_soonest_65 : decode cX11_soonest 65 = .ok (.getfield 467, 3) := by decide +kernel
theorem dX11_soonest_68 : decode cX11_soonest 68 = .ok (.iload_n 2, 1) := by decide +kernel
theorem dX11_soonest_69 : decode cX11_soonest 69 = .ok (.iload_n 3, 1) := by decide +kernel
theorem dX11_soonest_70 : decode cX11_soonest 70 = .ok (.invokevirtual 470, 3) := by decide +kernel
theorem dX11_soonest_73 : decode cX11_soonest 73 = .ok (.ireturn, 1) := by decide +kernel
theorem dX11_contract_0 : decode cX11_contract 0 = .ok (.aload_n 0, 1) := by decide +kernel
theorem dX11_contract_1 : decode cX11_contract 1 = .ok (.iload_n 1, 1) := by decide +kernel
theorem dX11_contract_2 : decode cX11_contract 2 = .ok (.invokevirtual 167, 3) := by decide +kernel
theorem dX11_contract_5 : decode cX11_contract 5 = .ok (.astore 5, 2) := by decide +kernel
theorem dX11_contract_7 : decode cX11_contract 7 = .ok (.iload_n 2, 1) := by decide +kernel
theorem dX11_contract_8 : decode cX11_contract 8 = .ok (.iconst 0, 1) := by decide +kernel
theorem dX11_contract_9 : decode cX11_contract 9 = .ok (.bipush 9, 2) := by decide +kernel
theorem dX11_contract_11 : decode cX11_contract 11 = .ok (.invokestatic 58, 3) := by decide +kernel
theorem dX11_contract_14 : decode cX11_contract 14 = .ok (.ifCond .eq 30, 3) := by decide +kernel
theorem dX11_contract_17 : decode cX11_contract 17 = .ok (.iload_n 3, 1) := by decide +kernel
theorem dX11_contract_18 : decode cX11_contract 18 = .ok (.iconst 1, 1) := by decide +kernel
theorem dX11_contract_19 : decode cX11_contract 19 = .ok (.sipush 1000, 3) := by decide +kernel
theorem dX11_contract_22 : decode cX11_contract 22 = .ok (.invokestatic 58, 3) := by decide +kernel
theorem dX11_contract_25 : decode cX11_contract 25 = .ok (.ifCond .eq 19, 3) := by decide +kernel
theorem dX11_contract_28 : decode cX11_contract 28 = .ok (.iload 4, 2) := by decide +kernel
theorem dX11_contract_30 : decode cX11_contract 30 = .ok (.iconst 0, 1) := by decide +kernel
theorem dX11_contract_31 : decode cX11_contract 31 = .ok (.sipush 200, 3) := by decide +kernel
theorem dX11_contract_34 : decode cX11_contract 34 = .ok (.invokestatic 58, 3) := by decide +kernel
theorem dX11_contract_37 : decode cX11_contract 37 = .ok (.ifCond .eq 7, 3) := by decide +kernel
theorem dX11_contract_40 : decode cX11_contract 40 = .ok (.iconst 1, 1) := by decide +kernel
theorem dX11_contract_41 : decode cX11_contract 41 = .ok (.goto 4, 3) := by decide +kernel
theorem dX11_contract_44 : decode cX11_contract 44 = .ok (.iconst 0, 1) := by decide +kernel
theorem dX11_contract_45 : decode cX11_contract 45 = .ok (.invokestatic 62, 3) := by decide +kernel
theorem dX11_contract_48 : decode cX11_contract 48 = .ok (.aload 5, 2) := by decide +kernel
theorem dX11_contract_50 : decode cX11_contract 50 = .ok (.invokevirtual 171, 3) := by decide +kernel
theorem dX11_contract_53 : decode cX11_contract 53 = .ok (.invokestatic 177, 3) := by decide +kernel
theorem dX11_contract_56 : decode cX11_contract 56 = .ok (.aload_n 0, 1) := by decide +kernel
theorem dX11_contract_57 : decode cX11_contract 57 = .ok (.getfield 414, 3) := by decide +kernel
theorem dX11_contract_60 : decode cX11_contract 60 = .ok (.bipush 40, 2) := by decide +kernel
theorem dX11_contract_62 : decode cX11_contract 62 = .ok (.if_icmp .ne 5, 3) := by decide +kernel
theorem dX11_contract_65 : decode cX11_contract 65 = .ok (.iconst (-1), 1) := by decide +kernel
theorem dX11_contract_66 : decode cX11_contract 66 = .ok (.ireturn, 1) := by decide +kernel
theorem dX11_contract_67 : decode cX11_contract 67 = .ok (.aload_n 0, 1) := by decide +kernel
theorem dX11_contract_68 : decode cX11_contract 68 = .ok (.getfield 36, 3) := by decide +kernel
theorem dX11_contract_71 : decode cX11_contract 71 = .ok (.aload_n 0, 1) := by decide +kernel
theorem dX11_contract_72 : decode cX11_contract 72 = .ok (.getfield 414, 3) := by decide +kernel
theorem dX11_contract_75 : decode cX11_contract 75 = .ok (.new 34, 3) := by decide +kernel
theorem dX11_contract_78 : decode cX11_contract 78 = .ok (.dup, 1) := by decide +kernel
theorem dX11_contract_79 : decode cX11_contract 79 = .ok (.iload_n 1, 1) := by decide +kernel
theorem dX11_contract_80 : decode cX11_contract 80 = .ok (.iload_n 2, 1) := by decide +kernel
theorem dX11_contract_81 : decode cX11_contract 81 = .ok (.iload_n 3, 1) := by decide +kernel
theorem dX11_contract_82 : decode cX11_contract 82 = .ok (.iload 4, 2) := by decide +kernel
theorem dX11_contract_84 : decode cX11_contract 84 = .ok (.invokespecial 417, 3) := by decide +kernel
theorem dX11_contract_87 : decode cX11_contract 87 = .ok (.aastore, 1) := by decide +kernel
theorem dX11_contract_88 : decode cX11_contract 88 = .ok (.aload_n 0, 1) := by decide +kernel
theorem dX11_contract_89 : decode cX11_contract 89 = .ok (.dup, 1) := by decide +kernel
theorem dX11_contract_90 : decode cX11_contract 90 = .ok (.getfield 414, 3) := by decide +kernel
theorem dX11_contract_93 : decode cX11_contract 93 = .ok (.iconst 1, 1) := by decide +kernel
theorem dX11_contract_94 : decode cX11_contract 94 = .ok (.iadd, 1) := by decide +kernel
theorem dX11_contract_95 : decode cX11_contract 95 = .ok (.putfield 414, 3) := by decide +kernel
theorem dX11_contract_98 : decode cX11_contract 98 = .ok (.aload_n 0, 1) := by decide +kernel
theorem dX11_contract_99 : decode cX11_contract 99 = .ok (.getfield 414, 3) := by decide +kernel
theorem dX11_contract_102 : decode cX11_contract 102 = .ok (.iconst 1, 1) := by decide +kernel
theorem dX11_contract_103 : decode cX11_contract 103 = .ok (.isub, 1) := by decide +kernel
theorem dX11_contract_104 : decode cX11_contract 104 = .ok (.ireturn, 1) := by decide +kernel
theorem dX11_vote_0 : decode cX11_vote 0 = .ok (.aload_n 0, 1) := by decide +kernel
theorem dX11_vote_1 : decode cX11_vote 1 = .ok (.iload_n 1, 1) := by decide +kernel
theorem dX11_vote_2 : decode cX11_vote 2 = .ok (.invokevirtual 292, 3) := by decide +kernel
theorem dX11_vote_5 : decode cX11_vote 5 = .ok (.astore_n 3, 1) := by decide +kernel
theorem dX11_vote_6 : decode cX11_vote 6 = .ok (.aload_n 0, 1) := by decide +kernel
theorem dX11_vote_7 : decode cX11_vote 7 = .ok (.invokevirtual 296, 3) := by decide +kernel
theorem dX11_vote_10 : decode cX11_vote 10 = .ok (.aload_n 0, 1) := by decide +kernel
theorem dX11_vote_11 : decode cX11_vote 11 = .ok (.getfield 30, 3) := by decide +kernel
theorem dX11_vote_14 : decode cX11_vote 14 = .ok (.aload_n 3, 1) := by decide +kernel
theorem dX11_vote_15 : decode cX11_vote 15 = .ok (.iload_n 2, 1) := by decide +kernel
theorem dX11_vote_16 : decode cX11_vote 16 = .ok (.aload_n 0, 1) := by decide +kernel
theorem dX11_vote_17 : decode cX11_vote 17 = .ok (.getfield 16, 3) := by decide +kernel
theorem dX11_vote_20 : decode cX11_vote 20 = .ok (.invokevirtual 299, 3) := by decide +kernel
theorem dX11_vote_23 : decode cX11_vote 23 = .ok (.ireturn, 1) := by decide +kernel
theorem dX11_rules_0 : decode cX11_rules 0 = .ok (.aload_n 0, 1) := by decide +kernel
theorem dX11_rules_1 : decode cX11_rules 1 = .ok (.iload_n 1, 1) := by decide +kernel
theorem dX11_rules_2 : decode cX11_rules 2 = .ok (.invokevirtual 292, 3) := by decide +kernel
theorem dX11_rules_5 : decode cX11_rules 5 = .ok (.astore_n 3, 1) := by decide +kernel
theorem dX11_rules_6 : decode cX11_rules 6 = .ok (.aload_n 0, 1) := by decide +kernel
theorem dX11_rules_7 : decode cX11_rules 7 = .ok (.getfield 30, 3) := by decide +kernel
theorem dX11_rules_10 : decode cX11_rules 10 = .ok (.aload_n 3, 1) := by decide +kernel
theorem dX11_rules_11 : decode cX11_rules 11 = .ok (.aload_n 0, 1) := by decide +kernel
theorem dX11_rules_12 : decode cX11_rules 12 = .ok (.getfield 16, 3) := by decide +kernel
theorem dX11_rules_15 : decode cX11_rules 15 = .ok (.invokevirtual 306, 3) := by decide +kernel
theorem dX11_rules_18 : decode cX11_rules 18 = .ok (.iload_n 2, 1) := by decide +kernel
theorem dX11_rules_19 : decode cX11_rules 19 = .ok (.tableswitch 107 0 5 #[37, 45, 54, 63, 72, 89], 37) := by decide +kernel
theorem dX11_rules_56 : decode cX11_rules 56 = .ok (.aload_n 0, 1) := by decide +kernel
theorem dX11_rules_57 : decode cX11_rules 57 = .ok (.getfield 30, 3) := by decide +kernel
theorem dX11_rules_60 : decode cX11_rules 60 = .ok (.invokevirtual 310, 3) := by decide +kernel
theorem dX11_rules_63 : decode cX11_rules 63 = .ok (.ireturn, 1) := by decide +kernel
theorem dX11_rules_64 : decode cX11_rules 64 = .ok (.aload_n 0, 1) := by decide +kernel
theorem dX11_rules_65 : decode cX11_rules 65 = .ok (.getfield 30, 3) := by decide +kernel
theorem dX11_rules_68 : decode cX11_rules 68 = .ok (.iconst 2, 1) := by decide +kernel
theorem dX11_rules_69 : decode cX11_rules 69 = .ok (.invokevirtual 313, 3) := by decide +kernel
theorem dX11_rules_72 : decode cX11_rules 72 = .ok (.ireturn, 1) := by decide +kernel
theorem dX11_rules_73 : decode cX11_rules 73 = .ok (.aload_n 0, 1) := by decide +kernel
theorem dX11_rules_74 : decode cX11_rules 74 = .ok (.getfield 30, 3) := by decide +kernel
theorem dX11_rules_77 : decode cX11_rules 77 = .ok (.iconst 3, 1) := by decide +kernel
theorem dX11_rules_78 : decode cX11_rules 78 = .ok (.invokevirtual 313, 3) := by decide +kernel
theorem dX11_rules_81 : decode cX11_rules 81 = .ok (.ireturn, 1) := by decide +kernel
theorem dX11_rules_82 : decode cX11_rules 82 = .ok (.aload_n 0, 1) := by decide +kernel
theorem dX11_rules_83 : decode cX11_rules 83 = .ok (.getfield 30, 3) := by decide +kernel
theorem dX11_rules_86 : decode cX11_rules 86 = .ok (.iconst 4, 1) := by decide +kernel
theorem dX11_rules_87 : decode cX11_rules 87 = .ok (.invokevirtual 313, 3) := by decide +kernel
theorem dX11_rules_90 : decode cX11_rules 90 = .ok (.ireturn, 1) := by decide +kernel
theorem dX11_rules_91 : decode cX11_rules 91 = .ok (.aload_n 0, 1) := by decide +kernel
theorem dX11_rules_92 : decode cX11_rules 92 = .ok (.getfield 30, 3) := by decide +kernel
theorem dX11_rules_95 : decode cX11_rules 95 = .ok (.iconst 5, 1) := by decide +kernel
theorem dX11_rules_96 : decode cX11_rules 96 = .ok (.invokevirtual 316, 3) := by decide +kernel
theorem dX11_rules_99 : decode cX11_rules 99 = .ok (.ifCond .eq 7, 3) := by decide +kernel
theorem dX11_rules_102 : decode cX11_rules 102 = .ok (.iconst 1, 1) := by decide +kernel
theorem dX11_rules_103 : decode cX11_rules 103 = .ok (.goto 4, 3) := by decide +kernel
theorem dX11_rules_106 : decode cX11_rules 106 = .ok (.iconst 0, 1) := by decide +kernel
theorem dX11_rules_107 : decode cX11_rules 107 = .ok (.ireturn, 1) := by decide +kernel
theorem dX11_rules_108 : decode cX11_rules 108 = .ok (.aload_n 0, 1) := by decide +kernel
theorem dX11_rules_109 : decode cX11_rules 109 = .ok (.getfield 30, 3) := by decide +kernel
theorem dX11_rules_112 : decode cX11_rules 112 = .ok (.bipush 6, 2) := by decide +kernel
theorem dX11_rules_114 : decode cX11_rules 114 = .ok (.invokevirtual 316, 3) := by decide +kernel
theorem dX11_rules_117 : decode cX11_rules 117 = .ok (.ifCond .eq 7, 3) := by decide +kernel
theorem dX11_rules_120 : decode cX11_rules 120 = .ok (.iconst 1, 1) := by decide +kernel
theorem dX11_rules_121 : decode cX11_rules 121 = .ok (.goto 4, 3) := by decide +kernel
theorem dX11_rules_124 : decode cX11_rules 124 = .ok (.iconst 0, 1) := by decide +kernel
theorem dX11_rules_125 : decode cX11_rules 125 = .ok (.ireturn, 1) := by decide +kernel
theorem dX11_rules_126 : decode cX11_rules 126 = .ok (.new 134, 3) := by decide +kernel
theorem dX11_rules_129 : decode cX11_rules 129 = .ok (.dup, 1) := by decide +kernel
theorem dX11_rules_130 : decode cX11_rules 130 = .ok (.ldc_w 319, 3) := by decide +kernel
theorem dX11_rules_133 : decode cX11_rules 133 = .ok (.invokespecial 138, 3) := by decide +kernel
theorem dX11_rules_136 : decode cX11_rules 136 = .ok (.athrow, 1) := by decide +kernel
theorem dX11_why_0 : decode cX11_why 0 = .ok (.aload_n 0, 1) := by decide +kernel
theorem dX11_why_1 : decode cX11_why 1 = .ok (.iload_n 1, 1) := by decide +kernel
theorem dX11_why_2 : decode cX11_why 2 = .ok (.invokevirtual 292, 3) := by decide +kernel
theorem dX11_why_5 : decode cX11_why 5 = .ok (.astore_n 3, 1) := by decide +kernel
theorem dX11_why_6 : decode cX11_why 6 = .ok (.iload_n 2, 1) := by decide +kernel
theorem dX11_why_7 : decode cX11_why 7 = .ok (.iconst 0, 1) := by decide +kernel
theorem dX11_why_8 : decode cX11_why 8 = .ok (.bipush 6, 2) := by decide +kernel
theorem dX11_why_10 : decode cX11_why 10 = .ok (.invokestatic 58, 3) := by decide +kernel
theorem dX11_why_13 : decode cX11_why 13 = .ok (.ifCond .ne 14, 3) := by decide +kernel
theorem dX11_why_16 : decode cX11_why 16 = .ok (.new 134, 3) := by decide +kernel
theorem dX11_why_19 : decode cX11_why 19 = .ok (.dup, 1) := by decide +kernel
theorem dX11_why_20 : decode cX11_why 20 = .ok (.ldc_w 321, 3) := by decide +kernel
theorem dX11_why_23 : decode cX11_why 23 = .ok (.invokespecial 138, 3) := by decide +kernel
theorem dX11_why_26 : decode cX11_why 26 = .ok (.athrow, 1) := by decide +kernel
theorem dX11_why_27 : decode cX11_why 27 = .ok (.aload_n 0, 1) := by decide +kernel
theorem dX11_why_28 : decode cX11_why 28 = .ok (.getfield 30, 3) := by decide +kernel
theorem dX11_why_31 : decode cX11_why 31 = .ok (.aload_n 3, 1) := by decide +kernel
theorem dX11_why_32 : decode cX11_why 32 = .ok (.aload_n 0, 1) := by decide +kernel
theorem dX11_why_33 : decode cX11_why 33 = .ok (.getfield 16, 3) := by decide +kernel
theorem dX11_why_36 : decode cX11_why 36 = .ok (.invokevirtual 306, 3) := by decide +kernel
theorem dX11_why_39 : decode cX11_why 39 = .ok (.aload_n 0, 1) := by decide +kernel
theorem dX11_why_40 : decode cX11_why 40 = .ok (.getfield 30, 3) := by decide +kernel
theorem dX11_why_43 : decode cX11_why 43 = .ok (.getfield 323, 3) := by decide +kernel
theorem dX11_why_46 : decode cX11_why 46 = .ok (.iload_n 2, 1) := by decide +kernel
theorem dX11_why_47 : decode cX11_why 47 = .ok (.aload_n 0, 1) := by decide +kernel
theorem dX11_why_48 : decode cX11_why 48 = .ok (.getfield 30, 3) := by decide +kernel
theorem dX11_why_51 : decode cX11_why 51 = .ok (.getfield 326, 3) := by decide +kernel
theorem dX11_why_54 : decode cX11_why 54 = .ok (.invokevirtual 330, 3) := by decide +kernel
theorem dX11_why_57 : decode cX11_why 57 = .ok (.ireturn, 1) := by decide +kernel
theorem dX11_come_0 : decode cX11_come 0 = .ok (.aload_n 0, 1) := by decide +kernel
theorem dX11_come_1 : decode cX11_come 1 = .ok (.iload_n 1, 1) := by decide +kernel
theorem dX11_come_2 : decode cX11_come 2 = .ok (.invokevirtual 292, 3) := by decide +kernel
theorem dX11_come_5 : decode cX11_come 5 = .ok (.astore_n 2, 1) := by decide +kernel
theorem dX11_come_6 : decode cX11_come 6 = .ok (.aload_n 2, 1) := by decide +kernel
theorem dX11_come_7 : decode cX11_come 7 = .ok (.getfield 380, 3) := by decide +kernel
theorem dX11_come_10 : decode cX11_come 10 = .ok (.iconst (-1), 1) := by decide +kernel
theorem dX11_come_11 : decode cX11_come 11 = .ok (.if_icmp .eq 14, 3) := by decide +kernel
theorem dX11_come_14 : decode cX11_come 14 = .ok (.aload_n 2, 1) := by decide +kernel
theorem dX11_come_15 : decode cX11_come 15 = .ok (.getfield 383, 3) := by decide +kernel
theorem dX11_come_18 : decode cX11_come 18 = .ok (.ifCond .ne 7, 3) := by decide +kernel
theorem dX11_come_21 : decode cX11_come 21 = .ok (.iconst 1, 1) := by decide +kernel
theorem dX11_come_22 : decode cX11_come 22 = .ok (.goto 4, 3) := by decide +kernel
theorem dX11_come_25 : decode cX11_come 25 = .ok (.iconst 0, 1) := by decide +kernel
theorem dX11_come_26 : decode cX11_come 26 = .ok (.istore_n 3, 1) := by decide +kernel
theorem dX11_come_27 : decode cX11_come 27 = .ok (.aload_n 2, 1) := by decide +kernel
theorem dX11_come_28 : decode cX11_come 28 = .ok (.iconst 1, 1) := by decide +kernel
theorem dX11_come_29 : decode cX11_come 29 = .ok (.putfield 383, 3) := by decide +kernel
theorem dX11_come_32 : decode cX11_come 32 = .ok (.iload_n 3, 1) := by decide +kernel
theorem dX11_come_33 : decode cX11_come 33 = .ok (.ireturn, 1) := by decide +kernel
theorem dX11_who_0 : decode cX11_who 0 = .ok (.aload_n 0, 1) := by decide +kernel
theorem dX11_who_1 : decode cX11_who 1 = .ok (.iload_n 1, 1) := by decide +kernel
theorem dX11_who_2 : decode cX11_who 2 = .ok (.invokevirtual 292, 3) := by decide +kernel
theorem dX11_who_5 : decode cX11_who 5 = .ok (.astore_n 3, 1) := by decide +kernel
theorem dX11_who_6 : decode cX11_who 6 = .ok (.iload_n 2, 1) := by decide +kernel
theorem dX11_who_7 : decode cX11_who 7 = .ok (.tableswitch 79 0 5 #[37, 42, 47, 52, 57, 66], 37) := by decide +kernel
theorem dX11_who_44 : decode cX11_who 44 = .ok (.aload_n 3, 1) := by decide +kernel
theorem dX11_who_45 : decode cX11_who 45 = .ok (.getfield 380, 3) := by decide +kernel
theorem dX11_who_48 : decode cX11_who 48 = .ok (.ireturn, 1) := by decide +kernel
theorem dX11_who_49 : decode cX11_who 49 = .ok (.aload_n 3, 1) := by decide +kernel
theorem dX11_who_50 : decode cX11_who 50 = .ok (.getfield 390, 3) := by decide +kernel
theorem dX11_who_53 : decode cX11_who 53 = .ok (.ireturn, 1) := by decide +kernel
theorem dX11_who_54 : decode cX11_who 54 = .ok (.aload_n 3, 1) := by decide +kernel
theorem dX11_who_55 : decode cX11_who 55 = .ok (.getfield 393, 3) := by decide +kernel
theorem dX11_who_58 : decode cX11_who 58 = .ok (.ireturn, 1) := by decide +kernel
theorem dX11_who_59 : decode cX11_who 59 = .ok (.aload_n 3, 1) := by decide +kernel
theorem dX11_who_60 : decode cX11_who 60 = .ok (.getfield 396, 3) := by decide +kernel
theorem dX11_who_63 : decode cX11_who 63 = .ok (.ireturn, 1) := by decide +kernel
theorem dX11_who_64 : decode cX11_who 64 = .ok (.aload_n 0, 1) := by decide +kernel
theorem dX11_who_65 : decode cX11_who 65 = .ok (.getfield 30, 3) := by decide +kernel
theorem dX11_who_68 : decode cX11_who 68 = .ok (.aload_n 3, 1) := by decide +kernel
theorem dX11_who_69 : decode cX11_who 69 = .ok (.invokevirtual 399, 3) := by decide +kernel
theorem dX11_who_72 : decode cX11_who 72 = .ok (.ireturn, 1) := by decide +kernel
theorem dX11_who_73 : decode cX11_who 73 = .ok (.aload_n 0, 1) := by decide +kernel
theorem dX11_who_74 : decode cX11_who 74 = .ok (.getfield 30, 3) := by decide +kernel
theorem dX11_who_77 : decode cX11_who 77 = .ok (.aload_n 3, 1) := by decide +kernel
theorem dX11_who_78 : decode cX11_who 78 = .ok (.aload_n 0, 1) := by decide +kernel
theorem dX11_who_79 : decode cX11_who 79 = .ok (.getfield 16, 3) := by decide +kernel
theorem dX11_who_82 : decode cX11_who 82 = .ok (.invokevirtual 402, 3) := by decide +kernel
theorem dX11_who_85 : decode cX11_who 85 = .ok (.ireturn, 1) := by decide +kernel
theorem dX11_who_86 : decode cX11_who 86 = .ok (.new 134, 3) := by decide +kernel
theorem dX11_who_89 : decode cX11_who 89 = .ok (.dup, 1) := by decide +kernel
theorem dX11_who_90 : decode cX11_who 90 = .ok (.ldc_w 406, 3) := by decide +kernel
theorem dX11_who_93 : decode cX11_who 93 = .ok (.invokespecial 138, 3) := by decide +kernel
theorem dX11_who_96 : decode cX11_who 96 = .ok (.athrow, 1) := by decide +kernel
theorem dX11_worth_0 : decode cX11_worth 0 = .ok (.aload_n 0, 1) := by decide +kernel
theorem dX11_worth_1 : decode cX11_worth 1 = .ok (.iload_n 1, 1) := by decide +kernel
theorem dX11_worth_2 : decode cX11_worth 2 = .ok (.invokevirtual 366, 3) := by decide +kernel
theorem dX11_worth_5 : decode cX11_worth 5 = .ok (.aload_n 0, 1) := by decide +kernel
theorem dX11_worth_6 : decode cX11_worth 6 = .ok (.getfield 30, 3) := by decide +kernel
theorem dX11_worth_9 : decode cX11_worth 9 = .ok (.iload_n 1, 1) := by decide +kernel
theorem dX11_worth_10 : decode cX11_worth 10 = .ok (.aload_n 0, 1) := by decide +kernel
theorem dX11_worth_11 : decode cX11_worth 11 = .ok (.getfield 16, 3) := by decide +kernel
theorem dX11_worth_14 : decode cX11_worth 14 = .ok (.getfield 82, 3) := by decide +kernel
theorem dX11_worth_17 : decode cX11_worth 17 = .ok (.invokevirtual 369, 3) := by decide +kernel
theorem dX11_worth_20 : decode cX11_worth 20 = .ok (.ireturn, 1) := by decide +kernel
theorem dX11_sow_0 : decode cX11_sow 0 = .ok (.aload_n 0, 1) := by decide +kernel
theorem dX11_sow_1 : decode cX11_sow 1 = .ok (.iload_n 1, 1) := by decide +kernel
theorem dX11_sow_2 : decode cX11_sow 2 = .ok (.invokevirtual 366, 3) := by decide +kernel
theorem dX11_sow_5 : decode cX11_sow 5 = .ok (.iload_n 2, 1) := by decide +kernel
theorem dX11_sow_6 : decode cX11_sow 6 = .ok (.iconst 0, 1) := by decide +kernel
theorem dX11_sow_7 : decode cX11_sow 7 = .ok (.iconst 3, 1) := by decide +kernel
theorem dX11_sow_8 : decode cX11_sow 8 = .ok (.invokestatic 58, 3) := by decide +kernel
theorem dX11_sow_11 : decode cX11_sow 11 = .ok (.invokestatic 62, 3) := by decide +kernel
theorem dX11_sow_14 : decode cX11_sow 14 = .ok (.aload_n 0, 1) := by decide +kernel
theorem dX11_sow_15 : decode cX11_sow 15 = .ok (.getfield 30, 3) := by decide +kernel
theorem dX11_sow_18 : decode cX11_sow 18 = .ok (.getfield 377, 3) := by decide +kernel
theorem dX11_sow_21 : decode cX11_sow 21 = .ok (.iload_n 1, 1) := by decide +kernel
theorem dX11_sow_22 : decode cX11_sow 22 = .ok (.iaload, 1) := by decide +kernel
theorem dX11_sow_23 : decode cX11_sow 23 = .ok (.iload_n 2, 1) := by decide +kernel
theorem dX11_sow_24 : decode cX11_sow 24 = .ok (.if_icmp .eq 7, 3) := by decide +kernel
theorem dX11_sow_27 : decode cX11_sow 27 = .ok (.iconst 1, 1) := by decide +kernel
theorem dX11_sow_28 : decode cX11_sow 28 = .ok (.goto 4, 3) := by decide +kernel
theorem dX11_sow_31 : decode cX11_sow 31 = .ok (.iconst 0, 1) := by decide +kernel
theorem dX11_sow_32 : decode cX11_sow 32 = .ok (.istore_n 3, 1) := by decide +kernel
theorem dX11_sow_33 : decode cX11_sow 33 = .ok (.aload_n 0, 1) := by decide +kernel
theorem dX11_sow_34 : decode cX11_sow 34 = .ok (.getfield 30, 3) := by decide +kernel
theorem dX11_sow_37 : decode cX11_sow 37 = .ok (.getfield 377, 3) := by decide +kernel
theorem dX11_sow_40 : decode cX11_sow 40 = .ok (.iload_n 1, 1) := by decide +kernel
theorem dX11_sow_41 : decode cX11_sow 41 = .ok (.iload_n 2, 1) := by decide +kernel
theorem dX11_sow_42 : decode cX11_sow 42 = .ok (.iastore, 1) := by decide +kernel
theorem dX11_sow_43 : decode cX11_sow 43 = .ok (.iload_n 3, 1) := by decide +kernel
theorem dX11_sow_44 : decode cX11_sow 44 = .ok (.ireturn, 1) := by decide +kernel
theorem dX11_levels_0 : decode cX11_levels 0 = .ok (.aload_n 0, 1) := by decide +kernel
theorem dX11_levels_1 : decode cX11_levels 1 = .ok (.iload_n 1, 1) := by decide +kernel
theorem dX11_levels_2 : decode cX11_levels 2 = .ok (.invokevirtual 366, 3) := by decide +kernel
theorem dX11_levels_5 : decode cX11_levels 5 = .ok (.iload_n 2, 1) := by decide +kernel
theorem dX11_levels_6 : decode cX11_levels 6 = .ok (.iconst 0, 1) := by decide +kernel
theorem dX11_levels_7 : decode cX11_levels 7 = .ok (.sipush 1000, 3) := by decide +kernel
theorem dX11_levels_10 : decode cX11_levels 10 = .ok (.invokestatic 58, 3) := by decide +kernel
theorem dX11_levels_13 : decode cX11_levels 13 = .ok (.invokestatic 62, 3) := by decide +kernel
theorem dX11_levels_16 : decode cX11_levels 16 = .ok (.aload_n 0, 1) := by decide +kernel
theorem dX11_levels_17 : decode cX11_levels 17 = .ok (.getfield 43, 3) := by decide +kernel
theorem dX11_levels_20 : decode cX11_levels 20 = .ok (.aload_n 0, 1) := by decide +kernel
theorem dX11_levels_21 : decode cX11_levels 21 = .ok (.getfield 30, 3) := by decide +kernel
theorem dX11_levels_24 : decode cX11_levels 24 = .ok (.iload_n 1, 1) := by decide +kernel
theorem dX11_levels_25 : decode cX11_levels 25 = .ok (.aload_n 0, 1) := by decide +kernel
theorem dX11_levels_26 : decode cX11_levels 26 = .ok (.getfield 16, 3) := by decide +kernel
theorem dX11_levels_29 : decode cX11_levels 29 = .ok (.getfield 82, 3) := by decide +kernel
theorem dX11_levels_32 : decode cX11_levels 32 = .ok (.iload_n 2, 1) := by decide +kernel
theorem dX11_levels_33 : decode cX11_levels 33 = .ok (.invokevirtual 474, 3) := by decide +kernel
theorem dX11_levels_36 : decode cX11_levels 36 = .ok (.ireturn, 1) := by decide +kernel
theorem dX11_measure_0 : decode cX11_measure 0 = .ok (.aload_n 0, 1) := by decide +kernel
theorem dX11_measure_1 : decode cX11_measure 1 = .ok (.iload_n 1, 1) := by decide +kernel
theorem dX11_measure_2 : decode cX11_measure 2 = .ok (.invokevirtual 419, 3) := by decide +kernel
theorem dX11_measure_5 : decode cX11_measure 5 = .ok (.astore_n 3, 1) := by decide +kernel
theorem dX11_measure_6 : decode cX11_measure 6 = .ok (.iload_n 2, 1) := by decide +kernel
theorem dX11_measure_7 : decode cX11_measure 7 = .ok (.iconst 0, 1) := by decide +kernel
theorem dX11_measure_8 : decode cX11_measure 8 = .ok (.sipush 2000, 3) := by decide +kernel
theorem dX11_measure_11 : decode cX11_measure 11 = .ok (.invokestatic 58, 3) := by decide +kernel
theorem dX11_measure_14 : decode cX11_measure 14 = .ok (.invokestatic 62, 3) := by decide +kernel
theorem dX11_measure_17 : decode cX11_measure 17 = .ok (.aload_n 3, 1) := by decide +kernel
theorem dX11_measure_18 : decode cX11_measure 18 = .ok (.getfield 423, 3) := by decide +kernel
theorem dX11_measure_21 : decode cX11_measure 21 = .ok (.ifCond .eq 14, 3) := by decide +kernel
theorem dX11_measure_24 : decode cX11_measure 24 = .ok (.new 69, 3) := by decide +kernel
theorem dX11_measure_27 : decode cX11_measure 27 = .ok (.dup, 1) := by decide +kernel
theorem dX11_measure_28 : decode cX11_measure 28 = .ok (.ldc_w 426, 3) := by decide +kernel
theorem dX11_measure_31 : decode cX11_measure 31 = .ok (.invokespecial 73, 3) := by decide +kernel
theorem dX11_measure_34 : decode cX11_measure 34 = .ok (.athrow, 1) := by decide +kernel
theorem dX11_measure_35 : decode cX11_measure 35 = .ok (.aload_n 3, 1) := by decide +kernel
theorem dX11_measure_36 : decode cX11_measure 36 = .ok (.iload_n 2, 1) := by decide +kernel
theorem dX11_measure_37 : decode cX11_measure 37 = .ok (.invokevirtual 428, 3) := by decide +kernel
theorem dX11_measure_40 : decode cX11_measure 40 = .ok (.aload_n 3, 1) := by decide +kernel
theorem dX11_measure_41 : decode cX11_measure 41 = .ok (.invokevirtual 431, 3) := by decide +kernel
theorem dX11_measure_44 : decode cX11_measure 44 = .ok (.ireturn, 1) := by decide +kernel
theorem dX11_yards_0 : decode cX11_yards 0 = .ok (.aload_n 0, 1) := by decide +kernel
theorem dX11_yards_1 : decode cX11_yards 1 = .ok (.iload_n 1, 1) := by decide +kernel
theorem dX11_yards_2 : decode cX11_yards 2 = .ok (.invokevirtual 419, 3) := by decide +kernel
theorem dX11_yards_5 : decode cX11_yards 5 = .ok (.astore_n 3, 1) := by decide +kernel
theorem dX11_yards_6 : decode cX11_yards 6 = .ok (.aload_n 3, 1) := by decide +kernel
theorem dX11_yards_7 : decode cX11_yards 7 = .ok (.invokevirtual 431, 3) := by decide +kernel
theorem dX11_yards_10 : decode cX11_yards 10 = .ok (.ifCond .ne 5, 3) := by decide +kernel
theorem dX11_yards_13 : decode cX11_yards 13 = .ok (.iconst (-1), 1) := by decide +kernel
theorem dX11_yards_14 : decode cX11_yards 14 = .ok (.ireturn, 1) := by decide +kernel
theorem dX11_yards_15 : decode cX11_yards 15 = .ok (.iload_n 2, 1) := by decide +kernel
theorem dX11_yards_16 : decode cX11_yards 16 = .ok (.ifCond .eq 10, 3) := by decide +kernel
theorem dX11_yards_19 : decode cX11_yards 19 = .ok (.aload_n 3, 1) := by decide +kernel
theorem dX11_yards_20 : decode cX11_yards 20 = .ok (.getfield 434, 3) := by decide +kernel
theorem dX11_yards_23 : decode cX11_yards 23 = .ok (.goto 7, 3) := by decide +kernel
theorem dX11_yards_26 : decode cX11_yards 26 = .ok (.aload_n 3, 1) := by decide +kernel
theorem dX11_yards_27 : decode cX11_yards 27 = .ok (.getfield 437, 3) := by decide +kernel
theorem dX11_yards_30 : decode cX11_yards 30 = .ok (.ireturn, 1) := by decide +kernel
theorem dX11_pay_0 : decode cX11_pay 0 = .ok (.aload_n 0, 1) := by decide +kernel
theorem dX11_pay_1 : decode cX11_pay 1 = .ok (.iload_n 1, 1) := by decide +kernel
theorem dX11_pay_2 : decode cX11_pay 2 = .ok (.invokevirtual 419, 3) := by decide +kernel
theorem dX11_pay_5 : decode cX11_pay 5 = .ok (.astore_n 2, 1) := by decide +kernel
theorem dX11_pay_6 : decode cX11_pay 6 = .ok (.aload_n 2, 1) := by decide +kernel
theorem dX11_pay_7 : decode cX11_pay 7 = .ok (.getfield 423, 3) := by decide +kernel
theorem dX11_pay_10 : decode cX11_pay 10 = .ok (.ifCond .ne 10, 3) := by decide +kernel
theorem dX11_pay_13 : decode cX11_pay 13 = .ok (.aload_n 2, 1) := by decide +kernel
theorem dX11_pay_14 : decode cX11_pay 14 = .ok (.invokevirtual 431, 3) := by decide +kernel
theorem dX11_pay_17 : decode cX11_pay 17 = .ok (.ifCond .ne 5, 3) := by decide +kernel
theorem dX11_pay_20 : decode cX11_pay 20 = .ok (.iconst (-1), 1) := by decide +kernel
theorem dX11_pay_21 : decode cX11_pay 21 = .ok (.ireturn, 1) := by decide +kernel
theorem dX11_pay_22 : decode cX11_pay 22 = .ok (.aload_n 0, 1) := by decide +kernel
theorem dX11_pay_23 : decode cX11_pay 23 = .ok (.aload_n 2, 1) := by decide +kernel
theorem dX11_pay_24 : decode cX11_pay 24 = .ok (.invokevirtual 440, 3) := by decide +kernel
theorem dX11_pay_27 : decode cX11_pay 27 = .ok (.astore_n 3, 1) := by decide +kernel
theorem dX11_pay_28 : decode cX11_pay 28 = .ok (.aload_n 2, 1) := by decide +kernel
theorem dX11_pay_29 : decode cX11_pay 29 = .ok (.getfield 437, 3) := by decide +kernel
theorem dX11_pay_32 : decode cX11_pay 32 = .ok (.aload_n 0, 1) := by decide +kernel
theorem dX11_pay_33 : decode cX11_pay 33 = .ok (.aload_n 3, 1) := by decide +kernel
theorem dX11_pay_34 : decode cX11_pay 34 = .ok (.aload_n 2, 1) := by decide +kernel
theorem dX11_pay_35 : decode cX11_pay 35 = .ok (.getfield 437, 3) := by decide +kernel
theorem dX11_pay_38 : decode cX11_pay 38 = .ok (.invokevirtual 444, 3) := by decide +kernel
theorem dX11_pay_41 : decode cX11_pay 41 = .ok (.isub, 1) := by decide +kernel
theorem dX11_pay_42 : decode cX11_pay 42 = .ok (.istore 4, 2) := by decide +kernel
theorem dX11_pay_44 : decode cX11_pay 44 = .ok (.iload 4, 2) := by decide +kernel
theorem dX11_pay_46 : decode cX11_pay 46 = .ok (.aload_n 2, 1) := by decide +kernel
theorem dX11_pay_47 : decode cX11_pay 47 = .ok (.getfield 447, 3) := by decide +kernel
theorem dX11_pay_50 : decode cX11_pay 50 = .ok (.imul, 1) := by decide +kernel
theorem dX11_pay_51 : decode cX11_pay 51 = .ok (.istore 5, 2) := by decide +kernel
theorem dX11_pay_53 : decode cX11_pay 53 = .ok (.iload 5, 2) := by decide +kernel
theorem dX11_pay_55 : decode cX11_pay 55 = .ok (.aload_n 0, 1) := by decide +kernel
theorem dX11_pay_56 : decode cX11_pay 56 = .ok (.getfield 30, 3) := by decide +kernel
theorem dX11_pay_59 : decode cX11_pay 59 = .ok (.getfield 412, 3) := by decide +kernel
theorem dX11_pay_62 : decode cX11_pay 62 = .ok (.if_icmp .le 5, 3) := by decide +kernel
theorem dX11_pay_65 : decode cX11_pay 65 = .ok (.iconst (-1), 1) := by decide +kernel
theorem dX11_pay_66 : decode cX11_pay 66 = .ok (.ireturn, 1) := by decide +kernel
theorem dX11_pay_67 : decode cX11_pay 67 = .ok (.aload_n 0, 1) := by decide +kernel
theorem dX11_pay_68 : decode cX11_pay 68 = .ok (.getfield 30, 3) := by decide +kernel
theorem dX11_pay_71 : decode cX11_pay 71 = .ok (.dup, 1) := by decide +kernel
theorem dX11_pay_72 : decode cX11_pay 72 = .ok (.getfield 412, 3) := by decide +kernel
theorem dX11_pay_75 : decode cX11_pay 75 = .ok (.iload 5, 2) := by decide +kernel
theorem dX11_pay_77 : decode cX11_pay 77 = .ok (.isub, 1) := by decide +kernel
theorem dX11_pay_78 : decode cX11_pay 78 = .ok (.putfield 412, 3) := by decide +kernel
theorem dX11_pay_81 : decode cX11_pay 81 = .ok (.aload_n 2, 1) := by decide +kernel
theorem dX11_pay_82 : decode cX11_pay 82 = .ok (.iconst 1, 1) := by decide +kernel
theorem dX11_pay_83 : decode cX11_pay 83 = .ok (.putfield 423, 3) := by decide +kernel
theorem dX11_pay_86 : decode cX11_pay 86 = .ok (.iload 4, 2) := by decide +kernel
theorem dX11_pay_88 : decode cX11_pay 88 = .ok (.bipush 10, 2) := by decide +kernel
theorem dX11_pay_90 : decode cX11_pay 90 = .ok (.idiv, 1) := by decide +kernel
theorem dX11_pay_91 : decode cX11_pay 91 = .ok (.istore 6, 2) := by decide +kernel
theorem dX11_pay_93 : decode cX11_pay 93 = .ok (.aload_n 3, 1) := by decide +kernel
theorem dX11_pay_94 : decode cX11_pay 94 = .ok (.ifnull 32, 3) := by decide +kernel
theorem dX11_pay_97 : decode cX11_pay 97 = .ok (.aload_n 3, 1) := by decide +kernel
theorem dX11_pay_98 : decode cX11_pay 98 = .ok (.invokevirtual 180, 3) := by decide +kernel
theorem dX11_pay_101 : decode cX11_pay 101 = .ok (.ifCond .eq 25, 3) := by decide +kernel
theorem dX11_pay_104 : decode cX11_pay 104 = .ok (.iload 6, 2) := by decide +kernel
theorem dX11_pay_106 : decode cX11_pay 106 = .ok (.ifCond .le 20, 3) := by decide +kernel
theorem dX11_pay_109 : decode cX11_pay 109 = .ok (.aload_n 0, 1) := by decide +kernel
theorem dX11_pay_110 : decode cX11_pay 110 = .ok (.getfield 23, 3) := by decide +kernel
theorem dX11_pay_113 : decode cX11_pay 113 = .ok (.invokevirtual 76, 3) := by decide +kernel
theorem dX11_pay_116 : decode cX11_pay 116 = .ok (.aload_n 3, 1) := by decide +kernel
theorem dX11_pay_117 : decode cX11_pay 117 = .ok (.iload 6, 2) := by decide +kernel
theorem dX11_pay_119 : decode cX11_pay 119 = .ok (.aload_n 2, 1) := by decide +kernel
theorem dX11_pay_120 : decode cX11_pay 120 = .ok (.getfield 450, 3) := by decide +kernel
theorem dX11_pay_123 : decode cX11_pay 123 = .ok (.invokevirtual 183, 3) := by decide +kernel
theorem dX11_pay_126 : decode cX11_pay 126 = .ok (.iload 5, 2) := by decide +kernel
theorem dX11_pay_128 : decode cX11_pay 128 = .ok (.ireturn, 1) := by decide +kernel
theorem dX11_close_0 : decode cX11_close 0 = .ok (.aload_n 0, 1) := by decide +kernel
theorem dX11_close_1 : decode cX11_close 1 = .ok (.invokevirtual 296, 3) := by decide +kernel
theorem dX11_close_4 : decode cX11_close 4 = .ok (.aload_n 0, 1) := by decide +kernel
theorem dX11_close_5 : decode cX11_close 5 = .ok (.getfield 30, 3) := by decide +kernel
theorem dX11_close_8 : decode cX11_close 8 = .ok (.invokevirtual 303, 3) := by decide +kernel
theorem dX11_close_11 : decode cX11_close 11 = .ok (.ireturn, 1) := by decide +kernel
theorem dX11_fill_0 : decode cX11_fill 0 = .ok (.iload_n 1, 1) := by decide +kernel
theorem dX11_fill_1 : decode cX11_fill 1 = .ok (.invokestatic 55, 3) := by decide +kernel
theorem dX11_fill_4 : decode cX11_fill 4 = .ok (.iload_n 2, 1) := by decide +kernel
theorem dX11_fill_5 : decode cX11_fill 5 = .ok (.iconst 0, 1) := by decide +kernel
theorem dX11_fill_6 : decode cX11_fill 6 = .ok (.sipush 900, 3) := by decide +kernel
theorem dX11_fill_9 : decode cX11_fill 9 = .ok (.invokestatic 58, 3) := by decide +kernel
theorem dX11_fill_12 : decode cX11_fill 12 = .ok (.ifCond .eq 17, 3) := by decide +kernel
theorem dX11_fill_15 : decode cX11_fill 15 = .ok (.iload_n 3, 1) := by decide +kernel
theorem dX11_fill_16 : decode cX11_fill 16 = .ok (.iconst 0, 1) := by decide +kernel
theorem dX11_fill_17 : decode cX11_fill 17 = .ok (.ldc 96, 2) := by decide +kernel
theorem dX11_fill_19 : decode cX11_fill 19 = .ok (.invokestatic 58, 3) := by decide +kernel
theorem dX11_fill_22 : decode cX11_fill 22 = .ok (.ifCond .eq 7, 3) := by decide +kernel
theorem dX11_fill_25 : decode cX11_fill 25 = .ok (.iconst 1, 1) := by decide +kernel
theorem dX11_fill_26 : decode cX11_fill 26 = .ok (.goto 4, 3) := by decide +kernel
theorem dX11_fill_29 : decode cX11_fill 29 = .ok (.iconst 0, 1) := by decide +kernel
theorem dX11_fill_30 : decode cX11_fill 30 = .ok (.invokestatic 62, 3) := by decide +kernel
theorem dX11_fill_33 : decode cX11_fill 33 = .ok (.aload_n 0, 1) := by decide +kernel
theorem dX11_fill_34 : decode cX11_fill 34 = .ok (.getfield 16, 3) := by decide +kernel
theorem dX11_fill_37 : decode cX11_fill 37 = .ok (.getfield 82, 3) := by decide +kernel
theorem dX11_fill_40 : decode cX11_fill 40 = .ok (.getfield 86, 3) := by decide +kernel
theorem dX11_fill_43 : decode cX11_fill 43 = .ok (.iload_n 1, 1) := by decide +kernel
theorem dX11_fill_44 : decode cX11_fill 44 = .ok (.baload, 1) := by decide +kernel
theorem dX11_fill_45 : decode cX11_fill 45 = .ok (.ifCond .ne 5, 3) := by decide +kernel
theorem dX11_fill_48 : decode cX11_fill 48 = .ok (.iconst 0, 1) := by decide +kernel
theorem dX11_fill_49 : decode cX11_fill 49 = .ok (.ireturn, 1) := by decide +kernel
theorem dX11_fill_50 : decode cX11_fill 50 = .ok (.aload_n 0, 1) := by decide +kernel
theorem dX11_fill_51 : decode cX11_fill 51 = .ok (.getfield 23, 3) := by decide +kernel
theorem dX11_fill_54 : decode cX11_fill 54 = .ok (.invokevirtual 76, 3) := by decide +kernel
theorem dX11_fill_57 : decode cX11_fill 57 = .ok (.aload_n 0, 1) := by decide +kernel
theorem dX11_fill_58 : decode cX11_fill 58 = .ok (.getfield 16, 3) := by decide +kernel
theorem dX11_fill_61 : decode cX11_fill 61 = .ok (.getfield 82, 3) := by decide +kernel
theorem dX11_fill_64 : decode cX11_fill 64 = .ok (.iload_n 1, 1) := by decide +kernel
theorem dX11_fill_65 : decode cX11_fill 65 = .ok (.iload_n 2, 1) := by decide +kernel
theorem dX11_fill_66 : decode cX11_fill 66 = .ok (.iload_n 3, 1) := by decide +kernel
theorem dX11_fill_67 : decode cX11_fill 67 = .ok (.invokevirtual 97, 3) := by decide +kernel
theorem dX11_fill_70 : decode cX11_fill 70 = .ok (.iconst 1, 1) := by decide +kernel
theorem dX11_fill_71 : decode cX11_fill 71 = .ok (.ireturn, 1) := by decide +kernel
theorem dX11_row_0 : decode cX11_row 0 = .ok (.iload_n 2, 1) := by decide +kernel
theorem dX11_row_1 : decode cX11_row 1 = .ok (.invokestatic 55, 3) := by decide +kernel
theorem dX11_row_4 : decode cX11_row 4 = .ok (.aload_n 0, 1) := by decide +kernel
theorem dX11_row_5 : decode cX11_row 5 = .ok (.iload_n 1, 1) := by decide +kernel
theorem dX11_row_6 : decode cX11_row 6 = .ok (.invokevirtual 493, 3) := by decide +kernel
theorem dX11_row_9 : decode cX11_row 9 = .ok (.aload_n 0, 1) := by decide +kernel
theorem dX11_row_10 : decode cX11_row 10 = .ok (.getfield 23, 3) := by decide +kernel
theorem dX11_row_13 : decode cX11_row 13 = .ok (.getfield 496, 3) := by decide +kernel
theorem dX11_row_16 : decode cX11_row 16 = .ok (.aload_n 0, 1) := by decide +kernel
theorem dX11_row_17 : decode cX11_row 17 = .ok (.getfield 23, 3) := by decide +kernel
theorem dX11_row_20 : decode cX11_row 20 = .ok (.iload_n 1, 1) := by decide +kernel
theorem dX11_row_21 : decode cX11_row 21 = .ok (.iload_n 2, 1) := by decide +kernel
theorem dX11_row_22 : decode cX11_row 22 = .ok (.invokevirtual 499, 3) := by decide +kernel
theorem dX11_row_25 : decode cX11_row 25 = .ok (.iaload, 1) := by decide +kernel
theorem dX11_row_26 : decode cX11_row 26 = .ok (.ireturn, 1) := by decide +kernel
theorem dX11_tear_0 : decode cX11_tear 0 = .ok (.iload_n 2, 1) := by decide +kernel
theorem dX11_tear_1 : decode cX11_tear 1 = .ok (.invokestatic 55, 3) := by decide +kernel
theorem dX11_tear_4 : decode cX11_tear 4 = .ok (.aload_n 0, 1) := by decide +kernel
theorem dX11_tear_5 : decode cX11_tear 5 = .ok (.iload_n 1, 1) := by decide +kernel
theorem dX11_tear_6 : decode cX11_tear 6 = .ok (.invokevirtual 493, 3) := by decide +kernel
theorem dX11_tear_9 : decode cX11_tear 9 = .ok (.aload_n 0, 1) := by decide +kernel
theorem dX11_tear_10 : decode cX11_tear 10 = .ok (.getfield 23, 3) := by decide +kernel
theorem dX11_tear_13 : decode cX11_tear 13 = .ok (.iload_n 1, 1) := by decide +kernel
theorem dX11_tear_14 : decode cX11_tear 14 = .ok (.iload_n 2, 1) := by decide +kernel
theorem dX11_tear_15 : decode cX11_tear 15 = .ok (.invokevirtual 499, 3) := by decide +kernel
theorem dX11_tear_18 : decode cX11_tear 18 = .ok (.istore 4, 2) := by decide +kernel
theorem dX11_tear_20 : decode cX11_tear 20 = .ok (.aload_n 0, 1) := by decide +kernel
theorem dX11_tear_21 : decode cX11_tear 21 = .ok (.getfield 23, 3) := by decide +kernel
theorem dX11_tear_24 : decode cX11_tear 24 = .ok (.getfield 496, 3) := by decide +kernel
theorem dX11_tear_27 : decode cX11_tear 27 = .ok (.iload 4, 2) := by decide +kernel
theorem dX11_tear_29 : decode cX11_tear 29 = .ok (.dup2, 1) := by decide +kernel
theorem dX11_tear_30 : decode cX11_tear 30 = .ok (.iaload, 1) := by decide +kernel
theorem dX11_tear_31 : decode cX11_tear 31 = .ok (.iload_n 3, 1) := by decide +kernel
theorem dX11_tear_32 : decode cX11_tear 32 = .ok (.ixor, 1) := by decide +kernel
theorem dX11_tear_33 : decode cX11_tear 33 = .ok (.iastore, 1) := by decide +kernel
theorem dX11_tear_34 : decode cX11_tear 34 = .ok (.aload_n 0, 1) := by decide +kernel
theorem dX11_tear_35 : decode cX11_tear 35 = .ok (.getfield 23, 3) := by decide +kernel
theorem dX11_tear_38 : decode cX11_tear 38 = .ok (.getfield 496, 3) := by decide +kernel
theorem dX11_tear_41 : decode cX11_tear 41 = .ok (.iload 4, 2) := by decide +kernel
theorem dX11_tear_43 : decode cX11_tear 43 = .ok (.iaload, 1) := by decide +kernel
theorem dX11_tear_44 : decode cX11_tear 44 = .ok (.ireturn, 1) := by decide +kernel
theorem dX6_forget_0 : decode cX6_forget 0 = .ok (.aload_n 0, 1) := by decide +kernel
theorem dX6_forget_1 : decode cX6_forget 1 = .ok (.iconst 0, 1) := by decide +kernel
theorem dX6_forget_2 : decode cX6_forget 2 = .ok (.putfield 18, 3) := by decide +kernel
theorem dX6_forget_5 : decode cX6_forget 5 = .ok (.aload_n 0, 1) := by decide +kernel
theorem dX6_forget_6 : decode cX6_forget 6 = .ok (.iconst 0, 1) := by decide +kernel
theorem dX6_forget_7 : decode cX6_forget 7 = .ok (.putfield 22, 3) := by decide +kernel
theorem dX6_forget_10 : decode cX6_forget 10 = .ok (.return_, 1) := by decide +kernel
theorem dX11_needRoomForWork_0 : decode cX11_needRoomForWork 0 = .ok (.aload_n 0, 1) := by decide +kernel
theorem dX11_needRoomForWork_1 : decode cX11_needRoomForWork 1 = .ok (.getfield 16, 3) := by decide +kernel
theorem dX11_needRoomForWork_4 : decode cX11_needRoomForWork 4 = .ok (.getfield 456, 3) := by decide +kernel
theorem dX11_needRoomForWork_7 : decode cX11_needRoomForWork 7 = .ok (.bipush 30, 2) := by decide +kernel
theorem dX11_needRoomForWork_9 : decode cX11_needRoomForWork 9 = .ok (.if_icmp .ne 14, 3) := by decide +kernel
theorem dX11_needRoomForWork_12 : decode cX11_needRoomForWork 12 = .ok (.new 345, 3) := by decide +kernel
theorem dX11_needRoomForWork_15 : decode cX11_needRoomForWork 15 = .ok (.dup, 1) := by decide +kernel
theorem dX11_needRoomForWork_16 : decode cX11_needRoomForWork 16 = .ok (.ldc_w 566, 3) := by decide +kernel
theorem dX11_needRoomForWork_19 : decode cX11_needRoomForWork 19 = .ok (.invokespecial 349, 3) := by decide +kernel
theorem dX11_needRoomForWork_22 : decode cX11_needRoomForWork 22 = .ok (.athrow, 1) := by decide +kernel
theorem dX11_needRoomForWork_23 : decode cX11_needRoomForWork 23 = .ok (.return_, 1) := by decide +kernel
theorem dX3_isFreeLand_0 : decode cX3_isFreeLand 0 = .ok (.aload_n 0, 1) := by decide +kernel
theorem dX3_isFreeLand_1 : decode cX3_isFreeLand 1 = .ok (.getfield 21, 3) := by decide +kernel
theorem dX3_isFreeLand_4 : decode cX3_isFreeLand 4 = .ok (.getfield 36, 3) := by decide +kernel
theorem dX3_isFreeLand_7 : decode cX3_isFreeLand 7 = .ok (.iload_n 1, 1) := by decide +kernel
theorem dX3_isFreeLand_8 : decode cX3_isFreeLand 8 = .ok (.baload, 1) := by decide +kernel
theorem dX3_isFreeLand_9 : decode cX3_isFreeLand 9 = .ok (.ifCond .eq 16, 3) := by decide +kernel
theorem dX3_isFreeLand_12 : decode cX3_isFreeLand 12 = .ok (.aload_n 0, 1) := by decide +kernel
theorem dX3_isFreeLand_13 : decode cX3_isFreeLand 13 = .ok (.iload_n 1, 1) := by decide +kernel
theorem dX3_isFreeLand_14 : decode cX3_isFreeLand 14 = .ok (.invokevirtual 53, 3) := by decide +kernel
theorem dX3_isFreeLand_17 : decode cX3_isFreeLand 17 = .ok (.iconst (-1), 1) := by decide +kernel
theorem dX3_isFreeLand_18 : decode cX3_isFreeLand 18 = .ok (.if_icmp .ne 7, 3) := by decide +kernel
theorem dX3_isFreeLand_21 : decode cX3_isFreeLand 21 = .ok (.iconst 1, 1) := by decide +kernel
theorem dX3_isFreeLand_22 : decode cX3_isFreeLand 22 = .ok (.goto 4, 3) := by decide +kernel
theorem dX3_isFreeLand_25 : decode cX3_isFreeLand 25 = .ok (.iconst 0, 1) := by decide +kernel
theorem dX3_isFreeLand_26 : decode cX3_isFreeLand 26 = .ok (.ireturn, 1) := by decide +kernel
theorem dX9_standingAt_0 : decode cX9_standingAt 0 = .ok (.iconst (-1), 1) := by decide +kernel
theorem dX9_standingAt_1 : decode cX9_standingAt 1 = .ok (.istore_n 2, 1) := by decide +kernel
theorem dX9_standingAt_2 : decode cX9_standingAt 2 = .ok (.iconst (-1), 1) := by decide +kernel
theorem dX9_standingAt_3 : decode cX9_standingAt 3 = .ok (.istore_n 3, 1) := by decide +kernel
theorem dX9_standingAt_4 : decode cX9_standingAt 4 = .ok (.iconst 0, 1) := by decide +kernel
theorem dX9_standingAt_5 : decode cX9_standingAt 5 = .ok (.istore 4, 2) := by decide +kernel
theorem dX9_standingAt_7 : decode cX9_standingAt 7 = .ok (.iload 4, 2) := by decide +kernel
theorem dX9_standingAt_9 : decode cX9_standingAt 9 = .ok (.aload_n 0, 1) := by decide +kernel
theorem dX9_standingAt_10 : decode cX9_standingAt 10 = .ok (.getfield 18, 3) := by decide +kernel
theorem dX9_standingAt_13 : decode cX9_standingAt 13 = .ok (.if_icmp .ge 42, 3) := by decide +kernel
theorem dX9_standingAt_16 : decode cX9_standingAt 16 = .ok (.aload_n 0, 1) := by decide +kernel
theorem dX9_standingAt_17 : decode cX9_standingAt 17 = .ok (.getfield 9, 3) := by decide +kernel
theorem dX9_standingAt_20 : decode cX9_standingAt 20 = .ok (.iload 4, 2) := by decide +kernel
theorem dX9_standingAt_22 : decode cX9_standingAt 22 = .ok (.iaload, 1) := by decide +kernel
theorem dX9_standingAt_23 : decode cX9_standingAt 23 = .ok (.iload_n 1, 1) := by decide +kernel
theorem dX9_standingAt_24 : decode cX9_standingAt 24 = .ok (.if_icmp .gt 25, 3) := by decide +kernel
theorem dX9_standingAt_27 : decode cX9_standingAt 27 = .ok (.aload_n 0, 1) := by decide +kernel
theorem dX9_standingAt_28 : decode cX9_standingAt 28 = .ok (.getfield 9, 3) := by decide +kernel
theorem dX9_standingAt_31 : decode cX9_standingAt 31 = .ok (.iload 4, 2) := by decide +kernel
theorem dX9_standingAt_33 : decode cX9_standingAt 33 = .ok (.iaload, 1) := by decide +kernel
theorem dX9_standingAt_34 : decode cX9_standingAt 34 = .ok (.iload_n 3, 1) := by decide +kernel
theorem dX9_standingAt_35 : decode cX9_standingAt 35 = .ok (.if_icmp .le 14, 3) := by decide +kernel
theorem dX9_standingAt_38 : decode cX9_standingAt 38 = .ok (.aload_n 0, 1) := by decide +kernel
theorem dX9_standingAt_39 : decode cX9_standingAt 39 = .ok (.getfield 9, 3) := by decide +kernel
theorem dX9_standingAt_42 : decode cX9_standingAt 42 = .ok (.iload 4, 2) := by decide +kernel
theorem dX9_standingAt_44 : decode cX9_standingAt 44 = .ok (.iaload, 1) := by decide +kernel
theorem dX9_standingAt_45 : decode cX9_standingAt 45 = .ok (.istore_n 3, 1) := by decide +kernel
theorem dX9_standingAt_46 : decode cX9_standingAt 46 = .ok (.iload 4, 2) := by decide +kernel
theorem dX9_standingAt_48 : decode cX9_standingAt 48 = .ok (.istore_n 2, 1) := by decide +kernel
theorem dX9_standingAt_49 : decode cX9_standingAt 49 = .ok (.iinc 4 1, 3) := by decide +kernel
theorem dX9_standingAt_52 : decode cX9_standingAt 52 = .ok (.goto (-45), 3) := by decide +kernel
theorem dX9_standingAt_55 : decode cX9_standingAt 55 = .ok (.iload_n 2, 1) := by decide +kernel
theorem dX9_standingAt_56 : decode cX9_standingAt 56 = .ok (.ireturn, 1) := by decide +kernel
theorem dX8_windAt_0 : decode cX8_windAt 0 = .ok (.aload_n 0, 1) := by decide +kernel
theorem dX8_windAt_1 : decode cX8_windAt 1 = .ok (.getfield 27, 3) := by decide +kernel
theorem dX8_windAt_4 : decode cX8_windAt 4 = .ok (.iload_n 1, 1) := by decide +kernel
theorem dX8_windAt_5 : decode cX8_windAt 5 = .ok (.invokevirtual 44, 3) := by decide +kernel
theorem dX8_windAt_8 : decode cX8_windAt 8 = .ok (.istore_n 2, 1) := by decide +kernel
theorem dX8_windAt_9 : decode cX8_windAt 9 = .ok (.iload_n 2, 1) := by decide +kernel
theorem dX8_windAt_10 : decode cX8_windAt 10 = .ok (.iconst (-1), 1) := by decide +kernel
theorem dX8_windAt_11 : decode cX8_windAt 11 = .ok (.if_icmp .ne 5, 3) := by decide +kernel
theorem dX8_windAt_14 : decode cX8_windAt 14 = .ok (.iconst 0, 1) := by decide +kernel
theorem dX8_windAt_15 : decode cX8_windAt 15 = .ok (.ireturn, 1) := by decide +kernel
theorem dX8_windAt_16 : decode cX8_windAt 16 = .ok (.aload_n 0, 1) := by decide +kernel
theorem dX8_windAt_17 : decode cX8_windAt 17 = .ok (.getfield 27, 3) := by decide +kernel
theorem dX8_windAt_20 : decode cX8_windAt 20 = .ok (.getfield 48, 3) := by decide +kernel
theorem dX8_windAt_23 : decode cX8_windAt 23 = .ok (.iload_n 2, 1) := by decide +kernel
theorem dX8_windAt_24 : decode cX8_windAt 24 = .ok (.iaload, 1) := by decide +kernel
theorem dX8_windAt_25 : decode cX8_windAt 25 = .ok (.iconst (-1), 1) := by decide +kernel
theorem dX8_windAt_26 : decode cX8_windAt 26 = .ok (.if_icmp .eq 13, 3) := by decide +kernel
theorem dX8_windAt_29 : decode cX8_windAt 29 = .ok (.aload_n 0, 1) := by decide +kernel
theorem dX8_windAt_30 : decode cX8_windAt 30 = .ok (.getfield 27, 3) := by decide +kernel
theorem dX8_windAt_33 : decode cX8_windAt 33 = .ok (.getfield 48, 3) := by decide +kernel
theorem dX8_windAt_36 : decode cX8_windAt 36 = .ok (.iload_n 2, 1) := by decide +kernel
theorem dX8_windAt_37 : decode cX8_windAt 37 = .ok (.iaload, 1) := by decide +kernel
theorem dX8_windAt_38 : decode cX8_windAt 38 = .ok (.ireturn, 1) := by decide +kernel
theorem dX8_windAt_39 : decode cX8_windAt 39 = .ok (.aload_n 0, 1) := by decide +kernel
theorem dX8_windAt_40 : decode cX8_windAt 40 = .ok (.getfield 27, 3) := by decide +kernel
theorem dX8_windAt_43 : decode cX8_windAt 43 = .ok (.getfield 51, 3) := by decide +kernel
theorem dX8_windAt_46 : decode cX8_windAt 46 = .ok (.iload_n 2, 1) := by decide +kernel
theorem dX8_windAt_47 : decode cX8_windAt 47 = .ok (.iaload, 1) := by decide +kernel
theorem dX8_windAt_48 : decode cX8_windAt 48 = .ok (.istore_n 3, 1) := by decide +kernel
theorem dX8_windAt_49 : decode cX8_windAt 49 = .ok (.iconst 0, 1) := by decide +kernel
theorem dX8_windAt_50 : decode cX8_windAt 50 = .ok (.aload_n 0, 1) := by decide +kernel
theorem dX8_windAt_51 : decode cX8_windAt 51 = .ok (.getfield 27, 3) := by decide +kernel
theorem dX8_windAt_54 : decode cX8_windAt 54 = .ok (.iload_n 3, 1) := by decide +kernel
theorem dX8_windAt_55 : decode cX8_windAt 55 = .ok (.invokevirtual 54, 3) := by decide +kernel
theorem dX8_windAt_58 : decode cX8_windAt 58 = .ok (.aload_n 0, 1) := by decide +kernel
theorem dX8_windAt_59 : decode cX8_windAt 59 = .ok (.getfield 27, 3) := by decide +kernel
theorem dX8_windAt_62 : decode cX8_windAt 62 = .ok (.iload_n 3, 1) := by decide +kernel
theorem dX8_windAt_63 : decode cX8_windAt 63 = .ok (.invokevirtual 57, 3) := by decide +kernel
theorem dX8_windAt_66 : decode cX8_windAt 66 = .ok (.invokestatic 60, 3) := by decide +kernel
theorem dX8_windAt_69 : decode cX8_windAt 69 = .ok (.invokestatic 60, 3) := by decide +kernel
theorem dX8_windAt_72 : decode cX8_windAt 72 = .ok (.ireturn, 1) := by decide +kernel
theorem dX8_rainAt_0 : decode cX8_rainAt 0 = .ok (.aload_n 0, 1) := by decide +kernel
theorem dX8_rainAt_1 : decode cX8_rainAt 1 = .ok (.getfield 31, 3) := by decide +kernel
theorem dX8_rainAt_4 : decode cX8_rainAt 4 = .ok (.iload_n 1, 1) := by decide +kernel
theorem dX8_rainAt_5 : decode cX8_rainAt 5 = .ok (.invokevirtual 44, 3) := by decide +kernel
theorem dX8_rainAt_8 : decode cX8_rainAt 8 = .ok (.istore_n 2, 1) := by decide +kernel
theorem dX8_rainAt_9 : decode cX8_rainAt 9 = .ok (.iload_n 2, 1) := by decide +kernel
theorem dX8_rainAt_10 : decode cX8_rainAt 10 = .ok (.iconst (-1), 1) := by decide +kernel
theorem dX8_rainAt_11 : decode cX8_rainAt 11 = .ok (.if_icmp .ne 7, 3) := by decide +kernel
theorem dX8_rainAt_14 : decode cX8_rainAt 14 = .ok (.iconst 0, 1) := by decide +kernel
theorem dX8_rainAt_15 : decode cX8_rainAt 15 = .ok (.goto 12, 3) := by decide +kernel
theorem dX8_rainAt_18 : decode cX8_rainAt 18 = .ok (.aload_n 0, 1) := by decide +kernel
theorem dX8_rainAt_19 : decode cX8_rainAt 19 = .ok (.getfield 31, 3) := by decide +kernel
theorem dX8_rainAt_22 : decode cX8_rainAt 22 = .ok (.getfield 48, 3) := by decide +kernel
theorem dX8_rainAt_25 : decode cX8_rainAt 25 = .ok (.iload_n 2, 1) := by decide +kernel
theorem dX8_rainAt_26 : decode cX8_rainAt 26 = .ok (.iaload, 1) := by decide +kernel
theorem dX8_rainAt_27 : decode cX8_rainAt 27 = .ok (.ireturn, 1) := by decide +kernel
theorem dX3_workOn_0 : decode cX3_workOn 0 = .ok (.iconst 0, 1) := by decide +kernel
theorem dX3_workOn_1 : decode cX3_workOn 1 = .ok (.istore_n 2, 1) := by decide +kernel
theorem dX3_workOn_2 : decode cX3_workOn 2 = .ok (.iload_n 2, 1) := by decide +kernel
theorem dX3_workOn_3 : decode cX3_workOn 3 = .ok (.aload_n 0, 1) := by decide +kernel
theorem dX3_workOn_4 : decode cX3_workOn 4 = .ok (.getfield 47, 3) := by decide +kernel
theorem dX3_workOn_7 : decode cX3_workOn 7 = .ok (.if_icmp .ge 24, 3) := by decide +kernel
theorem dX3_workOn_10 : decode cX3_workOn 10 = .ok (.aload_n 0, 1) := by decide +kernel
theorem dX3_workOn_11 : decode cX3_workOn 11 = .ok (.getfield 27, 3) := by decide +kernel
theorem dX3_workOn_14 : decode cX3_workOn 14 = .ok (.iload_n 2, 1) := by decide +kernel
theorem dX3_workOn_15 : decode cX3_workOn 15 = .ok (.aaload, 1) := by decide +kernel
theorem dX3_workOn_16 : decode cX3_workOn 16 = .ok (.getfield 50, 3) := by decide +kernel
theorem dX3_workOn_19 : decode cX3_workOn 19 = .ok (.iload_n 1, 1) := by decide +kernel
theorem dX3_workOn_20 : decode cX3_workOn 20 = .ok (.if_icmp .ne 5, 3) := by decide +kernel
theorem dX3_workOn_23 : decode cX3_workOn 23 = .ok (.iload_n 2, 1) := by decide +kernel
theorem dX3_workOn_24 : decode cX3_workOn 24 = .ok (.ireturn, 1) := by decide +kernel
theorem dX3_workOn_25 : decode cX3_workOn 25 = .ok (.iinc 2 1, 3) := by decide +kernel
theorem dX3_workOn_28 : decode cX3_workOn 28 = .ok (.goto (-26), 3) := by decide +kernel
theorem dX3_workOn_31 : decode cX3_workOn 31 = .ok (.iconst (-1), 1) := by decide +kernel
theorem dX3_workOn_32 : decode cX3_workOn 32 = .ok (.ireturn, 1) := by decide +kernel
theorem dX3_dayNow_0 : decode cX3_dayNow 0 = .ok (.aload_n 0, 1) := by decide +kernel
theorem dX3_dayNow_1 : decode cX3_dayNow 1 = .ok (.getfield 32, 3) := by decide +kernel
theorem dX3_dayNow_4 : decode cX3_dayNow 4 = .ok (.bipush 24, 2) := by decide +kernel
theorem dX3_dayNow_6 : decode cX3_dayNow 6 = .ok (.idiv, 1) := by decide +kernel
theorem dX3_dayNow_7 : decode cX3_dayNow 7 = .ok (.ireturn, 1) := by decide +kernel
theorem dX4_levelFor_0 : decode cX4_levelFor 0 = .ok (.sipush 1000, 3) := by decide +kernel
theorem dX4_levelFor_3 : decode cX4_levelFor 3 = .ok (.istore_n 3, 1) := by decide +kernel
theorem dX4_levelFor_4 : decode cX4_levelFor 4 = .ok (.iconst 0, 1) := by decide +kernel
theorem dX4_levelFor_5 : decode cX4_levelFor 5 = .ok (.istore 4, 2) := by decide +kernel
theorem dX4_levelFor_7 : decode cX4_levelFor 7 = .ok (.iload 4, 2) := by decide +kernel
theorem dX4_levelFor_9 : decode cX4_levelFor 9 = .ok (.aload_n 0, 1) := by decide +kernel
theorem dX4_levelFor_10 : decode cX4_levelFor 10 = .ok (.getfield 60, 3) := by decide +kernel
theorem dX4_levelFor_13 : decode cX4_levelFor 13 = .ok (.if_icmp .ge 66, 3) := by decide +kernel
theorem dX4_levelFor_16 : decode cX4_levelFor 16 = .ok (.aload_n 0, 1) := by decide +kernel
theorem dX4_levelFor_17 : decode cX4_levelFor 17 = .ok (.getfield 18, 3) := by decide +kernel
theorem dX4_levelFor_20 : decode cX4_levelFor 20 = .ok (.iload 4, 2) := by decide +kernel
theorem dX4_levelFor_22 : decode cX4_levelFor 22 = .ok (.iaload, 1) := by decide +kernel
theorem dX4_levelFor_23 : decode cX4_levelFor 23 = .ok (.bipush 7, 2) := by decide +kernel
theorem dX4_levelFor_25 : decode cX4_levelFor 25 = .ok (.if_icmp .ne 48, 3) := by decide +kernel
theorem dX4_levelFor_28 : decode cX4_levelFor 28 = .ok (.iload_n 1, 1) := by decide +kernel
theorem dX4_levelFor_29 : decode cX4_levelFor 29 = .ok (.aload_n 0, 1) := by decide +kernel
theorem dX4_levelFor_30 : decode cX4_levelFor 30 = .ok (.getfield 27, 3) := by decide +kernel
theorem dX4_levelFor_33 : decode cX4_levelFor 33 = .ok (.iload 4, 2) := by decide +kernel
theorem dX4_levelFor_35 : decode cX4_levelFor 35 = .ok (.iaload, 1) := by decide +kernel
theorem dX4_levelFor_36 : decode cX4_levelFor 36 = .ok (.aload_n 0, 1) := by decide +kernel
theorem dX4_levelFor_37 : decode cX4_levelFor 37 = .ok (.getfield 30, 3) := by decide +kernel
theorem dX4_levelFor_40 : decode cX4_levelFor 40 = .ok (.iload 4, 2) := by decide +kernel
theorem dX4_levelFor_42 : decode cX4_levelFor 42 = .ok (.iaload, 1) := by decide +kernel
theorem dX4_levelFor_43 : decode cX4_levelFor 43 = .ok (.invokestatic 207, 3) := by decide +kernel
theorem dX4_levelFor_46 : decode cX4_levelFor 46 = .ok (.ifCond .eq 27, 3) := by decide +kernel
theorem dX4_levelFor_49 : decode cX4_levelFor 49 = .ok (.iload_n 2, 1) := by decide +kernel
theorem dX4_levelFor_50 : decode cX4_levelFor 50 = .ok (.ifCond .eq 14, 3) := by decide +kernel
theorem dX4_levelFor_53 : decode cX4_levelFor 53 = .ok (.aload_n 0, 1) := by decide +kernel
theorem dX4_levelFor_54 : decode cX4_levelFor 54 = .ok (.getfield 21, 3) := by decide +kernel
theorem dX4_levelFor_57 : decode cX4_levelFor 57 = .ok (.iload 4, 2) := by decide +kernel
theorem dX4_levelFor_59 : decode cX4_levelFor 59 = .ok (.iaload, 1) := by decide +kernel
theorem dX4_levelFor_60 : decode cX4_levelFor 60 = .ok (.ineg, 1) := by decide +kernel
theorem dX4_levelFor_61 : decode cX4_levelFor 61 = .ok (.goto 11, 3) := by decide +kernel
theorem dX4_levelFor_64 : decode cX4_levelFor 64 = .ok (.aload_n 0, 1) := by decide +kernel
theorem dX4_levelFor_65 : decode cX4_levelFor 65 = .ok (.getfield 24, 3) := by decide +kernel
theorem dX4_levelFor_68 : decode cX4_levelFor 68 = .ok (.iload 4, 2) := by decide +kernel
theorem dX4_levelFor_70 : decode cX4_levelFor 70 = .ok (.iaload, 1) := by decide +kernel
theorem dX4_levelFor_71 : decode cX4_levelFor 71 = .ok (.ineg, 1) := by decide +kernel
theorem dX4_levelFor_72 : decode cX4_levelFor 72 = .ok (.istore_n 3, 1) := by decide +kernel
theorem dX4_levelFor_73 : decode cX4_levelFor 73 = .ok (.iinc 4 1, 3) := by decide +kernel
theorem dX4_levelFor_76 : decode cX4_levelFor 76 = .ok (.goto (-69), 3) := by decide +kernel
theorem dX4_levelFor_79 : decode cX4_levelFor 79 = .ok (.iload_n 3, 1) := by decide +kernel
theorem dX4_levelFor_80 : decode cX4_levelFor 80 = .ok (.ireturn, 1) := by decide +kernel
theorem dX3_stepsToBank_0 : decode cX3_stepsToBank 0 = .ok (.bipush 99, 2) := by decide +kernel
theorem dX3_stepsToBank_2 : decode cX3_stepsToBank 2 = .ok (.istore_n 2, 1) := by decide +kernel
theorem dX3_stepsToBank_3 : decode cX3_stepsToBank 3 = .ok (.iconst 0, 1) := by decide +kernel
theorem dX3_stepsToBank_4 : decode cX3_stepsToBank 4 = .ok (.istore_n 3, 1) := by decide +kernel
theorem dX3_stepsToBank_5 : decode cX3_stepsToBank 5 = .ok (.iload_n 3, 1) := by decide +kernel
theorem dX3_stepsToBank_6 : decode cX3_stepsToBank 6 = .ok (.aload_n 0, 1) := by decide +kernel
theorem dX3_stepsToBank_7 : decode cX3_stepsToBank 7 = .ok (.getfield 47, 3) := by decide +kernel
theorem dX3_stepsToBank_10 : decode cX3_stepsToBank 10 = .ok (.if_icmp .ge 39, 3) := by decide +kernel
theorem dX3_stepsToBank_13 : decode cX3_stepsToBank 13 = .ok (.aload_n 0, 1) := by decide +kernel
theorem dX3_stepsToBank_14 : decode cX3_stepsToBank 14 = .ok (.getfield 27, 3) := by decide +kernel
theorem dX3_stepsToBank_17 : decode cX3_stepsToBank 17 = .ok (.iload_n 3, 1) := by decide +kernel
theorem dX3_stepsToBank_18 : decode cX3_stepsToBank 18 = .ok (.aaload, 1) := by decide +kernel
theorem dX3_stepsToBank_19 : decode cX3_stepsToBank 19 = .ok (.invokevirtual 67, 3) := by decide +kernel
theorem dX3_stepsToBank_22 : decode cX3_stepsToBank 22 = .ok (.ifCond .eq 21, 3) := by decide +kernel
theorem dX3_stepsToBank_25 : decode cX3_stepsToBank 25 = .ok (.iload_n 2, 1) := by decide +kernel
theorem dX3_stepsToBank_26 : decode cX3_stepsToBank 26 = .ok (.iload_n 1, 1) := by decide +kernel
theorem dX3_stepsToBank_27 : decode cX3_stepsToBank 27 = .ok (.aload_n 0, 1) := by decide +kernel
theorem dX3_stepsToBank_28 : decode cX3_stepsToBank 28 = .ok (.getfield 27, 3) := by decide +kernel
theorem dX3_stepsToBank_31 : decode cX3_stepsToBank 31 = .ok (.iload_n 3, 1) := by decide +kernel
theorem dX3_stepsToBank_32 : decode cX3_stepsToBank 32 = .ok (.aaload, 1) := by decide +kernel
theorem dX3_stepsToBank_33 : decode cX3_stepsToBank 33 = .ok (.getfield 50, 3) := by decide +kernel
theorem dX3_stepsToBank_36 : decode cX3_stepsToBank 36 = .ok (.invokestatic 56, 3) := by decide +kernel
theorem dX3_stepsToBank_39 : decode cX3_stepsToBank 39 = .ok (.invokestatic 71, 3) := by decide +kernel
theorem dX3_stepsToBank_42 : decode cX3_stepsToBank 42 = .ok (.istore_n 2, 1) := by decide +kernel
theorem dX3_stepsToBank_43 : decode cX3_stepsToBank 43 = .ok (.iinc 3 1, 3) := by decide +kernel
theorem dX3_stepsToBank_46 : decode cX3_stepsToBank 46 = .ok (.goto (-41), 3) := by decide +kernel
theorem dX3_stepsToBank_49 : decode cX3_stepsToBank 49 = .ok (.iload_n 2, 1) := by decide +kernel
theorem dX3_stepsToBank_50 : decode cX3_stepsToBank 50 = .ok (.ireturn, 1) := by decide +kernel
theorem dX4_lastOf_0 : decode cX4_lastOf 0 = .ok (.iload_n 2, 1) := by decide +kernel
theorem dX4_lastOf_1 : decode cX4_lastOf 1 = .ok (.istore_n 3, 1) := by decide +kernel
theorem dX4_lastOf_2 : decode cX4_lastOf 2 = .ok (.iconst 0, 1) := by decide +kernel
theorem dX4_lastOf_3 : decode cX4_lastOf 3 = .ok (.istore 4, 2) := by decide +kernel
theorem dX4_lastOf_5 : decode cX4_lastOf 5 = .ok (.iload 4, 2) := by decide +kernel
theorem dX4_lastOf_7 : decode cX4_lastOf 7 = .ok (.aload_n 0, 1) := by decide +kernel
theorem dX4_lastOf_8 : decode cX4_lastOf 8 = .ok (.getfield 60, 3) := by decide +kernel
theorem dX4_lastOf_11 : decode cX4_lastOf 11 = .ok (.if_icmp .ge 32, 3) := by decide +kernel
theorem dX4_lastOf_14 : decode cX4_lastOf 14 = .ok (.aload_n 0, 1) := by decide +kernel
theorem dX4_lastOf_15 : decode cX4_lastOf 15 = .ok (.getfield 18, 3) := by decide +kernel
theorem dX4_lastOf_18 : decode cX4_lastOf 18 = .ok (.iload 4, 2) := by decide +kernel
theorem dX4_lastOf_20 : decode cX4_lastOf 20 = .ok (.iaload, 1) := by decide +kernel
theorem dX4_lastOf_21 : decode cX4_lastOf 21 = .ok (.iload_n 1, 1) := by decide +kernel
theorem dX4_lastOf_22 : decode cX4_lastOf 22 = .ok (.if_icmp .ne 13, 3) := by decide +kernel
theorem dX4_lastOf_25 : decode cX4_lastOf 25 = .ok (.aload_n 0, 1) := by decide +kernel
theorem dX4_lastOf_26 : decode cX4_lastOf 26 = .ok (.getfield 21, 3) := by decide +kernel
theorem dX4_lastOf_29 : decode cX4_lastOf 29 = .ok (.iload 4, 2) := by decide +kernel
theorem dX4_lastOf_31 : decode cX4_lastOf 31 = .ok (.iaload, 1) := by decide +kernel
theorem dX4_lastOf_32 : decode cX4_lastOf 32 = .ok (.goto 4, 3) := by decide +kernel
theorem dX4_lastOf_35 : decode cX4_lastOf 35 = .ok (.iload_n 3, 1) := by decide +kernel
theorem dX4_lastOf_36 : decode cX4_lastOf 36 = .ok (.istore_n 3, 1) := by decide +kernel
theorem dX4_lastOf_37 : decode cX4_lastOf 37 = .ok (.iinc 4 1, 3) := by decide +kernel
theorem dX4_lastOf_40 : decode cX4_lastOf 40 = .ok (.goto (-35), 3) := by decide +kernel
theorem dX4_lastOf_43 : decode cX4_lastOf 43 = .ok (.iload_n 3, 1) := by decide +kernel
theorem dX4_lastOf_44 : decode cX4_lastOf 44 = .ok (.ireturn, 1) := by decide +kernel
theorem dX0_buildingAllowed_0 : decode cX0_buildingAllowed 0 = .ok (.aload_n 2, 1) := by decide +kernel
theorem dX0_buildingAllowed_1 : decode cX0_buildingAllowed 1 = .ok (.iload_n 1, 1) := by decide +kernel
theorem dX0_buildingAllowed_2 : decode cX0_buildingAllowed 2 = .ok (.invokevirtual 138, 3) := by decide +kernel
theorem dX0_buildingAllowed_5 : decode cX0_buildingAllowed 5 = .ok (.aload_n 0, 1) := by decide +kernel
theorem dX0_buildingAllowed_6 : decode cX0_buildingAllowed 6 = .ok (.getfield 41, 3) := by decide +kernel
theorem dX0_buildingAllowed_9 : decode cX0_buildingAllowed 9 = .ok (.bipush 9, 2) := by decide +kernel
theorem dX0_buildingAllowed_11 : decode cX0_buildingAllowed 11 = .ok (.iconst 0, 1) := by decide +kernel
theorem dX0_buildingAllowed_12 : decode cX0_buildingAllowed 12 = .ok (.invokevirtual 94, 3) := by decide +kernel
theorem dX0_buildingAllowed_15 : decode cX0_buildingAllowed 15 = .ok (.if_icmp .lt 7, 3) := by decide +kernel
theorem dX0_buildingAllowed_18 : decode cX0_buildingAllowed 18 = .ok (.iconst 1, 1) := by decide +kernel
theorem dX0_buildingAllowed_19 : decode cX0_buildingAllowed 19 = .ok (.goto 4, 3) := by decide +kernel
theorem dX0_buildingAllowed_22 : decode cX0_buildingAllowed 22 = .ok (.iconst 0, 1) := by decide +kernel
theorem dX0_buildingAllowed_23 : decode cX0_buildingAllowed 23 = .ok (.ireturn, 1) := by decide +kernel
theorem dX0_firstByMark_0 : decode cX0_firstByMark 0 = .ok (.iconst (-1), 1) := by decide +kernel
theorem dX0_firstByMark_1 : decode cX0_firstByMark 1 = .ok (.istore_n 1, 1) := by decide +kernel
theorem dX0_firstByMark_2 : decode cX0_firstByMark 2 = .ok (.iconst 0, 1) := by decide +kernel
theorem dX0_firstByMark_3 : decode cX0_firstByMark 3 = .ok (.istore_n 2, 1) := by decide +kernel
theorem dX0_firstByMark_4 : decode cX0_firstByMark 4 = .ok (.iload_n 2, 1) := by decide +kernel
theorem dX0_firstByMark_5 : decode cX0_firstByMark 5 = .ok (.aload_n 0, 1) := by decide +kernel
theorem dX0_firstByMark_6 : decode cX0_firstByMark 6 = .ok (.getfield 75, 3) := by decide +kernel
theorem dX0_firstByMark_9 : decode cX0_firstByMark 9 = .ok (.if_icmp .ge 77, 3) := by decide +kernel
theorem dX0_firstByMark_12 : decode cX0_firstByMark 12 = .ok (.aload_n 0, 1) := by decide +kernel
theorem dX0_firstByMark_13 : decode cX0_firstByMark 13 = .ok (.getfield 37, 3) := by decide +kernel
theorem dX0_firstByMark_16 : decode cX0_firstByMark 16 = .ok (.iload_n 2, 1) := by decide +kernel
theorem dX0_firstByMark_17 : decode cX0_firstByMark 17 = .ok (.iaload, 1) := by decide +kernel
theorem dX0_firstByMark_18 : decode cX0_firstByMark 18 = .ok (.iconst (-1), 1) := by decide +kernel
theorem dX0_firstByMark_19 : decode cX0_firstByMark 19 = .ok (.if_icmp .eq 61, 3) := by decide +kernel
theorem dX0_firstByMark_22 : decode cX0_firstByMark 22 = .ok (.iload_n 1, 1) := by decide +kernel
theorem dX0_firstByMark_23 : decode cX0_firstByMark 23 = .ok (.iconst (-1), 1) := by decide +kernel
theorem dX0_firstByMark_24 : decode cX0_firstByMark 24 = .ok (.if_icmp .eq 54, 3) := by decide +kernel
theorem dX0_firstByMark_27 : decode cX0_firstByMark 27 = .ok (.aload_n 0, 1) := by decide +kernel
theorem dX0_firstByMark_28 : decode cX0_firstByMark 28 = .ok (.getfield 37, 3) := by decide +kernel
theorem dX0_firstByMark_31 : decode cX0_firstByMark 31 = .ok (.iload_n 2, 1) := by decide +kernel
theorem dX0_firstByMark_32 : decode cX0_firstByMark 32 = .ok (.iaload, 1) := by decide +kernel
theorem dX0_firstByMark_33 : decode cX0_firstByMark 33 = .ok (.aload_n 0, 1) := by decide +kernel
theorem dX0_firstByMark_34 : decode cX0_firstByMark 34 = .ok (.getfield 37, 3) := by decide +kernel
theorem dX0_firstByMark_37 : decode cX0_firstByMark 37 = .ok (.iload_n 1, 1) := by decide +kernel
theorem dX0_firstByMark_38 : decode cX0_firstByMark 38 = .ok (.iaload, 1) := by decide +kernel
theorem dX0_firstByMark_39 : decode cX0_firstByMark 39 = .ok (.if_icmp .gt 39, 3) := by decide +kernel
theorem dX0_firstByMark_42 : decode cX0_firstByMark 42 = .ok (.aload_n 0, 1) := by decide +kernel
theorem dX0_firstByMark_43 : decode cX0_firstByMark 43 = .ok (.getfield 37, 3) := by decide +kernel
theorem dX0_firstByMark_46 : decode cX0_firstByMark 46 = .ok (.iload_n 2, 1) := by decide +kernel
theorem dX0_firstByMark_47 : decode cX0_firstByMark 47 = .ok (.iaload, 1) := by decide +kernel
theorem dX0_firstByMark_48 : decode cX0_firstByMark 48 = .ok (.aload_n 0, 1) := by decide +kernel
theorem dX0_firstByMark_49 : decode cX0_firstByMark 49 = .ok (.getfield 37, 3) := by decide +kernel
theorem dX0_firstByMark_52 : decode cX0_firstByMark 52 = .ok (.iload_n 1, 1) := by decide +kernel
theorem dX0_firstByMark_53 : decode cX0_firstByMark 53 = .ok (.iaload, 1) := by decide +kernel
theorem dX0_firstByMark_54 : decode cX0_firstByMark 54 = .ok (.if_icmp .ne 26, 3) := by decide +kernel
theorem dX0_firstByMark_57 : decode cX0_firstByMark 57 = .ok (.aload_n 0, 1) := by decide +kernel
theorem dX0_firstByMark_58 : decode cX0_firstByMark 58 = .ok (.getfield 11, 3) := by decide +kernel
theorem dX0_firstByMark_61 : decode cX0_firstByMark 61 = .ok (.iload_n 2, 1) := by decide +kernel
theorem dX0_firstByMark_62 : decode cX0_firstByMark 62 = .ok (.aaload, 1) := by decide +kernel
theorem dX0_firstByMark_63 : decode cX0_firstByMark 63 = .ok (.getfield 188, 3) := by decide +kernel
theorem dX0_firstByMark_66 : decode cX0_firstByMark 66 = .ok (.aload_n 0, 1) := by decide +kernel
theorem dX0_firstByMark_67 : decode cX0_firstByMark 67 = .ok (.getfield 11, 3) := by decide +kernel
theorem dX0_firstByMark_70 : decode cX0_firstByMark 70 = .ok (.iload_n 1, 1) := by decide +kernel
theorem dX0_firstByMark_71 : decode cX0_firstByMark 71 = .ok (.aaload, 1) := by decide +kernel
theorem dX0_firstByMark_72 : decode cX0_firstByMark 72 = .ok (.getfield 188, 3) := by decide +kernel
theorem dX0_firstByMark_75 : decode cX0_firstByMark 75 = .ok (.if_icmp .ge 5, 3) := by decide +kernel
theorem dX0_firstByMark_78 : decode cX0_firstByMark 78 = .ok (.iload_n 2, 1) := by decide +kernel
theorem dX0_firstByMark_79 : decode cX0_firstByMark 79 = .ok (.istore_n 1, 1) := by decide +kernel
theorem dX0_firstByMark_80 : decode cX0_firstByMark 80 = .ok (.iinc 2 1, 3) := by decide +kernel
theorem dX0_firstByMark_83 : decode cX0_firstByMark 83 = .ok (.goto (-79), 3) := by decide +kernel
theorem dX0_firstByMark_86 : decode cX0_firstByMark 86 = .ok (.iload_n 1, 1) := by decide +kernel
theorem dX0_firstByMark_87 : decode cX0_firstByMark 87 = .ok (.ireturn, 1) := by decide +kernel
theorem dX0_bestFreeFarm_0 : decode cX0_bestFreeFarm 0 = .ok (.iconst (-1), 1) := by decide +kernel
theorem dX0_bestFreeFarm_1 : decode cX0_bestFreeFarm 1 = .ok (.istore_n 2, 1) := by decide +kernel
theorem dX0_bestFreeFarm_2 : decode cX0_bestFreeFarm 2 = .ok (.iconst (-1), 1) := by decide +kernel
theorem dX0_bestFreeFarm_3 : decode cX0_bestFreeFarm 3 = .ok (.istore_n 3, 1) := by decide +kernel
theorem dX0_bestFreeFarm_4 : decode cX0_bestFreeFarm 4 = .ok (.iconst 0, 1) := by decide +kernel
theorem dX0_bestFreeFarm_5 : decode cX0_bestFreeFarm 5 = .ok (.istore 4, 2) := by decide +kernel
theorem dX0_bestFreeFarm_7 : decode cX0_bestFreeFarm 7 = .ok (.iload 4, 2) := by decide +kernel
theorem dX0_bestFreeFarm_9 : decode cX0_bestFreeFarm 9 = .ok (.aload_n 0, 1) := by decide +kernel
theorem dX0_bestFreeFarm_10 : decode cX0_bestFreeFarm 10 = .ok (.getfield 143, 3) := by decide +kernel
theorem dX0_bestFreeFarm_13 : decode cX0_bestFreeFarm 13 = .ok (.if_icmp .ge 44, 3) := by decide +kernel
theorem dX0_bestFreeFarm_16 : decode cX0_bestFreeFarm 16 = .ok (.aload_n 0, 1) := by decide +kernel
theorem dX0_bestFreeFarm_17 : decode cX0_bestFreeFarm 17 = .ok (.getfield 24, 3) := by decide +kernel
theorem dX0_bestFreeFarm_20 : decode cX0_bestFreeFarm 20 = .ok (.iload 4, 2) := by decide +kernel
theorem dX0_bestFreeFarm_22 : decode cX0_bestFreeFarm 22 = .ok (.baload, 1) := by decide +kernel
theorem dX0_bestFreeFarm_23 : decode cX0_bestFreeFarm 23 = .ok (.ifCond .eq 7, 3) := by decide +kernel
theorem dX0_bestFreeFarm_26 : decode cX0_bestFreeFarm 26 = .ok (.iconst (-1), 1) := by decide +kernel
theorem dX0_bestFreeFarm_27 : decode cX0_bestFreeFarm 27 = .ok (.goto 10, 3) := by decide +kernel
theorem dX0_bestFreeFarm_30 : decode cX0_bestFreeFarm 30 = .ok (.aload_n 0, 1) := by decide +kernel
theorem dX0_bestFreeFarm_31 : decode cX0_bestFreeFarm 31 = .ok (.iload 4, 2) := by decide +kernel
theorem dX0_bestFreeFarm_33 : decode cX0_bestFreeFarm 33 = .ok (.aload_n 1, 1) := by decide +kernel
theorem dX0_bestFreeFarm_34 : decode cX0_bestFreeFarm 34 = .ok (.invokevirtual 191, 3) := by decide +kernel
theorem dX0_bestFreeFarm_37 : decode cX0_bestFreeFarm 37 = .ok (.istore 5, 2) := by decide +kernel
theorem dX0_bestFreeFarm_39 : decode cX0_bestFreeFarm 39 = .ok (.iload 5, 2) := by decide +kernel
theorem dX0_bestFreeFarm_41 : decode cX0_bestFreeFarm 41 = .ok (.iload_n 3, 1) := by decide +kernel
theorem dX0_bestFreeFarm_42 : decode cX0_bestFreeFarm 42 = .ok (.if_icmp .le 9, 3) := by decide +kernel
theorem dX0_bestFreeFarm_45 : decode cX0_bestFreeFarm 45 = .ok (.iload 5, 2) := by decide +kernel
theorem dX0_bestFreeFarm_47 : decode cX0_bestFreeFarm 47 = .ok (.istore_n 3, 1) := by decide +kernel
theorem dX0_bestFreeFarm_48 : decode cX0_bestFreeFarm 48 = .ok (.iload 4, 2) := by decide +kernel
theorem dX0_bestFreeFarm_50 : decode cX0_bestFreeFarm 50 = .ok (.istore_n 2, 1) := by decide +kernel
theorem dX0_bestFreeFarm_51 : decode cX0_bestFreeFarm 51 = .ok (.iinc 4 1, 3) := by decide +kernel
theorem dX0_bestFreeFarm_54 : decode cX0_bestFreeFarm 54 = .ok (.goto (-47), 3) := by decide +kernel
theorem dX0_bestFreeFarm_57 : decode cX0_bestFreeFarm 57 = .ok (.iload_n 2, 1) := by decide +kernel
theorem dX0_bestFreeFarm_58 : decode cX0_bestFreeFarm 58 = .ok (.ireturn, 1) := by decide +kernel
theorem dX0_debtorOfRank_0 : decode cX0_debtorOfRank 0 = .ok (.iconst 0, 1) := by decide +kernel
theorem dX0_debtorOfRank_1 : decode cX0_debtorOfRank 1 = .ok (.istore_n 2, 1) := by decide +kernel
theorem dX0_debtorOfRank_2 : decode cX0_debtorOfRank 2 = .ok (.iload_n 2, 1) := by decide +kernel
theorem dX0_debtorOfRank_3 : decode cX0_debtorOfRank 3 = .ok (.aload_n 0, 1) := by decide +kernel
theorem dX0_debtorOfRank_4 : decode cX0_debtorOfRank 4 = .ok (.getfield 75, 3) := by decide +kernel
theorem dX0_debtorOfRank_7 : decode cX0_debtorOfRank 7 = .ok (.if_icmp .ge 32, 3) := by decide +kernel
theorem dX0_debtorOfRank_10 : decode cX0_debtorOfRank 10 = .ok (.aload_n 0, 1) := by decide +kernel
theorem dX0_debtorOfRank_11 : decode cX0_debtorOfRank 11 = .ok (.getfield 11, 3) := by decide +kernel
theorem dX0_debtorOfRank_14 : decode cX0_debtorOfRank 14 = .ok (.iload_n 2, 1) := by decide +kernel
theorem dX0_debtorOfRank_15 : decode cX0_debtorOfRank 15 = .ok (.aaload, 1) := by decide +kernel
theorem dX0_debtorOfRank_16 : decode cX0_debtorOfRank 16 = .ok (.getfield 127, 3) := by decide +kernel
theorem dX0_debtorOfRank_19 : decode cX0_debtorOfRank 19 = .ok (.ifCond .le 14, 3) := by decide +kernel
theorem dX0_debtorOfRank_22 : decode cX0_debtorOfRank 22 = .ok (.aload_n 0, 1) := by decide +kernel
theorem dX0_debtorOfRank_23 : decode cX0_debtorOfRank 23 = .ok (.iload_n 2, 1) := by decide +kernel
theorem dX0_debtorOfRank_24 : decode cX0_debtorOfRank 24 = .ok (.invokevirtual 220, 3) := by decide +kernel
theorem dX0_debtorOfRank_27 : decode cX0_debtorOfRank 27 = .ok (.iload_n 1, 1) := by decide +kernel
theorem dX0_debtorOfRank_28 : decode cX0_debtorOfRank 28 = .ok (.if_icmp .ne 5, 3) := by decide +kernel
theorem dX0_debtorOfRank_31 : decode cX0_debtorOfRank 31 = .ok (.iload_n 2, 1) := by decide +kernel
theorem dX0_debtorOfRank_32 : decode cX0_debtorOfRank 32 = .ok (.ireturn, 1) := by decide +kernel
theorem dX0_debtorOfRank_33 : decode cX0_debtorOfRank 33 = .ok (.iinc 2 1, 3) := by decide +kernel
theorem dX0_debtorOfRank_36 : decode cX0_debtorOfRank 36 = .ok (.goto (-34), 3) := by decide +kernel
theorem dX0_debtorOfRank_39 : decode cX0_debtorOfRank 39 = .ok (.iconst (-1), 1) := by decide +kernel
theorem dX0_debtorOfRank_40 : decode cX0_debtorOfRank 40 = .ok (.ireturn, 1) := by decide +kernel
theorem dX6_firstTorn_0 : decode cX6_firstTorn 0 = .ok (.iconst 0, 1) := by decide +kernel
theorem dX6_firstTorn_1 : decode cX6_firstTorn 1 = .ok (.istore_n 1, 1) := by decide +kernel
theorem dX6_firstTorn_2 : decode cX6_firstTorn 2 = .ok (.iload_n 1, 1) := by decide +kernel
theorem dX6_firstTorn_3 : decode cX6_firstTorn 3 = .ok (.aload_n 0, 1) := by decide +kernel
theorem dX6_firstTorn_4 : decode cX6_firstTorn 4 = .ok (.getfield 18, 3) := by decide +kernel
theorem dX6_firstTorn_7 : decode cX6_firstTorn 7 = .ok (.bipush 96, 2) := by decide +kernel
theorem dX6_firstTorn_9 : decode cX6_firstTorn 9 = .ok (.imul, 1) := by decide +kernel
theorem dX6_firstTorn_10 : decode cX6_firstTorn 10 = .ok (.if_icmp .ge 39, 3) := by decide +kernel
theorem dX6_firstTorn_13 : decode cX6_firstTorn 13 = .ok (.aload_n 0, 1) := by decide +kernel
theorem dX6_firstTorn_14 : decode cX6_firstTorn 14 = .ok (.iload_n 1, 1) := by decide +kernel
theorem dX6_firstTorn_15 : decode cX6_firstTorn 15 = .ok (.bipush 96, 2) := by decide +kernel
theorem dX6_firstTorn_17 : decode cX6_firstTorn 17 = .ok (.idiv, 1) := by decide +kernel
theorem dX6_firstTorn_18 : decode cX6_firstTorn 18 = .ok (.iload_n 1, 1) := by decide +kernel
theorem dX6_firstTorn_19 : decode cX6_firstTorn 19 = .ok (.bipush 96, 2) := by decide +kernel
theorem dX6_firstTorn_21 : decode cX6_firstTorn 21 = .ok (.irem, 1) := by decide +kernel
theorem dX6_firstTorn_22 : decode cX6_firstTorn 22 = .ok (.invokevirtual 40, 3) := by decide +kernel
theorem dX6_firstTorn_25 : decode cX6_firstTorn 25 = .ok (.istore_n 2, 1) := by decide +kernel
theorem dX6_firstTorn_26 : decode cX6_firstTorn 26 = .ok (.aload_n 0, 1) := by decide +kernel
theorem dX6_firstTorn_27 : decode cX6_firstTorn 27 = .ok (.getfield 9, 3) := by decide +kernel
theorem dX6_firstTorn_30 : decode cX6_firstTorn 30 = .ok (.iload_n 2, 1) := by decide +kernel
theorem dX6_firstTorn_31 : decode cX6_firstTorn 31 = .ok (.iaload, 1) := by decide +kernel
theorem dX6_firstTorn_32 : decode cX6_firstTorn 32 = .ok (.aload_n 0, 1) := by decide +kernel
theorem dX6_firstTorn_33 : decode cX6_firstTorn 33 = .ok (.getfield 15, 3) := by decide +kernel
theorem dX6_firstTorn_36 : decode cX6_firstTorn 36 = .ok (.iload_n 2, 1) := by decide +kernel
theorem dX6_firstTorn_37 : decode cX6_firstTorn 37 = .ok (.iaload, 1) := by decide +kernel
theorem dX6_firstTorn_38 : decode cX6_firstTorn 38 = .ok (.if_icmp .eq 5, 3) := by decide +kernel
theorem dX6_firstTorn_41 : decode cX6_firstTorn 41 = .ok (.iload_n 1, 1) := by decide +kernel
theorem dX6_firstTorn_42 : decode cX6_firstTorn 42 = .ok (.ireturn, 1) := by decide +kernel
theorem dX6_firstTorn_43 : decode cX6_firstTorn 43 = .ok (.iinc 1 1, 3) := by decide +kernel
theorem dX6_firstTorn_46 : decode cX6_firstTorn 46 = .ok (.goto (-44), 3) := by decide +kernel
theorem dX6_firstTorn_49 : decode cX6_firstTorn 49 = .ok (.iconst (-1), 1) := by decide +kernel
theorem dX6_firstTorn_50 : decode cX6_firstTorn 50 = .ok (.ireturn, 1) := by decide +kernel
theorem dX3_breaches_0 : decode cX3_breaches 0 = .ok (.iconst 0, 1) := by decide +kernel
theorem dX3_breaches_1 : decode cX3_breaches 1 = .ok (.istore_n 1, 1) := by decide +kernel
theorem dX3_breaches_2 : decode cX3_breaches 2 = .ok (.iconst 0, 1) := by decide +kernel
theorem dX3_breaches_3 : decode cX3_breaches 3 = .ok (.istore_n 2, 1) := by decide +kernel
theorem dX3_breaches_4 : decode cX3_breaches 4 = .ok (.iload_n 2, 1) := by decide +kernel
theorem dX3_breaches_5 : decode cX3_breaches 5 = .ok (.aload_n 0, 1) := by decide +kernel
theorem dX3_breaches_6 : decode cX3_breaches 6 = .ok (.getfield 47, 3) := by decide +kernel
theorem dX3_breaches_9 : decode cX3_breaches 9 = .ok (.if_icmp .ge 30, 3) := by decide +kernel
theorem dX3_breaches_12 : decode cX3_breaches 12 = .ok (.iload_n 1, 1) := by decide +kernel
theorem dX3_breaches_13 : decode cX3_breaches 13 = .ok (.aload_n 0, 1) := by decide +kernel
theorem dX3_breaches_14 : decode cX3_breaches 14 = .ok (.getfield 27, 3) := by decide +kernel
theorem dX3_breaches_17 : decode cX3_breaches 17 = .ok (.iload_n 2, 1) := by decide +kernel
theorem dX3_breaches_18 : decode cX3_breaches 18 = .ok (.aaload, 1) := by decide +kernel
theorem dX3_breaches_19 : decode cX3_breaches 19 = .ok (.getfield 64, 3) := by decide +kernel
theorem dX3_breaches_22 : decode cX3_breaches 22 = .ok (.iconst 1, 1) := by decide +kernel
theorem dX3_breaches_23 : decode cX3_breaches 23 = .ok (.if_icmp .ne 7, 3) := by decide +kernel
theorem dX3_breaches_26 : decode cX3_breaches 26 = .ok (.iconst 1, 1) := by decide +kernel
theorem dX3_breaches_27 : decode cX3_breaches 27 = .ok (.goto 4, 3) := by decide +kernel
theorem dX3_breaches_30 : decode cX3_breaches 30 = .ok (.iconst 0, 1) := by decide +kernel
theorem dX3_breaches_31 : decode cX3_breaches 31 = .ok (.iadd, 1) := by decide +kernel
theorem dX3_breaches_32 : decode cX3_breaches 32 = .ok (.istore_n 1, 1) := by decide +kernel
theorem dX3_breaches_33 : decode cX3_breaches 33 = .ok (.iinc 2 1, 3) := by decide +kernel
theorem dX3_breaches_36 : decode cX3_breaches 36 = .ok (.goto (-32), 3) := by decide +kernel
theorem dX3_breaches_39 : decode cX3_breaches 39 = .ok (.iload_n 1, 1) := by decide +kernel
theorem dX3_breaches_40 : decode cX3_breaches 40 = .ok (.ireturn, 1) := by decide +kernel
theorem dX0_allArrears_0 : decode cX0_allArrears 0 = .ok (.iconst 0, 1) := by decide +kernel
theorem dX0_allArrears_1 : decode cX0_allArrears 1 = .ok (.istore_n 1, 1) := by decide +kernel
theorem dX0_allArrears_2 : decode cX0_allArrears 2 = .ok (.iconst 0, 1) := by decide +kernel
theorem dX0_allArrears_3 : decode cX0_allArrears 3 = .ok (.istore_n 2, 1) := by decide +kernel
theorem dX0_allArrears_4 : decode cX0_allArrears 4 = .ok (.iload_n 2, 1) := by decide +kernel
theorem dX0_allArrears_5 : decode cX0_allArrears 5 = .ok (.aload_n 0, 1) := by decide +kernel
theorem dX0_allArrears_6 : decode cX0_allArrears 6 = .ok (.getfield 75, 3) := by decide +kernel
theorem dX0_allArrears_9 : decode cX0_allArrears 9 = .ok (.if_icmp .ge 21, 3) := by decide +kernel
theorem dX0_allArrears_12 : decode cX0_allArrears 12 = .ok (.iload_n 1, 1) := by decide +kernel
theorem dX0_allArrears_13 : decode cX0_allArrears 13 = .ok (.aload_n 0, 1) := by decide +kernel
theorem dX0_allArrears_14 : decode cX0_allArrears 14 = .ok (.getfield 11, 3) := by decide +kernel
theorem dX0_allArrears_17 : decode cX0_allArrears 17 = .ok (.iload_n 2, 1) := by decide +kernel
theorem dX0_allArrears_18 : decode cX0_allArrears 18 = .ok (.aaload, 1) := by decide +kernel
theorem dX0_allArrears_19 : decode cX0_allArrears 19 = .ok (.getfield 127, 3) := by decide +kernel
theorem dX0_allArrears_22 : decode cX0_allArrears 22 = .ok (.iadd, 1) := by decide +kernel
theorem dX0_allArrears_23 : decode cX0_allArrears 23 = .ok (.istore_n 1, 1) := by decide +kernel
theorem dX0_allArrears_24 : decode cX0_allArrears 24 = .ok (.iinc 2 1, 3) := by decide +kernel
theorem dX0_allArrears_27 : decode cX0_allArrears 27 = .ok (.goto (-23), 3) := by decide +kernel
theorem dX0_allArrears_30 : decode cX0_allArrears 30 = .ok (.iload_n 1, 1) := by decide +kernel
theorem dX0_allArrears_31 : decode cX0_allArrears 31 = .ok (.ireturn, 1) := by decide +kernel
theorem dX8_tellStorm_0 : decode cX8_tellStorm 0 = .ok (.aload_n 0, 1) := by decide +kernel
theorem dX8_tellStorm_1 : decode cX8_tellStorm 1 = .ok (.getfield 15, 3) := by decide +kernel
theorem dX8_tellStorm_4 : decode cX8_tellStorm 4 = .ok (.aload_n 0, 1) := by decide +kernel
theorem dX8_tellStorm_5 : decode cX8_tellStorm 5 = .ok (.getfield 34, 3) := by decide +kernel
theorem dX8_tellStorm_8 : decode cX8_tellStorm 8 = .ok (.iload_n 1, 1) := by decide +kernel
theorem dX8_tellStorm_9 : decode cX8_tellStorm 9 = .ok (.iastore, 1) := by decide +kernel
theorem dX8_tellStorm_10 : decode cX8_tellStorm 10 = .ok (.aload_n 0, 1) := by decide +kernel
theorem dX8_tellStorm_11 : decode cX8_tellStorm 11 = .ok (.getfield 18, 3) := by decide +kernel
theorem dX8_tellStorm_14 : decode cX8_tellStorm 14 = .ok (.aload_n 0, 1) := by decide +kernel
theorem dX8_tellStorm_15 : decode cX8_tellStorm 15 = .ok (.getfield 34, 3) := by decide +kernel
theorem dX8_tellStorm_18 : decode cX8_tellStorm 18 = .ok (.iload_n 2, 1) := by decide +kernel
theorem dX8_tellStorm_19 : decode cX8_tellStorm 19 = .ok (.iastore, 1) := by decide +kernel
theorem dX8_tellStorm_20 : decode cX8_tellStorm 20 = .ok (.aload_n 0, 1) := by decide +kernel
theorem dX8_tellStorm_21 : decode cX8_tellStorm 21 = .ok (.getfield 21, 3) := by decide +kernel
theorem dX8_tellStorm_24 : decode cX8_tellStorm 24 = .ok (.aload_n 0, 1) := by decide +kernel
theorem dX8_tellStorm_25 : decode cX8_tellStorm 25 = .ok (.getfield 34, 3) := by decide +kernel
theorem dX8_tellStorm_28 : decode cX8_tellStorm 28 = .ok (.iload_n 3, 1) := by decide +kernel
theorem dX8_tellStorm_29 : decode cX8_tellStorm 29 = .ok (.iastore, 1) := by decide +kernel
theorem dX8_tellStorm_30 : decode cX8_tellStorm 30 = .ok (.aload_n 0, 1) := by decide +kernel
theorem dX8_tellStorm_31 : decode cX8_tellStorm 31 = .ok (.dup, 1) := by decide +kernel
theorem dX8_tellStorm_32 : decode cX8_tellStorm 32 = .ok (.getfield 34, 3) := by decide +kernel
theorem dX8_tellStorm_35 : decode cX8_tellStorm 35 = .ok (.iconst 1, 1) := by decide +kernel
theorem dX8_tellStorm_36 : decode cX8_tellStorm 36 = .ok (.iadd, 1) := by decide +kernel
theorem dX8_tellStorm_37 : decode cX8_tellStorm 37 = .ok (.putfield 34, 3) := by decide +kernel
theorem dX8_tellStorm_40 : decode cX8_tellStorm 40 = .ok (.aload_n 0, 1) := by decide +kernel
theorem dX8_tellStorm_41 : decode cX8_tellStorm 41 = .ok (.getfield 34, 3) := by decide +kernel
theorem dX8_tellStorm_44 : decode cX8_tellStorm 44 = .ok (.ireturn, 1) := by decide +kernel
theorem dX9_tell_0 : decode cX9_tell 0 = .ok (.iconst 0, 1) := by decide +kernel
theorem dX9_tell_1 : decode cX9_tell 1 = .ok (.istore_n 3, 1) := by decide +kernel
theorem dX9_tell_2 : decode cX9_tell 2 = .ok (.iload_n 3, 1) := by decide +kernel
theorem dX9_tell_3 : decode cX9_tell 3 = .ok (.aload_n 0, 1) := by decide +kernel
theorem dX9_tell_4 : decode cX9_tell 4 = .ok (.getfield 18, 3) := by decide +kernel
theorem dX9_tell_7 : decode cX9_tell 7 = .ok (.if_icmp .ge 26, 3) := by decide +kernel
theorem dX9_tell_10 : decode cX9_tell 10 = .ok (.aload_n 0, 1) := by decide +kernel
theorem dX9_tell_11 : decode cX9_tell 11 = .ok (.getfield 9, 3) := by decide +kernel
theorem dX9_tell_14 : decode cX9_tell 14 = .ok (.iload_n 3, 1) := by decide +kernel
theorem dX9_tell_15 : decode cX9_tell 15 = .ok (.iaload, 1) := by decide +kernel
theorem dX9_tell_16 : decode cX9_tell 16 = .ok (.iload_n 1, 1) := by decide +kernel
theorem dX9_tell_17 : decode cX9_tell 17 = .ok (.if_icmp .ne 10, 3) := by decide +kernel
theorem dX9_tell_20 : decode cX9_tell 20 = .ok (.aload_n 0, 1) := by decide +kernel
theorem dX9_tell_21 : decode cX9_tell 21 = .ok (.getfield 9, 3) := by decide +kernel
theorem dX9_tell_24 : decode cX9_tell 24 = .ok (.iload_n 3, 1) := by decide +kernel
theorem dX9_tell_25 : decode cX9_tell 25 = .ok (.iconst (-1), 1) := by decide +kernel
theorem dX9_tell_26 : decode cX9_tell 26 = .ok (.iastore, 1) := by decide +kernel
theorem dX9_tell_27 : decode cX9_tell 27 = .ok (.iinc 3 1, 3) := by decide +kernel
theorem dX9_tell_30 : decode cX9_tell 30 = .ok (.goto (-28), 3) := by decide +kernel
theorem dX9_tell_33 : decode cX9_tell 33 = .ok (.aload_n 0, 1) := by decide +kernel
theorem dX9_tell_34 : decode cX9_tell 34 = .ok (.getfield 9, 3) := by decide +kernel
theorem dX9_tell_37 : decode cX9_tell 37 = .ok (.aload_n 0, 1) := by decide +kernel
theorem dX9_tell_38 : decode cX9_tell 38 = .ok (.getfield 18, 3) := by decide +kernel
theorem dX9_tell_41 : decode cX9_tell 41 = .ok (.iload_n 1, 1) := by decide +kernel
theorem dX9_tell_42 : decode cX9_tell 42 = .ok (.iastore, 1) := by decide +kernel
theorem dX9_tell_43 : decode cX9_tell 43 = .ok (.aload_n 0, 1) := by decide +kernel
theorem dX9_tell_44 : decode cX9_tell 44 = .ok (.getfield 15, 3) := by decide +kernel
theorem dX9_tell_47 : decode cX9_tell 47 = .ok (.aload_n 0, 1) := by decide +kernel
theorem dX9_tell_48 : decode cX9_tell 48 = .ok (.getfield 18, 3) := by decide +kernel
theorem dX9_tell_51 : decode cX9_tell 51 = .ok (.iload_n 2, 1) := by decide +kernel
theorem dX9_tell_52 : decode cX9_tell 52 = .ok (.iastore, 1) := by decide +kernel
theorem dX9_tell_53 : decode cX9_tell 53 = .ok (.aload_n 0, 1) := by decide +kernel
theorem dX9_tell_54 : decode cX9_tell 54 = .ok (.dup, 1) := by decide +kernel
theorem dX9_tell_55 : decode cX9_tell 55 = .ok (.getfield 18, 3) := by decide +kernel
theorem dX9_tell_58 : decode cX9_tell 58 = .ok (.iconst 1, 1) := by decide +kernel
theorem dX9_tell_59 : decode cX9_tell 59 = .ok (.iadd, 1) := by decide +kernel
theorem dX9_tell_60 : decode cX9_tell 60 = .ok (.putfield 18, 3) := by decide +kernel
theorem dX9_tell_63 : decode cX9_tell 63 = .ok (.aload_n 0, 1) := by decide +kernel
theorem dX9_tell_64 : decode cX9_tell 64 = .ok (.getfield 18, 3) := by decide +kernel
theorem dX9_tell_67 : decode cX9_tell 67 = .ok (.ireturn, 1) := by decide +kernel
theorem dX5_addJob_0 : decode cX5_addJob 0 = .ok (.aload_n 0, 1) := by decide +kernel
theorem dX5_addJob_1 : decode cX5_addJob 1 = .ok (.getfield 29, 3) := by decide +kernel
theorem dX5_addJob_4 : decode cX5_addJob 4 = .ok (.aload_n 0, 1) := by decide +kernel
theorem dX5_addJob_5 : decode cX5_addJob 5 = .ok (.getfield 154, 3) := by decide +kernel
theorem dX5_addJob_8 : decode cX5_addJob 8 = .ok (.iload_n 1, 1) := by decide +kernel
theorem dX5_addJob_9 : decode cX5_addJob 9 = .ok (.iastore, 1) := by decide +kernel
theorem dX5_addJob_10 : decode cX5_addJob 10 = .ok (.aload_n 0, 1) := by decide +kernel
theorem dX5_addJob_11 : decode cX5_addJob 11 = .ok (.getfield 32, 3) := by decide +kernel
theorem dX5_addJob_14 : decode cX5_addJob 14 = .ok (.aload_n 0, 1) := by decide +kernel
theorem dX5_addJob_15 : decode cX5_addJob 15 = .ok (.getfield 154, 3) := by decide +kernel
theorem dX5_addJob_18 : decode cX5_addJob 18 = .ok (.iload_n 2, 1) := by decide +kernel
theorem dX5_addJob_19 : decode cX5_addJob 19 = .ok (.iastore, 1) := by decide +kernel
theorem dX5_addJob_20 : decode cX5_addJob 20 = .ok (.aload_n 0, 1) := by decide +kernel
theorem dX5_addJob_21 : decode cX5_addJob 21 = .ok (.getfield 35, 3) := by decide +kernel
theorem dX5_addJob_24 : decode cX5_addJob 24 = .ok (.aload_n 0, 1) := by decide +kernel
theorem dX5_addJob_25 : decode cX5_addJob 25 = .ok (.getfield 154, 3) := by decide +kernel
theorem dX5_addJob_28 : decode cX5_addJob 28 = .ok (.iload_n 3, 1) := by decide +kernel
theorem dX5_addJob_29 : decode cX5_addJob 29 = .ok (.iastore, 1) := by decide +kernel
theorem dX5_addJob_30 : decode cX5_addJob 30 = .ok (.aload_n 0, 1) := by decide +kernel
theorem dX5_addJob_31 : decode cX5_addJob 31 = .ok (.getfield 38, 3) := by decide +kernel
theorem dX5_addJob_34 : decode cX5_addJob 34 = .ok (.aload_n 0, 1) := by decide +kernel
theorem dX5_addJob_35 : decode cX5_addJob 35 = .ok (.getfield 154, 3) := by decide +kernel
theorem dX5_addJob_38 : decode cX5_addJob 38 = .ok (.iload 4, 2) := by decide +kernel
theorem dX5_addJob_40 : decode cX5_addJob 40 = .ok (.iastore, 1) := by decide +kernel
theorem dX5_addJob_41 : decode cX5_addJob 41 = .ok (.aload_n 0, 1) := by decide +kernel
theorem dX5_addJob_42 : decode cX5_addJob 42 = .ok (.dup, 1) := by decide +kernel
theorem dX5_addJob_43 : decode cX5_addJob 43 = .ok (.getfield 154, 3) := by decide +kernel
theorem dX5_addJob_46 : decode cX5_addJob 46 = .ok (.iconst 1, 1) := by decide +kernel
theorem dX5_addJob_47 : decode cX5_addJob 47 = .ok (.iadd, 1) := by decide +kernel
theorem dX5_addJob_48 : decode cX5_addJob 48 = .ok (.putfield 154, 3) := by decide +kernel
theorem dX5_addJob_51 : decode cX5_addJob 51 = .ok (.aload_n 0, 1) := by decide +kernel
theorem dX5_addJob_52 : decode cX5_addJob 52 = .ok (.getfield 154, 3) := by decide +kernel
theorem dX5_addJob_55 : decode cX5_addJob 55 = .ok (.ireturn, 1) := by decide +kernel
theorem dX8_outsideAt_0 : decode cX8_outsideAt 0 = .ok (.aload_n 0, 1) := by decide +kernel
theorem dX8_outsideAt_1 : decode cX8_outsideAt 1 = .ok (.getfield 9, 3) := by decide +kernel
theorem dX8_outsideAt_4 : decode cX8_outsideAt 4 = .ok (.iload_n 1, 1) := by decide +kernel
theorem dX8_outsideAt_5 : decode cX8_outsideAt 5 = .ok (.bipush 12, 2) := by decide +kernel
theorem dX8_outsideAt_7 : decode cX8_outsideAt 7 = .ok (.invokestatic 38, 3) := by decide +kernel
theorem dX8_outsideAt_10 : decode cX8_outsideAt 10 = .ok (.iaload, 1) := by decide +kernel
theorem dX8_outsideAt_11 : decode cX8_outsideAt 11 = .ok (.istore_n 2, 1) := by decide +kernel
theorem dX8_outsideAt_12 : decode cX8_outsideAt 12 = .ok (.iconst 0, 1) := by decide +kernel
theorem dX8_outsideAt_13 : decode cX8_outsideAt 13 = .ok (.istore_n 3, 1) := by decide +kernel
theorem dX8_outsideAt_14 : decode cX8_outsideAt 14 = .ok (.iload_n 3, 1) := by decide +kernel
theorem dX8_outsideAt_15 : decode cX8_outsideAt 15 = .ok (.aload_n 0, 1) := by decide +kernel
theorem dX8_outsideAt_16 : decode cX8_outsideAt 16 = .ok (.getfield 34, 3) := by decide +kernel
theorem dX8_outsideAt_19 : decode cX8_outsideAt 19 = .ok (.if_icmp .ge 38, 3) := by decide +kernel
theorem dX8_outsideAt_22 : decode cX8_outsideAt 22 = .ok (.aload_n 0, 1) := by decide +kernel
theorem dX8_outsideAt_23 : decode cX8_outsideAt 23 = .ok (.getfield 15, 3) := by decide +kernel
theorem dX8_outsideAt_26 : decode cX8_outsideAt 26 = .ok (.iload_n 3, 1) := by decide +kernel
theorem dX8_outsideAt_27 : decode cX8_outsideAt 27 = .ok (.iaload, 1) := by decide +kernel
theorem dX8_outsideAt_28 : decode cX8_outsideAt 28 = .ok (.iload_n 1, 1) := by decide +kernel
theorem dX8_outsideAt_29 : decode cX8_outsideAt 29 = .ok (.if_icmp .gt 22, 3) := by decide +kernel
theorem dX8_outsideAt_32 : decode cX8_outsideAt 32 = .ok (.iload_n 1, 1) := by decide +kernel
theorem dX8_outsideAt_33 : decode cX8_outsideAt 33 = .ok (.aload_n 0, 1) := by decide +kernel
theorem dX8_outsideAt_34 : decode cX8_outsideAt 34 = .ok (.getfield 18, 3) := by decide +kernel
theorem dX8_outsideAt_37 : decode cX8_outsideAt 37 = .ok (.iload_n 3, 1) := by decide +kernel
theorem dX8_outsideAt_38 : decode cX8_outsideAt 38 = .ok (.iaload, 1) := by decide +kernel
theorem dX8_outsideAt_39 : decode cX8_outsideAt 39 = .ok (.if_icmp .gt 12, 3) := by decide +kernel
theorem dX8_outsideAt_42 : decode cX8_outsideAt 42 = .ok (.iload_n 2, 1) := by decide +kernel
theorem dX8_outsideAt_43 : decode cX8_outsideAt 43 = .ok (.aload_n 0, 1) := by decide +kernel
theorem dX8_outsideAt_44 : decode cX8_outsideAt 44 = .ok (.getfield 21, 3) := by decide +kernel
theorem dX8_outsideAt_47 : decode cX8_outsideAt 47 = .ok (.iload_n 3, 1) := by decide +kernel
theorem dX8_outsideAt_48 : decode cX8_outsideAt 48 = .ok (.iaload, 1) := by decide +kernel
theorem dX8_outsideAt_49 : decode cX8_outsideAt 49 = .ok (.iadd, 1) := by decide +kernel
theorem dX8_outsideAt_50 : decode cX8_outsideAt 50 = .ok (.istore_n 2, 1) := by decide +kernel
theorem dX8_outsideAt_51 : decode cX8_outsideAt 51 = .ok (.iinc 3 1, 3) := by decide +kernel
theorem dX8_outsideAt_54 : decode cX8_outsideAt 54 = .ok (.goto (-40), 3) := by decide +kernel
theorem dX8_outsideAt_57 : decode cX8_outsideAt 57 = .ok (.iload_n 2, 1) := by decide +kernel
theorem dX8_outsideAt_58 : decode cX8_outsideAt 58 = .ok (.ireturn, 1) := by decide +kernel
theorem dJ9_floorMod_7cf53_0 : decode cJ9_floorMod_7cf53 0 = .ok (.iload_n 0, 1) := by decide +kernel
theorem dJ9_floorMod_7cf53_1 : decode cJ9_floorMod_7cf53 1 = .ok (.iload_n 1, 1) := by decide +kernel
theorem dJ9_floorMod_7cf53_2 : decode cJ9_floorMod_7cf53 2 = .ok (.irem, 1) := by decide +kernel
theorem dJ9_floorMod_7cf53_3 : decode cJ9_floorMod_7cf53 3 = .ok (.istore_n 2, 1) := by decide +kernel
theorem dJ9_floorMod_7cf53_4 : decode cJ9_floorMod_7cf53 4 = .ok (.iload_n 0, 1) := by decide +kernel
theorem dJ9_floorMod_7cf53_5 : decode cJ9_floorMod_7cf53 5 = .ok (.iload_n 1, 1) := by decide +kernel
theorem dJ9_floorMod_7cf53_6 : decode cJ9_floorMod_7cf53 6 = .ok (.ixor, 1) := by decide +kernel
theorem dJ9_floorMod_7cf53_7 : decode cJ9_floorMod_7cf53 7 = .ok (.ifCond .ge 11, 3) := by decide +kernel
theorem dJ9_floorMod_7cf53_10 : decode cJ9_floorMod_7cf53 10 = .ok (.iload_n 2, 1) := by decide +kernel
theorem dJ9_floorMod_7cf53_11 : decode cJ9_floorMod_7cf53 11 = .ok (.ifCond .eq 7, 3) := by decide +kernel
theorem dJ9_floorMod_7cf53_14 : decode cJ9_floorMod_7cf53 14 = .ok (.iload_n 2, 1) := by decide +kernel
theorem dJ9_floorMod_7cf53_15 : decode cJ9_floorMod_7cf53 15 = .ok (.iload_n 1, 1) := by decide +kernel
theorem dJ9_floorMod_7cf53_16 : decode cJ9_floorMod_7cf53 16 = .ok (.iadd, 1) := by decide +kernel
theorem dJ9_floorMod_7cf53_17 : decode cJ9_floorMod_7cf53 17 = .ok (.ireturn, 1) := by decide +kernel
theorem dJ9_floorMod_7cf53_18 : decode cJ9_floorMod_7cf53 18 = .ok (.iload_n 2, 1) := by decide +kernel
theorem dJ9_floorMod_7cf53_19 : decode cJ9_floorMod_7cf53 19 = .ok (.ireturn, 1) := by decide +kernel
theorem dX11_tide_0 : decode cX11_tide 0 = .ok (.iload_n 1, 1) := by decide +kernel
theorem dX11_tide_1 : decode cX11_tide 1 = .ok (.iconst 0, 1) := by decide +kernel
theorem dX11_tide_2 : decode cX11_tide 2 = .ok (.bipush 11, 2) := by decide +kernel
theorem dX11_tide_4 : decode cX11_tide 4 = .ok (.invokestatic 58, 3) := by decide +kernel
theorem dX11_tide_7 : decode cX11_tide 7 = .ok (.ifCond .eq 20, 3) := by decide +kernel
theorem dX11_tide_10 : decode cX11_tide 10 = .ok (.iload_n 2, 1) := by decide +kernel
theorem dX11_tide_11 : decode cX11_tide 11 = .ok (.sipush (-400), 3) := by decide +kernel
theorem dX11_tide_14 : decode cX11_tide 14 = .ok (.sipush 400, 3) := by decide +kernel
theorem dX11_tide_17 : decode cX11_tide 17 = .ok (.invokestatic 58, 3) := by decide +kernel
theorem dX11_tide_20 : decode cX11_tide 20 = .ok (.ifCond .eq 7, 3) := by decide +kernel
theorem dX11_tide_23 : decode cX11_tide 23 = .ok (.iconst 1, 1) := by decide +kernel
theorem dX11_tide_24 : decode cX11_tide 24 = .ok (.goto 4, 3) := by decide +kernel
theorem dX11_tide_27 : decode cX11_tide 27 = .ok (.iconst 0, 1) := by decide +kernel
theorem dX11_tide_28 : decode cX11_tide 28 = .ok (.invokestatic 62, 3) := by decide +kernel
theorem dX11_tide_31 : decode cX11_tide 31 = .ok (.aload_n 0, 1) := by decide +kernel
theorem dX11_tide_32 : decode cX11_tide 32 = .ok (.getfield 23, 3) := by decide +kernel
theorem dX11_tide_35 : decode cX11_tide 35 = .ok (.invokevirtual 76, 3) := by decide +kernel
theorem dX11_tide_38 : decode cX11_tide 38 = .ok (.aload_n 0, 1) := by decide +kernel
theorem dX11_tide_39 : decode cX11_tide 39 = .ok (.getfield 16, 3) := by decide +kernel
theorem dX11_tide_42 : decode cX11_tide 42 = .ok (.getfield 101, 3) := by decide +kernel
theorem dX11_tide_45 : decode cX11_tide 45 = .ok (.getfield 105, 3) := by decide +kernel
theorem dX11_tide_48 : decode cX11_tide 48 = .ok (.iload_n 1, 1) := by decide +kernel
theorem dX11_tide_49 : decode cX11_tide 49 = .ok (.iload_n 2, 1) := by decide +kernel
theorem dX11_tide_50 : decode cX11_tide 50 = .ok (.iastore, 1) := by decide +kernel
theorem dX11_tide_51 : decode cX11_tide 51 = .ok (.return_, 1) := by decide +kernel
theorem dX11_storm_0 : decode cX11_storm 0 = .ok (.iconst 0, 1) := by decide +kernel
theorem dX11_storm_1 : decode cX11_storm 1 = .ok (.iload_n 1, 1) := by decide +kernel
theorem dX11_storm_2 : decode cX11_storm 2 = .ok (.if_icmp .gt 29, 3) := by decide +kernel
theorem dX11_storm_5 : decode cX11_storm 5 = .ok (.iload_n 1, 1) := by decide +kernel
theorem dX11_storm_6 : decode cX11_storm 6 = .ok (.iload_n 2, 1) := by decide +kernel
theorem dX11_storm_7 : decode cX11_storm 7 = .ok (.if_icmp .gt 24, 3) := by decide +kernel
theorem dX11_storm_10 : decode cX11_storm 10 = .ok (.iload_n 2, 1) := by decide +kernel
theorem dX11_storm_11 : decode cX11_storm 11 = .ok (.ldc 110, 2) := by decide +kernel
theorem dX11_storm_13 : decode cX11_storm 13 = .ok (.if_icmp .gt 18, 3) := by decide +kernel
theorem dX11_storm_16 : decode cX11_storm 16 = .ok (.iload_n 3, 1) := by decide +kernel
theorem dX11_storm_17 : decode cX11_storm 17 = .ok (.iconst 1, 1) := by decide +kernel
theorem dX11_storm_18 : decode cX11_storm 18 = .ok (.sipush 500, 3) := by decide +kernel
theorem dX11_storm_21 : decode cX11_storm 21 = .ok (.invokestatic 58, 3) := by decide +kernel
theorem dX11_storm_24 : decode cX11_storm 24 = .ok (.ifCond .eq 7, 3) := by decide +kernel
theorem dX11_storm_27 : decode cX11_storm 27 = .ok (.iconst 1, 1) := by decide +kernel
theorem dX11_storm_28 : decode cX11_storm 28 = .ok (.goto 4, 3) := by decide +kernel
theorem dX11_storm_31 : decode cX11_storm 31 = .ok (.iconst 0, 1) := by decide +kernel
theorem dX11_storm_32 : decode cX11_storm 32 = .ok (.invokestatic 62, 3) := by decide +kernel
theorem dX11_storm_35 : decode cX11_storm 35 = .ok (.aload_n 0, 1) := by decide +kernel
theorem dX11_storm_36 : decode cX11_storm 36 = .ok (.getfield 16, 3) := by decide +kernel
theorem dX11_storm_39 : decode cX11_storm 39 = .ok (.getfield 101, 3) := by decide +kernel
theorem dX11_storm_42 : decode cX11_storm 42 = .ok (.getfield 111, 3) := by decide +kernel
theorem dX11_storm_45 : decode cX11_storm 45 = .ok (.bipush 20, 2) := by decide +kernel
theorem dX11_storm_47 : decode cX11_storm 47 = .ok (.if_icmp .ne 5, 3) := by decide +kernel
theorem dX11_storm_50 : decode cX11_storm 50 = .ok (.iconst (-1), 1) := by decide +kernel
theorem dX11_storm_51 : decode cX11_storm 51 = .ok (.ireturn, 1) := by decide +kernel
theorem dX11_storm_52 : decode cX11_storm 52 = .ok (.aload_n 0, 1) := by decide +kernel
theorem dX11_storm_53 : decode cX11_storm 53 = .ok (.getfield 23, 3) := by decide +kernel
theorem dX11_storm_56 : decode cX11_storm 56 = .ok (.invokevirtual 76, 3) := by decide +kernel
theorem dX11_storm_59 : decode cX11_storm 59 = .ok (.aload_n 0, 1) := by decide +kernel
theorem dX11_storm_60 : decode cX11_storm 60 = .ok (.getfield 16, 3) := by decide +kernel
theorem dX11_storm_63 : decode cX11_storm 63 = .ok (.getfield 101, 3) := by decide +kernel
theorem dX11_storm_66 : decode cX11_storm 66 = .ok (.iload_n 1, 1) := by decide +kernel
theorem dX11_storm_67 : decode cX11_storm 67 = .ok (.iload_n 2, 1) := by decide +kernel
theorem dX11_storm_68 : decode cX11_storm 68 = .ok (.iload_n 3, 1) := by decide +kernel
theorem dX11_storm_69 : decode cX11_storm 69 = .ok (.invokevirtual 114, 3) := by decide +kernel
theorem dX11_storm_72 : decode cX11_storm 72 = .ok (.ireturn, 1) := by decide +kernel
theorem dX11_weather_0 : decode cX11_weather 0 = .ok (.iload_n 2, 1) := by decide +kernel
theorem dX11_weather_1 : decode cX11_weather 1 = .ok (.iconst 0, 1) := by decide +kernel
theorem dX11_weather_2 : decode cX11_weather 2 = .ok (.ldc 110, 2) := by decide +kernel
theorem dX11_weather_4 : decode cX11_weather 4 = .ok (.invokestatic 58, 3) := by decide +kernel
theorem dX11_weather_7 : decode cX11_weather 7 = .ok (.ifCond .eq 34, 3) := by decide +kernel
theorem dX11_weather_10 : decode cX11_weather 10 = .ok (.iload_n 1, 1) := by decide +kernel
theorem dX11_weather_11 : decode cX11_weather 11 = .ok (.ifCond .eq 16, 3) := by decide +kernel
theorem dX11_weather_14 : decode cX11_weather 14 = .ok (.iload_n 3, 1) := by decide +kernel
theorem dX11_weather_15 : decode cX11_weather 15 = .ok (.iconst 0, 1) := by decide +kernel
theorem dX11_weather_16 : decode cX11_weather 16 = .ok (.bipush 20, 2) := by decide +kernel
theorem dX11_weather_18 : decode cX11_weather 18 = .ok (.invokestatic 58, 3) := by decide +kernel
theorem dX11_weather_21 : decode cX11_weather 21 = .ok (.ifCond .eq 20, 3) := by decide +kernel
theorem dX11_weather_24 : decode cX11_weather 24 = .ok (.goto 13, 3) := by decide +kernel
theorem dX11_weather_27 : decode cX11_weather 27 = .ok (.iload_n 3, 1) := by decide +kernel
theorem dX11_weather_28 : decode cX11_weather 28 = .ok (.iconst (-1), 1) := by decide +kernel
theorem dX11_weather_29 : decode cX11_weather 29 = .ok (.bipush 9, 2) := by decide +kernel
theorem dX11_weather_31 : decode cX11_weather 31 = .ok (.invokestatic 58, 3) := by decide +kernel
theorem dX11_weather_34 : decode cX11_weather 34 = .ok (.ifCond .eq 7, 3) := by decide +kernel
theorem dX11_weather_37 : decode cX11_weather 37 = .ok (.iconst 1, 1) := by decide +kernel
theorem dX11_weather_38 : decode cX11_weather 38 = .ok (.goto 4, 3) := by decide +kernel
theorem dX11_weather_41 : decode cX11_weather 41 = .ok (.iconst 0, 1) := by decide +kernel
theorem dX11_weather_42 : decode cX11_weather 42 = .ok (.invokestatic 62, 3) := by decide +kernel
theorem dX11_weather_45 : decode cX11_weather 45 = .ok (.iload_n 1, 1) := by decide +kernel
theorem dX11_weather_46 : decode cX11_weather 46 = .ok (.ifCond .eq 16, 3) := by decide +kernel
theorem dX11_weather_49 : decode cX11_weather 49 = .ok (.aload_n 0, 1) := by decide +kernel
theorem dX11_weather_50 : decode cX11_weather 50 = .ok (.getfield 16, 3) := by decide +kernel
theorem dX11_weather_53 : decode cX11_weather 53 = .ok (.getfield 101, 3) := by decide +kernel
theorem dX11_weather_56 : decode cX11_weather 56 = .ok (.getfield 118, 3) := by decide +kernel
theorem dX11_weather_59 : decode cX11_weather 59 = .ok (.goto 13, 3) := by decide +kernel
theorem dX11_weather_62 : decode cX11_weather 62 = .ok (.aload_n 0, 1) := by decide +kernel
theorem dX11_weather_63 : decode cX11_weather 63 = .ok (.getfield 16, 3) := by decide +kernel
theorem dX11_weather_66 : decode cX11_weather 66 = .ok (.getfield 101, 3) := by decide +kernel
theorem dX11_weather_69 : decode cX11_weather 69 = .ok (.getfield 122, 3) := by decide +kernel
theorem dX11_weather_72 : decode cX11_weather 72 = .ok (.astore 4, 2) := by decide +kernel
theorem dX11_weather_74 : decode cX11_weather 74 = .ok (.aload 4, 2) := by decide +kernel
theorem dX11_weather_76 : decode cX11_weather 76 = .ok (.getfield 125, 3) := by decide +kernel
theorem dX11_weather_79 : decode cX11_weather 79 = .ok (.bipush 60, 2) := by decide +kernel
theorem dX11_weather_81 : decode cX11_weather 81 = .ok (.if_icmp .ne 5, 3) := by decide +kernel
theorem dX11_weather_84 : decode cX11_weather 84 = .ok (.iconst (-1), 1) := by decide +kernel
theorem dX11_weather_85 : decode cX11_weather 85 = .ok (.ireturn, 1) := by decide +kernel
theorem dX11_weather_86 : decode cX11_weather 86 = .ok (.aload_n 0, 1) := by decide +kernel
theorem dX11_weather_87 : decode cX11_weather 87 = .ok (.getfield 23, 3) := by decide +kernel
theorem dX11_weather_90 : decode cX11_weather 90 = .ok (.invokevirtual 76, 3) := by decide +kernel
theorem dX11_weather_93 : decode cX11_weather 93 = .ok (.aload 4, 2) := by decide +kernel
theorem dX11_weather_95 : decode cX11_weather 95 = .ok (.iload_n 2, 1) := by decide +kernel
theorem dX11_weather_96 : decode cX11_weather 96 = .ok (.iload_n 3, 1) := by decide +kernel
theorem dX11_weather_97 : decode cX11_weather 97 = .ok (.invokevirtual 130, 3) := by decide +kernel
theorem dX11_weather_100 : decode cX11_weather 100 = .ok (.ireturn, 1) := by decide +kernel
theorem dX11_sky_0 : decode cX11_sky 0 = .ok (.iload_n 1, 1) := by decide +kernel
theorem dX11_sky_1 : decode cX11_sky 1 = .ok (.iconst 0, 1) := by decide +kernel
theorem dX11_sky_2 : decode cX11_sky 2 = .ok (.ldc 110, 2) := by decide +kernel
theorem dX11_sky_4 : decode cX11_sky 4 = .ok (.invokestatic 58, 3) := by decide +kernel
theorem dX11_sky_7 : decode cX11_sky 7 = .ok (.ifCond .eq 12, 3) := by decide +kernel
theorem dX11_sky_10 : decode cX11_sky 10 = .ok (.iload_n 2, 1) := by decide +kernel
theorem dX11_sky_11 : decode cX11_sky 11 = .ok (.iconst 0, 1) := by decide +kernel
theorem dX11_sky_12 : decode cX11_sky 12 = .ok (.iconst 2, 1) := by decide +kernel
theorem dX11_sky_13 : decode cX11_sky 13 = .ok (.invokestatic 58, 3) := by decide +kernel
theorem dX11_sky_16 : decode cX11_sky 16 = .ok (.ifCond .ne 13, 3) := by decide +kernel
theorem dX11_sky_19 : decode cX11_sky 19 = .ok (.new 134, 3) := by decide +kernel
theorem dX11_sky_22 : decode cX11_sky 22 = .ok (.dup, 1) := by decide +kernel
theorem dX11_sky_23 : decode cX11_sky 23 = .ok (.ldc 136, 2) := by decide +kernel
theorem dX11_sky_25 : decode cX11_sky 25 = .ok (.invokespecial 138, 3) := by decide +kernel
theorem dX11_sky_28 : decode cX11_sky 28 = .ok (.athrow, 1) := by decide +kernel
theorem dX11_sky_29 : decode cX11_sky 29 = .ok (.iload_n 2, 1) := by decide +kernel
theorem dX11_sky_30 : decode cX11_sky 30 = .ok (.ifCond .ne 15, 3) := by decide +kernel
theorem dX11_sky_33 : decode cX11_sky 33 = .ok (.aload_n 0, 1) := by decide +kernel
theorem dX11_sky_34 : decode cX11_sky 34 = .ok (.getfield 16, 3) := by decide +kernel
theorem dX11_sky_37 : decode cX11_sky 37 = .ok (.getfield 101, 3) := by decide +kernel
theorem dX11_sky_40 : decode cX11_sky 40 = .ok (.iload_n 1, 1) := by decide +kernel
theorem dX11_sky_41 : decode cX11_sky 41 = .ok (.invokevirtual 139, 3) := by decide +kernel
theorem dX11_sky_44 : decode cX11_sky 44 = .ok (.ireturn, 1) := by decide +kernel
theorem dX11_sky_45 : decode cX11_sky 45 = .ok (.iload_n 2, 1) := by decide +kernel
theorem dX11_sky_46 : decode cX11_sky 46 = .ok (.iconst 1, 1) := by decide +kernel
theorem dX11_sky_47 : decode cX11_sky 47 = .ok (.if_icmp .ne 17, 3) := by decide +kernel
theorem dX11_sky_50 : decode cX11_sky 50 = .ok (.aload_n 0, 1) := by decide +kernel
theorem dX11_sky_51 : decode cX11_sky 51 = .ok (.getfield 16, 3) := by decide +kernel
theorem dX11_sky_54 : decode cX11_sky 54 = .ok (.getfield 101, 3) := by decide +kernel
theorem dX11_sky_57 : decode cX11_sky 57 = .ok (.iload_n 1, 1) := by decide +kernel
theorem dX11_sky_58 : decode cX11_sky 58 = .ok (.invokevirtual 143, 3) := by decide +kernel
theorem dX11_sky_61 : decode cX11_sky 61 = .ok (.goto 14, 3) := by decide +kernel
theorem dX11_sky_64 : decode cX11_sky 64 = .ok (.aload_n 0, 1) := by decide +kernel
theorem dX11_sky_65 : decode cX11_sky 65 = .ok (.getfield 16, 3) := by decide +kernel
theorem dX11_sky_68 : decode cX11_sky 68 = .ok (.getfield 101, 3) := by decide +kernel
theorem dX11_sky_71 : decode cX11_sky 71 = .ok (.iload_n 1, 1) := by decide +kernel
theorem dX11_sky_72 : decode cX11_sky 72 = .ok (.invokevirtual 146, 3) := by decide +kernel
theorem dX11_sky_75 : decode cX11_sky 75 = .ok (.ireturn, 1) := by decide +kernel
theorem dX11_dike_0 : decode cX11_dike 0 = .ok (.iload_n 1, 1) := by decide +kernel
theorem dX11_dike_1 : decode cX11_dike 1 = .ok (.invokestatic 55, 3) := by decide +kernel
theorem dX11_dike_4 : decode cX11_dike 4 = .ok (.iload_n 2, 1) := by decide +kernel
theorem dX11_dike_5 : decode cX11_dike 5 = .ok (.invokestatic 55, 3) := by decide +kernel
theorem dX11_dike_8 : decode cX11_dike 8 = .ok (.iload_n 3, 1) := by decide +kernel
theorem dX11_dike_9 : decode cX11_dike 9 = .ok (.invokestatic 55, 3) := by decide +kernel
theorem dX11_dike_12 : decode cX11_dike 12 = .ok (.iload 4, 2) := by decide +kernel
theorem dX11_dike_14 : decode cX11_dike 14 = .ok (.iconst 1, 1) := by decide +kernel
theorem dX11_dike_15 : decode cX11_dike 15 = .ok (.sipush 1000, 3) := by decide +kernel
theorem dX11_dike_18 : decode cX11_dike 18 = .ok (.invokestatic 58, 3) := by decide +kernel
theorem dX11_dike_21 : decode cX11_dike 21 = .ok (.invokestatic 62, 3) := by decide +kernel
theorem dX11_dike_24 : decode cX11_dike 24 = .ok (.aload_n 0, 1) := by decide +kernel
theorem dX11_dike_25 : decode cX11_dike 25 = .ok (.invokevirtual 149, 3) := by decide +kernel
theorem dX11_dike_28 : decode cX11_dike 28 = .ok (.aload_n 0, 1) := by decide +kernel
theorem dX11_dike_29 : decode cX11_dike 29 = .ok (.getfield 16, 3) := by decide +kernel
theorem dX11_dike_32 : decode cX11_dike 32 = .ok (.iload_n 1, 1) := by decide +kernel
theorem dX11_dike_33 : decode cX11_dike 33 = .ok (.invokevirtual 152, 3) := by decide +kernel
theorem dX11_dike_36 : decode cX11_dike 36 = .ok (.ifCond .eq 39, 3) := by decide +kernel
theorem dX11_dike_39 : decode cX11_dike 39 = .ok (.aload_n 0, 1) := by decide +kernel
theorem dX11_dike_40 : decode cX11_dike 40 = .ok (.getfield 16, 3) := by decide +kernel
theorem dX11_dike_43 : decode cX11_dike 43 = .ok (.iload_n 1, 1) := by decide +kernel
theorem dX11_dike_44 : decode cX11_dike 44 = .ok (.iload_n 2, 1) := by decide +kernel
theorem dX11_dike_45 : decode cX11_dike 45 = .ok (.invokevirtual 156, 3) := by decide +kernel
theorem dX11_dike_48 : decode cX11_dike 48 = .ok (.ifCond .eq 27, 3) := by decide +kernel
theorem dX11_dike_51 : decode cX11_dike 51 = .ok (.aload_n 0, 1) := by decide +kernel
theorem dX11_dike_52 : decode cX11_dike 52 = .ok (.getfield 16, 3) := by decide +kernel
theorem dX11_dike_55 : decode cX11_dike 55 = .ok (.getfield 82, 3) := by decide +kernel
theorem dX11_dike_58 : decode cX11_dike 58 = .ok (.getfield 86, 3) := by decide +kernel
theorem dX11_dike_61 : decode cX11_dike 61 = .ok (.iload_n 3, 1) := by decide +kernel
theorem dX11_dike_62 : decode cX11_dike 62 = .ok (.baload, 1) := by decide +kernel
theorem dX11_dike_63 : decode cX11_dike 63 = .ok (.ifCond .eq 12, 3) := by decide +kernel
theorem dX11_dike_66 : decode cX11_dike 66 = .ok (.iload_n 1, 1) := by decide +kernel
theorem dX11_dike_67 : decode cX11_dike 67 = .ok (.iload_n 3, 1) := by decide +kernel
theorem dX11_dike_68 : decode cX11_dike 68 = .ok (.invokestatic 160, 3) := by decide +kernel
theorem dX11_dike_71 : decode cX11_dike 71 = .ok (.iconst 1, 1) := by decide +kernel
theorem dX11_dike_72 : decode cX11_dike 72 = .ok (.if_icmp .eq 5, 3) := by decide +kernel
theorem dX11_dike_75 : decode cX11_dike 75 = .ok (.iconst (-1), 1) := by decide +kernel
theorem dX11_dike_76 : decode cX11_dike 76 = .ok (.ireturn, 1) := by decide +kernel
theorem dX11_dike_77 : decode cX11_dike 77 = .ok (.aload_n 0, 1) := by decide +kernel
theorem dX11_dike_78 : decode cX11_dike 78 = .ok (.getfield 23, 3) := by decide +kernel
theorem dX11_dike_81 : decode cX11_dike 81 = .ok (.invokevirtual 76, 3) := by decide +kernel
theorem dX11_dike_84 : decode cX11_dike 84 = .ok (.aload_n 0, 1) := by decide +kernel
theorem dX11_dike_85 : decode cX11_dike 85 = .ok (.getfield 16, 3) := by decide +kernel
theorem dX11_dike_88 : decode cX11_dike 88 = .ok (.iconst 0, 1) := by decide +kernel
theorem dX11_dike_89 : decode cX11_dike 89 = .ok (.iload_n 1, 1) := by decide +kernel
theorem dX11_dike_90 : decode cX11_dike 90 = .ok (.iload_n 3, 1) := by decide +kernel
theorem dX11_dike_91 : decode cX11_dike 91 = .ok (.iload 4, 2) := by decide +kernel
theorem dX11_dike_93 : decode cX11_dike 93 = .ok (.invokevirtual 163, 3) := by decide +kernel
theorem dX11_dike_96 : decode cX11_dike 96 = .ok (.ireturn, 1) := by decide +kernel
theorem dX11_mill_0 : decode cX11_mill 0 = .ok (.iload_n 1, 1) := by decide +kernel
theorem dX11_mill_1 : decode cX11_mill 1 = .ok (.invokestatic 55, 3) := by decide +kernel
theorem dX11_mill_4 : decode cX11_mill 4 = .ok (.iload_n 2, 1) := by decide +kernel
theorem dX11_mill_5 : decode cX11_mill 5 = .ok (.invokestatic 55, 3) := by decide +kernel
theorem dX11_mill_8 : decode cX11_mill 8 = .ok (.iload_n 3, 1) := by decide +kernel
theorem dX11_mill_9 : decode cX11_mill 9 = .ok (.iconst 1, 1) := by decide +kernel
theorem dX11_mill_10 : decode cX11_mill 10 = .ok (.bipush 60, 2) := by decide +kernel
theorem dX11_mill_12 : decode cX11_mill 12 = .ok (.invokestatic 58, 3) := by decide +kernel
theorem dX11_mill_15 : decode cX11_mill 15 = .ok (.invokestatic 62, 3) := by decide +kernel
theorem dX11_mill_18 : decode cX11_mill 18 = .ok (.aload_n 0, 1) := by decide +kernel
theorem dX11_mill_19 : decode cX11_mill 19 = .ok (.invokevirtual 149, 3) := by decide +kernel
theorem dX11_mill_22 : decode cX11_mill 22 = .ok (.aload_n 0, 1) := by decide +kernel
theorem dX11_mill_23 : decode cX11_mill 23 = .ok (.getfield 16, 3) := by decide +kernel
theorem dX11_mill_26 : decode cX11_mill 26 = .ok (.iload_n 1, 1) := by decide +kernel
theorem dX11_mill_27 : decode cX11_mill 27 = .ok (.invokevirtual 152, 3) := by decide +kernel
theorem dX11_mill_30 : decode cX11_mill 30 = .ok (.ifCond .eq 27, 3) := by decide +kernel
theorem dX11_mill_33 : decode cX11_mill 33 = .ok (.iload_n 1, 1) := by decide +kernel
theorem dX11_mill_34 : decode cX11_mill 34 = .ok (.iload_n 2, 1) := by decide +kernel
theorem dX11_mill_35 : decode cX11_mill 35 = .ok (.invokestatic 160, 3) := by decide +kernel
theorem dX11_mill_38 : decode cX11_mill 38 = .ok (.iconst 1, 1) := by decide +kernel
theorem dX11_mill_39 : decode cX11_mill 39 = .ok (.if_icmp .ne 18, 3) := by decide +kernel
theorem dX11_mill_42 : decode cX11_mill 42 = .ok (.aload_n 0, 1) := by decide +kernel
theorem dX11_mill_43 : decode cX11_mill 43 = .ok (.getfield 30, 3) := by decide +kernel
theorem dX11_mill_46 : decode cX11_mill 46 = .ok (.iload_n 1, 1) := by decide +kernel
theorem dX11_mill_47 : decode cX11_mill 47 = .ok (.aload_n 0, 1) := by decide +kernel
theorem dX11_mill_48 : decode cX11_mill 48 = .ok (.getfield 16, 3) := by decide +kernel
theorem dX11_mill_51 : decode cX11_mill 51 = .ok (.invokevirtual 190, 3) := by decide +kernel
theorem dX11_mill_54 : decode cX11_mill 54 = .ok (.ifCond .ne 5, 3) := by decide +kernel
theorem dX11_mill_57 : decode cX11_mill 57 = .ok (.iconst (-1), 1) := by decide +kernel
theorem dX11_mill_58 : decode cX11_mill 58 = .ok (.ireturn, 1) := by decide +kernel
theorem dX11_mill_59 : decode cX11_mill 59 = .ok (.aload_n 0, 1) := by decide +kernel
theorem dX11_mill_60 : decode cX11_mill 60 = .ok (.getfield 23, 3) := by decide +kernel
theorem dX11_mill_63 : decode cX11_mill 63 = .ok (.invokevirtual 76, 3) := by decide +kernel
theorem dX11_mill_66 : decode cX11_mill 66 = .ok (.aload_n 0, 1) := by decide +kernel
theorem dX11_mill_67 : decode cX11_mill 67 = .ok (.getfield 16, 3) := by decide +kernel
theorem dX11_mill_70 : decode cX11_mill 70 = .ok (.iload 4, 2) := by decide +kernel
theorem dX11_mill_72 : decode cX11_mill 72 = .ok (.ifCond .eq 7, 3) := by decide +kernel
theorem dX11_mill_75 : decode cX11_mill 75 = .ok (.iconst 3, 1) := by decide +kernel
theorem dX11_mill_76 : decode cX11_mill 76 = .ok (.goto 4, 3) := by decide +kernel
theorem dX11_mill_79 : decode cX11_mill 79 = .ok (.iconst 2, 1) := by decide +kernel
theorem dX11_mill_80 : decode cX11_mill 80 = .ok (.iload_n 1, 1) := by decide +kernel
theorem dX11_mill_81 : decode cX11_mill 81 = .ok (.iload_n 2, 1) := by decide +kernel
theorem dX11_mill_82 : decode cX11_mill 82 = .ok (.iload_n 3, 1) := by decide +kernel
theorem dX11_mill_83 : decode cX11_mill 83 = .ok (.invokevirtual 163, 3) := by decide +kernel
theorem dX11_mill_86 : decode cX11_mill 86 = .ok (.ireturn, 1) := by decide +kernel
theorem dX11_sluice_0 : decode cX11_sluice 0 = .ok (.iload_n 1, 1) := by decide +kernel
theorem dX11_sluice_1 : decode cX11_sluice 1 = .ok (.invokestatic 55, 3) := by decide +kernel
theorem dX11_sluice_4 : decode cX11_sluice 4 = .ok (.iload_n 2, 1) := by decide +kernel
theorem dX11_sluice_5 : decode cX11_sluice 5 = .ok (.invokestatic 55, 3) := by decide +kernel
theorem dX11_sluice_8 : decode cX11_sluice 8 = .ok (.iload_n 3, 1) := by decide +kernel
theorem dX11_sluice_9 : decode cX11_sluice 9 = .ok (.iconst 1, 1) := by decide +kernel
theorem dX11_sluice_10 : decode cX11_sluice 10 = .ok (.bipush 60, 2) := by decide +kernel
theorem dX11_sluice_12 : decode cX11_sluice 12 = .ok (.invokestatic 58, 3) := by decide +kernel
theorem dX11_sluice_15 : decode cX11_sluice 15 = .ok (.invokestatic 62, 3) := by decide +kernel
theorem dX11_sluice_18 : decode cX11_sluice 18 = .ok (.aload_n 0, 1) := by decide +kernel
theorem dX11_sluice_19 : decode cX11_sluice 19 = .ok (.invokevirtual 149, 3) := by decide +kernel
theorem dX11_sluice_22 : decode cX11_sluice 22 = .ok (.aload_n 0, 1) := by decide +kernel
theorem dX11_sluice_23 : decode cX11_sluice 23 = .ok (.getfield 16, 3) := by decide +kernel
theorem dX11_sluice_26 : decode cX11_sluice 26 = .ok (.iload_n 1, 1) := by decide +kernel
theorem dX11_sluice_27 : decode cX11_sluice 27 = .ok (.invokevirtual 152, 3) := by decide +kernel
theorem dX11_sluice_30 : decode cX11_sluice 30 = .ok (.ifCond .eq 15, 3) := by decide +kernel
theorem dX11_sluice_33 : decode cX11_sluice 33 = .ok (.aload_n 0, 1) := by decide +kernel
theorem dX11_sluice_34 : decode cX11_sluice 34 = .ok (.getfield 16, 3) := by decide +kernel
theorem dX11_sluice_37 : decode cX11_sluice 37 = .ok (.iload_n 1, 1) := by decide +kernel
theorem dX11_sluice_38 : decode cX11_sluice 38 = .ok (.iload_n 2, 1) := by decide +kernel
theorem dX11_sluice_39 : decode cX11_sluice 39 = .ok (.invokevirtual 156, 3) := by decide +kernel
theorem dX11_sluice_42 : decode cX11_sluice 42 = .ok (.ifCond .ne 5, 3) := by decide +kernel
theorem dX11_sluice_45 : decode cX11_sluice 45 = .ok (.iconst (-1), 1) := by decide +kernel
theorem dX11_sluice_46 : decode cX11_sluice 46 = .ok (.ireturn, 1) := by decide +kernel
theorem dX11_sluice_47 : decode cX11_sluice 47 = .ok (.aload_n 0, 1) := by decide +kernel
theorem dX11_sluice_48 : decode cX11_sluice 48 = .ok (.getfield 23, 3) := by decide +kernel
theorem dX11_sluice_51 : decode cX11_sluice 51 = .ok (.invokevirtual 76, 3) := by decide +kernel
theorem dX11_sluice_54 : decode cX11_sluice 54 = .ok (.aload_n 0, 1) := by decide +kernel
theorem dX11_sluice_55 : decode cX11_sluice 55 = .ok (.getfield 16, 3) := by decide +kernel
theorem dX11_sluice_58 : decode cX11_sluice 58 = .ok (.iconst 4, 1) := by decide +kernel
theorem dX11_sluice_59 : decode cX11_sluice 59 = .ok (.iload_n 1, 1) := by decide +kernel
theorem dX11_sluice_60 : decode cX11_sluice 60 = .ok (.iload_n 2, 1) := by decide +kernel
theorem dX11_sluice_61 : decode cX11_sluice 61 = .ok (.iload_n 3, 1) := by decide +kernel
theorem dX11_sluice_62 : decode cX11_sluice 62 = .ok (.invokevirtual 163, 3) := by decide +kernel
theorem dX11_sluice_65 : decode cX11_sluice 65 = .ok (.ireturn, 1) := by decide +kernel
theorem dX11_square_0 : decode cX11_square 0 = .ok (.iload_n 1, 1) := by decide +kernel
theorem dX11_square_1 : decode cX11_square 1 = .ok (.invokestatic 55, 3) := by decide +kernel
theorem dX11_square_4 : decode cX11_square 4 = .ok (.aload_n 0, 1) := by decide +kernel
theorem dX11_square_5 : decode cX11_square 5 = .ok (.getfield 16, 3) := by decide +kernel
theorem dX11_square_8 : decode cX11_square 8 = .ok (.getfield 82, 3) := by decide +kernel
theorem dX11_square_11 : decode cX11_square 11 = .ok (.astore_n 3, 1) := by decide +kernel
theorem dX11_square_12 : decode cX11_square 12 = .ok (.iload_n 2, 1) := by decide +kernel
theorem dX11_square_13 : decode cX11_square 13 = .ok (.tableswitch 151 0 10 #[59, 74, 81, 88, 95, 102, 109, 118, 125, 132, 142], 59) := by decide +kernel
theorem dX11_square_72 : decode cX11_square 72 = .ok (.aload_n 3, 1) := by decide +kernel
theorem dX11_square_73 : decode cX11_square 73 = .ok (.getfield 86, 3) := by decide +kernel
theorem dX11_square_76 : decode cX11_square 76 = .ok (.iload_n 1, 1) := by decide +kernel
theorem dX11_square_77 : decode cX11_square 77 = .ok (.baload, 1) := by decide +kernel
theorem dX11_square_78 : decode cX11_square 78 = .ok (.ifCond .eq 7, 3) := by decide +kernel
theorem dX11_square_81 : decode cX11_square 81 = .ok (.iconst 1, 1) := by decide +kernel
theorem dX11_square_82 : decode cX11_square 82 = .ok (.goto 4, 3) := by decide +kernel
theorem dX11_square_85 : decode cX11_square 85 = .ok (.iconst 0, 1) := by decide +kernel
theorem dX11_square_86 : decode cX11_square 86 = .ok (.ireturn, 1) := by decide +kernel
theorem dX11_square_87 : decode cX11_square 87 = .ok (.aload_n 3, 1) := by decide +kernel
theorem dX11_square_88 : decode cX11_square 88 = .ok (.getfield 230, 3) := by decide +kernel
theorem dX11_square_91 : decode cX11_square 91 = .ok (.iload_n 1, 1) := by decide +kernel
theorem dX11_square_92 : decode cX11_square 92 = .ok (.iaload, 1) := by decide +kernel
theorem dX11_square_93 : decode cX11_square 93 = .ok (.ireturn, 1) := by decide +kernel
theorem dX11_square_94 : decode cX11_square 94 = .ok (.aload_n 3, 1) := by decide +kernel
theorem dX11_square_95 : decode cX11_square 95 = .ok (.getfield 233, 3) := by decide +kernel
theorem dX11_square_98 : decode cX11_square 98 = .ok (.iload_n 1, 1) := by decide +kernel
theorem dX11_square_99 : decode cX11_square 99 = .ok (.iaload, 1) := by decide +kernel
theorem dX11_square_100 : decode cX11_square 100 = .ok (.ireturn, 1) := by decide +kernel
theorem dX11_square_101 : decode cX11_square 101 = .ok (.aload_n 3, 1) := by decide +kernel
theorem dX11_square_102 : decode cX11_square 102 = .ok (.getfield 236, 3) := by decide +kernel
theorem dX11_square_105 : decode cX11_square 105 = .ok (.iload_n 1, 1) := by decide +kernel
theorem dX11_square_106 : decode cX11_square 106 = .ok (.iaload, 1) := by decide +kernel
theorem dX11_square_107 : decode cX11_square 107 = .ok (.ireturn, 1) := by decide +kernel
theorem dX11_square_108 : decode cX11_square 108 = .ok (.aload_n 3, 1) := by decide +kernel
theorem dX11_square_109 : decode cX11_square 109 = .ok (.getfield 239, 3) := by decide +kernel
theorem dX11_square_112 : decode cX11_square 112 = .ok (.iload_n 1, 1) := by decide +kernel
theorem dX11_square_113 : decode cX11_square 113 = .ok (.iaload, 1) := by decide +kernel
theorem dX11_square_114 : decode cX11_square 114 = .ok (.ireturn, 1) := by decide +kernel
theorem dX11_square_115 : decode cX11_square 115 = .ok (.aload_n 3, 1) := by decide +kernel
theorem dX11_square_116 : decode cX11_square 116 = .ok (.getfield 242, 3) := by decide +kernel
theorem dX11_square_119 : decode cX11_square 119 = .ok (.iload_n 1, 1) := by decide +kernel
theorem dX11_square_120 : decode cX11_square 120 = .ok (.iaload, 1) := by decide +kernel
theorem dX11_square_121 : decode cX11_square 121 = .ok (.ireturn, 1) := by decide +kernel
theorem dX11_square_122 : decode cX11_square 122 = .ok (.aload_n 0, 1) := by decide +kernel
theorem dX11_square_123 : decode cX11_square 123 = .ok (.getfield 16, 3) := by decide +kernel
theorem dX11_square_126 : decode cX11_square 126 = .ok (.iload_n 1, 1) := by decide +kernel
theorem dX11_square_127 : decode cX11_square 127 = .ok (.invokevirtual 245, 3) := by decide +kernel
theorem dX11_square_130 : decode cX11_square 130 = .ok (.ireturn, 1) := by decide +kernel
theorem dX11_square_131 : decode cX11_square 131 = .ok (.aload_n 3, 1) := by decide +kernel
theorem dX11_square_132 : decode cX11_square 132 = .ok (.getfield 248, 3) := by decide +kernel
theorem dX11_square_135 : decode cX11_square 135 = .ok (.iload_n 1, 1) := by decide +kernel
theorem dX11_square_136 : decode cX11_square 136 = .ok (.iaload, 1) := by decide +kernel
theorem dX11_square_137 : decode cX11_square 137 = .ok (.ireturn, 1) := by decide +kernel
theorem dX11_square_138 : decode cX11_square 138 = .ok (.aload_n 3, 1) := by decide +kernel
theorem dX11_square_139 : decode cX11_square 139 = .ok (.getfield 251, 3) := by decide +kernel
theorem dX11_square_142 : decode cX11_square 142 = .ok (.iload_n 1, 1) := by decide +kernel
theorem dX11_square_143 : decode cX11_square 143 = .ok (.iaload, 1) := by decide +kernel
theorem dX11_square_144 : decode cX11_square 144 = .ok (.ireturn, 1) := by decide +kernel
theorem dX11_square_145 : decode cX11_square 145 = .ok (.aload_n 0, 1) := by decide +kernel
theorem dX11_square_146 : decode cX11_square 146 = .ok (.getfield 30, 3) := by decide +kernel
theorem dX11_square_149 : decode cX11_square 149 = .ok (.getfield 254, 3) := by decide +kernel
theorem dX11_square_152 : decode cX11_square 152 = .ok (.iload_n 1, 1) := by decide +kernel
theorem dX11_square_153 : decode cX11_square 153 = .ok (.iaload, 1) := by decide +kernel
theorem dX11_square_154 : decode cX11_square 154 = .ok (.ireturn, 1) := by decide +kernel
theorem dX11_square_155 : decode cX11_square 155 = .ok (.aload_n 0, 1) := by decide +kernel
theorem dX11_square_156 : decode cX11_square 156 = .ok (.getfield 16, 3) := by decide +kernel
theorem dX11_square_159 : decode cX11_square 159 = .ok (.iload_n 1, 1) := by decide +kernel
theorem dX11_square_160 : decode cX11_square 160 = .ok (.invokevirtual 257, 3) := by decide +kernel
theorem dX11_square_163 : decode cX11_square 163 = .ok (.ireturn, 1) := by decide +kernel
theorem dX11_square_164 : decode cX11_square 164 = .ok (.new 134, 3) := by decide +kernel
theorem dX11_square_167 : decode cX11_square 167 = .ok (.dup, 1) := by decide +kernel
theorem dX11_square_168 : decode cX11_square 168 = .ok (.ldc_w 260, 3) := by decide +kernel
theorem dX11_square_171 : decode cX11_square 171 = .ok (.invokespecial 138, 3) := by decide +kernel
theorem dX11_square_174 : decode cX11_square 174 = .ok (.athrow, 1) := by decide +kernel
theorem dX3_levelNow_0 : decode cX3_levelNow 0 = .ok (.aload_n 0, 1) := by decide +kernel
theorem dX3_levelNow_1 : decode cX3_levelNow 1 = .ok (.getfield 21, 3) := by decide +kernel
theorem dX3_levelNow_4 : decode cX3_levelNow 4 = .ok (.getfield 36, 3) := by decide +kernel
theorem dX3_levelNow_7 : decode cX3_levelNow 7 = .ok (.iload_n 1, 1) := by decide +kernel
theorem dX3_levelNow_8 : decode cX3_levelNow 8 = .ok (.baload, 1) := by decide +kernel
theorem dX3_levelNow_9 : decode cX3_levelNow 9 = .ok (.ifCond .eq 14, 3) := by decide +kernel
theorem dX3_levelNow_12 : decode cX3_levelNow 12 = .ok (.aload_n 0, 1) := by decide +kernel
theorem dX3_levelNow_13 : decode cX3_levelNow 13 = .ok (.getfield 21, 3) := by decide +kernel
theorem dX3_levelNow_16 : decode cX3_levelNow 16 = .ok (.iload_n 1, 1) := by decide +kernel
theorem dX3_levelNow_17 : decode cX3_levelNow 17 = .ok (.invokevirtual 40, 3) := by decide +kernel
theorem dX3_levelNow_20 : decode cX3_levelNow 20 = .ok (.goto 14, 3) := by decide +kernel
theorem dX3_levelNow_23 : decode cX3_levelNow 23 = .ok (.aload_n 0, 1) := by decide +kernel
theorem dX3_levelNow_24 : decode cX3_levelNow 24 = .ok (.getfield 12, 3) := by decide +kernel
theorem dX3_levelNow_27 : decode cX3_levelNow 27 = .ok (.aload_n 0, 1) := by decide +kernel
theorem dX3_levelNow_28 : decode cX3_levelNow 28 = .ok (.getfield 32, 3) := by decide +kernel
theorem dX3_levelNow_31 : decode cX3_levelNow 31 = .ok (.invokevirtual 44, 3) := by decide +kernel
theorem dX3_levelNow_34 : decode cX3_levelNow 34 = .ok (.ireturn, 1) := by decide +kernel
theorem dX11_lawLevel_0 : decode cX11_lawLevel 0 = .ok (.iload_n 1, 1) := by decide +kernel
theorem dX11_lawLevel_1 : decode cX11_lawLevel 1 = .ok (.invokestatic 55, 3) := by decide +kernel
theorem dX11_lawLevel_4 : decode cX11_lawLevel 4 = .ok (.aload_n 0, 1) := by decide +kernel
theorem dX11_lawLevel_5 : decode cX11_lawLevel 5 = .ok (.getfield 16, 3) := by decide +kernel
theorem dX11_lawLevel_8 : decode cX11_lawLevel 8 = .ok (.invokevirtual 334, 3) := by decide +kernel
theorem dX11_lawLevel_11 : decode cX11_lawLevel 11 = .ok (.sipush 360, 3) := by decide +kernel
theorem dX11_lawLevel_14 : decode cX11_lawLevel 14 = .ok (.irem, 1) := by decide +kernel
theorem dX11_lawLevel_15 : decode cX11_lawLevel 15 = .ok (.istore_n 2, 1) := by decide +kernel
theorem dX11_lawLevel_16 : decode cX11_lawLevel 16 = .ok (.aload_n 0, 1) := by decide +kernel
theorem dX11_lawLevel_17 : decode cX11_lawLevel 17 = .ok (.getfield 30, 3) := by decide +kernel
theorem dX11_lawLevel_20 : decode cX11_lawLevel 20 = .ok (.getfield 323, 3) := by decide +kernel
theorem dX11_lawLevel_23 : decode cX11_lawLevel 23 = .ok (.iload_n 1, 1) := by decide +kernel
theorem dX11_lawLevel_24 : decode cX11_lawLevel 24 = .ok (.iload_n 2, 1) := by decide +kernel
theorem dX11_lawLevel_25 : decode cX11_lawLevel 25 = .ok (.bipush 90, 2) := by decide +kernel
theorem dX11_lawLevel_27 : decode cX11_lawLevel 27 = .ok (.sipush 269, 3) := by decide +kernel
theorem dX11_lawLevel_30 : decode cX11_lawLevel 30 = .ok (.invokestatic 58, 3) := by decide +kernel
theorem dX11_lawLevel_33 : decode cX11_lawLevel 33 = .ok (.invokevirtual 337, 3) := by decide +kernel
theorem dX11_lawLevel_36 : decode cX11_lawLevel 36 = .ok (.ireturn, 1) := by decide +kernel
theorem dX11_mayBuild_0 : decode cX11_mayBuild 0 = .ok (.iload_n 1, 1) := by decide +kernel
theorem dX11_mayBuild_1 : decode cX11_mayBuild 1 = .ok (.invokestatic 55, 3) := by decide +kernel
theorem dX11_mayBuild_4 : decode cX11_mayBuild 4 = .ok (.aload_n 0, 1) := by decide +kernel
theorem dX11_mayBuild_5 : decode cX11_mayBuild 5 = .ok (.getfield 30, 3) := by decide +kernel
theorem dX11_mayBuild_8 : decode cX11_mayBuild 8 = .ok (.iload_n 1, 1) := by decide +kernel
theorem dX11_mayBuild_9 : decode cX11_mayBuild 9 = .ok (.aload_n 0, 1) := by decide +kernel
theorem dX11_mayBuild_10 : decode cX11_mayBuild 10 = .ok (.getfield 16, 3) := by decide +kernel
theorem dX11_mayBuild_13 : decode cX11_mayBuild 13 = .ok (.invokevirtual 190, 3) := by decide +kernel
theorem dX11_mayBuild_16 : decode cX11_mayBuild 16 = .ok (.ireturn, 1) := by decide +kernel
theorem dX11_settler_0 : decode cX11_settler 0 = .ok (.iload_n 1, 1) := by decide +kernel
theorem dX11_settler_1 : decode cX11_settler 1 = .ok (.iconst 0, 1) := by decide +kernel
theorem dX11_settler_2 : decode cX11_settler 2 = .ok (.bipush 99, 2) := by decide +kernel
theorem dX11_settler_4 : decode cX11_settler 4 = .ok (.invokestatic 58, 3) := by decide +kernel
theorem dX11_settler_7 : decode cX11_settler 7 = .ok (.ifCond .eq 50, 3) := by decide +kernel
theorem dX11_settler_10 : decode cX11_settler 10 = .ok (.iload_n 2, 1) := by decide +kernel
theorem dX11_settler_11 : decode cX11_settler 11 = .ok (.iconst 0, 1) := by decide +kernel
theorem dX11_settler_12 : decode cX11_settler 12 = .ok (.bipush 20, 2) := by decide +kernel
theorem dX11_settler_14 : decode cX11_settler 14 = .ok (.invokestatic 58, 3) := by decide +kernel
theorem dX11_settler_17 : decode cX11_settler 17 = .ok (.ifCond .eq 40, 3) := by decide +kernel
theorem dX11_settler_20 : decode cX11_settler 20 = .ok (.iload_n 3, 1) := by decide +kernel
theorem dX11_settler_21 : decode cX11_settler 21 = .ok (.iconst 0, 1) := by decide +kernel
theorem dX11_settler_22 : decode cX11_settler 22 = .ok (.ldc 96, 2) := by decide +kernel
theorem dX11_settler_24 : decode cX11_settler 24 = .ok (.invokestatic 58, 3) := by decide +kernel
theorem dX11_settler_27 : decode cX11_settler 27 = .ok (.ifCond .eq 30, 3) := by decide +kernel
theorem dX11_settler_30 : decode cX11_settler 30 = .ok (.iload 4, 2) := by decide +kernel
theorem dX11_settler_32 : decode cX11_settler 32 = .ok (.iconst 0, 1) := by decide +kernel
theorem dX11_settler_33 : decode cX11_settler 33 = .ok (.bipush 100, 2) := by decide +kernel
theorem dX11_settler_35 : decode cX11_settler 35 = .ok (.invokestatic 58, 3) := by decide +kernel
theorem dX11_settler_38 : decode cX11_settler 38 = .ok (.ifCond .eq 19, 3) := by decide +kernel
theorem dX11_settler_41 : decode cX11_settler 41 = .ok (.iload 7, 2) := by decide +kernel
theorem dX11_settler_43 : decode cX11_settler 43 = .ok (.iconst 0, 1) := by decide +kernel
theorem dX11_settler_44 : decode cX11_settler 44 = .ok (.ldc_w 341, 3) := by decide +kernel
theorem dX11_settler_47 : decode cX11_settler 47 = .ok (.invokestatic 58, 3) := by decide +kernel
theorem dX11_settler_50 : decode cX11_settler 50 = .ok (.ifCond .eq 7, 3) := by decide +kernel
theorem dX11_settler_53 : decode cX11_settler 53 = .ok (.iconst 1, 1) := by decide +kernel
theorem dX11_settler_54 : decode cX11_settler 54 = .ok (.goto 4, 3) := by decide +kernel
theorem dX11_settler_57 : decode cX11_settler 57 = .ok (.iconst 0, 1) := by decide +kernel
theorem dX11_settler_58 : decode cX11_settler 58 = .ok (.invokestatic 62, 3) := by decide +kernel
theorem dX11_settler_61 : decode cX11_settler 61 = .ok (.aload_n 0, 1) := by decide +kernel
theorem dX11_settler_62 : decode cX11_settler 62 = .ok (.getfield 30, 3) := by decide +kernel
theorem dX11_settler_65 : decode cX11_settler 65 = .ok (.getfield 342, 3) := by decide +kernel
theorem dX11_settler_68 : decode cX11_settler 68 = .ok (.bipush 60, 2) := by decide +kernel
theorem dX11_settler_70 : decode cX11_settler 70 = .ok (.if_icmp .ne 14, 3) := by decide +kernel
theorem dX11_settler_73 : decode cX11_settler 73 = .ok (.new 345, 3) := by decide +kernel
theorem dX11_settler_76 : decode cX11_settler 76 = .ok (.dup, 1) := by decide +kernel
theorem dX11_settler_77 : decode cX11_settler 77 = .ok (.ldc_w 347, 3) := by decide +kernel
theorem dX11_settler_80 : decode cX11_settler 80 = .ok (.invokespecial 349, 3) := by decide +kernel
theorem dX11_settler_83 : decode cX11_settler 83 = .ok (.athrow, 1) := by decide +kernel
theorem dX11_settler_84 : decode cX11_settler 84 = .ok (.aload_n 0, 1) := by decide +kernel
theorem dX11_settler_85 : decode cX11_settler 85 = .ok (.getfield 30, 3) := by decide +kernel
theorem dX11_settler_88 : decode cX11_settler 88 = .ok (.new 350, 3) := by decide +kernel
theorem dX11_settler_91 : decode cX11_settler 91 = .ok (.dup, 1) := by decide +kernel
theorem dX11_settler_92 : decode cX11_settler 92 = .ok (.iload_n 1, 1) := by decide +kernel
theorem dX11_settler_93 : decode cX11_settler 93 = .ok (.iload_n 2, 1) := by decide +kernel
theorem dX11_settler_94 : decode cX11_settler 94 = .ok (.iload_n 3, 1) := by decide +kernel
theorem dX11_settler_95 : decode cX11_settler 95 = .ok (.iload 4, 2) := by decide +kernel
theorem dX11_settler_97 : decode cX11_settler 97 = .ok (.iload 5, 2) := by decide +kernel
theorem dX11_settler_99 : decode cX11_settler 99 = .ok (.iload 6, 2) := by decide +kernel
theorem dX11_settler_101 : decode cX11_settler 101 = .ok (.iload 7, 2) := by decide +kernel
theorem dX11_settler_103 : decode cX11_settler 103 = .ok (.invokespecial 352, 3) := by decide +kernel
theorem dX11_settler_106 : decode cX11_settler 106 = .ok (.invokevirtual 355, 3) := by decide +kernel
theorem dX11_settler_109 : decode cX11_settler 109 = .ok (.ireturn, 1) := by decide +kernel
theorem dX7_init_0 : decode cX7_init 0 = .ok (.aload_n 0, 1) := by decide +kernel
theorem dX7_init_1 : decode cX7_init 1 = .ok (.invokespecial 3, 3) := by decide +kernel
theorem dX7_init_4 : decode cX7_init 4 = .ok (.aload_n 0, 1) := by decide +kernel
theorem dX7_init_5 : decode cX7_init 5 = .ok (.iconst (-1), 1) := by decide +kernel
theorem dX7_init_6 : decode cX7_init 6 = .ok (.putfield 9, 3) := by decide +kernel
theorem dX7_init_9 : decode cX7_init 9 = .ok (.aload_n 0, 1) := by decide +kernel
theorem dX7_init_10 : decode cX7_init 10 = .ok (.iload_n 1, 1) := by decide +kernel
theorem dX7_init_11 : decode cX7_init 11 = .ok (.putfield 15, 3) := by decide +kernel
theorem dX7_init_14 : decode cX7_init 14 = .ok (.aload_n 0, 1) := by decide +kernel
theorem dX7_init_15 : decode cX7_init 15 = .ok (.iload_n 2, 1) := by decide +kernel
theorem dX7_init_16 : decode cX7_init 16 = .ok (.putfield 18, 3) := by decide +kernel
theorem dX7_init_19 : decode cX7_init 19 = .ok (.aload_n 0, 1) := by decide +kernel
theorem dX7_init_20 : decode cX7_init 20 = .ok (.iload_n 3, 1) := by decide +kernel
theorem dX7_init_21 : decode cX7_init 21 = .ok (.putfield 21, 3) := by decide +kernel
theorem dX7_init_24 : decode cX7_init 24 = .ok (.aload_n 0, 1) := by decide +kernel
theorem dX7_init_25 : decode cX7_init 25 = .ok (.iload 4, 2) := by decide +kernel
theorem dX7_init_27 : decode cX7_init 27 = .ok (.putfield 24, 3) := by decide +kernel
theorem dX7_init_30 : decode cX7_init 30 = .ok (.aload_n 0, 1) := by decide +kernel
theorem dX7_init_31 : decode cX7_init 31 = .ok (.iload 5, 2) := by decide +kernel
theorem dX7_init_33 : decode cX7_init 33 = .ok (.putfield 27, 3) := by decide +kernel
theorem dX7_init_36 : decode cX7_init 36 = .ok (.aload_n 0, 1) := by decide +kernel
theorem dX7_init_37 : decode cX7_init 37 = .ok (.iload 6, 2) := by decide +kernel
theorem dX7_init_39 : decode cX7_init 39 = .ok (.putfield 31, 3) := by decide +kernel
theorem dX7_init_42 : decode cX7_init 42 = .ok (.aload_n 0, 1) := by decide +kernel
theorem dX7_init_43 : decode cX7_init 43 = .ok (.iload 7, 2) := by decide +kernel
theorem dX7_init_45 : decode cX7_init 45 = .ok (.putfield 34, 3) := by decide +kernel
theorem dX7_init_48 : decode cX7_init 48 = .ok (.return_, 1) := by decide +kernel
theorem dX0_settle_0 : decode cX0_settle 0 = .ok (.aload_n 0, 1) := by decide +kernel
theorem dX0_settle_1 : decode cX0_settle 1 = .ok (.getfield 11, 3) := by decide +kernel
theorem dX0_settle_4 : decode cX0_settle 4 = .ok (.aload_n 0, 1) := by decide +kernel
theorem dX0_settle_5 : decode cX0_settle 5 = .ok (.getfield 75, 3) := by decide +kernel
theorem dX0_settle_8 : decode cX0_settle 8 = .ok (.aload_n 1, 1) := by decide +kernel
theorem dX0_settle_9 : decode cX0_settle 9 = .ok (.aastore, 1) := by decide +kernel
theorem dX0_settle_10 : decode cX0_settle 10 = .ok (.aload_n 0, 1) := by decide +kernel
theorem dX0_settle_11 : decode cX0_settle 11 = .ok (.dup, 1) := by decide +kernel
theorem dX0_settle_12 : decode cX0_settle 12 = .ok (.getfield 75, 3) := by decide +kernel
theorem dX0_settle_15 : decode cX0_settle 15 = .ok (.iconst 1, 1) := by decide +kernel
theorem dX0_settle_16 : decode cX0_settle 16 = .ok (.iadd, 1) := by decide +kernel
theorem dX0_settle_17 : decode cX0_settle 17 = .ok (.putfield 75, 3) := by decide +kernel
theorem dX0_settle_20 : decode cX0_settle 20 = .ok (.aload_n 0, 1) := by decide +kernel
theorem dX0_settle_21 : decode cX0_settle 21 = .ok (.getfield 75, 3) := by decide +kernel
theorem dX0_settle_24 : decode cX0_settle 24 = .ok (.iconst 1, 1) := by decide +kernel
theorem dX0_settle_25 : decode cX0_settle 25 = .ok (.isub, 1) := by decide +kernel
theorem dX0_settle_26 : decode cX0_settle 26 = .ok (.ireturn, 1) := by decide +kernel
theorem dX11_choose_0 : decode cX11_choose 0 = .ok (.iload_n 1, 1) := by decide +kernel
theorem dX11_choose_1 : decode cX11_choose 1 = .ok (.iconst 0, 1) := by decide +kernel
theorem dX11_choose_2 : decode cX11_choose 2 = .ok (.bipush 60, 2) := by decide +kernel
theorem dX11_choose_4 : decode cX11_choose 4 = .ok (.invokestatic 58, 3) := by decide +kernel
theorem dX11_choose_7 : decode cX11_choose 7 = .ok (.invokestatic 62, 3) := by decide +kernel
theorem dX11_choose_10 : decode cX11_choose 10 = .ok (.aload_n 0, 1) := by decide +kernel
theorem dX11_choose_11 : decode cX11_choose 11 = .ok (.getfield 30, 3) := by decide +kernel
theorem dX11_choose_14 : decode cX11_choose 14 = .ok (.iload_n 1, 1) := by decide +kernel
theorem dX11_choose_15 : decode cX11_choose 15 = .ok (.aload_n 0, 1) := by decide +kernel
theorem dX11_choose_16 : decode cX11_choose 16 = .ok (.getfield 16, 3) := by decide +kernel
theorem dX11_choose_19 : decode cX11_choose 19 = .ok (.invokevirtual 373, 3) := by decide +kernel
theorem dX11_choose_22 : decode cX11_choose 22 = .ok (.ireturn, 1) := by decide +kernel
theorem dX0_giveFarms_0 : decode cX0_giveFarms 0 = .ok (.iconst 0, 1) := by decide +kernel
theorem dX0_giveFarms_1 : decode cX0_giveFarms 1 = .ok (.istore_n 3, 1) := by decide +kernel
theorem dX0_giveFarms_2 : decode cX0_giveFarms 2 = .ok (.iload_n 3, 1) := by decide +kernel
theorem dX0_giveFarms_3 : decode cX0_giveFarms 3 = .ok (.aload_n 0, 1) := by decide +kernel
theorem dX0_giveFarms_4 : decode cX0_giveFarms 4 = .ok (.getfield 75, 3) := by decide +kernel
theorem dX0_giveFarms_7 : decode cX0_giveFarms 7 = .ok (.if_icmp .ge 69, 3) := by decide +kernel
theorem dX0_giveFarms_10 : decode cX0_giveFarms 10 = .ok (.aload_n 0, 1) := by decide +kernel
theorem dX0_giveFarms_11 : decode cX0_giveFarms 11 = .ok (.aload_n 0, 1) := by decide +kernel
theorem dX0_giveFarms_12 : decode cX0_giveFarms 12 = .ok (.getfield 11, 3) := by decide +kernel
theorem dX0_giveFarms_15 : decode cX0_giveFarms 15 = .ok (.iload_n 3, 1) := by decide +kernel
theorem dX0_giveFarms_16 : decode cX0_giveFarms 16 = .ok (.aaload, 1) := by decide +kernel
theorem dX0_giveFarms_17 : decode cX0_giveFarms 17 = .ok (.aload_n 2, 1) := by decide +kernel
theorem dX0_giveFarms_18 : decode cX0_giveFarms 18 = .ok (.invokevirtual 84, 3) := by decide +kernel
theorem dX0_giveFarms_21 : decode cX0_giveFarms 21 = .ok (.aload_n 0, 1) := by decide +kernel
theorem dX0_giveFarms_22 : decode cX0_giveFarms 22 = .ok (.getfield 11, 3) := by decide +kernel
theorem dX0_giveFarms_25 : decode cX0_giveFarms 25 = .ok (.iload_n 3, 1) := by decide +kernel
theorem dX0_giveFarms_26 : decode cX0_giveFarms 26 = .ok (.aaload, 1) := by decide +kernel
theorem dX0_giveFarms_27 : decode cX0_giveFarms 27 = .ok (.getfield 81, 3) := by decide +kernel
theorem dX0_giveFarms_30 : decode cX0_giveFarms 30 = .ok (.iconst (-1), 1) := by decide +kernel
theorem dX0_giveFarms_31 : decode cX0_giveFarms 31 = .ok (.if_icmp .ne 16, 3) := by decide +kernel
theorem dX0_giveFarms_34 : decode cX0_giveFarms 34 = .ok (.aload_n 0, 1) := by decide +kernel
theorem dX0_giveFarms_35 : decode cX0_giveFarms 35 = .ok (.bipush 6, 2) := by decide +kernel
theorem dX0_giveFarms_37 : decode cX0_giveFarms 37 = .ok (.invokevirtual 169, 3) := by decide +kernel
theorem dX0_giveFarms_40 : decode cX0_giveFarms 40 = .ok (.ifCond .ne 7, 3) := by decide +kernel
theorem dX0_giveFarms_43 : decode cX0_giveFarms 43 = .ok (.iconst 1, 1) := by decide +kernel
theorem dX0_giveFarms_44 : decode cX0_giveFarms 44 = .ok (.goto 4, 3) := by decide +kernel
theorem dX0_giveFarms_47 : decode cX0_giveFarms 47 = .ok (.iconst 0, 1) := by decide +kernel
theorem dX0_giveFarms_48 : decode cX0_giveFarms 48 = .ok (.istore 4, 2) := by decide +kernel
theorem dX0_giveFarms_50 : decode cX0_giveFarms 50 = .ok (.aload_n 0, 1) := by decide +kernel
theorem dX0_giveFarms_51 : decode cX0_giveFarms 51 = .ok (.getfield 37, 3) := by decide +kernel
theorem dX0_giveFarms_54 : decode cX0_giveFarms 54 = .ok (.iload_n 3, 1) := by decide +kernel
theorem dX0_giveFarms_55 : decode cX0_giveFarms 55 = .ok (.iload 4, 2) := by decide +kernel
theorem dX0_giveFarms_57 : decode cX0_giveFarms 57 = .ok (.ifCond .eq 11, 3) := by decide +kernel
theorem dX0_giveFarms_60 : decode cX0_giveFarms 60 = .ok (.aload_n 0, 1) := by decide +kernel
theorem dX0_giveFarms_61 : decode cX0_giveFarms 61 = .ok (.iconst 4, 1) := by decide +kernel
theorem dX0_giveFarms_62 : decode cX0_giveFarms 62 = .ok (.invokevirtual 88, 3) := by decide +kernel
theorem dX0_giveFarms_65 : decode cX0_giveFarms 65 = .ok (.goto 4, 3) := by decide +kernel
theorem dX0_giveFarms_68 : decode cX0_giveFarms 68 = .ok (.iconst (-1), 1) := by decide +kernel
theorem dX0_giveFarms_69 : decode cX0_giveFarms 69 = .ok (.iastore, 1) := by decide +kernel
theorem dX0_giveFarms_70 : decode cX0_giveFarms 70 = .ok (.iinc 3 1, 3) := by decide +kernel
theorem dX0_giveFarms_73 : decode cX0_giveFarms 73 = .ok (.goto (-71), 3) := by decide +kernel
theorem dX0_giveFarms_76 : decode cX0_giveFarms 76 = .ok (.iconst 0, 1) := by decide +kernel
theorem dX0_giveFarms_77 : decode cX0_giveFarms 77 = .ok (.istore_n 3, 1) := by decide +kernel
theorem dX0_giveFarms_78 : decode cX0_giveFarms 78 = .ok (.iconst 0, 1) := by decide +kernel
theorem dX0_giveFarms_79 : decode cX0_giveFarms 79 = .ok (.istore 4, 2) := by decide +kernel
theorem dX0_giveFarms_81 : decode cX0_giveFarms 81 = .ok (.iload 4, 2) := by decide +kernel
theorem dX0_giveFarms_83 : decode cX0_giveFarms 83 = .ok (.iload_n 1, 1) := by decide +kernel
theorem dX0_giveFarms_84 : decode cX0_giveFarms 84 = .ok (.if_icmp .ge 71, 3) := by decide +kernel
theorem dX0_giveFarms_87 : decode cX0_giveFarms 87 = .ok (.aload_n 0, 1) := by decide +kernel
theorem dX0_giveFarms_88 : decode cX0_giveFarms 88 = .ok (.invokevirtual 173, 3) := by decide +kernel
theorem dX0_giveFarms_91 : decode cX0_giveFarms 91 = .ok (.istore 5, 2) := by decide +kernel
theorem dX0_giveFarms_93 : decode cX0_giveFarms 93 = .ok (.aload_n 0, 1) := by decide +kernel
theorem dX0_giveFarms_94 : decode cX0_giveFarms 94 = .ok (.aload_n 2, 1) := by decide +kernel
theorem dX0_giveFarms_95 : decode cX0_giveFarms 95 = .ok (.getfield 177, 3) := by decide +kernel
theorem dX0_giveFarms_98 : decode cX0_giveFarms 98 = .ok (.invokevirtual 181, 3) := by decide +kernel
theorem dX0_giveFarms_101 : decode cX0_giveFarms 101 = .ok (.istore 6, 2) := by decide +kernel
theorem dX0_giveFarms_103 : decode cX0_giveFarms 103 = .ok (.iload 5, 2) := by decide +kernel
theorem dX0_giveFarms_105 : decode cX0_giveFarms 105 = .ok (.iconst (-1), 1) := by decide +kernel
theorem dX0_giveFarms_106 : decode cX0_giveFarms 106 = .ok (.if_icmp .eq 49, 3) := by decide +kernel
theorem dX0_giveFarms_109 : decode cX0_giveFarms 109 = .ok (.iload 6, 2) := by decide +kernel
theorem dX0_giveFarms_111 : decode cX0_giveFarms 111 = .ok (.iconst (-1), 1) := by decide +kernel
theorem dX0_giveFarms_112 : decode cX0_giveFarms 112 = .ok (.if_icmp .ne 6, 3) := by decide +kernel
theorem dX0_giveFarms_115 : decode cX0_giveFarms 115 = .ok (.goto 40, 3) := by decide +kernel
theorem dX0_giveFarms_118 : decode cX0_giveFarms 118 = .ok (.aload_n 0, 1) := by decide +kernel
theorem dX0_giveFarms_119 : decode cX0_giveFarms 119 = .ok (.getfield 37, 3) := by decide +kernel
theorem dX0_giveFarms_122 : decode cX0_giveFarms 122 = .ok (.iload 5, 2) := by decide +kernel
theorem dX0_giveFarms_124 : decode cX0_giveFarms 124 = .ok (.iconst (-1), 1) := by decide +kernel
theorem dX0_giveFarms_125 : decode cX0_giveFarms 125 = .ok (.iastore, 1) := by decide +kernel
theorem dX0_giveFarms_126 : decode cX0_giveFarms 126 = .ok (.aload_n 0, 1) := by decide +kernel
theorem dX0_giveFarms_127 : decode cX0_giveFarms 127 = .ok (.getfield 11, 3) := by decide +kernel
theorem dX0_giveFarms_130 : decode cX0_giveFarms 130 = .ok (.iload 5, 2) := by decide +kernel
theorem dX0_giveFarms_132 : decode cX0_giveFarms 132 = .ok (.aaload, 1) := by decide +kernel
theorem dX0_giveFarms_133 : decode cX0_giveFarms 133 = .ok (.iload 6, 2) := by decide +kernel
theorem dX0_giveFarms_135 : decode cX0_giveFarms 135 = .ok (.putfield 81, 3) := by decide +kernel
theorem dX0_giveFarms_138 : decode cX0_giveFarms 138 = .ok (.aload_n 0, 1) := by decide +kernel
theorem dX0_giveFarms_139 : decode cX0_giveFarms 139 = .ok (.getfield 24, 3) := by decide +kernel
theorem dX0_giveFarms_142 : decode cX0_giveFarms 142 = .ok (.iload 6, 2) := by decide +kernel
theorem dX0_giveFarms_144 : decode cX0_giveFarms 144 = .ok (.iconst 1, 1) := by decide +kernel
theorem dX0_giveFarms_145 : decode cX0_giveFarms 145 = .ok (.bastore, 1) := by decide +kernel
theorem dX0_giveFarms_146 : decode cX0_giveFarms 146 = .ok (.iinc 3 1, 3) := by decide +kernel
theorem dX0_giveFarms_149 : decode cX0_giveFarms 149 = .ok (.iinc 4 1, 3) := by decide +kernel
theorem dX0_giveFarms_152 : decode cX0_giveFarms 152 = .ok (.goto (-71), 3) := by decide +kernel
theorem dX0_giveFarms_155 : decode cX0_giveFarms 155 = .ok (.aload_n 0, 1) := by decide +kernel
theorem dX0_giveFarms_156 : decode cX0_giveFarms 156 = .ok (.dup, 1) := by decide +kernel
theorem dX0_giveFarms_157 : decode cX0_giveFarms 157 = .ok (.getfield 185, 3) := by decide +kernel
theorem dX0_giveFarms_160 : decode cX0_giveFarms 160 = .ok (.iload_n 3, 1) := by decide +kernel
theorem dX0_giveFarms_161 : decode cX0_giveFarms 161 = .ok (.iadd, 1) := by decide +kernel
theorem dX0_giveFarms_162 : decode cX0_giveFarms 162 = .ok (.putfield 185, 3) := by decide +kernel
theorem dX0_giveFarms_165 : decode cX0_giveFarms 165 = .ok (.iload_n 3, 1) := by decide +kernel
theorem dX0_giveFarms_166 : decode cX0_giveFarms 166 = .ok (.ireturn, 1) := by decide +kernel
theorem dX11_arrears_0 : decode cX11_arrears 0 = .ok (.aload_n 0, 1) := by decide +kernel
theorem dX11_arrears_1 : decode cX11_arrears 1 = .ok (.getfield 30, 3) := by decide +kernel
theorem dX11_arrears_4 : decode cX11_arrears 4 = .ok (.iload_n 1, 1) := by decide +kernel
theorem dX11_arrears_5 : decode cX11_arrears 5 = .ok (.invokevirtual 408, 3) := by decide +kernel
theorem dX11_arrears_8 : decode cX11_arrears 8 = .ok (.ireturn, 1) := by decide +kernel
theorem dX11_coin_0 : decode cX11_coin 0 = .ok (.iload_n 1, 1) := by decide +kernel
theorem dX11_coin_1 : decode cX11_coin 1 = .ok (.iconst 0, 1) := by decide +kernel
theorem dX11_coin_2 : decode cX11_coin 2 = .ok (.ldc_w 411, 3) := by decide +kernel
theorem dX11_coin_5 : decode cX11_coin 5 = .ok (.invokestatic 58, 3) := by decide +kernel
theorem dX11_coin_8 : decode cX11_coin 8 = .ok (.ifCond .eq 22, 3) := by decide +kernel
theorem dX11_coin_11 : decode cX11_coin 11 = .ok (.aload_n 0, 1) := by decide +kernel
theorem dX11_coin_12 : decode cX11_coin 12 = .ok (.getfield 30, 3) := by decide +kernel
theorem dX11_coin_15 : decode cX11_coin 15 = .ok (.getfield 412, 3) := by decide +kernel
theorem dX11_coin_18 : decode cX11_coin 18 = .ok (.ldc_w 413, 3) := by decide +kernel
theorem dX11_coin_21 : decode cX11_coin 21 = .ok (.iload_n 1, 1) := by decide +kernel
theorem dX11_coin_22 : decode cX11_coin 22 = .ok (.isub, 1) := by decide +kernel
theorem dX11_coin_23 : decode cX11_coin 23 = .ok (.if_icmp .gt 7, 3) := by decide +kernel
theorem dX11_coin_26 : decode cX11_coin 26 = .ok (.iconst 1, 1) := by decide +kernel
theorem dX11_coin_27 : decode cX11_coin 27 = .ok (.goto 4, 3) := by decide +kernel
theorem dX11_coin_30 : decode cX11_coin 30 = .ok (.iconst 0, 1) := by decide +kernel
theorem dX11_coin_31 : decode cX11_coin 31 = .ok (.invokestatic 62, 3) := by decide +kernel
theorem dX11_coin_34 : decode cX11_coin 34 = .ok (.aload_n 0, 1) := by decide +kernel
theorem dX11_coin_35 : decode cX11_coin 35 = .ok (.getfield 30, 3) := by decide +kernel
theorem dX11_coin_38 : decode cX11_coin 38 = .ok (.dup, 1) := by decide +kernel
theorem dX11_coin_39 : decode cX11_coin 39 = .ok (.getfield 412, 3) := by decide +kernel
theorem dX11_coin_42 : decode cX11_coin 42 = .ok (.iload_n 1, 1) := by decide +kernel
theorem dX11_coin_43 : decode cX11_coin 43 = .ok (.iadd, 1) := by decide +kernel
theorem dX11_coin_44 : decode cX11_coin 44 = .ok (.putfield 412, 3) := by decide +kernel
theorem dX11_coin_47 : decode cX11_coin 47 = .ok (.aload_n 0, 1) := by decide +kernel
theorem dX11_coin_48 : decode cX11_coin 48 = .ok (.getfield 30, 3) := by decide +kernel
theorem dX11_coin_51 : decode cX11_coin 51 = .ok (.getfield 412, 3) := by decide +kernel
theorem dX11_coin_54 : decode cX11_coin 54 = .ok (.ireturn, 1) := by decide +kernel
theorem dX11_job_0 : decode cX11_job 0 = .ok (.iload_n 1, 1) := by decide +kernel
theorem dX11_job_1 : decode cX11_job 1 = .ok (.iconst 0, 1) := by decide +kernel
theorem dX11_job_2 : decode cX11_job 2 = .ok (.ldc_w 411, 3) := by decide +kernel
theorem dX11_job_5 : decode cX11_job 5 = .ok (.invokestatic 58, 3) := by decide +kernel
theorem dX11_job_8 : decode cX11_job 8 = .ok (.ifCond .eq 39, 3) := by decide +kernel
theorem dX11_job_11 : decode cX11_job 11 = .ok (.iload_n 2, 1) := by decide +kernel
theorem dX11_job_12 : decode cX11_job 12 = .ok (.iconst 1, 1) := by decide +kernel
theorem dX11_job_13 : decode cX11_job 13 = .ok (.bipush 20, 2) := by decide +kernel
theorem dX11_job_15 : decode cX11_job 15 = .ok (.invokestatic 58, 3) := by decide +kernel
theorem dX11_job_18 : decode cX11_job 18 = .ok (.ifCond .eq 29, 3) := by decide +kernel
theorem dX11_job_21 : decode cX11_job 21 = .ok (.iload_n 3, 1) := by decide +kernel
theorem dX11_job_22 : decode cX11_job 22 = .ok (.iconst 0, 1) := by decide +kernel
theorem dX11_job_23 : decode cX11_job 23 = .ok (.ldc 96, 2) := by decide +kernel
theorem dX11_job_25 : decode cX11_job 25 = .ok (.invokestatic 58, 3) := by decide +kernel
theorem dX11_job_28 : decode cX11_job 28 = .ok (.ifCond .eq 19, 3) := by decide +kernel
theorem dX11_job_31 : decode cX11_job 31 = .ok (.iload 4, 2) := by decide +kernel
theorem dX11_job_33 : decode cX11_job 33 = .ok (.iconst 0, 1) := by decide +kernel
theorem dX11_job_34 : decode cX11_job 34 = .ok (.sipush 1000, 3) := by decide +kernel
theorem dX11_job_37 : decode cX11_job 37 = .ok (.invokestatic 58, 3) := by decide +kernel
theorem dX11_job_40 : decode cX11_job 40 = .ok (.ifCond .eq 7, 3) := by decide +kernel
theorem dX11_job_43 : decode cX11_job 43 = .ok (.iconst 1, 1) := by decide +kernel
theorem dX11_job_44 : decode cX11_job 44 = .ok (.goto 4, 3) := by decide +kernel
theorem dX11_job_47 : decode cX11_job 47 = .ok (.iconst 0, 1) := by decide +kernel
theorem dX11_job_48 : decode cX11_job 48 = .ok (.invokestatic 62, 3) := by decide +kernel
theorem dX11_job_51 : decode cX11_job 51 = .ok (.aload_n 0, 1) := by decide +kernel
theorem dX11_job_52 : decode cX11_job 52 = .ok (.getfield 43, 3) := by decide +kernel
theorem dX11_job_55 : decode cX11_job 55 = .ok (.getfield 478, 3) := by decide +kernel
theorem dX11_job_58 : decode cX11_job 58 = .ok (.bipush 7, 2) := by decide +kernel
theorem dX11_job_60 : decode cX11_job 60 = .ok (.if_icmp .ne 7, 3) := by decide +kernel
theorem dX11_job_63 : decode cX11_job 63 = .ok (.iconst (-1), 1) := by decide +kernel
theorem dX11_job_64 : decode cX11_job 64 = .ok (.goto 15, 3) := by decide +kernel
theorem dX11_job_67 : decode cX11_job 67 = .ok (.aload_n 0, 1) := by decide +kernel
theorem dX11_job_68 : decode cX11_job 68 = .ok (.getfield 43, 3) := by decide +kernel
theorem dX11_job_71 : decode cX11_job 71 = .ok (.iload_n 1, 1) := by decide +kernel
theorem dX11_job_72 : decode cX11_job 72 = .ok (.iload_n 2, 1) := by decide +kernel
theorem dX11_job_73 : decode cX11_job 73 = .ok (.iload_n 3, 1) := by decide +kernel
theorem dX11_job_74 : decode cX11_job 74 = .ok (.iload 4, 2) := by decide +kernel
theorem dX11_job_76 : decode cX11_job 76 = .ok (.invokevirtual 481, 3) := by decide +kernel
theorem dX11_job_79 : decode cX11_job 79 = .ok (.ireturn, 1) := by decide +kernel
theorem dX11_order_0 : decode cX11_order 0 = .ok (.iload_n 1, 1) := by decide +kernel
theorem dX11_order_1 : decode cX11_order 1 = .ok (.iconst 0, 1) := by decide +kernel
theorem dX11_order_2 : decode cX11_order 2 = .ok (.ldc_w 411, 3) := by decide +kernel
theorem dX11_order_5 : decode cX11_order 5 = .ok (.invokestatic 58, 3) := by decide +kernel
theorem dX11_order_8 : decode cX11_order 8 = .ok (.invokestatic 62, 3) := by decide +kernel
theorem dX11_order_11 : decode cX11_order 11 = .ok (.aload_n 0, 1) := by decide +kernel
theorem dX11_order_12 : decode cX11_order 12 = .ok (.getfield 43, 3) := by decide +kernel
theorem dX11_order_15 : decode cX11_order 15 = .ok (.iload_n 1, 1) := by decide +kernel
theorem dX11_order_16 : decode cX11_order 16 = .ok (.invokevirtual 484, 3) := by decide +kernel
theorem dX11_order_19 : decode cX11_order 19 = .ok (.iload_n 2, 1) := by decide +kernel
theorem dX11_order_20 : decode cX11_order 20 = .ok (.iconst (-1), 1) := by decide +kernel
theorem dX11_order_21 : decode cX11_order 21 = .ok (.if_icmp .ne 11, 3) := by decide +kernel
theorem dX11_order_24 : decode cX11_order 24 = .ok (.aload_n 0, 1) := by decide +kernel
theorem dX11_order_25 : decode cX11_order 25 = .ok (.getfield 43, 3) := by decide +kernel
theorem dX11_order_28 : decode cX11_order 28 = .ok (.getfield 487, 3) := by decide +kernel
theorem dX11_order_31 : decode cX11_order 31 = .ok (.ireturn, 1) := by decide +kernel
theorem dX11_order_32 : decode cX11_order 32 = .ok (.aload_n 0, 1) := by decide +kernel
theorem dX11_order_33 : decode cX11_order 33 = .ok (.getfield 43, 3) := by decide +kernel
theorem dX11_order_36 : decode cX11_order 36 = .ok (.getfield 487, 3) := by decide +kernel
theorem dX11_order_39 : decode cX11_order 39 = .ok (.iconst (-1), 1) := by decide +kernel
theorem dX11_order_40 : decode cX11_order 40 = .ok (.if_icmp .eq 32, 3) := by decide +kernel
theorem dX11_order_43 : decode cX11_order 43 = .ok (.iload_n 2, 1) := by decide +kernel
theorem dX11_order_44 : decode cX11_order 44 = .ok (.iconst 0, 1) := by decide +kernel
theorem dX11_order_45 : decode cX11_order 45 = .ok (.aload_n 0, 1) := by decide +kernel
theorem dX11_order_46 : decode cX11_order 46 = .ok (.getfield 43, 3) := by decide +kernel
theorem dX11_order_49 : decode cX11_order 49 = .ok (.getfield 478, 3) := by decide +kernel
theorem dX11_order_52 : decode cX11_order 52 = .ok (.iconst 1, 1) := by decide +kernel
theorem dX11_order_53 : decode cX11_order 53 = .ok (.isub, 1) := by decide +kernel
theorem dX11_order_54 : decode cX11_order 54 = .ok (.invokestatic 58, 3) := by decide +kernel
theorem dX11_order_57 : decode cX11_order 57 = .ok (.ifCond .eq 15, 3) := by decide +kernel
theorem dX11_order_60 : decode cX11_order 60 = .ok (.aload_n 0, 1) := by decide +kernel
theorem dX11_order_61 : decode cX11_order 61 = .ok (.getfield 43, 3) := by decide +kernel
theorem dX11_order_64 : decode cX11_order 64 = .ok (.getfield 490, 3) := by decide +kernel
theorem dX11_order_67 : decode cX11_order 67 = .ok (.iload_n 2, 1) := by decide +kernel
theorem dX11_order_68 : decode cX11_order 68 = .ok (.iaload, 1) := by decide +kernel
theorem dX11_order_69 : decode cX11_order 69 = .ok (.goto 4, 3) := by decide +kernel
theorem dX11_order_72 : decode cX11_order 72 = .ok (.iconst (-1), 1) := by decide +kernel
theorem dX11_order_73 : decode cX11_order 73 = .ok (.ireturn, 1) := by decide +kernel
theorem dX5_findOrder_0 : decode cX5_findOrder 0 = .ok (.aload_n 0, 1) := by decide +kernel
theorem dX5_findOrder_1 : decode cX5_findOrder 1 = .ok (.iconst (-1), 1) := by decide +kernel
theorem dX5_findOrder_2 : decode cX5_findOrder 2 = .ok (.putfield 157, 3) := by decide +kernel
theorem dX5_findOrder_5 : decode cX5_findOrder 5 = .ok (.aload_n 0, 1) := by decide +kernel
theorem dX5_findOrder_6 : decode cX5_findOrder 6 = .ok (.iconst 0, 1) := by decide +kernel
theorem dX5_findOrder_7 : decode cX5_findOrder 7 = .ok (.iconst 0, 1) := by decide +kernel
theorem dX5_findOrder_8 : decode cX5_findOrder 8 = .ok (.iload_n 1, 1) := by decide +kernel
theorem dX5_findOrder_9 : decode cX5_findOrder 9 = .ok (.i2l, 1) := by decide +kernel
theorem dX5_findOrder_10 : decode cX5_findOrder 10 = .ok (.iconst 0, 1) := by decide +kernel
theorem dX5_findOrder_11 : decode cX5_findOrder 11 = .ok (.iconst 0, 1) := by decide +kernel
theorem dX5_findOrder_12 : decode cX5_findOrder 12 = .ok (.invokevirtual 160, 3) := by decide +kernel
theorem dX5_findOrder_15 : decode cX5_findOrder 15 = .ok (.return_, 1) := by decide +kernel
theorem dX5_tryOrders_0 : decode cX5_tryOrders 0 = .ok (.aload_n 0, 1) := by decide +kernel
theorem dX5_tryOrders_1 : decode cX5_tryOrders 1 = .ok (.getfield 157, 3) := by decide +kernel
theorem dX5_tryOrders_4 : decode cX5_tryOrders 4 = .ok (.iconst (-1), 1) := by decide +kernel
theorem dX5_tryOrders_5 : decode cX5_tryOrders 5 = .ok (.if_icmp .eq 13, 3) := by decide +kernel
theorem dX5_tryOrders_8 : decode cX5_tryOrders 8 = .ok (.iload 6, 2) := by decide +kernel
theorem dX5_tryOrders_10 : decode cX5_tryOrders 10 = .ok (.aload_n 0, 1) := by decide +kernel
theorem dX5_tryOrders_11 : decode cX5_tryOrders 11 = .ok (.getfield 157, 3) := by decide +kernel
theorem dX5_tryOrders_14 : decode cX5_tryOrders 14 = .ok (.if_icmp .lt 4, 3) := by decide +kernel
theorem dX5_tryOrders_17 : decode cX5_tryOrders 17 = .ok (.return_, 1) := by decide +kernel
theorem dX5_tryOrders_18 : decode cX5_tryOrders 18 = .ok (.iload_n 1, 1) := by decide +kernel
theorem dX5_tryOrders_19 : decode cX5_tryOrders 19 = .ok (.aload_n 0, 1) := by decide +kernel
theorem dX5_tryOrders_20 : decode cX5_tryOrders 20 = .ok (.getfield 154, 3) := by decide +kernel
theorem dX5_tryOrders_23 : decode cX5_tryOrders 23 = .ok (.if_icmp .lt 27, 3) := by decide +kernel
theorem dX5_tryOrders_26 : decode cX5_tryOrders 26 = .ok (.aload_n 0, 1) := by decide +kernel
theorem dX5_tryOrders_27 : decode cX5_tryOrders 27 = .ok (.iload 6, 2) := by decide +kernel
theorem dX5_tryOrders_29 : decode cX5_tryOrders 29 = .ok (.putfield 157, 3) := by decide +kernel
theorem dX5_tryOrders_32 : decode cX5_tryOrders 32 = .ok (.aload_n 0, 1) := by decide +kernel
theorem dX5_tryOrders_33 : decode cX5_tryOrders 33 = .ok (.getfield 45, 3) := by decide +kernel
theorem dX5_tryOrders_36 : decode cX5_tryOrders 36 = .ok (.iconst 0, 1) := by decide +kernel
theorem dX5_tryOrders_37 : decode cX5_tryOrders 37 = .ok (.aload_n 0, 1) := by decide +kernel
theorem dX5_tryOrders_38 : decode cX5_tryOrders 38 = .ok (.getfield 48, 3) := by decide +kernel
theorem dX5_tryOrders_41 : decode cX5_tryOrders 41 = .ok (.iconst 0, 1) := by decide +kernel
theorem dX5_tryOrders_42 : decode cX5_tryOrders 42 = .ok (.aload_n 0, 1) := by decide +kernel
theorem dX5_tryOrders_43 : decode cX5_tryOrders 43 = .ok (.getfield 154, 3) := by decide +kernel
theorem dX5_tryOrders_46 : decode cX5_tryOrders 46 = .ok (.invokestatic 100, 3) := by decide +kernel
theorem dX5_tryOrders_49 : decode cX5_tryOrders 49 = .ok (.return_, 1) := by decide +kernel
theorem dX5_tryOrders_50 : decode cX5_tryOrders 50 = .ok (.iconst 0, 1) := by decide +kernel
theorem dX5_tryOrders_51 : decode cX5_tryOrders 51 = .ok (.istore 7, 2) := by decide +kernel
theorem dX5_tryOrders_53 : decode cX5_tryOrders 53 = .ok (.iload 7, 2) := by decide +kernel
theorem dX5_tryOrders_55 : decode cX5_tryOrders 55 = .ok (.aload_n 0, 1) := by decide +kernel
theorem dX5_tryOrders_56 : decode cX5_tryOrders 56 = .ok (.getfield 154, 3) := by decide +kernel
theorem dX5_tryOrders_59 : decode cX5_tryOrders 59 = .ok (.if_icmp .ge 141, 3) := by decide +kernel
theorem dX5_tryOrders_62 : decode cX5_tryOrders 62 = .ok (.aload_n 0, 1) := by decide +kernel
theorem dX5_tryOrders_63 : decode cX5_tryOrders 63 = .ok (.getfield 41, 3) := by decide +kernel
theorem dX5_tryOrders_66 : decode cX5_tryOrders 66 = .ok (.iload 7, 2) := by decide +kernel
theorem dX5_tryOrders_68 : decode cX5_tryOrders 68 = .ok (.baload, 1) := by decide +kernel
theorem dX5_tryOrders_69 : decode cX5_tryOrders 69 = .ok (.ifCond .eq 7, 3) := by decide +kernel
theorem dX5_tryOrders_72 : decode cX5_tryOrders 72 = .ok (.iconst (-1), 1) := by decide +kernel
theorem dX5_tryOrders_73 : decode cX5_tryOrders 73 = .ok (.goto 25, 3) := by decide +kernel
theorem dX5_tryOrders_76 : decode cX5_tryOrders 76 = .ok (.iload_n 2, 1) := by decide +kernel
theorem dX5_tryOrders_77 : decode cX5_tryOrders 77 = .ok (.lload_n 3, 1) := by decide +kernel
theorem dX5_tryOrders_78 : decode cX5_tryOrders 78 = .ok (.iload 5, 2) := by decide +kernel
theorem dX5_tryOrders_80 : decode cX5_tryOrders 80 = .ok (.aload_n 0, 1) := by decide +kernel
theorem dX5_tryOrders_81 : decode cX5_tryOrders 81 = .ok (.getfield 29, 3) := by decide +kernel
theorem dX5_tryOrders_84 : decode cX5_tryOrders 84 = .ok (.iload 7, 2) := by decide +kernel
theorem dX5_tryOrders_86 : decode cX5_tryOrders 86 = .ok (.iaload, 1) := by decide +kernel
theorem dX5_tryOrders_87 : decode cX5_tryOrders 87 = .ok (.invokestatic 164, 3) := by decide +kernel
theorem dX5_tryOrders_90 : decode cX5_tryOrders 90 = .ok (.aload_n 0, 1) := by decide +kernel
theorem dX5_tryOrders_91 : decode cX5_tryOrders 91 = .ok (.getfield 32, 3) := by decide +kernel
theorem dX5_tryOrders_94 : decode cX5_tryOrders 94 = .ok (.iload 7, 2) := by decide +kernel
theorem dX5_tryOrders_96 : decode cX5_tryOrders 96 = .ok (.iaload, 1) := by decide +kernel
theorem dX5_tryOrders_97 : decode cX5_tryOrders 97 = .ok (.iadd, 1) := by decide +kernel
theorem dX5_tryOrders_98 : decode cX5_tryOrders 98 = .ok (.istore 8, 2) := by decide +kernel
theorem dX5_tryOrders_100 : decode cX5_tryOrders 100 = .ok (.iload 8, 2) := by decide +kernel
theorem dX5_tryOrders_102 : decode cX5_tryOrders 102 = .ok (.iconst (-1), 1) := by decide +kernel
theorem dX5_tryOrders_103 : decode cX5_tryOrders 103 = .ok (.if_icmp .eq 91, 3) := by decide +kernel
theorem dX5_tryOrders_106 : decode cX5_tryOrders 106 = .ok (.iload 8, 2) := by decide +kernel
theorem dX5_tryOrders_108 : decode cX5_tryOrders 108 = .ok (.sipush 200, 3) := by decide +kernel
theorem dX5_tryOrders_111 : decode cX5_tryOrders 111 = .ok (.if_icmp .gt 83, 3) := by decide +kernel
theorem dX5_tryOrders_114 : decode cX5_tryOrders 114 = .ok (.lload_n 3, 1) := by decide +kernel
theorem dX5_tryOrders_115 : decode cX5_tryOrders 115 = .ok (.iload 5, 2) := by decide +kernel
theorem dX5_tryOrders_117 : decode cX5_tryOrders 117 = .ok (.i2l, 1) := by decide +kernel
theorem dX5_tryOrders_118 : decode cX5_tryOrders 118 = .ok (.iload 8, 2) := by decide +kernel
theorem dX5_tryOrders_120 : decode cX5_tryOrders 120 = .ok (.iload_n 2, 1) := by decide +kernel
theorem dX5_tryOrders_121 : decode cX5_tryOrders 121 = .ok (.isub, 1) := by decide +kernel
theorem dX5_tryOrders_122 : decode cX5_tryOrders 122 = .ok (.i2l, 1) := by decide +kernel
theorem dX5_tryOrders_123 : decode cX5_tryOrders 123 = .ok (.lmul, 1) := by decide +kernel
theorem dX5_tryOrders_124 : decode cX5_tryOrders 124 = .ok (.ladd, 1) := by decide +kernel
theorem dX5_tryOrders_125 : decode cX5_tryOrders 125 = .ok (.aload_n 0, 1) := by decide +kernel
theorem dX5_tryOrders_126 : decode cX5_tryOrders 126 = .ok (.getfield 29, 3) := by decide +kernel
theorem dX5_tryOrders_129 : decode cX5_tryOrders 129 = .ok (.iload 7, 2) := by decide +kernel
theorem dX5_tryOrders_131 : decode cX5_tryOrders 131 = .ok (.iaload, 1) := by decide +kernel
theorem dX5_tryOrders_132 : decode cX5_tryOrders 132 = .ok (.i2l, 1) := by decide +kernel
theorem dX5_tryOrders_133 : decode cX5_tryOrders 133 = .ok (.lsub, 1) := by decide +kernel
theorem dX5_tryOrders_134 : decode cX5_tryOrders 134 = .ok (.lstore 9, 2) := by decide +kernel
theorem dX5_tryOrders_136 : decode cX5_tryOrders 136 = .ok (.aload_n 0, 1) := by decide +kernel
theorem dX5_tryOrders_137 : decode cX5_tryOrders 137 = .ok (.getfield 41, 3) := by decide +kernel
theorem dX5_tryOrders_140 : decode cX5_tryOrders 140 = .ok (.iload 7, 2) := by decide +kernel
theorem dX5_tryOrders_142 : decode cX5_tryOrders 142 = .ok (.iconst 1, 1) := by decide +kernel
theorem dX5_tryOrders_143 : decode cX5_tryOrders 143 = .ok (.bastore, 1) := by decide +kernel
theorem dX5_tryOrders_144 : decode cX5_tryOrders 144 = .ok (.aload_n 0, 1) := by decide +kernel
theorem dX5_tryOrders_145 : decode cX5_tryOrders 145 = .ok (.getfield 45, 3) := by decide +kernel
theorem dX5_tryOrders_148 : decode cX5_tryOrders 148 = .ok (.iload_n 1, 1) := by decide +kernel
theorem dX5_tryOrders_149 : decode cX5_tryOrders 149 = .ok (.iload 7, 2) := by decide +kernel
theorem dX5_tryOrders_151 : decode cX5_tryOrders 151 = .ok (.iastore, 1) := by decide +kernel
theorem dX5_tryOrders_152 : decode cX5_tryOrders 152 = .ok (.aload_n 0, 1) := by decide +kernel
theorem dX5_tryOrders_153 : decode cX5_tryOrders 153 = .ok (.iload_n 1, 1) := by decide +kernel
theorem dX5_tryOrders_154 : decode cX5_tryOrders 154 = .ok (.iconst 1, 1) := by decide +kernel
theorem dX5_tryOrders_155 : decode cX5_tryOrders 155 = .ok (.iadd, 1) := by decide +kernel
theorem dX5_tryOrders_156 : decode cX5_tryOrders 156 = .ok (.iload 8, 2) := by decide +kernel
theorem dX5_tryOrders_158 : decode cX5_tryOrders 158 = .ok (.lload 9, 2) := by decide +kernel
theorem dX5_tryOrders_160 : decode cX5_tryOrders 160 = .ok (.iload 5, 2) := by decide +kernel
theorem dX5_tryOrders_162 : decode cX5_tryOrders 162 = .ok (.aload_n 0, 1) := by decide +kernel
theorem dX5_tryOrders_163 : decode cX5_tryOrders 163 = .ok (.getfield 35, 3) := by decide +kernel
theorem dX5_tryOrders_166 : decode cX5_tryOrders 166 = .ok (.iload 7, 2) := by decide +kernel
theorem dX5_tryOrders_168 : decode cX5_tryOrders 168 = .ok (.iaload, 1) := by decide +kernel
theorem dX5_tryOrders_169 : decode cX5_tryOrders 169 = .ok (.iadd, 1) := by decide +kernel
theorem dX5_tryOrders_170 : decode cX5_tryOrders 170 = .ok (.iload 6, 2) := by decide +kernel
theorem dX5_tryOrders_172 : decode cX5_tryOrders 172 = .ok (.aload_n 0, 1) := by decide +kernel
theorem dX5_tryOrders_173 : decode cX5_tryOrders 173 = .ok (.getfield 38, 3) := by decide +kernel
theorem dX5_tryOrders_176 : decode cX5_tryOrders 176 = .ok (.iload 7, 2) := by decide +kernel
theorem dX5_tryOrders_178 : decode cX5_tryOrders 178 = .ok (.iaload, 1) := by decide +kernel
theorem dX5_tryOrders_179 : decode cX5_tryOrders 179 = .ok (.iload 8, 2) := by decide +kernel
theorem dX5_tryOrders_181 : decode cX5_tryOrders 181 = .ok (.imul, 1) := by decide +kernel
theorem dX5_tryOrders_182 : decode cX5_tryOrders 182 = .ok (.iadd, 1) := by decide +kernel
theorem dX5_tryOrders_183 : decode cX5_tryOrders 183 = .ok (.invokevirtual 160, 3) := by decide +kernel
theorem dX5_tryOrders_186 : decode cX5_tryOrders 186 = .ok (.aload_n 0, 1) := by decide +kernel
theorem dX5_tryOrders_187 : decode cX5_tryOrders 187 = .ok (.getfield 41, 3) := by decide +kernel
theorem dX5_tryOrders_190 : decode cX5_tryOrders 190 = .ok (.iload 7, 2) := by decide +kernel
theorem dX5_tryOrders_192 : decode cX5_tryOrders 192 = .ok (.iconst 0, 1) := by decide +kernel
theorem dX5_tryOrders_193 : decode cX5_tryOrders 193 = .ok (.bastore, 1) := by decide +kernel
theorem dX5_tryOrders_194 : decode cX5_tryOrders 194 = .ok (.iinc 7 1, 3) := by decide +kernel
theorem dX5_tryOrders_197 : decode cX5_tryOrders 197 = .ok (.goto (-144), 3) := by decide +kernel
theorem dX5_tryOrders_200 : decode cX5_tryOrders 200 = .ok (.return_, 1) := by decide +kernel
theorem dX11_jobs_0 : decode cX11_jobs 0 = .ok (.aload_n 0, 1) := by decide +kernel
theorem dX11_jobs_1 : decode cX11_jobs 1 = .ok (.getfield 43, 3) := by decide +kernel
theorem dX11_jobs_4 : decode cX11_jobs 4 = .ok (.getfield 478, 3) := by decide +kernel
theorem dX11_jobs_7 : decode cX11_jobs 7 = .ok (.istore_n 1, 1) := by decide +kernel
theorem dX11_jobs_8 : decode cX11_jobs 8 = .ok (.aload_n 0, 1) := by decide +kernel
theorem dX11_jobs_9 : decode cX11_jobs 9 = .ok (.getfield 43, 3) := by decide +kernel
theorem dX11_jobs_12 : decode cX11_jobs 12 = .ok (.iconst 0, 1) := by decide +kernel
theorem dX11_jobs_13 : decode cX11_jobs 13 = .ok (.putfield 478, 3) := by decide +kernel
theorem dX11_jobs_16 : decode cX11_jobs 16 = .ok (.iload_n 1, 1) := by decide +kernel
theorem dX11_jobs_17 : decode cX11_jobs 17 = .ok (.ireturn, 1) := by decide +kernel
theorem dX11_check_0 : decode cX11_check 0 = .ok (.aload_n 0, 1) := by decide +kernel
theorem dX11_check_1 : decode cX11_check 1 = .ok (.getfield 23, 3) := by decide +kernel
theorem dX11_check_4 : decode cX11_check 4 = .ok (.invokevirtual 502, 3) := by decide +kernel
theorem dX11_check_7 : decode cX11_check 7 = .ok (.ireturn, 1) := by decide +kernel
theorem dX11_keep_0 : decode cX11_keep 0 = .ok (.aload_n 0, 1) := by decide +kernel
theorem dX11_keep_1 : decode cX11_keep 1 = .ok (.getfield 16, 3) := by decide +kernel
theorem dX11_keep_4 : decode cX11_keep 4 = .ok (.getfield 66, 3) := by decide +kernel
theorem dX11_keep_7 : decode cX11_keep 7 = .ok (.ifCond .ne 5, 3) := by decide +kernel
theorem dX11_keep_10 : decode cX11_keep 10 = .ok (.iconst 0, 1) := by decide +kernel
theorem dX11_keep_11 : decode cX11_keep 11 = .ok (.ireturn, 1) := by decide +kernel
theorem dX11_keep_12 : decode cX11_keep 12 = .ok (.aload_n 0, 1) := by decide +kernel
theorem dX11_keep_13 : decode cX11_keep 13 = .ok (.getfield 505, 3) := by decide +kernel
theorem dX11_keep_16 : decode cX11_keep 16 = .ok (.ifnonnull 14, 3) := by decide +kernel
theorem dX11_keep_19 : decode cX11_keep 19 = .ok (.aload_n 0, 1) := by decide +kernel
theorem dX11_keep_20 : decode cX11_keep 20 = .ok (.new 13, 3) := by decide +kernel
theorem dX11_keep_23 : decode cX11_keep 23 = .ok (.dup, 1) := by decide +kernel
theorem dX11_keep_24 : decode cX11_keep 24 = .ok (.invokespecial 15, 3) := by decide +kernel
theorem dX11_keep_27 : decode cX11_keep 27 = .ok (.putfield 505, 3) := by decide +kernel
theorem dX11_keep_30 : decode cX11_keep 30 = .ok (.aload_n 0, 1) := by decide +kernel
theorem dX11_keep_31 : decode cX11_keep 31 = .ok (.getfield 505, 3) := by decide +kernel
theorem dX11_keep_34 : decode cX11_keep 34 = .ok (.aload_n 0, 1) := by decide +kernel
theorem dX11_keep_35 : decode cX11_keep 35 = .ok (.getfield 16, 3) := by decide +kernel
theorem dX11_keep_38 : decode cX11_keep 38 = .ok (.invokevirtual 508, 3) := by decide +kernel
theorem dX11_keep_41 : decode cX11_keep 41 = .ok (.iconst 1, 1) := by decide +kernel
theorem dX11_keep_42 : decode cX11_keep 42 = .ok (.ireturn, 1) := by decide +kernel
theorem dX11_back_0 : decode cX11_back 0 = .ok (.aload_n 0, 1) := by decide +kernel
theorem dX11_back_1 : decode cX11_back 1 = .ok (.getfield 505, 3) := by decide +kernel
theorem dX11_back_4 : decode cX11_back 4 = .ok (.ifnull 20, 3) := by decide +kernel
theorem dX11_back_7 : decode cX11_back 7 = .ok (.aload_n 0, 1) := by decide +kernel
theorem dX11_back_8 : decode cX11_back 8 = .ok (.getfield 505, 3) := by decide +kernel
theorem dX11_back_11 : decode cX11_back 11 = .ok (.getfield 66, 3) := by decide +kernel
theorem dX11_back_14 : decode cX11_back 14 = .ok (.aload_n 0, 1) := by decide +kernel
theorem dX11_back_15 : decode cX11_back 15 = .ok (.getfield 16, 3) := by decide +kernel
theorem dX11_back_18 : decode cX11_back 18 = .ok (.getfield 66, 3) := by decide +kernel
theorem dX11_back_21 : decode cX11_back 21 = .ok (.if_icmp .le 5, 3) := by decide +kernel
theorem dX11_back_24 : decode cX11_back 24 = .ok (.iconst 0, 1) := by decide +kernel
theorem dX11_back_25 : decode cX11_back 25 = .ok (.ireturn, 1) := by decide +kernel
theorem dX11_back_26 : decode cX11_back 26 = .ok (.aload_n 0, 1) := by decide +kernel
theorem dX11_back_27 : decode cX11_back 27 = .ok (.getfield 16, 3) := by decide +kernel
theorem dX11_back_30 : decode cX11_back 30 = .ok (.aload_n 0, 1) := by decide +kernel
theorem dX11_back_31 : decode cX11_back 31 = .ok (.getfield 505, 3) := by decide +kernel
theorem dX11_back_34 : decode cX11_back 34 = .ok (.invokevirtual 508, 3) := by decide +kernel
theorem dX11_back_37 : decode cX11_back 37 = .ok (.aload_n 0, 1) := by decide +kernel
theorem dX11_back_38 : decode cX11_back 38 = .ok (.getfield 23, 3) := by decide +kernel
theorem dX11_back_41 : decode cX11_back 41 = .ok (.invokevirtual 76, 3) := by decide +kernel
theorem dX11_back_44 : decode cX11_back 44 = .ok (.iconst 1, 1) := by decide +kernel
theorem dX11_back_45 : decode cX11_back 45 = .ok (.ireturn, 1) := by decide +kernel
theorem dX11_count_0 : decode cX11_count 0 = .ok (.iload_n 1, 1) := by decide +kernel
theorem dX11_count_1 : decode cX11_count 1 = .ok (.tableswitch 193 0 17 #[87, 95, 103, 111, 119, 130, 193, 193, 193, 193, 193, 193, 193, 141, 152, 163, 174, 185], 87) := by decide +kernel
theorem dX11_count_88 : decode cX11_count 88 = .ok (.aload_n 0, 1) := by decide +kernel
theorem dX11_count_89 : decode cX11_count 89 = .ok (.getfield 16, 3) := by decide +kernel
theorem dX11_count_92 : decode cX11_count 92 = .ok (.getfield 66, 3) := by decide +kernel
theorem dX11_count_95 : decode cX11_count 95 = .ok (.ireturn, 1) := by decide +kernel
theorem dX11_count_96 : decode cX11_count 96 = .ok (.aload_n 0, 1) := by decide +kernel
theorem dX11_count_97 : decode cX11_count 97 = .ok (.getfield 16, 3) := by decide +kernel
theorem dX11_count_100 : decode cX11_count 100 = .ok (.invokevirtual 334, 3) := by decide +kernel
theorem dX11_count_103 : decode cX11_count 103 = .ok (.ireturn, 1) := by decide +kernel
theorem dX11_count_104 : decode cX11_count 104 = .ok (.aload_n 0, 1) := by decide +kernel
theorem dX11_count_105 : decode cX11_count 105 = .ok (.getfield 16, 3) := by decide +kernel
theorem dX11_count_108 : decode cX11_count 108 = .ok (.getfield 456, 3) := by decide +kernel
theorem dX11_count_111 : decode cX11_count 111 = .ok (.ireturn, 1) := by decide +kernel
theorem dX11_count_112 : decode cX11_count 112 = .ok (.aload_n 0, 1) := by decide +kernel
theorem dX11_count_113 : decode cX11_count 113 = .ok (.getfield 16, 3) := by decide +kernel
theorem dX11_count_116 : decode cX11_count 116 = .ok (.invokevirtual 511, 3) := by decide +kernel
theorem dX11_count_119 : decode cX11_count 119 = .ok (.ireturn, 1) := by decide +kernel
theorem dX11_count_120 : decode cX11_count 120 = .ok (.aload_n 0, 1) := by decide +kernel
theorem dX11_count_121 : decode cX11_count 121 = .ok (.getfield 16, 3) := by decide +kernel
theorem dX11_count_124 : decode cX11_count 124 = .ok (.getfield 82, 3) := by decide +kernel
theorem dX11_count_127 : decode cX11_count 127 = .ok (.invokevirtual 514, 3) := by decide +kernel
theorem dX11_count_130 : decode cX11_count 130 = .ok (.ireturn, 1) := by decide +kernel
theorem dX11_count_131 : decode cX11_count 131 = .ok (.aload_n 0, 1) := by decide +kernel
theorem dX11_count_132 : decode cX11_count 132 = .ok (.getfield 16, 3) := by decide +kernel
theorem dX11_count_135 : decode cX11_count 135 = .ok (.getfield 82, 3) := by decide +kernel
theorem dX11_count_138 : decode cX11_count 138 = .ok (.invokevirtual 517, 3) := by decide +kernel
theorem dX11_count_141 : decode cX11_count 141 = .ok (.ireturn, 1) := by decide +kernel
theorem dX11_count_142 : decode cX11_count 142 = .ok (.aload_n 0, 1) := by decide +kernel
theorem dX11_count_143 : decode cX11_count 143 = .ok (.getfield 16, 3) := by decide +kernel
theorem dX11_count_146 : decode cX11_count 146 = .ok (.getfield 82, 3) := by decide +kernel
theorem dX11_count_149 : decode cX11_count 149 = .ok (.getfield 520, 3) := by decide +kernel
theorem dX11_count_152 : decode cX11_count 152 = .ok (.ireturn, 1) := by decide +kernel
theorem dX11_count_153 : decode cX11_count 153 = .ok (.aload_n 0, 1) := by decide +kernel
theorem dX11_count_154 : decode cX11_count 154 = .ok (.getfield 16, 3) := by decide +kernel
theorem dX11_count_157 : decode cX11_count 157 = .ok (.getfield 82, 3) := by decide +kernel
theorem dX11_count_160 : decode cX11_count 160 = .ok (.getfield 523, 3) := by decide +kernel
theorem dX11_count_163 : decode cX11_count 163 = .ok (.ireturn, 1) := by decide +kernel
theorem dX11_count_164 : decode cX11_count 164 = .ok (.aload_n 0, 1) := by decide +kernel
theorem dX11_count_165 : decode cX11_count 165 = .ok (.getfield 16, 3) := by decide +kernel
theorem dX11_count_168 : decode cX11_count 168 = .ok (.getfield 82, 3) := by decide +kernel
theorem dX11_count_171 : decode cX11_count 171 = .ok (.getfield 526, 3) := by decide +kernel
theorem dX11_count_174 : decode cX11_count 174 = .ok (.ireturn, 1) := by decide +kernel
theorem dX11_count_175 : decode cX11_count 175 = .ok (.aload_n 0, 1) := by decide +kernel
theorem dX11_count_176 : decode cX11_count 176 = .ok (.getfield 16, 3) := by decide +kernel
theorem dX11_count_179 : decode cX11_count 179 = .ok (.getfield 82, 3) := by decide +kernel
theorem dX11_count_182 : decode cX11_count 182 = .ok (.getfield 529, 3) := by decide +kernel
theorem dX11_count_185 : decode cX11_count 185 = .ok (.ireturn, 1) := by decide +kernel
theorem dX11_count_186 : decode cX11_count 186 = .ok (.aload_n 0, 1) := by decide +kernel
theorem dX11_count_187 : decode cX11_count 187 = .ok (.getfield 23, 3) := by decide +kernel
theorem dX11_count_190 : decode cX11_count 190 = .ok (.getfield 532, 3) := by decide +kernel
theorem dX11_count_193 : decode cX11_count 193 = .ok (.ireturn, 1) := by decide +kernel
theorem dX11_count_194 : decode cX11_count 194 = .ok (.aload_n 0, 1) := by decide +kernel
theorem dX11_count_195 : decode cX11_count 195 = .ok (.iload_n 1, 1) := by decide +kernel
theorem dX11_count_196 : decode cX11_count 196 = .ok (.invokevirtual 535, 3) := by decide +kernel
theorem dX11_count_199 : decode cX11_count 199 = .ok (.ireturn, 1) := by decide +kernel
theorem dX11_countPeople_0 : decode cX11_countPeople 0 = .ok (.iload_n 1, 1) := by decide +kernel
theorem dX11_countPeople_1 : decode cX11_countPeople 1 = .ok (.tableswitch 99 6 12 #[43, 54, 62, 70, 78, 86, 94], 43) := by decide +kernel
theorem dX11_countPeople_44 : decode cX11_countPeople 44 = .ok (.aload_n 0, 1) := by decide +kernel
theorem dX11_countPeople_45 : decode cX11_countPeople 45 = .ok (.getfield 30, 3) := by decide +kernel
theorem dX11_countPeople_48 : decode cX11_countPeople 48 = .ok (.getfield 323, 3) := by decide +kernel
theorem dX11_countPeople_51 : decode cX11_countPeople 51 = .ok (.getfield 538, 3) := by decide +kernel
theorem dX11_countPeople_54 : decode cX11_countPeople 54 = .ok (.ireturn, 1) := by decide +kernel
theorem dX11_countPeople_55 : decode cX11_countPeople 55 = .ok (.aload_n 0, 1) := by decide +kernel
theorem dX11_countPeople_56 : decode cX11_countPeople 56 = .ok (.getfield 30, 3) := by decide +kernel
theorem dX11_countPeople_59 : decode cX11_countPeople 59 = .ok (.getfield 342, 3) := by decide +kernel
theorem dX11_countPeople_62 : decode cX11_countPeople 62 = .ok (.ireturn, 1) := by decide +kernel
theorem dX11_countPeople_63 : decode cX11_countPeople 63 = .ok (.aload_n 0, 1) := by decide +kernel
theorem dX11_countPeople_64 : decode cX11_countPeople 64 = .ok (.getfield 30, 3) := by decide +kernel
theorem dX11_countPeople_67 : decode cX11_countPeople 67 = .ok (.getfield 275, 3) := by decide +kernel
theorem dX11_countPeople_70 : decode cX11_countPeople 70 = .ok (.ireturn, 1) := by decide +kernel
theorem dX11_countPeople_71 : decode cX11_countPeople 71 = .ok (.aload_n 0, 1) := by decide +kernel
theorem dX11_countPeople_72 : decode cX11_countPeople 72 = .ok (.getfield 30, 3) := by decide +kernel
theorem dX11_countPeople_75 : decode cX11_countPeople 75 = .ok (.getfield 541, 3) := by decide +kernel
theorem dX11_countPeople_78 : decode cX11_countPeople 78 = .ok (.ireturn, 1) := by decide +kernel
theorem dX11_countPeople_79 : decode cX11_countPeople 79 = .ok (.aload_n 0, 1) := by decide +kernel
theorem dX11_countPeople_80 : decode cX11_countPeople 80 = .ok (.getfield 30, 3) := by decide +kernel
theorem dX11_countPeople_83 : decode cX11_countPeople 83 = .ok (.getfield 412, 3) := by decide +kernel
theorem dX11_countPeople_86 : decode cX11_countPeople 86 = .ok (.ireturn, 1) := by decide +kernel
theorem dX11_countPeople_87 : decode cX11_countPeople 87 = .ok (.aload_n 0, 1) := by decide +kernel
theorem dX11_countPeople_88 : decode cX11_countPeople 88 = .ok (.getfield 30, 3) := by decide +kernel
theorem dX11_countPeople_91 : decode cX11_countPeople 91 = .ok (.invokevirtual 544, 3) := by decide +kernel
theorem dX11_countPeople_94 : decode cX11_countPeople 94 = .ok (.ireturn, 1) := by decide +kernel
theorem dX11_countPeople_95 : decode cX11_countPeople 95 = .ok (.aload_n 0, 1) := by decide +kernel
theorem dX11_countPeople_96 : decode cX11_countPeople 96 = .ok (.getfield 414, 3) := by decide +kernel
theorem dX11_countPeople_99 : decode cX11_countPeople 99 = .ok (.ireturn, 1) := by decide +kernel
theorem dX11_countPeople_100 : decode cX11_countPeople 100 = .ok (.iconst (-1), 1) := by decide +kernel
theorem dX11_countPeople_101 : decode cX11_countPeople 101 = .ok (.ireturn, 1) := by decide +kernel
theorem dX11_end_0 : decode cX11_end 0 = .ok (.iload_n 1, 1) := by decide +kernel
theorem dX11_end_1 : decode cX11_end 1 = .ok (.ifCond .lt 11, 3) := by decide +kernel
theorem dX11_end_4 : decode cX11_end 4 = .ok (.iload_n 1, 1) := by decide +kernel
theorem dX11_end_5 : decode cX11_end 5 = .ok (.aload_n 0, 1) := by decide +kernel
theorem dX11_end_6 : decode cX11_end 6 = .ok (.getfield 47, 3) := by decide +kernel
theorem dX11_end_9 : decode cX11_end 9 = .ok (.if_icmp .le 5, 3) := by decide +kernel
theorem dX11_end_12 : decode cX11_end 12 = .ok (.iconst 0, 1) := by decide +kernel
theorem dX11_end_13 : decode cX11_end 13 = .ok (.ireturn, 1) := by decide +kernel
theorem dX11_end_14 : decode cX11_end 14 = .ok (.aload_n 0, 1) := by decide +kernel
theorem dX11_end_15 : decode cX11_end 15 = .ok (.iload_n 1, 1) := by decide +kernel
theorem dX11_end_16 : decode cX11_end 16 = .ok (.putfield 47, 3) := by decide +kernel
theorem dX11_end_19 : decode cX11_end 19 = .ok (.iconst 1, 1) := by decide +kernel
theorem dX11_end_20 : decode cX11_end 20 = .ok (.ireturn, 1) := by decide +kernel
theorem dX11_fault_0 : decode cX11_fault 0 = .ok (.aload_n 0, 1) := by decide +kernel
theorem dX11_fault_1 : decode cX11_fault 1 = .ok (.getfield 30, 3) := by decide +kernel
theorem dX11_fault_4 : decode cX11_fault 4 = .ok (.getfield 272, 3) := by decide +kernel
theorem dX11_fault_7 : decode cX11_fault 7 = .ok (.ireturn, 1) := by decide +kernel
theorem dX2_allWater_0 : decode cX2_allWater 0 = .ok (.iconst 0, 1) := by decide +kernel
theorem dX2_allWater_1 : decode cX2_allWater 1 = .ok (.istore_n 1, 1) := by decide +kernel
theorem dX2_allWater_2 : decode cX2_allWater 2 = .ok (.iconst 0, 1) := by decide +kernel
theorem dX2_allWater_3 : decode cX2_allWater 3 = .ok (.istore_n 2, 1) := by decide +kernel
theorem dX2_allWater_4 : decode cX2_allWater 4 = .ok (.iload_n 2, 1) := by decide +kernel
theorem dX2_allWater_5 : decode cX2_allWater 5 = .ok (.bipush 96, 2) := by decide +kernel
theorem dX2_allWater_7 : decode cX2_allWater 7 = .ok (.if_icmp .ge 18, 3) := by decide +kernel
theorem dX2_allWater_10 : decode cX2_allWater 10 = .ok (.iload_n 1, 1) := by decide +kernel
theorem dX2_allWater_11 : decode cX2_allWater 11 = .ok (.aload_n 0, 1) := by decide +kernel
theorem dX2_allWater_12 : decode cX2_allWater 12 = .ok (.getfield 25, 3) := by decide +kernel
theorem dX2_allWater_15 : decode cX2_allWater 15 = .ok (.iload_n 2, 1) := by decide +kernel
theorem dX2_allWater_16 : decode cX2_allWater 16 = .ok (.iaload, 1) := by decide +kernel
theorem dX2_allWater_17 : decode cX2_allWater 17 = .ok (.iadd, 1) := by decide +kernel
theorem dX2_allWater_18 : decode cX2_allWater 18 = .ok (.istore_n 1, 1) := by decide +kernel
theorem dX2_allWater_19 : decode cX2_allWater 19 = .ok (.iinc 2 1, 3) := by decide +kernel
theorem dX2_allWater_22 : decode cX2_allWater 22 = .ok (.goto (-18), 3) := by decide +kernel
theorem dX2_allWater_25 : decode cX2_allWater 25 = .ok (.iload_n 1, 1) := by decide +kernel
theorem dX2_allWater_26 : decode cX2_allWater 26 = .ok (.ireturn, 1) := by decide +kernel
theorem dX2_allSalt_0 : decode cX2_allSalt 0 = .ok (.iconst 0, 1) := by decide +kernel
theorem dX2_allSalt_1 : decode cX2_allSalt 1 = .ok (.istore_n 1, 1) := by decide +kernel
theorem dX2_allSalt_2 : decode cX2_allSalt 2 = .ok (.iconst 0, 1) := by decide +kernel
theorem dX2_allSalt_3 : decode cX2_allSalt 3 = .ok (.istore_n 2, 1) := by decide +kernel
theorem dX2_allSalt_4 : decode cX2_allSalt 4 = .ok (.iload_n 2, 1) := by decide +kernel
theorem dX2_allSalt_5 : decode cX2_allSalt 5 = .ok (.bipush 96, 2) := by decide +kernel
theorem dX2_allSalt_7 : decode cX2_allSalt 7 = .ok (.if_icmp .ge 18, 3) := by decide +kernel
theorem dX2_allSalt_10 : decode cX2_allSalt 10 = .ok (.iload_n 1, 1) := by decide +kernel
theorem dX2_allSalt_11 : decode cX2_allSalt 11 = .ok (.aload_n 0, 1) := by decide +kernel
theorem dX2_allSalt_12 : decode cX2_allSalt 12 = .ok (.getfield 28, 3) := by decide +kernel
theorem dX2_allSalt_15 : decode cX2_allSalt 15 = .ok (.iload_n 2, 1) := by decide +kernel
theorem dX2_allSalt_16 : decode cX2_allSalt 16 = .ok (.iaload, 1) := by decide +kernel
theorem dX2_allSalt_17 : decode cX2_allSalt 17 = .ok (.iadd, 1) := by decide +kernel
theorem dX2_allSalt_18 : decode cX2_allSalt 18 = .ok (.istore_n 1, 1) := by decide +kernel
theorem dX2_allSalt_19 : decode cX2_allSalt 19 = .ok (.iinc 2 1, 3) := by decide +kernel
theorem dX2_allSalt_22 : decode cX2_allSalt 22 = .ok (.goto (-18), 3) := by decide +kernel
theorem dX2_allSalt_25 : decode cX2_allSalt 25 = .ok (.iload_n 1, 1) := by decide +kernel
theorem dX2_allSalt_26 : decode cX2_allSalt 26 = .ok (.ireturn, 1) := by decide +kernel
theorem dJ7_fill_53178_0 : decode cJ7_fill_53178 0 = .ok (.iconst 0, 1) := by decide +kernel
theorem dJ7_fill_53178_1 : decode cJ7_fill_53178 1 = .ok (.istore_n 2, 1) := by decide +kernel
theorem dJ7_fill_53178_2 : decode cJ7_fill_53178 2 = .ok (.aload_n 0, 1) := by decide +kernel
theorem dJ7_fill_53178_3 : decode cJ7_fill_53178 3 = .ok (.arraylength, 1) := by decide +kernel
theorem dJ7_fill_53178_4 : decode cJ7_fill_53178 4 = .ok (.istore_n 3, 1) := by decide +kernel
theorem dJ7_fill_53178_5 : decode cJ7_fill_53178 5 = .ok (.iload_n 2, 1) := by decide +kernel
theorem dJ7_fill_53178_6 : decode cJ7_fill_53178 6 = .ok (.iload_n 3, 1) := by decide +kernel
theorem dJ7_fill_53178_7 : decode cJ7_fill_53178 7 = .ok (.if_icmp .ge 13, 3) := by decide +kernel
theorem dJ7_fill_53178_10 : decode cJ7_fill_53178 10 = .ok (.aload_n 0, 1) := by decide +kernel
theorem dJ7_fill_53178_11 : decode cJ7_fill_53178 11 = .ok (.iload_n 2, 1) := by decide +kernel
theorem dJ7_fill_53178_12 : decode cJ7_fill_53178 12 = .ok (.iload_n 1, 1) := by decide +kernel
theorem dJ7_fill_53178_13 : decode cJ7_fill_53178 13 = .ok (.iastore, 1) := by decide +kernel
theorem dJ7_fill_53178_14 : decode cJ7_fill_53178 14 = .ok (.iinc 2 1, 3) := by decide +kernel
theorem dJ7_fill_53178_17 : decode cJ7_fill_53178 17 = .ok (.goto (-12), 3) := by decide +kernel
theorem dJ7_fill_53178_20 : decode cJ7_fill_53178 20 = .ok (.return_, 1) := by decide +kernel
theorem dX11_harvest_0 : decode cX11_harvest 0 = .ok (.aload_n 0, 1) := by decide +kernel
theorem dX11_harvest_1 : decode cX11_harvest 1 = .ok (.getfield 30, 3) := by decide +kernel
theorem dX11_harvest_4 : decode cX11_harvest 4 = .ok (.aload_n 0, 1) := by decide +kernel
theorem dX11_harvest_5 : decode cX11_harvest 5 = .ok (.getfield 16, 3) := by decide +kernel
theorem dX11_harvest_8 : decode cX11_harvest 8 = .ok (.invokevirtual 386, 3) := by decide +kernel
theorem dX11_harvest_11 : decode cX11_harvest 11 = .ok (.ireturn, 1) := by decide +kernel
theorem dX0_reap_0 : decode cX0_reap 0 = .ok (.aload_n 1, 1) := by decide +kernel
theorem dX0_reap_1 : decode cX0_reap 1 = .ok (.invokevirtual 195, 3) := by decide +kernel
theorem dX0_reap_4 : decode cX0_reap 4 = .ok (.sipush 360, 3) := by decide +kernel
theorem dX0_reap_7 : decode cX0_reap 7 = .ok (.idiv, 1) := by decide +kernel
theorem dX0_reap_8 : decode cX0_reap 8 = .ok (.iconst 4, 1) := by decide +kernel
theorem dX0_reap_9 : decode cX0_reap 9 = .ok (.invokestatic 166, 3) := by decide +kernel
theorem dX0_reap_12 : decode cX0_reap 12 = .ok (.istore_n 2, 1) := by decide +kernel
theorem dX0_reap_13 : decode cX0_reap 13 = .ok (.aload_n 0, 1) := by decide +kernel
theorem dX0_reap_14 : decode cX0_reap 14 = .ok (.getfield 28, 3) := by decide +kernel
theorem dX0_reap_17 : decode cX0_reap 17 = .ok (.iload_n 2, 1) := by decide +kernel
theorem dX0_reap_18 : decode cX0_reap 18 = .ok (.baload, 1) := by decide +kernel
theorem dX0_reap_19 : decode cX0_reap 19 = .ok (.ifCond .eq 5, 3) := by decide +kernel
theorem dX0_reap_22 : decode cX0_reap 22 = .ok (.iconst (-1), 1) := by decide +kernel
theorem dX0_reap_23 : decode cX0_reap 23 = .ok (.ireturn, 1) := by decide +kernel
theorem dX0_reap_24 : decode cX0_reap 24 = .ok (.aload_n 0, 1) := by decide +kernel
theorem dX0_reap_25 : decode cX0_reap 25 = .ok (.getfield 28, 3) := by decide +kernel
theorem dX0_reap_28 : decode cX0_reap 28 = .ok (.iload_n 2, 1) := by decide +kernel
theorem dX0_reap_29 : decode cX0_reap 29 = .ok (.iconst 1, 1) := by decide +kernel
theorem dX0_reap_30 : decode cX0_reap 30 = .ok (.bastore, 1) := by decide +kernel
theorem dX0_reap_31 : decode cX0_reap 31 = .ok (.iconst 0, 1) := by decide +kernel
theorem dX0_reap_32 : decode cX0_reap 32 = .ok (.istore_n 3, 1) := by decide +kernel
theorem dX0_reap_33 : decode cX0_reap 33 = .ok (.iconst 0, 1) := by decide +kernel
theorem dX0_reap_34 : decode cX0_reap 34 = .ok (.istore 4, 2) := by decide +kernel
theorem dX0_reap_36 : decode cX0_reap 36 = .ok (.iload 4, 2) := by decide +kernel
theorem dX0_reap_38 : decode cX0_reap 38 = .ok (.aload_n 0, 1) := by decide +kernel
theorem dX0_reap_39 : decode cX0_reap 39 = .ok (.getfield 75, 3) := by decide +kernel
theorem dX0_reap_42 : decode cX0_reap 42 = .ok (.if_icmp .ge 64, 3) := by decide +kernel
theorem dX0_reap_45 : decode cX0_reap 45 = .ok (.aload_n 0, 1) := by decide +kernel
theorem dX0_reap_46 : decode cX0_reap 46 = .ok (.getfield 11, 3) := by decide +kernel
theorem dX0_reap_49 : decode cX0_reap 49 = .ok (.iload 4, 2) := by decide +kernel
theorem dX0_reap_51 : decode cX0_reap 51 = .ok (.aaload, 1) := by decide +kernel
theorem dX0_reap_52 : decode cX0_reap 52 = .ok (.getfield 81, 3) := by decide +kernel
theorem dX0_reap_55 : decode cX0_reap 55 = .ok (.iconst (-1), 1) := by decide +kernel
theorem dX0_reap_56 : decode cX0_reap 56 = .ok (.if_icmp .eq 33, 3) := by decide +kernel
theorem dX0_reap_59 : decode cX0_reap 59 = .ok (.iload_n 3, 1) := by decide +kernel
theorem dX0_reap_60 : decode cX0_reap 60 = .ok (.aload_n 0, 1) := by decide +kernel
theorem dX0_reap_61 : decode cX0_reap 61 = .ok (.aload_n 0, 1) := by decide +kernel
theorem dX0_reap_62 : decode cX0_reap 62 = .ok (.getfield 11, 3) := by decide +kernel
theorem dX0_reap_65 : decode cX0_reap 65 = .ok (.iload 4, 2) := by decide +kernel
theorem dX0_reap_67 : decode cX0_reap 67 = .ok (.aaload, 1) := by decide +kernel
theorem dX0_reap_68 : decode cX0_reap 68 = .ok (.aload_n 1, 1) := by decide +kernel
theorem dX0_reap_69 : decode cX0_reap 69 = .ok (.getfield 177, 3) := by decide +kernel
theorem dX0_reap_72 : decode cX0_reap 72 = .ok (.invokevirtual 198, 3) := by decide +kernel
theorem dX0_reap_75 : decode cX0_reap 75 = .ok (.iadd, 1) := by decide +kernel
theorem dX0_reap_76 : decode cX0_reap 76 = .ok (.istore_n 3, 1) := by decide +kernel
theorem dX0_reap_77 : decode cX0_reap 77 = .ok (.aload_n 0, 1) := by decide +kernel
theorem dX0_reap_78 : decode cX0_reap 78 = .ok (.aload_n 0, 1) := by decide +kernel
theorem dX0_reap_79 : decode cX0_reap 79 = .ok (.getfield 11, 3) := by decide +kernel
theorem dX0_reap_82 : decode cX0_reap 82 = .ok (.iload 4, 2) := by decide +kernel
theorem dX0_reap_84 : decode cX0_reap 84 = .ok (.aaload, 1) := by decide +kernel
theorem dX0_reap_85 : decode cX0_reap 85 = .ok (.aload_n 1, 1) := by decide +kernel
theorem dX0_reap_86 : decode cX0_reap 86 = .ok (.invokevirtual 202, 3) := by decide +kernel
theorem dX0_reap_89 : decode cX0_reap 89 = .ok (.aload_n 0, 1) := by decide +kernel
theorem dX0_reap_90 : decode cX0_reap 90 = .ok (.getfield 11, 3) := by decide +kernel
theorem dX0_reap_93 : decode cX0_reap 93 = .ok (.iload 4, 2) := by decide +kernel
theorem dX0_reap_95 : decode cX0_reap 95 = .ok (.aaload, 1) := by decide +kernel
theorem dX0_reap_96 : decode cX0_reap 96 = .ok (.iconst 0, 1) := by decide +kernel
theorem dX0_reap_97 : decode cX0_reap 97 = .ok (.putfield 205, 3) := by decide +kernel
theorem dX0_reap_100 : decode cX0_reap 100 = .ok (.iinc 4 1, 3) := by decide +kernel
theorem dX0_reap_103 : decode cX0_reap 103 = .ok (.goto (-67), 3) := by decide +kernel
theorem dX0_reap_106 : decode cX0_reap 106 = .ok (.aload_n 1, 1) := by decide +kernel
theorem dX0_reap_107 : decode cX0_reap 107 = .ok (.getfield 177, 3) := by decide +kernel
theorem dX0_reap_110 : decode cX0_reap 110 = .ok (.getfield 208, 3) := by decide +kernel
theorem dX0_reap_113 : decode cX0_reap 113 = .ok (.iconst 0, 1) := by decide +kernel
theorem dX0_reap_114 : decode cX0_reap 114 = .ok (.invokestatic 55, 3) := by decide +kernel
theorem dX0_reap_117 : decode cX0_reap 117 = .ok (.iload_n 3, 1) := by decide +kernel
theorem dX0_reap_118 : decode cX0_reap 118 = .ok (.ireturn, 1) := by decide +kernel
