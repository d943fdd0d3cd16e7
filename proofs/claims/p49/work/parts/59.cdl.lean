theorem dL_land_0 : decode cL_land 0 = .ok (.aload 6, 2) := by decide +kernel
theorem dL_land_2 : decode cL_land 2 = .ok (.iconst 0, 1) := by decide +kernel
theorem dL_land_3 : decode cL_land 3 = .ok (.aload_n 0, 1) := by decide +kernel
theorem dL_land_4 : decode cL_land 4 = .ok (.iload_n 1, 1) := by decide +kernel
theorem dL_land_5 : decode cL_land 5 = .ok (.iload_n 2, 1) := by decide +kernel
theorem dL_land_6 : decode cL_land 6 = .ok (.iload_n 3, 1) := by decide +kernel
theorem dL_land_7 : decode cL_land 7 = .ok (.iload 4, 2) := by decide +kernel
theorem dL_land_9 : decode cL_land 9 = .ok (.iload 5, 2) := by decide +kernel
theorem dL_land_11 : decode cL_land 11 = .ok (.invokevirtual 7, 3) := by decide +kernel
theorem dL_land_14 : decode cL_land 14 = .ok (.i2l, 1) := by decide +kernel
theorem dL_land_15 : decode cL_land 15 = .ok (.lastore, 1) := by decide +kernel
theorem dL_land_16 : decode cL_land 16 = .ok (.goto 15, 3) := by decide +kernel
theorem dL_land_19 : decode cL_land 19 = .ok (.astore 7, 2) := by decide +kernel
theorem dL_land_21 : decode cL_land 21 = .ok (.iconst 1, 1) := by decide +kernel
theorem dL_land_22 : decode cL_land 22 = .ok (.ireturn, 1) := by decide +kernel
theorem dL_land_23 : decode cL_land 23 = .ok (.astore 7, 2) := by decide +kernel
theorem dL_land_25 : decode cL_land 25 = .ok (.iconst 2, 1) := by decide +kernel
theorem dL_land_26 : decode cL_land 26 = .ok (.ireturn, 1) := by decide +kernel
theorem dL_land_27 : decode cL_land 27 = .ok (.astore 7, 2) := by decide +kernel
theorem dL_land_29 : decode cL_land 29 = .ok (.iconst 3, 1) := by decide +kernel
theorem dL_land_30 : decode cL_land 30 = .ok (.ireturn, 1) := by decide +kernel
theorem dL_land_31 : decode cL_land 31 = .ok (.iconst 0, 1) := by decide +kernel
theorem dL_land_32 : decode cL_land 32 = .ok (.ireturn, 1) := by decide +kernel
theorem dL_fill_0 : decode cL_fill 0 = .ok (.aload 4, 2) := by decide +kernel
theorem dL_fill_2 : decode cL_fill 2 = .ok (.iconst 0, 1) := by decide +kernel
theorem dL_fill_3 : decode cL_fill 3 = .ok (.aload_n 0, 1) := by decide +kernel
theorem dL_fill_4 : decode cL_fill 4 = .ok (.iload_n 1, 1) := by decide +kernel
theorem dL_fill_5 : decode cL_fill 5 = .ok (.iload_n 2, 1) := by decide +kernel
theorem dL_fill_6 : decode cL_fill 6 = .ok (.iload_n 3, 1) := by decide +kernel
theorem dL_fill_7 : decode cL_fill 7 = .ok (.invokevirtual 19, 3) := by decide +kernel
theorem dL_fill_10 : decode cL_fill 10 = .ok (.ifCond .eq 7, 3) := by decide +kernel
theorem dL_fill_13 : decode cL_fill 13 = .ok (.lconst 1, 1) := by decide +kernel
theorem dL_fill_14 : decode cL_fill 14 = .ok (.goto 4, 3) := by decide +kernel
theorem dL_fill_17 : decode cL_fill 17 = .ok (.lconst 0, 1) := by decide +kernel
theorem dL_fill_18 : decode cL_fill 18 = .ok (.lastore, 1) := by decide +kernel
theorem dL_fill_19 : decode cL_fill 19 = .ok (.goto 11, 3) := by decide +kernel
theorem dL_fill_22 : decode cL_fill 22 = .ok (.astore 5, 2) := by decide +kernel
theorem dL_fill_24 : decode cL_fill 24 = .ok (.iconst 1, 1) := by decide +kernel
theorem dL_fill_25 : decode cL_fill 25 = .ok (.ireturn, 1) := by decide +kernel
theorem dL_fill_26 : decode cL_fill 26 = .ok (.astore 5, 2) := by decide +kernel
theorem dL_fill_28 : decode cL_fill 28 = .ok (.iconst 2, 1) := by decide +kernel
theorem dL_fill_29 : decode cL_fill 29 = .ok (.ireturn, 1) := by decide +kernel
theorem dL_fill_30 : decode cL_fill 30 = .ok (.iconst 0, 1) := by decide +kernel
theorem dL_fill_31 : decode cL_fill 31 = .ok (.ireturn, 1) := by decide +kernel
theorem dL_tide_0 : decode cL_tide 0 = .ok (.aload_n 0, 1) := by decide +kernel
theorem dL_tide_1 : decode cL_tide 1 = .ok (.iload_n 1, 1) := by decide +kernel
theorem dL_tide_2 : decode cL_tide 2 = .ok (.iload_n 2, 1) := by decide +kernel
theorem dL_tide_3 : decode cL_tide 3 = .ok (.invokevirtual 23, 3) := by decide +kernel
theorem dL_tide_6 : decode cL_tide 6 = .ok (.goto 6, 3) := by decide +kernel
theorem dL_tide_9 : decode cL_tide 9 = .ok (.astore_n 3, 1) := by decide +kernel
theorem dL_tide_10 : decode cL_tide 10 = .ok (.iconst 1, 1) := by decide +kernel
theorem dL_tide_11 : decode cL_tide 11 = .ok (.ireturn, 1) := by decide +kernel
theorem dL_tide_12 : decode cL_tide 12 = .ok (.iconst 0, 1) := by decide +kernel
theorem dL_tide_13 : decode cL_tide 13 = .ok (.ireturn, 1) := by decide +kernel
theorem dL_storm_0 : decode cL_storm 0 = .ok (.aload 4, 2) := by decide +kernel
theorem dL_storm_2 : decode cL_storm 2 = .ok (.iconst 0, 1) := by decide +kernel
theorem dL_storm_3 : decode cL_storm 3 = .ok (.aload_n 0, 1) := by decide +kernel
theorem dL_storm_4 : decode cL_storm 4 = .ok (.iload_n 1, 1) := by decide +kernel
theorem dL_storm_5 : decode cL_storm 5 = .ok (.iload_n 2, 1) := by decide +kernel
theorem dL_storm_6 : decode cL_storm 6 = .ok (.iload_n 3, 1) := by decide +kernel
theorem dL_storm_7 : decode cL_storm 7 = .ok (.invokevirtual 27, 3) := by decide +kernel
theorem dL_storm_10 : decode cL_storm 10 = .ok (.i2l, 1) := by decide +kernel
theorem dL_storm_11 : decode cL_storm 11 = .ok (.lastore, 1) := by decide +kernel
theorem dL_storm_12 : decode cL_storm 12 = .ok (.goto 7, 3) := by decide +kernel
theorem dL_storm_15 : decode cL_storm 15 = .ok (.astore 5, 2) := by decide +kernel
theorem dL_storm_17 : decode cL_storm 17 = .ok (.iconst 1, 1) := by decide +kernel
theorem dL_storm_18 : decode cL_storm 18 = .ok (.ireturn, 1) := by decide +kernel
theorem dL_storm_19 : decode cL_storm 19 = .ok (.iconst 0, 1) := by decide +kernel
theorem dL_storm_20 : decode cL_storm 20 = .ok (.ireturn, 1) := by decide +kernel
theorem dL_weather_0 : decode cL_weather 0 = .ok (.aload 4, 2) := by decide +kernel
theorem dL_weather_2 : decode cL_weather 2 = .ok (.iconst 0, 1) := by decide +kernel
theorem dL_weather_3 : decode cL_weather 3 = .ok (.aload_n 0, 1) := by decide +kernel
theorem dL_weather_4 : decode cL_weather 4 = .ok (.iload_n 1, 1) := by decide +kernel
theorem dL_weather_5 : decode cL_weather 5 = .ok (.iload_n 2, 1) := by decide +kernel
theorem dL_weather_6 : decode cL_weather 6 = .ok (.iload_n 3, 1) := by decide +kernel
theorem dL_weather_7 : decode cL_weather 7 = .ok (.invokevirtual 31, 3) := by decide +kernel
theorem dL_weather_10 : decode cL_weather 10 = .ok (.i2l, 1) := by decide +kernel
theorem dL_weather_11 : decode cL_weather 11 = .ok (.lastore, 1) := by decide +kernel
theorem dL_weather_12 : decode cL_weather 12 = .ok (.goto 7, 3) := by decide +kernel
theorem dL_weather_15 : decode cL_weather 15 = .ok (.astore 5, 2) := by decide +kernel
theorem dL_weather_17 : decode cL_weather 17 = .ok (.iconst 1, 1) := by decide +kernel
theorem dL_weather_18 : decode cL_weather 18 = .ok (.ireturn, 1) := by decide +kernel
theorem dL_weather_19 : decode cL_weather 19 = .ok (.iconst 0, 1) := by decide +kernel
theorem dL_weather_20 : decode cL_weather 20 = .ok (.ireturn, 1) := by decide +kernel
theorem dL_sky_0 : decode cL_sky 0 = .ok (.aload_n 3, 1) := by decide +kernel
theorem dL_sky_1 : decode cL_sky 1 = .ok (.iconst 0, 1) := by decide +kernel
theorem dL_sky_2 : decode cL_sky 2 = .ok (.aload_n 0, 1) := by decide +kernel
theorem dL_sky_3 : decode cL_sky 3 = .ok (.iload_n 1, 1) := by decide +kernel
theorem dL_sky_4 : decode cL_sky 4 = .ok (.iload_n 2, 1) := by decide +kernel
theorem dL_sky_5 : decode cL_sky 5 = .ok (.invokevirtual 35, 3) := by decide +kernel
theorem dL_sky_8 : decode cL_sky 8 = .ok (.i2l, 1) := by decide +kernel
theorem dL_sky_9 : decode cL_sky 9 = .ok (.lastore, 1) := by decide +kernel
theorem dL_sky_10 : decode cL_sky 10 = .ok (.goto 7, 3) := by decide +kernel
theorem dL_sky_13 : decode cL_sky 13 = .ok (.astore 4, 2) := by decide +kernel
theorem dL_sky_15 : decode cL_sky 15 = .ok (.iconst 1, 1) := by decide +kernel
theorem dL_sky_16 : decode cL_sky 16 = .ok (.ireturn, 1) := by decide +kernel
theorem dL_sky_17 : decode cL_sky 17 = .ok (.iconst 0, 1) := by decide +kernel
theorem dL_sky_18 : decode cL_sky 18 = .ok (.ireturn, 1) := by decide +kernel
theorem dL_dike_0 : decode cL_dike 0 = .ok (.aload 5, 2) := by decide +kernel
theorem dL_dike_2 : decode cL_dike 2 = .ok (.iconst 0, 1) := by decide +kernel
theorem dL_dike_3 : decode cL_dike 3 = .ok (.aload_n 0, 1) := by decide +kernel
theorem dL_dike_4 : decode cL_dike 4 = .ok (.iload_n 1, 1) := by decide +kernel
theorem dL_dike_5 : decode cL_dike 5 = .ok (.iload_n 2, 1) := by decide +kernel
theorem dL_dike_6 : decode cL_dike 6 = .ok (.iload_n 3, 1) := by decide +kernel
theorem dL_dike_7 : decode cL_dike 7 = .ok (.iload 4, 2) := by decide +kernel
theorem dL_dike_9 : decode cL_dike 9 = .ok (.invokevirtual 41, 3) := by decide +kernel
theorem dL_dike_12 : decode cL_dike 12 = .ok (.i2l, 1) := by decide +kernel
theorem dL_dike_13 : decode cL_dike 13 = .ok (.lastore, 1) := by decide +kernel
theorem dL_dike_14 : decode cL_dike 14 = .ok (.goto 15, 3) := by decide +kernel
theorem dL_dike_17 : decode cL_dike 17 = .ok (.astore 6, 2) := by decide +kernel
theorem dL_dike_19 : decode cL_dike 19 = .ok (.iconst 1, 1) := by decide +kernel
theorem dL_dike_20 : decode cL_dike 20 = .ok (.ireturn, 1) := by decide +kernel
theorem dL_dike_21 : decode cL_dike 21 = .ok (.astore 6, 2) := by decide +kernel
theorem dL_dike_23 : decode cL_dike 23 = .ok (.iconst 2, 1) := by decide +kernel
theorem dL_dike_24 : decode cL_dike 24 = .ok (.ireturn, 1) := by decide +kernel
theorem dL_dike_25 : decode cL_dike 25 = .ok (.astore 6, 2) := by decide +kernel
theorem dL_dike_27 : decode cL_dike 27 = .ok (.iconst 3, 1) := by decide +kernel
theorem dL_dike_28 : decode cL_dike 28 = .ok (.ireturn, 1) := by decide +kernel
theorem dL_dike_29 : decode cL_dike 29 = .ok (.iconst 0, 1) := by decide +kernel
theorem dL_dike_30 : decode cL_dike 30 = .ok (.ireturn, 1) := by decide +kernel
theorem dL_layer_0 : decode cL_layer 0 = .ok (.aload 4, 2) := by decide +kernel
theorem dL_layer_2 : decode cL_layer 2 = .ok (.iconst 0, 1) := by decide +kernel
theorem dL_layer_3 : decode cL_layer 3 = .ok (.aload_n 0, 1) := by decide +kernel
theorem dL_layer_4 : decode cL_layer 4 = .ok (.iload_n 1, 1) := by decide +kernel
theorem dL_layer_5 : decode cL_layer 5 = .ok (.iload_n 2, 1) := by decide +kernel
theorem dL_layer_6 : decode cL_layer 6 = .ok (.iload_n 3, 1) := by decide +kernel
theorem dL_layer_7 : decode cL_layer 7 = .ok (.invokevirtual 47, 3) := by decide +kernel
theorem dL_layer_10 : decode cL_layer 10 = .ok (.i2l, 1) := by decide +kernel
theorem dL_layer_11 : decode cL_layer 11 = .ok (.lastore, 1) := by decide +kernel
theorem dL_layer_12 : decode cL_layer 12 = .ok (.goto 15, 3) := by decide +kernel
theorem dL_layer_15 : decode cL_layer 15 = .ok (.astore 5, 2) := by decide +kernel
theorem dL_layer_17 : decode cL_layer 17 = .ok (.iconst 1, 1) := by decide +kernel
theorem dL_layer_18 : decode cL_layer 18 = .ok (.ireturn, 1) := by decide +kernel
theorem dL_layer_19 : decode cL_layer 19 = .ok (.astore 5, 2) := by decide +kernel
theorem dL_layer_21 : decode cL_layer 21 = .ok (.iconst 2, 1) := by decide +kernel
theorem dL_layer_22 : decode cL_layer 22 = .ok (.ireturn, 1) := by decide +kernel
theorem dL_layer_23 : decode cL_layer 23 = .ok (.astore 5, 2) := by decide +kernel
theorem dL_layer_25 : decode cL_layer 25 = .ok (.iconst 3, 1) := by decide +kernel
theorem dL_layer_26 : decode cL_layer 26 = .ok (.ireturn, 1) := by decide +kernel
theorem dL_layer_27 : decode cL_layer 27 = .ok (.iconst 0, 1) := by decide +kernel
theorem dL_layer_28 : decode cL_layer 28 = .ok (.ireturn, 1) := by decide +kernel
theorem dL_mill_0 : decode cL_mill 0 = .ok (.aload 5, 2) := by decide +kernel
theorem dL_mill_2 : decode cL_mill 2 = .ok (.iconst 0, 1) := by decide +kernel
theorem dL_mill_3 : decode cL_mill 3 = .ok (.aload_n 0, 1) := by decide +kernel
theorem dL_mill_4 : decode cL_mill 4 = .ok (.iload_n 1, 1) := by decide +kernel
theorem dL_mill_5 : decode cL_mill 5 = .ok (.iload_n 2, 1) := by decide +kernel
theorem dL_mill_6 : decode cL_mill 6 = .ok (.iload_n 3, 1) := by decide +kernel
theorem dL_mill_7 : decode cL_mill 7 = .ok (.iload 4, 2) := by decide +kernel
theorem dL_mill_9 : decode cL_mill 9 = .ok (.invokevirtual 52, 3) := by decide +kernel
theorem dL_mill_12 : decode cL_mill 12 = .ok (.i2l, 1) := by decide +kernel
theorem dL_mill_13 : decode cL_mill 13 = .ok (.lastore, 1) := by decide +kernel
theorem dL_mill_14 : decode cL_mill 14 = .ok (.goto 15, 3) := by decide +kernel
theorem dL_mill_17 : decode cL_mill 17 = .ok (.astore 6, 2) := by decide +kernel
theorem dL_mill_19 : decode cL_mill 19 = .ok (.iconst 1, 1) := by decide +kernel
theorem dL_mill_20 : decode cL_mill 20 = .ok (.ireturn, 1) := by decide +kernel
theorem dL_mill_21 : decode cL_mill 21 = .ok (.astore 6, 2) := by decide +kernel
theorem dL_mill_23 : decode cL_mill 23 = .ok (.iconst 2, 1) := by decide +kernel
theorem dL_mill_24 : decode cL_mill 24 = .ok (.ireturn, 1) := by decide +kernel
theorem dL_mill_25 : decode cL_mill 25 = .ok (.astore 6, 2) := by decide +kernel
theorem dL_mill_27 : decode cL_mill 27 = .ok (.iconst 3, 1) := by decide +kernel
theorem dL_mill_28 : decode cL_mill 28 = .ok (.ireturn, 1) := by decide +kernel
theorem dL_mill_29 : decode cL_mill 29 = .ok (.iconst 0, 1) := by decide +kernel
theorem dL_mill_30 : decode cL_mill 30 = .ok (.ireturn, 1) := by decide +kernel
theorem dL_sluice_0 : decode cL_sluice 0 = .ok (.aload 4, 2) := by decide +kernel
theorem dL_sluice_2 : decode cL_sluice 2 = .ok (.iconst 0, 1) := by decide +kernel
theorem dL_sluice_3 : decode cL_sluice 3 = .ok (.aload_n 0, 1) := by decide +kernel
theorem dL_sluice_4 : decode cL_sluice 4 = .ok (.iload_n 1, 1) := by decide +kernel
theorem dL_sluice_5 : decode cL_sluice 5 = .ok (.iload_n 2, 1) := by decide +kernel
theorem dL_sluice_6 : decode cL_sluice 6 = .ok (.iload_n 3, 1) := by decide +kernel
theorem dL_sluice_7 : decode cL_sluice 7 = .ok (.invokevirtual 56, 3) := by decide +kernel
theorem dL_sluice_10 : decode cL_sluice 10 = .ok (.i2l, 1) := by decide +kernel
theorem dL_sluice_11 : decode cL_sluice 11 = .ok (.lastore, 1) := by decide +kernel
theorem dL_sluice_12 : decode cL_sluice 12 = .ok (.goto 15, 3) := by decide +kernel
theorem dL_sluice_15 : decode cL_sluice 15 = .ok (.astore 5, 2) := by decide +kernel
theorem dL_sluice_17 : decode cL_sluice 17 = .ok (.iconst 1, 1) := by decide +kernel
theorem dL_sluice_18 : decode cL_sluice 18 = .ok (.ireturn, 1) := by decide +kernel
theorem dL_sluice_19 : decode cL_sluice 19 = .ok (.astore 5, 2) := by decide +kernel
theorem dL_sluice_21 : decode cL_sluice 21 = .ok (.iconst 2, 1) := by decide +kernel
theorem dL_sluice_22 : decode cL_sluice 22 = .ok (.ireturn, 1) := by decide +kernel
theorem dL_sluice_23 : decode cL_sluice 23 = .ok (.astore 5, 2) := by decide +kernel
theorem dL_sluice_25 : decode cL_sluice 25 = .ok (.iconst 3, 1) := by decide +kernel
theorem dL_sluice_26 : decode cL_sluice 26 = .ok (.ireturn, 1) := by decide +kernel
theorem dL_sluice_27 : decode cL_sluice 27 = .ok (.iconst 0, 1) := by decide +kernel
theorem dL_sluice_28 : decode cL_sluice 28 = .ok (.ireturn, 1) := by decide +kernel
theorem dL_turn_0 : decode cL_turn 0 = .ok (.aload_n 3, 1) := by decide +kernel
theorem dL_turn_1 : decode cL_turn 1 = .ok (.iconst 0, 1) := by decide +kernel
theorem dL_turn_2 : decode cL_turn 2 = .ok (.aload_n 0, 1) := by decide +kernel
theorem dL_turn_3 : decode cL_turn 3 = .ok (.iload_n 1, 1) := by decide +kernel
theorem dL_turn_4 : decode cL_turn 4 = .ok (.iload_n 2, 1) := by decide +kernel
theorem dL_turn_5 : decode cL_turn 5 = .ok (.invokevirtual 59, 3) := by decide +kernel
theorem dL_turn_8 : decode cL_turn 8 = .ok (.ifCond .eq 7, 3) := by decide +kernel
theorem dL_turn_11 : decode cL_turn 11 = .ok (.lconst 1, 1) := by decide +kernel
theorem dL_turn_12 : decode cL_turn 12 = .ok (.goto 4, 3) := by decide +kernel
theorem dL_turn_15 : decode cL_turn 15 = .ok (.lconst 0, 1) := by decide +kernel
theorem dL_turn_16 : decode cL_turn 16 = .ok (.lastore, 1) := by decide +kernel
theorem dL_turn_17 : decode cL_turn 17 = .ok (.goto 11, 3) := by decide +kernel
theorem dL_turn_20 : decode cL_turn 20 = .ok (.astore 4, 2) := by decide +kernel
theorem dL_turn_22 : decode cL_turn 22 = .ok (.iconst 1, 1) := by decide +kernel
theorem dL_turn_23 : decode cL_turn 23 = .ok (.ireturn, 1) := by decide +kernel
theorem dL_turn_24 : decode cL_turn 24 = .ok (.astore 4, 2) := by decide +kernel
theorem dL_turn_26 : decode cL_turn 26 = .ok (.iconst 2, 1) := by decide +kernel
theorem dL_turn_27 : decode cL_turn 27 = .ok (.ireturn, 1) := by decide +kernel
theorem dL_turn_28 : decode cL_turn 28 = .ok (.iconst 0, 1) := by decide +kernel
theorem dL_turn_29 : decode cL_turn 29 = .ok (.ireturn, 1) := by decide +kernel
theorem dL_coal_0 : decode cL_coal 0 = .ok (.aload_n 3, 1) := by decide +kernel
theorem dL_coal_1 : decode cL_coal 1 = .ok (.iconst 0, 1) := by decide +kernel
theorem dL_coal_2 : decode cL_coal 2 = .ok (.aload_n 0, 1) := by decide +kernel
theorem dL_coal_3 : decode cL_coal 3 = .ok (.iload_n 1, 1) := by decide +kernel
theorem dL_coal_4 : decode cL_coal 4 = .ok (.iload_n 2, 1) := by decide +kernel
theorem dL_coal_5 : decode cL_coal 5 = .ok (.invokevirtual 63, 3) := by decide +kernel
theorem dL_coal_8 : decode cL_coal 8 = .ok (.i2l, 1) := by decide +kernel
theorem dL_coal_9 : decode cL_coal 9 = .ok (.lastore, 1) := by decide +kernel
theorem dL_coal_10 : decode cL_coal 10 = .ok (.goto 15, 3) := by decide +kernel
theorem dL_coal_13 : decode cL_coal 13 = .ok (.astore 4, 2) := by decide +kernel
theorem dL_coal_15 : decode cL_coal 15 = .ok (.iconst 1, 1) := by decide +kernel
theorem dL_coal_16 : decode cL_coal 16 = .ok (.ireturn, 1) := by decide +kernel
theorem dL_coal_17 : decode cL_coal 17 = .ok (.astore 4, 2) := by decide +kernel
theorem dL_coal_19 : decode cL_coal 19 = .ok (.iconst 2, 1) := by decide +kernel
theorem dL_coal_20 : decode cL_coal 20 = .ok (.ireturn, 1) := by decide +kernel
theorem dL_coal_21 : decode cL_coal 21 = .ok (.astore 4, 2) := by decide +kernel
theorem dL_coal_23 : decode cL_coal 23 = .ok (.iconst 3, 1) := by decide +kernel
theorem dL_coal_24 : decode cL_coal 24 = .ok (.ireturn, 1) := by decide +kernel
theorem dL_coal_25 : decode cL_coal 25 = .ok (.iconst 0, 1) := by decide +kernel
theorem dL_coal_26 : decode cL_coal 26 = .ok (.ireturn, 1) := by decide +kernel
theorem dL_work_0 : decode cL_work 0 = .ok (.aload_n 3, 1) := by decide +kernel
theorem dL_work_1 : decode cL_work 1 = .ok (.iconst 0, 1) := by decide +kernel
theorem dL_work_2 : decode cL_work 2 = .ok (.aload_n 0, 1) := by decide +kernel
theorem dL_work_3 : decode cL_work 3 = .ok (.iload_n 1, 1) := by decide +kernel
theorem dL_work_4 : decode cL_work 4 = .ok (.iload_n 2, 1) := by decide +kernel
theorem dL_work_5 : decode cL_work 5 = .ok (.invokevirtual 66, 3) := by decide +kernel
theorem dL_work_8 : decode cL_work 8 = .ok (.i2l, 1) := by decide +kernel
theorem dL_work_9 : decode cL_work 9 = .ok (.lastore, 1) := by decide +kernel
theorem dL_work_10 : decode cL_work 10 = .ok (.goto 11, 3) := by decide +kernel
theorem dL_work_13 : decode cL_work 13 = .ok (.astore 4, 2) := by decide +kernel
theorem dL_work_15 : decode cL_work 15 = .ok (.iconst 1, 1) := by decide +kernel
theorem dL_work_16 : decode cL_work 16 = .ok (.ireturn, 1) := by decide +kernel
theorem dL_work_17 : decode cL_work 17 = .ok (.astore 4, 2) := by decide +kernel
theorem dL_work_19 : decode cL_work 19 = .ok (.iconst 2, 1) := by decide +kernel
theorem dL_work_20 : decode cL_work 20 = .ok (.ireturn, 1) := by decide +kernel
theorem dL_work_21 : decode cL_work 21 = .ok (.iconst 0, 1) := by decide +kernel
theorem dL_work_22 : decode cL_work 22 = .ok (.ireturn, 1) := by decide +kernel
theorem dL_seep_0 : decode cL_seep 0 = .ok (.aload_n 3, 1) := by decide +kernel
theorem dL_seep_1 : decode cL_seep 1 = .ok (.iconst 0, 1) := by decide +kernel
theorem dL_seep_2 : decode cL_seep 2 = .ok (.aload_n 0, 1) := by decide +kernel
theorem dL_seep_3 : decode cL_seep 3 = .ok (.iload_n 1, 1) := by decide +kernel
theorem dL_seep_4 : decode cL_seep 4 = .ok (.iload_n 2, 1) := by decide +kernel
theorem dL_seep_5 : decode cL_seep 5 = .ok (.invokevirtual 69, 3) := by decide +kernel
theorem dL_seep_8 : decode cL_seep 8 = .ok (.i2l, 1) := by decide +kernel
theorem dL_seep_9 : decode cL_seep 9 = .ok (.lastore, 1) := by decide +kernel
theorem dL_seep_10 : decode cL_seep 10 = .ok (.goto 15, 3) := by decide +kernel
theorem dL_seep_13 : decode cL_seep 13 = .ok (.astore 4, 2) := by decide +kernel
theorem dL_seep_15 : decode cL_seep 15 = .ok (.iconst 1, 1) := by decide +kernel
theorem dL_seep_16 : decode cL_seep 16 = .ok (.ireturn, 1) := by decide +kernel
theorem dL_seep_17 : decode cL_seep 17 = .ok (.astore 4, 2) := by decide +kernel
theorem dL_seep_19 : decode cL_seep 19 = .ok (.iconst 2, 1) := by decide +kernel
theorem dL_seep_20 : decode cL_seep 20 = .ok (.ireturn, 1) := by decide +kernel
theorem dL_seep_21 : decode cL_seep 21 = .ok (.astore 4, 2) := by decide +kernel
theorem dL_seep_23 : decode cL_seep 23 = .ok (.iconst 3, 1) := by decide +kernel
theorem dL_seep_24 : decode cL_seep 24 = .ok (.ireturn, 1) := by decide +kernel
theorem dL_seep_25 : decode cL_seep 25 = .ok (.iconst 0, 1) := by decide +kernel
theorem dL_seep_26 : decode cL_seep 26 = .ok (.ireturn, 1) := by decide +kernel
theorem dL_shut_0 : decode cL_shut 0 = .ok (.aload_n 2, 1) := by decide +kernel
theorem dL_shut_1 : decode cL_shut 1 = .ok (.iconst 0, 1) := by decide +kernel
theorem dL_shut_2 : decode cL_shut 2 = .ok (.aload_n 0, 1) := by decide +kernel
theorem dL_shut_3 : decode cL_shut 3 = .ok (.iload_n 1, 1) := by decide +kernel
theorem dL_shut_4 : decode cL_shut 4 = .ok (.invokevirtual 72, 3) := by decide +kernel
theorem dL_shut_7 : decode cL_shut 7 = .ok (.ifCond .eq 7, 3) := by decide +kernel
theorem dL_shut_10 : decode cL_shut 10 = .ok (.lconst 1, 1) := by decide +kernel
theorem dL_shut_11 : decode cL_shut 11 = .ok (.goto 4, 3) := by decide +kernel
theorem dL_shut_14 : decode cL_shut 14 = .ok (.lconst 0, 1) := by decide +kernel
theorem dL_shut_15 : decode cL_shut 15 = .ok (.lastore, 1) := by decide +kernel
theorem dL_shut_16 : decode cL_shut 16 = .ok (.goto 9, 3) := by decide +kernel
theorem dL_shut_19 : decode cL_shut 19 = .ok (.astore_n 3, 1) := by decide +kernel
theorem dL_shut_20 : decode cL_shut 20 = .ok (.iconst 1, 1) := by decide +kernel
theorem dL_shut_21 : decode cL_shut 21 = .ok (.ireturn, 1) := by decide +kernel
theorem dL_shut_22 : decode cL_shut 22 = .ok (.astore_n 3, 1) := by decide +kernel
theorem dL_shut_23 : decode cL_shut 23 = .ok (.iconst 2, 1) := by decide +kernel
theorem dL_shut_24 : decode cL_shut 24 = .ok (.ireturn, 1) := by decide +kernel
theorem dL_shut_25 : decode cL_shut 25 = .ok (.iconst 0, 1) := by decide +kernel
theorem dL_shut_26 : decode cL_shut 26 = .ok (.ireturn, 1) := by decide +kernel
theorem dL_hours_0 : decode cL_hours 0 = .ok (.aload_n 2, 1) := by decide +kernel
theorem dL_hours_1 : decode cL_hours 1 = .ok (.iconst 0, 1) := by decide +kernel
theorem dL_hours_2 : decode cL_hours 2 = .ok (.aload_n 0, 1) := by decide +kernel
theorem dL_hours_3 : decode cL_hours 3 = .ok (.iload_n 1, 1) := by decide +kernel
theorem dL_hours_4 : decode cL_hours 4 = .ok (.invokevirtual 76, 3) := by decide +kernel
theorem dL_hours_7 : decode cL_hours 7 = .ok (.i2l, 1) := by decide +kernel
theorem dL_hours_8 : decode cL_hours 8 = .ok (.lastore, 1) := by decide +kernel
theorem dL_hours_9 : decode cL_hours 9 = .ok (.goto 6, 3) := by decide +kernel
theorem dL_hours_12 : decode cL_hours 12 = .ok (.astore_n 3, 1) := by decide +kernel
theorem dL_hours_13 : decode cL_hours 13 = .ok (.iconst 1, 1) := by decide +kernel
theorem dL_hours_14 : decode cL_hours 14 = .ok (.ireturn, 1) := by decide +kernel
theorem dL_hours_15 : decode cL_hours 15 = .ok (.iconst 0, 1) := by decide +kernel
theorem dL_hours_16 : decode cL_hours 16 = .ok (.ireturn, 1) := by decide +kernel
theorem dL_square_0 : decode cL_square 0 = .ok (.aload_n 3, 1) := by decide +kernel
theorem dL_square_1 : decode cL_square 1 = .ok (.iconst 0, 1) := by decide +kernel
theorem dL_square_2 : decode cL_square 2 = .ok (.aload_n 0, 1) := by decide +kernel
theorem dL_square_3 : decode cL_square 3 = .ok (.iload_n 1, 1) := by decide +kernel
theorem dL_square_4 : decode cL_square 4 = .ok (.iload_n 2, 1) := by decide +kernel
theorem dL_square_5 : decode cL_square 5 = .ok (.invokevirtual 80, 3) := by decide +kernel
theorem dL_square_8 : decode cL_square 8 = .ok (.i2l, 1) := by decide +kernel
theorem dL_square_9 : decode cL_square 9 = .ok (.lastore, 1) := by decide +kernel
theorem dL_square_10 : decode cL_square 10 = .ok (.goto 11, 3) := by decide +kernel
theorem dL_square_13 : decode cL_square 13 = .ok (.astore 4, 2) := by decide +kernel
theorem dL_square_15 : decode cL_square 15 = .ok (.iconst 1, 1) := by decide +kernel
theorem dL_square_16 : decode cL_square 16 = .ok (.ireturn, 1) := by decide +kernel
theorem dL_square_17 : decode cL_square 17 = .ok (.astore 4, 2) := by decide +kernel
theorem dL_square_19 : decode cL_square 19 = .ok (.iconst 2, 1) := by decide +kernel
theorem dL_square_20 : decode cL_square 20 = .ok (.ireturn, 1) := by decide +kernel
theorem dL_square_21 : decode cL_square 21 = .ok (.iconst 0, 1) := by decide +kernel
theorem dL_square_22 : decode cL_square 22 = .ok (.ireturn, 1) := by decide +kernel
theorem dL_found_0 : decode cL_found 0 = .ok (.aload_n 1, 1) := by decide +kernel
theorem dL_found_1 : decode cL_found 1 = .ok (.iconst 0, 1) := by decide +kernel
theorem dL_found_2 : decode cL_found 2 = .ok (.aload_n 0, 1) := by decide +kernel
theorem dL_found_3 : decode cL_found 3 = .ok (.invokevirtual 83, 3) := by decide +kernel
theorem dL_found_6 : decode cL_found 6 = .ok (.i2l, 1) := by decide +kernel
theorem dL_found_7 : decode cL_found 7 = .ok (.lastore, 1) := by decide +kernel
theorem dL_found_8 : decode cL_found 8 = .ok (.goto 9, 3) := by decide +kernel
theorem dL_found_11 : decode cL_found 11 = .ok (.astore_n 2, 1) := by decide +kernel
theorem dL_found_12 : decode cL_found 12 = .ok (.iconst 1, 1) := by decide +kernel
theorem dL_found_13 : decode cL_found 13 = .ok (.ireturn, 1) := by decide +kernel
theorem dL_found_14 : decode cL_found 14 = .ok (.astore_n 2, 1) := by decide +kernel
theorem dL_found_15 : decode cL_found 15 = .ok (.iconst 2, 1) := by decide +kernel
theorem dL_found_16 : decode cL_found 16 = .ok (.ireturn, 1) := by decide +kernel
theorem dL_found_17 : decode cL_found 17 = .ok (.iconst 0, 1) := by decide +kernel
theorem dL_found_18 : decode cL_found 18 = .ok (.ireturn, 1) := by decide +kernel
theorem dL_propose_0 : decode cL_propose 0 = .ok (.aload_n 1, 1) := by decide +kernel
theorem dL_propose_1 : decode cL_propose 1 = .ok (.iconst 0, 1) := by decide +kernel
theorem dL_propose_2 : decode cL_propose 2 = .ok (.aload_n 0, 1) := by decide +kernel
theorem dL_propose_3 : decode cL_propose 3 = .ok (.invokevirtual 87, 3) := by decide +kernel
theorem dL_propose_6 : decode cL_propose 6 = .ok (.i2l, 1) := by decide +kernel
theorem dL_propose_7 : decode cL_propose 7 = .ok (.lastore, 1) := by decide +kernel
theorem dL_propose_8 : decode cL_propose 8 = .ok (.goto 9, 3) := by decide +kernel
theorem dL_propose_11 : decode cL_propose 11 = .ok (.astore_n 2, 1) := by decide +kernel
theorem dL_propose_12 : decode cL_propose 12 = .ok (.iconst 1, 1) := by decide +kernel
theorem dL_propose_13 : decode cL_propose 13 = .ok (.ireturn, 1) := by decide +kernel
theorem dL_propose_14 : decode cL_propose 14 = .ok (.astore_n 2, 1) := by decide +kernel
theorem dL_propose_15 : decode cL_propose 15 = .ok (.iconst 2, 1) := by decide +kernel
theorem dL_propose_16 : decode cL_propose 16 = .ok (.ireturn, 1) := by decide +kernel
theorem dL_propose_17 : decode cL_propose 17 = .ok (.iconst 0, 1) := by decide +kernel
theorem dL_propose_18 : decode cL_propose 18 = .ok (.ireturn, 1) := by decide +kernel
theorem dL_vote_0 : decode cL_vote 0 = .ok (.aload_n 3, 1) := by decide +kernel
theorem dL_vote_1 : decode cL_vote 1 = .ok (.iconst 0, 1) := by decide +kernel
theorem dL_vote_2 : decode cL_vote 2 = .ok (.aload_n 0, 1) := by decide +kernel
theorem dL_vote_3 : decode cL_vote 3 = .ok (.iload_n 1, 1) := by decide +kernel
theorem dL_vote_4 : decode cL_vote 4 = .ok (.iload_n 2, 1) := by decide +kernel
theorem dL_vote_5 : decode cL_vote 5 = .ok (.invokevirtual 90, 3) := by decide +kernel
theorem dL_vote_8 : decode cL_vote 8 = .ok (.i2l, 1) := by decide +kernel
theorem dL_vote_9 : decode cL_vote 9 = .ok (.lastore, 1) := by decide +kernel
theorem dL_vote_10 : decode cL_vote 10 = .ok (.goto 11, 3) := by decide +kernel
theorem dL_vote_13 : decode cL_vote 13 = .ok (.astore 4, 2) := by decide +kernel
theorem dL_vote_15 : decode cL_vote 15 = .ok (.iconst 1, 1) := by decide +kernel
theorem dL_vote_16 : decode cL_vote 16 = .ok (.ireturn, 1) := by decide +kernel
theorem dL_vote_17 : decode cL_vote 17 = .ok (.astore 4, 2) := by decide +kernel
theorem dL_vote_19 : decode cL_vote 19 = .ok (.iconst 2, 1) := by decide +kernel
theorem dL_vote_20 : decode cL_vote 20 = .ok (.ireturn, 1) := by decide +kernel
theorem dL_vote_21 : decode cL_vote 21 = .ok (.iconst 0, 1) := by decide +kernel
theorem dL_vote_22 : decode cL_vote 22 = .ok (.ireturn, 1) := by decide +kernel
theorem dL_close_0 : decode cL_close 0 = .ok (.aload_n 1, 1) := by decide +kernel
theorem dL_close_1 : decode cL_close 1 = .ok (.iconst 0, 1) := by decide +kernel
theorem dL_close_2 : decode cL_close 2 = .ok (.aload_n 0, 1) := by decide +kernel
theorem dL_close_3 : decode cL_close 3 = .ok (.invokevirtual 94, 3) := by decide +kernel
theorem dL_close_6 : decode cL_close 6 = .ok (.ifCond .eq 7, 3) := by decide +kernel
theorem dL_close_9 : decode cL_close 9 = .ok (.lconst 1, 1) := by decide +kernel
theorem dL_close_10 : decode cL_close 10 = .ok (.goto 4, 3) := by decide +kernel
theorem dL_close_13 : decode cL_close 13 = .ok (.lconst 0, 1) := by decide +kernel
theorem dL_close_14 : decode cL_close 14 = .ok (.lastore, 1) := by decide +kernel
theorem dL_close_15 : decode cL_close 15 = .ok (.goto 6, 3) := by decide +kernel
theorem dL_close_18 : decode cL_close 18 = .ok (.astore_n 2, 1) := by decide +kernel
theorem dL_close_19 : decode cL_close 19 = .ok (.iconst 1, 1) := by decide +kernel
theorem dL_close_20 : decode cL_close 20 = .ok (.ireturn, 1) := by decide +kernel
theorem dL_close_21 : decode cL_close 21 = .ok (.iconst 0, 1) := by decide +kernel
theorem dL_close_22 : decode cL_close 22 = .ok (.ireturn, 1) := by decide +kernel
theorem dL_rules_0 : decode cL_rules 0 = .ok (.aload_n 3, 1) := by decide +kernel
theorem dL_rules_1 : decode cL_rules 1 = .ok (.iconst 0, 1) := by decide +kernel
theorem dL_rules_2 : decode cL_rules 2 = .ok (.aload_n 0, 1) := by decide +kernel
theorem dL_rules_3 : decode cL_rules 3 = .ok (.iload_n 1, 1) := by decide +kernel
theorem dL_rules_4 : decode cL_rules 4 = .ok (.iload_n 2, 1) := by decide +kernel
theorem dL_rules_5 : decode cL_rules 5 = .ok (.invokevirtual 98, 3) := by decide +kernel
theorem dL_rules_8 : decode cL_rules 8 = .ok (.i2l, 1) := by decide +kernel
theorem dL_rules_9 : decode cL_rules 9 = .ok (.lastore, 1) := by decide +kernel
theorem dL_rules_10 : decode cL_rules 10 = .ok (.goto 11, 3) := by decide +kernel
theorem dL_rules_13 : decode cL_rules 13 = .ok (.astore 4, 2) := by decide +kernel
theorem dL_rules_15 : decode cL_rules 15 = .ok (.iconst 1, 1) := by decide +kernel
theorem dL_rules_16 : decode cL_rules 16 = .ok (.ireturn, 1) := by decide +kernel
theorem dL_rules_17 : decode cL_rules 17 = .ok (.astore 4, 2) := by decide +kernel
theorem dL_rules_19 : decode cL_rules 19 = .ok (.iconst 2, 1) := by decide +kernel
theorem dL_rules_20 : decode cL_rules 20 = .ok (.ireturn, 1) := by decide +kernel
theorem dL_rules_21 : decode cL_rules 21 = .ok (.iconst 0, 1) := by decide +kernel
theorem dL_rules_22 : decode cL_rules 22 = .ok (.ireturn, 1) := by decide +kernel
theorem dL_why_0 : decode cL_why 0 = .ok (.aload_n 3, 1) := by decide +kernel
theorem dL_why_1 : decode cL_why 1 = .ok (.iconst 0, 1) := by decide +kernel
theorem dL_why_2 : decode cL_why 2 = .ok (.aload_n 0, 1) := by decide +kernel
theorem dL_why_3 : decode cL_why 3 = .ok (.iload_n 1, 1) := by decide +kernel
theorem dL_why_4 : decode cL_why 4 = .ok (.iload_n 2, 1) := by decide +kernel
theorem dL_why_5 : decode cL_why 5 = .ok (.invokevirtual 101, 3) := by decide +kernel
theorem dL_why_8 : decode cL_why 8 = .ok (.i2l, 1) := by decide +kernel
theorem dL_why_9 : decode cL_why 9 = .ok (.lastore, 1) := by decide +kernel
theorem dL_why_10 : decode cL_why 10 = .ok (.goto 11, 3) := by decide +kernel
theorem dL_why_13 : decode cL_why 13 = .ok (.astore 4, 2) := by decide +kernel
theorem dL_why_15 : decode cL_why 15 = .ok (.iconst 1, 1) := by decide +kernel
theorem dL_why_16 : decode cL_why 16 = .ok (.ireturn, 1) := by decide +kernel
theorem dL_why_17 : decode cL_why 17 = .ok (.astore 4, 2) := by decide +kernel
theorem dL_why_19 : decode cL_why 19 = .ok (.iconst 2, 1) := by decide +kernel
theorem dL_why_20 : decode cL_why 20 = .ok (.ireturn, 1) := by decide +kernel
theorem dL_why_21 : decode cL_why 21 = .ok (.iconst 0, 1) := by decide +kernel
theorem dL_why_22 : decode cL_why 22 = .ok (.ireturn, 1) := by decide +kernel
theorem dL_lawLevel_0 : decode cL_lawLevel 0 = .ok (.aload_n 2, 1) := by decide +kernel
theorem dL_lawLevel_1 : decode cL_lawLevel 1 = .ok (.iconst 0, 1) := by decide +kernel
theorem dL_lawLevel_2 : decode cL_lawLevel 2 = .ok (.aload_n 0, 1) := by decide +kernel
theorem dL_lawLevel_3 : decode cL_lawLevel 3 = .ok (.iload_n 1, 1) := by decide +kernel
theorem dL_lawLevel_4 : decode cL_lawLevel 4 = .ok (.invokevirtual 104, 3) := by decide +kernel
theorem dL_lawLevel_7 : decode cL_lawLevel 7 = .ok (.i2l, 1) := by decide +kernel
theorem dL_lawLevel_8 : decode cL_lawLevel 8 = .ok (.lastore, 1) := by decide +kernel
theorem dL_lawLevel_9 : decode cL_lawLevel 9 = .ok (.goto 6, 3) := by decide +kernel
theorem dL_lawLevel_12 : decode cL_lawLevel 12 = .ok (.astore_n 3, 1) := by decide +kernel
theorem dL_lawLevel_13 : decode cL_lawLevel 13 = .ok (.iconst 1, 1) := by decide +kernel
theorem dL_lawLevel_14 : decode cL_lawLevel 14 = .ok (.ireturn, 1) := by decide +kernel
theorem dL_lawLevel_15 : decode cL_lawLevel 15 = .ok (.iconst 0, 1) := by decide +kernel
theorem dL_lawLevel_16 : decode cL_lawLevel 16 = .ok (.ireturn, 1) := by decide +kernel
theorem dL_mayBuild_0 : decode cL_mayBuild 0 = .ok (.aload_n 2, 1) := by decide +kernel
theorem dL_mayBuild_1 : decode cL_mayBuild 1 = .ok (.iconst 0, 1) := by decide +kernel
theorem dL_mayBuild_2 : decode cL_mayBuild 2 = .ok (.aload_n 0, 1) := by decide +kernel
theorem dL_mayBuild_3 : decode cL_mayBuild 3 = .ok (.iload_n 1, 1) := by decide +kernel
theorem dL_mayBuild_4 : decode cL_mayBuild 4 = .ok (.invokevirtual 107, 3) := by decide +kernel
theorem dL_mayBuild_7 : decode cL_mayBuild 7 = .ok (.ifCond .eq 7, 3) := by decide +kernel
theorem dL_mayBuild_10 : decode cL_mayBuild 10 = .ok (.lconst 1, 1) := by decide +kernel
theorem dL_mayBuild_11 : decode cL_mayBuild 11 = .ok (.goto 4, 3) := by decide +kernel
theorem dL_mayBuild_14 : decode cL_mayBuild 14 = .ok (.lconst 0, 1) := by decide +kernel
theorem dL_mayBuild_15 : decode cL_mayBuild 15 = .ok (.lastore, 1) := by decide +kernel
theorem dL_mayBuild_16 : decode cL_mayBuild 16 = .ok (.goto 6, 3) := by decide +kernel
theorem dL_mayBuild_19 : decode cL_mayBuild 19 = .ok (.astore_n 3, 1) := by decide +kernel
theorem dL_mayBuild_20 : decode cL_mayBuild 20 = .ok (.iconst 1, 1) := by decide +kernel
theorem dL_mayBuild_21 : decode cL_mayBuild 21 = .ok (.ireturn, 1) := by decide +kernel
theorem dL_mayBuild_22 : decode cL_mayBuild 22 = .ok (.iconst 0, 1) := by decide +kernel
theorem dL_mayBuild_23 : decode cL_mayBuild 23 = .ok (.ireturn, 1) := by decide +kernel
theorem dL_settler_0 : decode cL_settler 0 = .ok (.aload 8, 2) := by decide +kernel
theorem dL_settler_2 : decode cL_settler 2 = .ok (.iconst 0, 1) := by decide +kernel
theorem dL_settler_3 : decode cL_settler 3 = .ok (.aload_n 0, 1) := by decide +kernel
theorem dL_settler_4 : decode cL_settler 4 = .ok (.iload_n 1, 1) := by decide +kernel
theorem dL_settler_5 : decode cL_settler 5 = .ok (.iload_n 2, 1) := by decide +kernel
theorem dL_settler_6 : decode cL_settler 6 = .ok (.iload_n 3, 1) := by decide +kernel
theorem dL_settler_7 : decode cL_settler 7 = .ok (.iload 4, 2) := by decide +kernel
theorem dL_settler_9 : decode cL_settler 9 = .ok (.iload 5, 2) := by decide +kernel
theorem dL_settler_11 : decode cL_settler 11 = .ok (.iload 6, 2) := by decide +kernel
theorem dL_settler_13 : decode cL_settler 13 = .ok (.iload 7, 2) := by decide +kernel
theorem dL_settler_15 : decode cL_settler 15 = .ok (.invokevirtual 110, 3) := by decide +kernel
theorem dL_settler_18 : decode cL_settler 18 = .ok (.i2l, 1) := by decide +kernel
theorem dL_settler_19 : decode cL_settler 19 = .ok (.lastore, 1) := by decide +kernel
theorem dL_settler_20 : decode cL_settler 20 = .ok (.goto 11, 3) := by decide +kernel
theorem dL_settler_23 : decode cL_settler 23 = .ok (.astore 9, 2) := by decide +kernel
theorem dL_settler_25 : decode cL_settler 25 = .ok (.iconst 1, 1) := by decide +kernel
theorem dL_settler_26 : decode cL_settler 26 = .ok (.ireturn, 1) := by decide +kernel
theorem dL_settler_27 : decode cL_settler 27 = .ok (.astore 9, 2) := by decide +kernel
theorem dL_settler_29 : decode cL_settler 29 = .ok (.iconst 2, 1) := by decide +kernel
theorem dL_settler_30 : decode cL_settler 30 = .ok (.ireturn, 1) := by decide +kernel
theorem dL_settler_31 : decode cL_settler 31 = .ok (.iconst 0, 1) := by decide +kernel
theorem dL_settler_32 : decode cL_settler 32 = .ok (.ireturn, 1) := by decide +kernel
theorem dL_farm_0 : decode cL_farm 0 = .ok (.aload_n 3, 1) := by decide +kernel
theorem dL_farm_1 : decode cL_farm 1 = .ok (.iconst 0, 1) := by decide +kernel
theorem dL_farm_2 : decode cL_farm 2 = .ok (.aload_n 0, 1) := by decide +kernel
theorem dL_farm_3 : decode cL_farm 3 = .ok (.iload_n 1, 1) := by decide +kernel
theorem dL_farm_4 : decode cL_farm 4 = .ok (.iload_n 2, 1) := by decide +kernel
theorem dL_farm_5 : decode cL_farm 5 = .ok (.invokevirtual 114, 3) := by decide +kernel
theorem dL_farm_8 : decode cL_farm 8 = .ok (.i2l, 1) := by decide +kernel
theorem dL_farm_9 : decode cL_farm 9 = .ok (.lastore, 1) := by decide +kernel
theorem dL_farm_10 : decode cL_farm 10 = .ok (.goto 7, 3) := by decide +kernel
theorem dL_farm_13 : decode cL_farm 13 = .ok (.astore 4, 2) := by decide +kernel
theorem dL_farm_15 : decode cL_farm 15 = .ok (.iconst 1, 1) := by decide +kernel
theorem dL_farm_16 : decode cL_farm 16 = .ok (.ireturn, 1) := by decide +kernel
theorem dL_farm_17 : decode cL_farm 17 = .ok (.iconst 0, 1) := by decide +kernel
theorem dL_farm_18 : decode cL_farm 18 = .ok (.ireturn, 1) := by decide +kernel
theorem dL_worth_0 : decode cL_worth 0 = .ok (.aload_n 2, 1) := by decide +kernel
theorem dL_worth_1 : decode cL_worth 1 = .ok (.iconst 0, 1) := by decide +kernel
theorem dL_worth_2 : decode cL_worth 2 = .ok (.aload_n 0, 1) := by decide +kernel
theorem dL_worth_3 : decode cL_worth 3 = .ok (.iload_n 1, 1) := by decide +kernel
theorem dL_worth_4 : decode cL_worth 4 = .ok (.invokevirtual 117, 3) := by decide +kernel
theorem dL_worth_7 : decode cL_worth 7 = .ok (.i2l, 1) := by decide +kernel
theorem dL_worth_8 : decode cL_worth 8 = .ok (.lastore, 1) := by decide +kernel
theorem dL_worth_9 : decode cL_worth 9 = .ok (.goto 6, 3) := by decide +kernel
theorem dL_worth_12 : decode cL_worth 12 = .ok (.astore_n 3, 1) := by decide +kernel
theorem dL_worth_13 : decode cL_worth 13 = .ok (.iconst 1, 1) := by decide +kernel
theorem dL_worth_14 : decode cL_worth 14 = .ok (.ireturn, 1) := by decide +kernel
theorem dL_worth_15 : decode cL_worth 15 = .ok (.iconst 0, 1) := by decide +kernel
theorem dL_worth_16 : decode cL_worth 16 = .ok (.ireturn, 1) := by decide +kernel
theorem dL_choose_0 : decode cL_choose 0 = .ok (.aload_n 2, 1) := by decide +kernel
theorem dL_choose_1 : decode cL_choose 1 = .ok (.iconst 0, 1) := by decide +kernel
theorem dL_choose_2 : decode cL_choose 2 = .ok (.aload_n 0, 1) := by decide +kernel
theorem dL_choose_3 : decode cL_choose 3 = .ok (.iload_n 1, 1) := by decide +kernel
theorem dL_choose_4 : decode cL_choose 4 = .ok (.invokevirtual 120, 3) := by decide +kernel
theorem dL_choose_7 : decode cL_choose 7 = .ok (.i2l, 1) := by decide +kernel
theorem dL_choose_8 : decode cL_choose 8 = .ok (.lastore, 1) := by decide +kernel
theorem dL_choose_9 : decode cL_choose 9 = .ok (.goto 6, 3) := by decide +kernel
theorem dL_choose_12 : decode cL_choose 12 = .ok (.astore_n 3, 1) := by decide +kernel
theorem dL_choose_13 : decode cL_choose 13 = .ok (.iconst 1, 1) := by decide +kernel
theorem dL_choose_14 : decode cL_choose 14 = .ok (.ireturn, 1) := by decide +kernel
theorem dL_choose_15 : decode cL_choose 15 = .ok (.iconst 0, 1) := by decide +kernel
theorem dL_choose_16 : decode cL_choose 16 = .ok (.ireturn, 1) := by decide +kernel
theorem dL_sow_0 : decode cL_sow 0 = .ok (.aload_n 3, 1) := by decide +kernel
theorem dL_sow_1 : decode cL_sow 1 = .ok (.iconst 0, 1) := by decide +kernel
theorem dL_sow_2 : decode cL_sow 2 = .ok (.aload_n 0, 1) := by decide +kernel
theorem dL_sow_3 : decode cL_sow 3 = .ok (.iload_n 1, 1) := by decide +kernel
theorem dL_sow_4 : decode cL_sow 4 = .ok (.iload_n 2, 1) := by decide +kernel
theorem dL_sow_5 : decode cL_sow 5 = .ok (.invokevirtual 123, 3) := by decide +kernel
theorem dL_sow_8 : decode cL_sow 8 = .ok (.ifCond .eq 7, 3) := by decide +kernel
theorem dL_sow_11 : decode cL_sow 11 = .ok (.lconst 1, 1) := by decide +kernel
theorem dL_sow_12 : decode cL_sow 12 = .ok (.goto 4, 3) := by decide +kernel
theorem dL_sow_15 : decode cL_sow 15 = .ok (.lconst 0, 1) := by decide +kernel
theorem dL_sow_16 : decode cL_sow 16 = .ok (.lastore, 1) := by decide +kernel
theorem dL_sow_17 : decode cL_sow 17 = .ok (.goto 11, 3) := by decide +kernel
theorem dL_sow_20 : decode cL_sow 20 = .ok (.astore 4, 2) := by decide +kernel
theorem dL_sow_22 : decode cL_sow 22 = .ok (.iconst 1, 1) := by decide +kernel
theorem dL_sow_23 : decode cL_sow 23 = .ok (.ireturn, 1) := by decide +kernel
theorem dL_sow_24 : decode cL_sow 24 = .ok (.astore 4, 2) := by decide +kernel
theorem dL_sow_26 : decode cL_sow 26 = .ok (.iconst 2, 1) := by decide +kernel
theorem dL_sow_27 : decode cL_sow 27 = .ok (.ireturn, 1) := by decide +kernel
theorem dL_sow_28 : decode cL_sow 28 = .ok (.iconst 0, 1) := by decide +kernel
theorem dL_sow_29 : decode cL_sow 29 = .ok (.ireturn, 1) := by decide +kernel
theorem dL_come_0 : decode cL_come 0 = .ok (.aload_n 2, 1) := by decide +kernel
theorem dL_come_1 : decode cL_come 1 = .ok (.iconst 0, 1) := by decide +kernel
theorem dL_come_2 : decode cL_come 2 = .ok (.aload_n 0, 1) := by decide +kernel
theorem dL_come_3 : decode cL_come 3 = .ok (.iload_n 1, 1) := by decide +kernel
theorem dL_come_4 : decode cL_come 4 = .ok (.invokevirtual 127, 3) := by decide +kernel
theorem dL_come_7 : decode cL_come 7 = .ok (.ifCond .eq 7, 3) := by decide +kernel
theorem dL_come_10 : decode cL_come 10 = .ok (.lconst 1, 1) := by decide +kernel
theorem dL_come_11 : decode cL_come 11 = .ok (.goto 4, 3) := by decide +kernel
theorem dL_come_14 : decode cL_come 14 = .ok (.lconst 0, 1) := by decide +kernel
theorem dL_come_15 : decode cL_come 15 = .ok (.lastore, 1) := by decide +kernel
theorem dL_come_16 : decode cL_come 16 = .ok (.goto 6, 3) := by decide +kernel
theorem dL_come_19 : decode cL_come 19 = .ok (.astore_n 3, 1) := by decide +kernel
theorem dL_come_20 : decode cL_come 20 = .ok (.iconst 1, 1) := by decide +kernel
theorem dL_come_21 : decode cL_come 21 = .ok (.ireturn, 1) := by decide +kernel
theorem dL_come_22 : decode cL_come 22 = .ok (.iconst 0, 1) := by decide +kernel
theorem dL_come_23 : decode cL_come 23 = .ok (.ireturn, 1) := by decide +kernel
theorem dL_who_0 : decode cL_who 0 = .ok (.aload_n 3, 1) := by decide +kernel
theorem dL_who_1 : decode cL_who 1 = .ok (.iconst 0, 1) := by decide +kernel
theorem dL_who_2 : decode cL_who 2 = .ok (.aload_n 0, 1) := by decide +kernel
theorem dL_who_3 : decode cL_who 3 = .ok (.iload_n 1, 1) := by decide +kernel
theorem dL_who_4 : decode cL_who 4 = .ok (.iload_n 2, 1) := by decide +kernel
theorem dL_who_5 : decode cL_who 5 = .ok (.invokevirtual 130, 3) := by decide +kernel
theorem dL_who_8 : decode cL_who 8 = .ok (.i2l, 1) := by decide +kernel
theorem dL_who_9 : decode cL_who 9 = .ok (.lastore, 1) := by decide +kernel
theorem dL_who_10 : decode cL_who 10 = .ok (.goto 11, 3) := by decide +kernel
theorem dL_who_13 : decode cL_who 13 = .ok (.astore 4, 2) := by decide +kernel
theorem dL_who_15 : decode cL_who 15 = .ok (.iconst 1, 1) := by decide +kernel
theorem dL_who_16 : decode cL_who 16 = .ok (.ireturn, 1) := by decide +kernel
theorem dL_who_17 : decode cL_who 17 = .ok (.astore 4, 2) := by decide +kernel
theorem dL_who_19 : decode cL_who 19 = .ok (.iconst 2, 1) := by decide +kernel
theorem dL_who_20 : decode cL_who 20 = .ok (.ireturn, 1) := by decide +kernel
theorem dL_who_21 : decode cL_who 21 = .ok (.iconst 0, 1) := by decide +kernel
theorem dL_who_22 : decode cL_who 22 = .ok (.ireturn, 1) := by decide +kernel
theorem dL_coin_0 : decode cL_coin 0 = .ok (.aload_n 2, 1) := by decide +kernel
theorem dL_coin_1 : decode cL_coin 1 = .ok (.iconst 0, 1) := by decide +kernel
theorem dL_coin_2 : decode cL_coin 2 = .ok (.aload_n 0, 1) := by decide +kernel
theorem dL_coin_3 : decode cL_coin 3 = .ok (.iload_n 1, 1) := by decide +kernel
theorem dL_coin_4 : decode cL_coin 4 = .ok (.invokevirtual 133, 3) := by decide +kernel
theorem dL_coin_7 : decode cL_coin 7 = .ok (.i2l, 1) := by decide +kernel
theorem dL_coin_8 : decode cL_coin 8 = .ok (.lastore, 1) := by decide +kernel
theorem dL_coin_9 : decode cL_coin 9 = .ok (.goto 6, 3) := by decide +kernel
theorem dL_coin_12 : decode cL_coin 12 = .ok (.astore_n 3, 1) := by decide +kernel
theorem dL_coin_13 : decode cL_coin 13 = .ok (.iconst 1, 1) := by decide +kernel
theorem dL_coin_14 : decode cL_coin 14 = .ok (.ireturn, 1) := by decide +kernel
theorem dL_coin_15 : decode cL_coin 15 = .ok (.iconst 0, 1) := by decide +kernel
theorem dL_coin_16 : decode cL_coin 16 = .ok (.ireturn, 1) := by decide +kernel
theorem dL_contract_0 : decode cL_contract 0 = .ok (.aload 5, 2) := by decide +kernel
theorem dL_contract_2 : decode cL_contract 2 = .ok (.iconst 0, 1) := by decide +kernel
theorem dL_contract_3 : decode cL_contract 3 = .ok (.aload_n 0, 1) := by decide +kernel
theorem dL_contract_4 : decode cL_contract 4 = .ok (.iload_n 1, 1) := by decide +kernel
theorem dL_contract_5 : decode cL_contract 5 = .ok (.iload_n 2, 1) := by decide +kernel
theorem dL_contract_6 : decode cL_contract 6 = .ok (.iload_n 3, 1) := by decide +kernel
theorem dL_contract_7 : decode cL_contract 7 = .ok (.iload 4, 2) := by decide +kernel
theorem dL_contract_9 : decode cL_contract 9 = .ok (.invokevirtual 136, 3) := by decide +kernel
theorem dL_contract_12 : decode cL_contract 12 = .ok (.i2l, 1) := by decide +kernel
theorem dL_contract_13 : decode cL_contract 13 = .ok (.lastore, 1) := by decide +kernel
theorem dL_contract_14 : decode cL_contract 14 = .ok (.goto 15, 3) := by decide +kernel
theorem dL_contract_17 : decode cL_contract 17 = .ok (.astore 6, 2) := by decide +kernel
theorem dL_contract_19 : decode cL_contract 19 = .ok (.iconst 1, 1) := by decide +kernel
theorem dL_contract_20 : decode cL_contract 20 = .ok (.ireturn, 1) := by decide +kernel
theorem dL_contract_21 : decode cL_contract 21 = .ok (.astore 6, 2) := by decide +kernel
theorem dL_contract_23 : decode cL_contract 23 = .ok (.iconst 2, 1) := by decide +kernel
theorem dL_contract_24 : decode cL_contract 24 = .ok (.ireturn, 1) := by decide +kernel
theorem dL_contract_25 : decode cL_contract 25 = .ok (.astore 6, 2) := by decide +kernel
theorem dL_contract_27 : decode cL_contract 27 = .ok (.iconst 3, 1) := by decide +kernel
theorem dL_contract_28 : decode cL_contract 28 = .ok (.ireturn, 1) := by decide +kernel
theorem dL_contract_29 : decode cL_contract 29 = .ok (.iconst 0, 1) := by decide +kernel
theorem dL_contract_30 : decode cL_contract 30 = .ok (.ireturn, 1) := by decide +kernel
theorem dL_measure_0 : decode cL_measure 0 = .ok (.aload_n 3, 1) := by decide +kernel
theorem dL_measure_1 : decode cL_measure 1 = .ok (.iconst 0, 1) := by decide +kernel
theorem dL_measure_2 : decode cL_measure 2 = .ok (.aload_n 0, 1) := by decide +kernel
theorem dL_measure_3 : decode cL_measure 3 = .ok (.iload_n 1, 1) := by decide +kernel
theorem dL_measure_4 : decode cL_measure 4 = .ok (.iload_n 2, 1) := by decide +kernel
theorem dL_measure_5 : decode cL_measure 5 = .ok (.invokevirtual 139, 3) := by decide +kernel
theorem dL_measure_8 : decode cL_measure 8 = .ok (.ifCond .eq 7, 3) := by decide +kernel
theorem dL_measure_11 : decode cL_measure 11 = .ok (.lconst 1, 1) := by decide +kernel
theorem dL_measure_12 : decode cL_measure 12 = .ok (.goto 4, 3) := by decide +kernel
theorem dL_measure_15 : decode cL_measure 15 = .ok (.lconst 0, 1) := by decide +kernel
theorem dL_measure_16 : decode cL_measure 16 = .ok (.lastore, 1) := by decide +kernel
theorem dL_measure_17 : decode cL_measure 17 = .ok (.goto 15, 3) := by decide +kernel
theorem dL_measure_20 : decode cL_measure 20 = .ok (.astore 4, 2) := by decide +kernel
theorem dL_measure_22 : decode cL_measure 22 = .ok (.iconst 1, 1) := by decide +kernel
theorem dL_measure_23 : decode cL_measure 23 = .ok (.ireturn, 1) := by decide +kernel
theorem dL_measure_24 : decode cL_measure 24 = .ok (.astore 4, 2) := by decide +kernel
theorem dL_measure_26 : decode cL_measure 26 = .ok (.iconst 2, 1) := by decide +kernel
theorem dL_measure_27 : decode cL_measure 27 = .ok (.ireturn, 1) := by decide +kernel
theorem dL_measure_28 : decode cL_measure 28 = .ok (.astore 4, 2) := by decide +kernel
theorem dL_measure_30 : decode cL_measure 30 = .ok (.iconst 3, 1) := by decide +kernel
theorem dL_measure_31 : decode cL_measure 31 = .ok (.ireturn, 1) := by decide +kernel
theorem dL_measure_32 : decode cL_measure 32 = .ok (.iconst 0, 1) := by decide +kernel
theorem dL_measure_33 : decode cL_measure 33 = .ok (.ireturn, 1) := by decide +kernel
theorem dL_yards_0 : decode cL_yards 0 = .ok (.aload_n 3, 1) := by decide +kernel
theorem dL_yards_1 : decode cL_yards 1 = .ok (.iconst 0, 1) := by decide +kernel
theorem dL_yards_2 : decode cL_yards 2 = .ok (.aload_n 0, 1) := by decide +kernel
theorem dL_yards_3 : decode cL_yards 3 = .ok (.iload_n 1, 1) := by decide +kernel
theorem dL_yards_4 : decode cL_yards 4 = .ok (.iload_n 2, 1) := by decide +kernel
theorem dL_yards_5 : decode cL_yards 5 = .ok (.invokevirtual 142, 3) := by decide +kernel
theorem dL_yards_8 : decode cL_yards 8 = .ok (.i2l, 1) := by decide +kernel
theorem dL_yards_9 : decode cL_yards 9 = .ok (.lastore, 1) := by decide +kernel
theorem dL_yards_10 : decode cL_yards 10 = .ok (.goto 7, 3) := by decide +kernel
theorem dL_yards_13 : decode cL_yards 13 = .ok (.astore 4, 2) := by decide +kernel
theorem dL_yards_15 : decode cL_yards 15 = .ok (.iconst 1, 1) := by decide +kernel
theorem dL_yards_16 : decode cL_yards 16 = .ok (.ireturn, 1) := by decide +kernel
theorem dL_yards_17 : decode cL_yards 17 = .ok (.iconst 0, 1) := by decide +kernel
theorem dL_yards_18 : decode cL_yards 18 = .ok (.ireturn, 1) := by decide +kernel
theorem dL_pay_0 : decode cL_pay 0 = .ok (.aload_n 2, 1) := by decide +kernel
theorem dL_pay_1 : decode cL_pay 1 = .ok (.iconst 0, 1) := by decide +kernel
theorem dL_pay_2 : decode cL_pay 2 = .ok (.aload_n 0, 1) := by decide +kernel
theorem dL_pay_3 : decode cL_pay 3 = .ok (.iload_n 1, 1) := by decide +kernel
theorem dL_pay_4 : decode cL_pay 4 = .ok (.invokevirtual 145, 3) := by decide +kernel
theorem dL_pay_7 : decode cL_pay 7 = .ok (.i2l, 1) := by decide +kernel
theorem dL_pay_8 : decode cL_pay 8 = .ok (.lastore, 1) := by decide +kernel
theorem dL_pay_9 : decode cL_pay 9 = .ok (.goto 6, 3) := by decide +kernel
theorem dL_pay_12 : decode cL_pay 12 = .ok (.astore_n 3, 1) := by decide +kernel
theorem dL_pay_13 : decode cL_pay 13 = .ok (.iconst 1, 1) := by decide +kernel
theorem dL_pay_14 : decode cL_pay 14 = .ok (.ireturn, 1) := by decide +kernel
theorem dL_pay_15 : decode cL_pay 15 = .ok (.iconst 0, 1) := by decide +kernel
theorem dL_pay_16 : decode cL_pay 16 = .ok (.ireturn, 1) := by decide +kernel
theorem dL_lifts_0 : decode cL_lifts 0 = .ok (.aload 5, 2) := by decide +kernel
theorem dL_lifts_2 : decode cL_lifts 2 = .ok (.iconst 0, 1) := by decide +kernel
theorem dL_lifts_3 : decode cL_lifts 3 = .ok (.aload_n 0, 1) := by decide +kernel
theorem dL_lifts_4 : decode cL_lifts 4 = .ok (.iload_n 1, 1) := by decide +kernel
theorem dL_lifts_5 : decode cL_lifts 5 = .ok (.iload_n 2, 1) := by decide +kernel
theorem dL_lifts_6 : decode cL_lifts 6 = .ok (.iload_n 3, 1) := by decide +kernel
theorem dL_lifts_7 : decode cL_lifts 7 = .ok (.iload 4, 2) := by decide +kernel
theorem dL_lifts_9 : decode cL_lifts 9 = .ok (.invokevirtual 148, 3) := by decide +kernel
theorem dL_lifts_12 : decode cL_lifts 12 = .ok (.i2l, 1) := by decide +kernel
theorem dL_lifts_13 : decode cL_lifts 13 = .ok (.lastore, 1) := by decide +kernel
theorem dL_lifts_14 : decode cL_lifts 14 = .ok (.goto 7, 3) := by decide +kernel
theorem dL_lifts_17 : decode cL_lifts 17 = .ok (.astore 6, 2) := by decide +kernel
theorem dL_lifts_19 : decode cL_lifts 19 = .ok (.iconst 1, 1) := by decide +kernel
theorem dL_lifts_20 : decode cL_lifts 20 = .ok (.ireturn, 1) := by decide +kernel
theorem dL_lifts_21 : decode cL_lifts 21 = .ok (.iconst 0, 1) := by decide +kernel
theorem dL_lifts_22 : decode cL_lifts 22 = .ok (.ireturn, 1) := by decide +kernel
theorem dL_soonest_0 : decode cL_soonest 0 = .ok (.aload 4, 2) := by decide +kernel
theorem dL_soonest_2 : decode cL_soonest 2 = .ok (.iconst 0, 1) := by decide +kernel
theorem dL_soonest_3 : decode cL_soonest 3 = .ok (.aload_n 0, 1) := by decide +kernel
theorem dL_soonest_4 : decode cL_soonest 4 = .ok (.iload_n 1, 1) := by decide +kernel
theorem dL_soonest_5 : decode cL_soonest 5 = .ok (.iload_n 2, 1) := by decide +kernel
theorem dL_soonest_6 : decode cL_soonest 6 = .ok (.iload_n 3, 1) := by decide +kernel
theorem dL_soonest_7 : decode cL_soonest 7 = .ok (.invokevirtual 151, 3) := by decide +kernel
theorem dL_soonest_10 : decode cL_soonest 10 = .ok (.i2l, 1) := by decide +kernel
theorem dL_soonest_11 : decode cL_soonest 11 = .ok (.lastore, 1) := by decide +kernel
theorem dL_soonest_12 : decode cL_soonest 12 = .ok (.goto 15, 3) := by decide +kernel
theorem dL_soonest_15 : decode cL_soonest 15 = .ok (.astore 5, 2) := by decide +kernel
theorem dL_soonest_17 : decode cL_soonest 17 = .ok (.iconst 1, 1) := by decide +kernel
theorem dL_soonest_18 : decode cL_soonest 18 = .ok (.ireturn, 1) := by decide +kernel
theorem dL_soonest_19 : decode cL_soonest 19 = .ok (.astore 5, 2) := by decide +kernel
theorem dL_soonest_21 : decode cL_soonest 21 = .ok (.iconst 2, 1) := by decide +kernel
theorem dL_soonest_22 : decode cL_soonest 22 = .ok (.ireturn, 1) := by decide +kernel
theorem dL_soonest_23 : decode cL_soonest 23 = .ok (.astore 5, 2) := by decide +kernel
theorem dL_soonest_25 : decode cL_soonest 25 = .ok (.iconst 3, 1) := by decide +kernel
theorem dL_soonest_26 : decode cL_soonest 26 = .ok (.ireturn, 1) := by decide +kernel
theorem dL_soonest_27 : decode cL_soonest 27 = .ok (.iconst 0, 1) := by decide +kernel
theorem dL_soonest_28 : decode cL_soonest 28 = .ok (.ireturn, 1) := by decide +kernel
theorem dL_levels_0 : decode cL_levels 0 = .ok (.aload_n 3, 1) := by decide +kernel
theorem dL_levels_1 : decode cL_levels 1 = .ok (.iconst 0, 1) := by decide +kernel
theorem dL_levels_2 : decode cL_levels 2 = .ok (.aload_n 0, 1) := by decide +kernel
theorem dL_levels_3 : decode cL_levels 3 = .ok (.iload_n 1, 1) := by decide +kernel
theorem dL_levels_4 : decode cL_levels 4 = .ok (.iload_n 2, 1) := by decide +kernel
theorem dL_levels_5 : decode cL_levels 5 = .ok (.invokevirtual 154, 3) := by decide +kernel
theorem dL_levels_8 : decode cL_levels 8 = .ok (.i2l, 1) := by decide +kernel
theorem dL_levels_9 : decode cL_levels 9 = .ok (.lastore, 1) := by decide +kernel
theorem dL_levels_10 : decode cL_levels 10 = .ok (.goto 11, 3) := by decide +kernel
theorem dL_levels_13 : decode cL_levels 13 = .ok (.astore 4, 2) := by decide +kernel
theorem dL_levels_15 : decode cL_levels 15 = .ok (.iconst 1, 1) := by decide +kernel
theorem dL_levels_16 : decode cL_levels 16 = .ok (.ireturn, 1) := by decide +kernel
theorem dL_levels_17 : decode cL_levels 17 = .ok (.astore 4, 2) := by decide +kernel
theorem dL_levels_19 : decode cL_levels 19 = .ok (.iconst 2, 1) := by decide +kernel
theorem dL_levels_20 : decode cL_levels 20 = .ok (.ireturn, 1) := by decide +kernel
theorem dL_levels_21 : decode cL_levels 21 = .ok (.iconst 0, 1) := by decide +kernel
theorem dL_levels_22 : decode cL_levels 22 = .ok (.ireturn, 1) := by decide +kernel
theorem dL_job_0 : decode cL_job 0 = .ok (.aload 5, 2) := by decide +kernel
theorem dL_job_2 : decode cL_job 2 = .ok (.iconst 0, 1) := by decide +kernel
theorem dL_job_3 : decode cL_job 3 = .ok (.aload_n 0, 1) := by decide +kernel
theorem dL_job_4 : decode cL_job 4 = .ok (.iload_n 1, 1) := by decide +kernel
theorem dL_job_5 : decode cL_job 5 = .ok (.iload_n 2, 1) := by decide +kernel
theorem dL_job_6 : decode cL_job 6 = .ok (.iload_n 3, 1) := by decide +kernel
theorem dL_job_7 : decode cL_job 7 = .ok (.iload 4, 2) := by decide +kernel
theorem dL_job_9 : decode cL_job 9 = .ok (.invokevirtual 157, 3) := by decide +kernel
theorem dL_job_12 : decode cL_job 12 = .ok (.i2l, 1) := by decide +kernel
theorem dL_job_13 : decode cL_job 13 = .ok (.lastore, 1) := by decide +kernel
theorem dL_job_14 : decode cL_job 14 = .ok (.goto 7, 3) := by decide +kernel
theorem dL_job_17 : decode cL_job 17 = .ok (.astore 6, 2) := by decide +kernel
theorem dL_job_19 : decode cL_job 19 = .ok (.iconst 1, 1) := by decide +kernel
theorem dL_job_20 : decode cL_job 20 = .ok (.ireturn, 1) := by decide +kernel
theorem dL_job_21 : decode cL_job 21 = .ok (.iconst 0, 1) := by decide +kernel
theorem dL_job_22 : decode cL_job 22 = .ok (.ireturn, 1) := by decide +kernel
theorem dL_order_0 : decode cL_order 0 = .ok (.aload_n 3, 1) := by decide +kernel
theorem dL_order_1 : decode cL_order 1 = .ok (.iconst 0, 1) := by decide +kernel
theorem dL_order_2 : decode cL_order 2 = .ok (.aload_n 0, 1) := by decide +kernel
theorem dL_order_3 : decode cL_order 3 = .ok (.iload_n 1, 1) := by decide +kernel
theorem dL_order_4 : decode cL_order 4 = .ok (.iload_n 2, 1) := by decide +kernel
theorem dL_order_5 : decode cL_order 5 = .ok (.invokevirtual 160, 3) := by decide +kernel
theorem dL_order_8 : decode cL_order 8 = .ok (.i2l, 1) := by decide +kernel
theorem dL_order_9 : decode cL_order 9 = .ok (.lastore, 1) := by decide +kernel
theorem dL_order_10 : decode cL_order 10 = .ok (.goto 7, 3) := by decide +kernel
theorem dL_order_13 : decode cL_order 13 = .ok (.astore 4, 2) := by decide +kernel
theorem dL_order_15 : decode cL_order 15 = .ok (.iconst 1, 1) := by decide +kernel
theorem dL_order_16 : decode cL_order 16 = .ok (.ireturn, 1) := by decide +kernel
theorem dL_order_17 : decode cL_order 17 = .ok (.iconst 0, 1) := by decide +kernel
theorem dL_order_18 : decode cL_order 18 = .ok (.ireturn, 1) := by decide +kernel
theorem dL_row_0 : decode cL_row 0 = .ok (.aload_n 3, 1) := by decide +kernel
theorem dL_row_1 : decode cL_row 1 = .ok (.iconst 0, 1) := by decide +kernel
theorem dL_row_2 : decode cL_row 2 = .ok (.aload_n 0, 1) := by decide +kernel
theorem dL_row_3 : decode cL_row 3 = .ok (.iload_n 1, 1) := by decide +kernel
theorem dL_row_4 : decode cL_row 4 = .ok (.iload_n 2, 1) := by decide +kernel
theorem dL_row_5 : decode cL_row 5 = .ok (.invokevirtual 163, 3) := by decide +kernel
theorem dL_row_8 : decode cL_row 8 = .ok (.i2l, 1) := by decide +kernel
theorem dL_row_9 : decode cL_row 9 = .ok (.lastore, 1) := by decide +kernel
theorem dL_row_10 : decode cL_row 10 = .ok (.goto 11, 3) := by decide +kernel
theorem dL_row_13 : decode cL_row 13 = .ok (.astore 4, 2) := by decide +kernel
theorem dL_row_15 : decode cL_row 15 = .ok (.iconst 1, 1) := by decide +kernel
theorem dL_row_16 : decode cL_row 16 = .ok (.ireturn, 1) := by decide +kernel
theorem dL_row_17 : decode cL_row 17 = .ok (.astore 4, 2) := by decide +kernel
theorem dL_row_19 : decode cL_row 19 = .ok (.iconst 2, 1) := by decide +kernel
theorem dL_row_20 : decode cL_row 20 = .ok (.ireturn, 1) := by decide +kernel
theorem dL_row_21 : decode cL_row 21 = .ok (.iconst 0, 1) := by decide +kernel
theorem dL_row_22 : decode cL_row 22 = .ok (.ireturn, 1) := by decide +kernel
theorem dL_tear_0 : decode cL_tear 0 = .ok (.aload 4, 2) := by decide +kernel
theorem dL_tear_2 : decode cL_tear 2 = .ok (.iconst 0, 1) := by decide +kernel
theorem dL_tear_3 : decode cL_tear 3 = .ok (.aload_n 0, 1) := by decide +kernel
theorem dL_tear_4 : decode cL_tear 4 = .ok (.iload_n 1, 1) := by decide +kernel
theorem dL_tear_5 : decode cL_tear 5 = .ok (.iload_n 2, 1) := by decide +kernel
theorem dL_tear_6 : decode cL_tear 6 = .ok (.iload_n 3, 1) := by decide +kernel
theorem dL_tear_7 : decode cL_tear 7 = .ok (.invokevirtual 166, 3) := by decide +kernel
theorem dL_tear_10 : decode cL_tear 10 = .ok (.i2l, 1) := by decide +kernel
theorem dL_tear_11 : decode cL_tear 11 = .ok (.lastore, 1) := by decide +kernel
theorem dL_tear_12 : decode cL_tear 12 = .ok (.goto 11, 3) := by decide +kernel
theorem dL_tear_15 : decode cL_tear 15 = .ok (.astore 5, 2) := by decide +kernel
theorem dL_tear_17 : decode cL_tear 17 = .ok (.iconst 1, 1) := by decide +kernel
theorem dL_tear_18 : decode cL_tear 18 = .ok (.ireturn, 1) := by decide +kernel
theorem dL_tear_19 : decode cL_tear 19 = .ok (.astore 5, 2) := by decide +kernel
theorem dL_tear_21 : decode cL_tear 21 = .ok (.iconst 2, 1) := by decide +kernel
theorem dL_tear_22 : decode cL_tear 22 = .ok (.ireturn, 1) := by decide +kernel
theorem dL_tear_23 : decode cL_tear 23 = .ok (.iconst 0, 1) := by decide +kernel
theorem dL_tear_24 : decode cL_tear 24 = .ok (.ireturn, 1) := by decide +kernel
