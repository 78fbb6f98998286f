theorem dL_jar_0 : decode cL_jar 0 = .ok (.aload_n 3, 1) := by decide +kernel
theorem dL_jar_1 : decode cL_jar 1 = .ok (.iconst 0, 1) := by decide +kernel
theorem dL_jar_2 : decode cL_jar 2 = .ok (.aload_n 0, 1) := by decide +kernel
theorem dL_jar_3 : decode cL_jar 3 = .ok (.iload_n 1, 1) := by decide +kernel
theorem dL_jar_4 : decode cL_jar 4 = .ok (.iload_n 2, 1) := by decide +kernel
theorem dL_jar_5 : decode cL_jar 5 = .ok (.invokevirtual 7, 3) := by decide +kernel
theorem dL_jar_8 : decode cL_jar 8 = .ok (.i2l, 1) := by decide +kernel
theorem dL_jar_9 : decode cL_jar 9 = .ok (.lastore, 1) := by decide +kernel
theorem dL_jar_10 : decode cL_jar 10 = .ok (.goto 7, 3) := by decide +kernel
theorem dL_jar_13 : decode cL_jar 13 = .ok (.astore 4, 2) := by decide +kernel
theorem dL_jar_15 : decode cL_jar 15 = .ok (.iconst 1, 1) := by decide +kernel
theorem dL_jar_16 : decode cL_jar 16 = .ok (.ireturn, 1) := by decide +kernel
theorem dL_jar_17 : decode cL_jar 17 = .ok (.iconst 0, 1) := by decide +kernel
theorem dL_jar_18 : decode cL_jar 18 = .ok (.ireturn, 1) := by decide +kernel
theorem dL_bag_0 : decode cL_bag 0 = .ok (.aload_n 2, 1) := by decide +kernel
theorem dL_bag_1 : decode cL_bag 1 = .ok (.iconst 0, 1) := by decide +kernel
theorem dL_bag_2 : decode cL_bag 2 = .ok (.aload_n 0, 1) := by decide +kernel
theorem dL_bag_3 : decode cL_bag 3 = .ok (.iload_n 1, 1) := by decide +kernel
theorem dL_bag_4 : decode cL_bag 4 = .ok (.invokevirtual 15, 3) := by decide +kernel
theorem dL_bag_7 : decode cL_bag 7 = .ok (.i2l, 1) := by decide +kernel
theorem dL_bag_8 : decode cL_bag 8 = .ok (.lastore, 1) := by decide +kernel
theorem dL_bag_9 : decode cL_bag 9 = .ok (.goto 6, 3) := by decide +kernel
theorem dL_bag_12 : decode cL_bag 12 = .ok (.astore_n 3, 1) := by decide +kernel
theorem dL_bag_13 : decode cL_bag 13 = .ok (.iconst 1, 1) := by decide +kernel
theorem dL_bag_14 : decode cL_bag 14 = .ok (.ireturn, 1) := by decide +kernel
theorem dL_bag_15 : decode cL_bag 15 = .ok (.iconst 0, 1) := by decide +kernel
theorem dL_bag_16 : decode cL_bag 16 = .ok (.ireturn, 1) := by decide +kernel
theorem dL_fill_0 : decode cL_fill 0 = .ok (.aload 4, 2) := by decide +kernel
theorem dL_fill_2 : decode cL_fill 2 = .ok (.iconst 0, 1) := by decide +kernel
theorem dL_fill_3 : decode cL_fill 3 = .ok (.aload_n 0, 1) := by decide +kernel
theorem dL_fill_4 : decode cL_fill 4 = .ok (.iload_n 1, 1) := by decide +kernel
theorem dL_fill_5 : decode cL_fill 5 = .ok (.iload_n 2, 1) := by decide +kernel
theorem dL_fill_6 : decode cL_fill 6 = .ok (.iload_n 3, 1) := by decide +kernel
theorem dL_fill_7 : decode cL_fill 7 = .ok (.invokevirtual 19, 3) := by decide +kernel
theorem dL_fill_10 : decode cL_fill 10 = .ok (.i2l, 1) := by decide +kernel
theorem dL_fill_11 : decode cL_fill 11 = .ok (.lastore, 1) := by decide +kernel
theorem dL_fill_12 : decode cL_fill 12 = .ok (.goto 7, 3) := by decide +kernel
theorem dL_fill_15 : decode cL_fill 15 = .ok (.astore 5, 2) := by decide +kernel
theorem dL_fill_17 : decode cL_fill 17 = .ok (.iconst 1, 1) := by decide +kernel
theorem dL_fill_18 : decode cL_fill 18 = .ok (.ireturn, 1) := by decide +kernel
theorem dL_fill_19 : decode cL_fill 19 = .ok (.iconst 0, 1) := by decide +kernel
theorem dL_fill_20 : decode cL_fill 20 = .ok (.ireturn, 1) := by decide +kernel
theorem dL_empty_0 : decode cL_empty 0 = .ok (.aload_n 3, 1) := by decide +kernel
theorem dL_empty_1 : decode cL_empty 1 = .ok (.iconst 0, 1) := by decide +kernel
theorem dL_empty_2 : decode cL_empty 2 = .ok (.aload_n 0, 1) := by decide +kernel
theorem dL_empty_3 : decode cL_empty 3 = .ok (.iload_n 1, 1) := by decide +kernel
theorem dL_empty_4 : decode cL_empty 4 = .ok (.iload_n 2, 1) := by decide +kernel
theorem dL_empty_5 : decode cL_empty 5 = .ok (.invokevirtual 23, 3) := by decide +kernel
theorem dL_empty_8 : decode cL_empty 8 = .ok (.i2l, 1) := by decide +kernel
theorem dL_empty_9 : decode cL_empty 9 = .ok (.lastore, 1) := by decide +kernel
theorem dL_empty_10 : decode cL_empty 10 = .ok (.goto 7, 3) := by decide +kernel
theorem dL_empty_13 : decode cL_empty 13 = .ok (.astore 4, 2) := by decide +kernel
theorem dL_empty_15 : decode cL_empty 15 = .ok (.iconst 1, 1) := by decide +kernel
theorem dL_empty_16 : decode cL_empty 16 = .ok (.ireturn, 1) := by decide +kernel
theorem dL_empty_17 : decode cL_empty 17 = .ok (.iconst 0, 1) := by decide +kernel
theorem dL_empty_18 : decode cL_empty 18 = .ok (.ireturn, 1) := by decide +kernel
theorem dL_beat_0 : decode cL_beat 0 = .ok (.aload_n 2, 1) := by decide +kernel
theorem dL_beat_1 : decode cL_beat 1 = .ok (.iconst 0, 1) := by decide +kernel
theorem dL_beat_2 : decode cL_beat 2 = .ok (.aload_n 0, 1) := by decide +kernel
theorem dL_beat_3 : decode cL_beat 3 = .ok (.iload_n 1, 1) := by decide +kernel
theorem dL_beat_4 : decode cL_beat 4 = .ok (.invokevirtual 26, 3) := by decide +kernel
theorem dL_beat_7 : decode cL_beat 7 = .ok (.i2l, 1) := by decide +kernel
theorem dL_beat_8 : decode cL_beat 8 = .ok (.lastore, 1) := by decide +kernel
theorem dL_beat_9 : decode cL_beat 9 = .ok (.goto 6, 3) := by decide +kernel
theorem dL_beat_12 : decode cL_beat 12 = .ok (.astore_n 3, 1) := by decide +kernel
theorem dL_beat_13 : decode cL_beat 13 = .ok (.iconst 1, 1) := by decide +kernel
theorem dL_beat_14 : decode cL_beat 14 = .ok (.ireturn, 1) := by decide +kernel
theorem dL_beat_15 : decode cL_beat 15 = .ok (.iconst 0, 1) := by decide +kernel
theorem dL_beat_16 : decode cL_beat 16 = .ok (.ireturn, 1) := by decide +kernel
theorem dL_thumb_0 : decode cL_thumb 0 = .ok (.aload_n 2, 1) := by decide +kernel
theorem dL_thumb_1 : decode cL_thumb 1 = .ok (.iconst 0, 1) := by decide +kernel
theorem dL_thumb_2 : decode cL_thumb 2 = .ok (.aload_n 0, 1) := by decide +kernel
theorem dL_thumb_3 : decode cL_thumb 3 = .ok (.iload_n 1, 1) := by decide +kernel
theorem dL_thumb_4 : decode cL_thumb 4 = .ok (.invokevirtual 29, 3) := by decide +kernel
theorem dL_thumb_7 : decode cL_thumb 7 = .ok (.i2l, 1) := by decide +kernel
theorem dL_thumb_8 : decode cL_thumb 8 = .ok (.lastore, 1) := by decide +kernel
theorem dL_thumb_9 : decode cL_thumb 9 = .ok (.goto 6, 3) := by decide +kernel
theorem dL_thumb_12 : decode cL_thumb 12 = .ok (.astore_n 3, 1) := by decide +kernel
theorem dL_thumb_13 : decode cL_thumb 13 = .ok (.iconst 1, 1) := by decide +kernel
theorem dL_thumb_14 : decode cL_thumb 14 = .ok (.ireturn, 1) := by decide +kernel
theorem dL_thumb_15 : decode cL_thumb 15 = .ok (.iconst 0, 1) := by decide +kernel
theorem dL_thumb_16 : decode cL_thumb 16 = .ok (.ireturn, 1) := by decide +kernel
theorem dL_weigh_0 : decode cL_weigh 0 = .ok (.aload_n 2, 1) := by decide +kernel
theorem dL_weigh_1 : decode cL_weigh 1 = .ok (.iconst 0, 1) := by decide +kernel
theorem dL_weigh_2 : decode cL_weigh 2 = .ok (.aload_n 0, 1) := by decide +kernel
theorem dL_weigh_3 : decode cL_weigh 3 = .ok (.iload_n 1, 1) := by decide +kernel
theorem dL_weigh_4 : decode cL_weigh 4 = .ok (.invokevirtual 32, 3) := by decide +kernel
theorem dL_weigh_7 : decode cL_weigh 7 = .ok (.i2l, 1) := by decide +kernel
theorem dL_weigh_8 : decode cL_weigh 8 = .ok (.lastore, 1) := by decide +kernel
theorem dL_weigh_9 : decode cL_weigh 9 = .ok (.goto 6, 3) := by decide +kernel
theorem dL_weigh_12 : decode cL_weigh 12 = .ok (.astore_n 3, 1) := by decide +kernel
theorem dL_weigh_13 : decode cL_weigh 13 = .ok (.iconst 1, 1) := by decide +kernel
theorem dL_weigh_14 : decode cL_weigh 14 = .ok (.ireturn, 1) := by decide +kernel
theorem dL_weigh_15 : decode cL_weigh 15 = .ok (.iconst 0, 1) := by decide +kernel
theorem dL_weigh_16 : decode cL_weigh 16 = .ok (.ireturn, 1) := by decide +kernel
theorem dL_sell_0 : decode cL_sell 0 = .ok (.aload_n 2, 1) := by decide +kernel
theorem dL_sell_1 : decode cL_sell 1 = .ok (.iconst 0, 1) := by decide +kernel
theorem dL_sell_2 : decode cL_sell 2 = .ok (.aload_n 0, 1) := by decide +kernel
theorem dL_sell_3 : decode cL_sell 3 = .ok (.iload_n 1, 1) := by decide +kernel
theorem dL_sell_4 : decode cL_sell 4 = .ok (.invokevirtual 35, 3) := by decide +kernel
theorem dL_sell_7 : decode cL_sell 7 = .ok (.i2l, 1) := by decide +kernel
theorem dL_sell_8 : decode cL_sell 8 = .ok (.lastore, 1) := by decide +kernel
theorem dL_sell_9 : decode cL_sell 9 = .ok (.goto 6, 3) := by decide +kernel
theorem dL_sell_12 : decode cL_sell 12 = .ok (.astore_n 3, 1) := by decide +kernel
theorem dL_sell_13 : decode cL_sell 13 = .ok (.iconst 1, 1) := by decide +kernel
theorem dL_sell_14 : decode cL_sell 14 = .ok (.ireturn, 1) := by decide +kernel
theorem dL_sell_15 : decode cL_sell 15 = .ok (.iconst 0, 1) := by decide +kernel
theorem dL_sell_16 : decode cL_sell 16 = .ok (.ireturn, 1) := by decide +kernel
theorem dL_oath_0 : decode cL_oath 0 = .ok (.aload_n 1, 1) := by decide +kernel
theorem dL_oath_1 : decode cL_oath 1 = .ok (.iconst 0, 1) := by decide +kernel
theorem dL_oath_2 : decode cL_oath 2 = .ok (.aload_n 0, 1) := by decide +kernel
theorem dL_oath_3 : decode cL_oath 3 = .ok (.invokevirtual 38, 3) := by decide +kernel
theorem dL_oath_6 : decode cL_oath 6 = .ok (.i2l, 1) := by decide +kernel
theorem dL_oath_7 : decode cL_oath 7 = .ok (.lastore, 1) := by decide +kernel
theorem dL_oath_8 : decode cL_oath 8 = .ok (.goto 6, 3) := by decide +kernel
theorem dL_oath_11 : decode cL_oath 11 = .ok (.astore_n 2, 1) := by decide +kernel
theorem dL_oath_12 : decode cL_oath 12 = .ok (.iconst 1, 1) := by decide +kernel
theorem dL_oath_13 : decode cL_oath 13 = .ok (.ireturn, 1) := by decide +kernel
theorem dL_oath_14 : decode cL_oath 14 = .ok (.iconst 0, 1) := by decide +kernel
theorem dL_oath_15 : decode cL_oath 15 = .ok (.ireturn, 1) := by decide +kernel
theorem dL_go_0 : decode cL_go 0 = .ok (.aload_n 2, 1) := by decide +kernel
theorem dL_go_1 : decode cL_go 1 = .ok (.iconst 0, 1) := by decide +kernel
theorem dL_go_2 : decode cL_go 2 = .ok (.aload_n 0, 1) := by decide +kernel
theorem dL_go_3 : decode cL_go 3 = .ok (.iload_n 1, 1) := by decide +kernel
theorem dL_go_4 : decode cL_go 4 = .ok (.invokevirtual 42, 3) := by decide +kernel
theorem dL_go_7 : decode cL_go 7 = .ok (.i2l, 1) := by decide +kernel
theorem dL_go_8 : decode cL_go 8 = .ok (.lastore, 1) := by decide +kernel
theorem dL_go_9 : decode cL_go 9 = .ok (.goto 6, 3) := by decide +kernel
theorem dL_go_12 : decode cL_go 12 = .ok (.astore_n 3, 1) := by decide +kernel
theorem dL_go_13 : decode cL_go 13 = .ok (.iconst 1, 1) := by decide +kernel
theorem dL_go_14 : decode cL_go 14 = .ok (.ireturn, 1) := by decide +kernel
theorem dL_go_15 : decode cL_go 15 = .ok (.iconst 0, 1) := by decide +kernel
theorem dL_go_16 : decode cL_go 16 = .ok (.ireturn, 1) := by decide +kernel
theorem dL_seal_0 : decode cL_seal 0 = .ok (.aload_n 2, 1) := by decide +kernel
theorem dL_seal_1 : decode cL_seal 1 = .ok (.iconst 0, 1) := by decide +kernel
theorem dL_seal_2 : decode cL_seal 2 = .ok (.aload_n 0, 1) := by decide +kernel
theorem dL_seal_3 : decode cL_seal 3 = .ok (.iload_n 1, 1) := by decide +kernel
theorem dL_seal_4 : decode cL_seal 4 = .ok (.invokevirtual 45, 3) := by decide +kernel
theorem dL_seal_7 : decode cL_seal 7 = .ok (.i2l, 1) := by decide +kernel
theorem dL_seal_8 : decode cL_seal 8 = .ok (.lastore, 1) := by decide +kernel
theorem dL_seal_9 : decode cL_seal 9 = .ok (.goto 6, 3) := by decide +kernel
theorem dL_seal_12 : decode cL_seal 12 = .ok (.astore_n 3, 1) := by decide +kernel
theorem dL_seal_13 : decode cL_seal 13 = .ok (.iconst 1, 1) := by decide +kernel
theorem dL_seal_14 : decode cL_seal 14 = .ok (.ireturn, 1) := by decide +kernel
theorem dL_seal_15 : decode cL_seal 15 = .ok (.iconst 0, 1) := by decide +kernel
theorem dL_seal_16 : decode cL_seal 16 = .ok (.ireturn, 1) := by decide +kernel
theorem dL_days_0 : decode cL_days 0 = .ok (.aload_n 2, 1) := by decide +kernel
theorem dL_days_1 : decode cL_days 1 = .ok (.iconst 0, 1) := by decide +kernel
theorem dL_days_2 : decode cL_days 2 = .ok (.aload_n 0, 1) := by decide +kernel
theorem dL_days_3 : decode cL_days 3 = .ok (.iload_n 1, 1) := by decide +kernel
theorem dL_days_4 : decode cL_days 4 = .ok (.invokevirtual 48, 3) := by decide +kernel
theorem dL_days_7 : decode cL_days 7 = .ok (.i2l, 1) := by decide +kernel
theorem dL_days_8 : decode cL_days 8 = .ok (.lastore, 1) := by decide +kernel
theorem dL_days_9 : decode cL_days 9 = .ok (.goto 6, 3) := by decide +kernel
theorem dL_days_12 : decode cL_days 12 = .ok (.astore_n 3, 1) := by decide +kernel
theorem dL_days_13 : decode cL_days 13 = .ok (.iconst 1, 1) := by decide +kernel
theorem dL_days_14 : decode cL_days 14 = .ok (.ireturn, 1) := by decide +kernel
theorem dL_days_15 : decode cL_days 15 = .ok (.iconst 0, 1) := by decide +kernel
theorem dL_days_16 : decode cL_days 16 = .ok (.ireturn, 1) := by decide +kernel
theorem dL_jarOf_0 : decode cL_jarOf 0 = .ok (.aload_n 3, 1) := by decide +kernel
theorem dL_jarOf_1 : decode cL_jarOf 1 = .ok (.iconst 0, 1) := by decide +kernel
theorem dL_jarOf_2 : decode cL_jarOf 2 = .ok (.aload_n 0, 1) := by decide +kernel
theorem dL_jarOf_3 : decode cL_jarOf 3 = .ok (.iload_n 1, 1) := by decide +kernel
theorem dL_jarOf_4 : decode cL_jarOf 4 = .ok (.iload_n 2, 1) := by decide +kernel
theorem dL_jarOf_5 : decode cL_jarOf 5 = .ok (.invokevirtual 51, 3) := by decide +kernel
theorem dL_jarOf_8 : decode cL_jarOf 8 = .ok (.i2l, 1) := by decide +kernel
theorem dL_jarOf_9 : decode cL_jarOf 9 = .ok (.lastore, 1) := by decide +kernel
theorem dL_jarOf_10 : decode cL_jarOf 10 = .ok (.goto 7, 3) := by decide +kernel
theorem dL_jarOf_13 : decode cL_jarOf 13 = .ok (.astore 4, 2) := by decide +kernel
theorem dL_jarOf_15 : decode cL_jarOf 15 = .ok (.iconst 1, 1) := by decide +kernel
theorem dL_jarOf_16 : decode cL_jarOf 16 = .ok (.ireturn, 1) := by decide +kernel
theorem dL_jarOf_17 : decode cL_jarOf 17 = .ok (.iconst 0, 1) := by decide +kernel
theorem dL_jarOf_18 : decode cL_jarOf 18 = .ok (.ireturn, 1) := by decide +kernel
theorem dL_bagOf_0 : decode cL_bagOf 0 = .ok (.aload_n 3, 1) := by decide +kernel
theorem dL_bagOf_1 : decode cL_bagOf 1 = .ok (.iconst 0, 1) := by decide +kernel
theorem dL_bagOf_2 : decode cL_bagOf 2 = .ok (.aload_n 0, 1) := by decide +kernel
theorem dL_bagOf_3 : decode cL_bagOf 3 = .ok (.iload_n 1, 1) := by decide +kernel
theorem dL_bagOf_4 : decode cL_bagOf 4 = .ok (.iload_n 2, 1) := by decide +kernel
theorem dL_bagOf_5 : decode cL_bagOf 5 = .ok (.invokevirtual 57, 3) := by decide +kernel
theorem dL_bagOf_8 : decode cL_bagOf 8 = .ok (.i2l, 1) := by decide +kernel
theorem dL_bagOf_9 : decode cL_bagOf 9 = .ok (.lastore, 1) := by decide +kernel
theorem dL_bagOf_10 : decode cL_bagOf 10 = .ok (.goto 11, 3) := by decide +kernel
theorem dL_bagOf_13 : decode cL_bagOf 13 = .ok (.astore 4, 2) := by decide +kernel
theorem dL_bagOf_15 : decode cL_bagOf 15 = .ok (.iconst 1, 1) := by decide +kernel
theorem dL_bagOf_16 : decode cL_bagOf 16 = .ok (.ireturn, 1) := by decide +kernel
theorem dL_bagOf_17 : decode cL_bagOf 17 = .ok (.astore 4, 2) := by decide +kernel
theorem dL_bagOf_19 : decode cL_bagOf 19 = .ok (.iconst 2, 1) := by decide +kernel
theorem dL_bagOf_20 : decode cL_bagOf 20 = .ok (.ireturn, 1) := by decide +kernel
theorem dL_bagOf_21 : decode cL_bagOf 21 = .ok (.iconst 0, 1) := by decide +kernel
theorem dL_bagOf_22 : decode cL_bagOf 22 = .ok (.ireturn, 1) := by decide +kernel
theorem dL_weightOf_0 : decode cL_weightOf 0 = .ok (.aload_n 3, 1) := by decide +kernel
theorem dL_weightOf_1 : decode cL_weightOf 1 = .ok (.iconst 0, 1) := by decide +kernel
theorem dL_weightOf_2 : decode cL_weightOf 2 = .ok (.aload_n 0, 1) := by decide +kernel
theorem dL_weightOf_3 : decode cL_weightOf 3 = .ok (.iload_n 1, 1) := by decide +kernel
theorem dL_weightOf_4 : decode cL_weightOf 4 = .ok (.iload_n 2, 1) := by decide +kernel
theorem dL_weightOf_5 : decode cL_weightOf 5 = .ok (.invokevirtual 62, 3) := by decide +kernel
theorem dL_weightOf_8 : decode cL_weightOf 8 = .ok (.i2l, 1) := by decide +kernel
theorem dL_weightOf_9 : decode cL_weightOf 9 = .ok (.lastore, 1) := by decide +kernel
theorem dL_weightOf_10 : decode cL_weightOf 10 = .ok (.goto 11, 3) := by decide +kernel
theorem dL_weightOf_13 : decode cL_weightOf 13 = .ok (.astore 4, 2) := by decide +kernel
theorem dL_weightOf_15 : decode cL_weightOf 15 = .ok (.iconst 1, 1) := by decide +kernel
theorem dL_weightOf_16 : decode cL_weightOf 16 = .ok (.ireturn, 1) := by decide +kernel
theorem dL_weightOf_17 : decode cL_weightOf 17 = .ok (.astore 4, 2) := by decide +kernel
theorem dL_weightOf_19 : decode cL_weightOf 19 = .ok (.iconst 2, 1) := by decide +kernel
theorem dL_weightOf_20 : decode cL_weightOf 20 = .ok (.ireturn, 1) := by decide +kernel
theorem dL_weightOf_21 : decode cL_weightOf 21 = .ok (.iconst 0, 1) := by decide +kernel
theorem dL_weightOf_22 : decode cL_weightOf 22 = .ok (.ireturn, 1) := by decide +kernel
theorem dL_told_0 : decode cL_told 0 = .ok (.aload_n 2, 1) := by decide +kernel
theorem dL_told_1 : decode cL_told 1 = .ok (.iconst 0, 1) := by decide +kernel
theorem dL_told_2 : decode cL_told 2 = .ok (.aload_n 0, 1) := by decide +kernel
theorem dL_told_3 : decode cL_told 3 = .ok (.iload_n 1, 1) := by decide +kernel
theorem dL_told_4 : decode cL_told 4 = .ok (.invokevirtual 65, 3) := by decide +kernel
theorem dL_told_7 : decode cL_told 7 = .ok (.i2l, 1) := by decide +kernel
theorem dL_told_8 : decode cL_told 8 = .ok (.lastore, 1) := by decide +kernel
theorem dL_told_9 : decode cL_told 9 = .ok (.goto 6, 3) := by decide +kernel
theorem dL_told_12 : decode cL_told 12 = .ok (.astore_n 3, 1) := by decide +kernel
theorem dL_told_13 : decode cL_told 13 = .ok (.iconst 1, 1) := by decide +kernel
theorem dL_told_14 : decode cL_told 14 = .ok (.ireturn, 1) := by decide +kernel
theorem dL_told_15 : decode cL_told 15 = .ok (.iconst 0, 1) := by decide +kernel
theorem dL_told_16 : decode cL_told 16 = .ok (.ireturn, 1) := by decide +kernel
theorem dL_toldAgain_0 : decode cL_toldAgain 0 = .ok (.aload_n 2, 1) := by decide +kernel
theorem dL_toldAgain_1 : decode cL_toldAgain 1 = .ok (.iconst 0, 1) := by decide +kernel
theorem dL_toldAgain_2 : decode cL_toldAgain 2 = .ok (.aload_n 0, 1) := by decide +kernel
theorem dL_toldAgain_3 : decode cL_toldAgain 3 = .ok (.iload_n 1, 1) := by decide +kernel
theorem dL_toldAgain_4 : decode cL_toldAgain 4 = .ok (.invokevirtual 68, 3) := by decide +kernel
theorem dL_toldAgain_7 : decode cL_toldAgain 7 = .ok (.i2l, 1) := by decide +kernel
theorem dL_toldAgain_8 : decode cL_toldAgain 8 = .ok (.lastore, 1) := by decide +kernel
theorem dL_toldAgain_9 : decode cL_toldAgain 9 = .ok (.goto 6, 3) := by decide +kernel
theorem dL_toldAgain_12 : decode cL_toldAgain 12 = .ok (.astore_n 3, 1) := by decide +kernel
theorem dL_toldAgain_13 : decode cL_toldAgain 13 = .ok (.iconst 1, 1) := by decide +kernel
theorem dL_toldAgain_14 : decode cL_toldAgain 14 = .ok (.ireturn, 1) := by decide +kernel
theorem dL_toldAgain_15 : decode cL_toldAgain 15 = .ok (.iconst 0, 1) := by decide +kernel
theorem dL_toldAgain_16 : decode cL_toldAgain 16 = .ok (.ireturn, 1) := by decide +kernel
theorem dL_onPan_0 : decode cL_onPan 0 = .ok (.aload_n 2, 1) := by decide +kernel
theorem dL_onPan_1 : decode cL_onPan 1 = .ok (.iconst 0, 1) := by decide +kernel
theorem dL_onPan_2 : decode cL_onPan 2 = .ok (.aload_n 0, 1) := by decide +kernel
theorem dL_onPan_3 : decode cL_onPan 3 = .ok (.iload_n 1, 1) := by decide +kernel
theorem dL_onPan_4 : decode cL_onPan 4 = .ok (.invokevirtual 71, 3) := by decide +kernel
theorem dL_onPan_7 : decode cL_onPan 7 = .ok (.i2l, 1) := by decide +kernel
theorem dL_onPan_8 : decode cL_onPan 8 = .ok (.lastore, 1) := by decide +kernel
theorem dL_onPan_9 : decode cL_onPan 9 = .ok (.goto 6, 3) := by decide +kernel
theorem dL_onPan_12 : decode cL_onPan 12 = .ok (.astore_n 3, 1) := by decide +kernel
theorem dL_onPan_13 : decode cL_onPan 13 = .ok (.iconst 1, 1) := by decide +kernel
theorem dL_onPan_14 : decode cL_onPan 14 = .ok (.ireturn, 1) := by decide +kernel
theorem dL_onPan_15 : decode cL_onPan 15 = .ok (.iconst 0, 1) := by decide +kernel
theorem dL_onPan_16 : decode cL_onPan 16 = .ok (.ireturn, 1) := by decide +kernel
theorem dL_rest_0 : decode cL_rest 0 = .ok (.aload_n 2, 1) := by decide +kernel
theorem dL_rest_1 : decode cL_rest 1 = .ok (.iconst 0, 1) := by decide +kernel
theorem dL_rest_2 : decode cL_rest 2 = .ok (.aload_n 0, 1) := by decide +kernel
theorem dL_rest_3 : decode cL_rest 3 = .ok (.iload_n 1, 1) := by decide +kernel
theorem dL_rest_4 : decode cL_rest 4 = .ok (.invokevirtual 74, 3) := by decide +kernel
theorem dL_rest_7 : decode cL_rest 7 = .ok (.i2l, 1) := by decide +kernel
theorem dL_rest_8 : decode cL_rest 8 = .ok (.lastore, 1) := by decide +kernel
theorem dL_rest_9 : decode cL_rest 9 = .ok (.goto 6, 3) := by decide +kernel
theorem dL_rest_12 : decode cL_rest 12 = .ok (.astore_n 3, 1) := by decide +kernel
theorem dL_rest_13 : decode cL_rest 13 = .ok (.iconst 1, 1) := by decide +kernel
theorem dL_rest_14 : decode cL_rest 14 = .ok (.ireturn, 1) := by decide +kernel
theorem dL_rest_15 : decode cL_rest 15 = .ok (.iconst 0, 1) := by decide +kernel
theorem dL_rest_16 : decode cL_rest 16 = .ok (.ireturn, 1) := by decide +kernel
theorem dL_honest_0 : decode cL_honest 0 = .ok (.aload_n 2, 1) := by decide +kernel
theorem dL_honest_1 : decode cL_honest 1 = .ok (.iconst 0, 1) := by decide +kernel
theorem dL_honest_2 : decode cL_honest 2 = .ok (.aload_n 0, 1) := by decide +kernel
theorem dL_honest_3 : decode cL_honest 3 = .ok (.iload_n 1, 1) := by decide +kernel
theorem dL_honest_4 : decode cL_honest 4 = .ok (.invokevirtual 77, 3) := by decide +kernel
theorem dL_honest_7 : decode cL_honest 7 = .ok (.i2l, 1) := by decide +kernel
theorem dL_honest_8 : decode cL_honest 8 = .ok (.lastore, 1) := by decide +kernel
theorem dL_honest_9 : decode cL_honest 9 = .ok (.goto 6, 3) := by decide +kernel
theorem dL_honest_12 : decode cL_honest 12 = .ok (.astore_n 3, 1) := by decide +kernel
theorem dL_honest_13 : decode cL_honest 13 = .ok (.iconst 1, 1) := by decide +kernel
theorem dL_honest_14 : decode cL_honest 14 = .ok (.ireturn, 1) := by decide +kernel
theorem dL_honest_15 : decode cL_honest 15 = .ok (.iconst 0, 1) := by decide +kernel
theorem dL_honest_16 : decode cL_honest 16 = .ok (.ireturn, 1) := by decide +kernel
theorem dL_pays_0 : decode cL_pays 0 = .ok (.aload_n 3, 1) := by decide +kernel
theorem dL_pays_1 : decode cL_pays 1 = .ok (.iconst 0, 1) := by decide +kernel
theorem dL_pays_2 : decode cL_pays 2 = .ok (.aload_n 0, 1) := by decide +kernel
theorem dL_pays_3 : decode cL_pays 3 = .ok (.iload_n 1, 1) := by decide +kernel
theorem dL_pays_4 : decode cL_pays 4 = .ok (.iload_n 2, 1) := by decide +kernel
theorem dL_pays_5 : decode cL_pays 5 = .ok (.invokevirtual 80, 3) := by decide +kernel
theorem dL_pays_8 : decode cL_pays 8 = .ok (.i2l, 1) := by decide +kernel
theorem dL_pays_9 : decode cL_pays 9 = .ok (.lastore, 1) := by decide +kernel
theorem dL_pays_10 : decode cL_pays 10 = .ok (.goto 11, 3) := by decide +kernel
theorem dL_pays_13 : decode cL_pays 13 = .ok (.astore 4, 2) := by decide +kernel
theorem dL_pays_15 : decode cL_pays 15 = .ok (.iconst 1, 1) := by decide +kernel
theorem dL_pays_16 : decode cL_pays 16 = .ok (.ireturn, 1) := by decide +kernel
theorem dL_pays_17 : decode cL_pays 17 = .ok (.astore 4, 2) := by decide +kernel
theorem dL_pays_19 : decode cL_pays 19 = .ok (.iconst 2, 1) := by decide +kernel
theorem dL_pays_20 : decode cL_pays 20 = .ok (.ireturn, 1) := by decide +kernel
theorem dL_pays_21 : decode cL_pays 21 = .ok (.iconst 0, 1) := by decide +kernel
theorem dL_pays_22 : decode cL_pays 22 = .ok (.ireturn, 1) := by decide +kernel
theorem dL_wouldGet_0 : decode cL_wouldGet 0 = .ok (.aload_n 3, 1) := by decide +kernel
theorem dL_wouldGet_1 : decode cL_wouldGet 1 = .ok (.iconst 0, 1) := by decide +kernel
theorem dL_wouldGet_2 : decode cL_wouldGet 2 = .ok (.aload_n 0, 1) := by decide +kernel
theorem dL_wouldGet_3 : decode cL_wouldGet 3 = .ok (.iload_n 1, 1) := by decide +kernel
theorem dL_wouldGet_4 : decode cL_wouldGet 4 = .ok (.iload_n 2, 1) := by decide +kernel
theorem dL_wouldGet_5 : decode cL_wouldGet 5 = .ok (.invokevirtual 83, 3) := by decide +kernel
theorem dL_wouldGet_8 : decode cL_wouldGet 8 = .ok (.i2l, 1) := by decide +kernel
theorem dL_wouldGet_9 : decode cL_wouldGet 9 = .ok (.lastore, 1) := by decide +kernel
theorem dL_wouldGet_10 : decode cL_wouldGet 10 = .ok (.goto 11, 3) := by decide +kernel
theorem dL_wouldGet_13 : decode cL_wouldGet 13 = .ok (.astore 4, 2) := by decide +kernel
theorem dL_wouldGet_15 : decode cL_wouldGet 15 = .ok (.iconst 1, 1) := by decide +kernel
theorem dL_wouldGet_16 : decode cL_wouldGet 16 = .ok (.ireturn, 1) := by decide +kernel
theorem dL_wouldGet_17 : decode cL_wouldGet 17 = .ok (.astore 4, 2) := by decide +kernel
theorem dL_wouldGet_19 : decode cL_wouldGet 19 = .ok (.iconst 2, 1) := by decide +kernel
theorem dL_wouldGet_20 : decode cL_wouldGet 20 = .ok (.ireturn, 1) := by decide +kernel
theorem dL_wouldGet_21 : decode cL_wouldGet 21 = .ok (.iconst 0, 1) := by decide +kernel
theorem dL_wouldGet_22 : decode cL_wouldGet 22 = .ok (.ireturn, 1) := by decide +kernel
theorem dL_bestMarket_0 : decode cL_bestMarket 0 = .ok (.aload_n 2, 1) := by decide +kernel
theorem dL_bestMarket_1 : decode cL_bestMarket 1 = .ok (.iconst 0, 1) := by decide +kernel
theorem dL_bestMarket_2 : decode cL_bestMarket 2 = .ok (.aload_n 0, 1) := by decide +kernel
theorem dL_bestMarket_3 : decode cL_bestMarket 3 = .ok (.iload_n 1, 1) := by decide +kernel
theorem dL_bestMarket_4 : decode cL_bestMarket 4 = .ok (.invokevirtual 88, 3) := by decide +kernel
theorem dL_bestMarket_7 : decode cL_bestMarket 7 = .ok (.i2l, 1) := by decide +kernel
theorem dL_bestMarket_8 : decode cL_bestMarket 8 = .ok (.lastore, 1) := by decide +kernel
theorem dL_bestMarket_9 : decode cL_bestMarket 9 = .ok (.goto 9, 3) := by decide +kernel
theorem dL_bestMarket_12 : decode cL_bestMarket 12 = .ok (.astore_n 3, 1) := by decide +kernel
theorem dL_bestMarket_13 : decode cL_bestMarket 13 = .ok (.iconst 1, 1) := by decide +kernel
theorem dL_bestMarket_14 : decode cL_bestMarket 14 = .ok (.ireturn, 1) := by decide +kernel
theorem dL_bestMarket_15 : decode cL_bestMarket 15 = .ok (.astore_n 3, 1) := by decide +kernel
theorem dL_bestMarket_16 : decode cL_bestMarket 16 = .ok (.iconst 2, 1) := by decide +kernel
theorem dL_bestMarket_17 : decode cL_bestMarket 17 = .ok (.ireturn, 1) := by decide +kernel
theorem dL_bestMarket_18 : decode cL_bestMarket 18 = .ok (.iconst 0, 1) := by decide +kernel
theorem dL_bestMarket_19 : decode cL_bestMarket 19 = .ok (.ireturn, 1) := by decide +kernel
theorem dL_oathUntil_0 : decode cL_oathUntil 0 = .ok (.aload_n 2, 1) := by decide +kernel
theorem dL_oathUntil_1 : decode cL_oathUntil 1 = .ok (.iconst 0, 1) := by decide +kernel
theorem dL_oathUntil_2 : decode cL_oathUntil 2 = .ok (.aload_n 0, 1) := by decide +kernel
theorem dL_oathUntil_3 : decode cL_oathUntil 3 = .ok (.iload_n 1, 1) := by decide +kernel
theorem dL_oathUntil_4 : decode cL_oathUntil 4 = .ok (.invokevirtual 91, 3) := by decide +kernel
theorem dL_oathUntil_7 : decode cL_oathUntil 7 = .ok (.i2l, 1) := by decide +kernel
theorem dL_oathUntil_8 : decode cL_oathUntil 8 = .ok (.lastore, 1) := by decide +kernel
theorem dL_oathUntil_9 : decode cL_oathUntil 9 = .ok (.goto 9, 3) := by decide +kernel
theorem dL_oathUntil_12 : decode cL_oathUntil 12 = .ok (.astore_n 3, 1) := by decide +kernel
theorem dL_oathUntil_13 : decode cL_oathUntil 13 = .ok (.iconst 1, 1) := by decide +kernel
theorem dL_oathUntil_14 : decode cL_oathUntil 14 = .ok (.ireturn, 1) := by decide +kernel
theorem dL_oathUntil_15 : decode cL_oathUntil 15 = .ok (.astore_n 3, 1) := by decide +kernel
theorem dL_oathUntil_16 : decode cL_oathUntil 16 = .ok (.iconst 2, 1) := by decide +kernel
theorem dL_oathUntil_17 : decode cL_oathUntil 17 = .ok (.ireturn, 1) := by decide +kernel
theorem dL_oathUntil_18 : decode cL_oathUntil 18 = .ok (.iconst 0, 1) := by decide +kernel
theorem dL_oathUntil_19 : decode cL_oathUntil 19 = .ok (.ireturn, 1) := by decide +kernel
theorem dL_isNoticed_0 : decode cL_isNoticed 0 = .ok (.aload_n 2, 1) := by decide +kernel
theorem dL_isNoticed_1 : decode cL_isNoticed 1 = .ok (.iconst 0, 1) := by decide +kernel
theorem dL_isNoticed_2 : decode cL_isNoticed 2 = .ok (.aload_n 0, 1) := by decide +kernel
theorem dL_isNoticed_3 : decode cL_isNoticed 3 = .ok (.iload_n 1, 1) := by decide +kernel
theorem dL_isNoticed_4 : decode cL_isNoticed 4 = .ok (.invokevirtual 94, 3) := by decide +kernel
theorem dL_isNoticed_7 : decode cL_isNoticed 7 = .ok (.ifCond .eq 7, 3) := by decide +kernel
theorem dL_isNoticed_10 : decode cL_isNoticed 10 = .ok (.lconst 1, 1) := by decide +kernel
theorem dL_isNoticed_11 : decode cL_isNoticed 11 = .ok (.goto 4, 3) := by decide +kernel
theorem dL_isNoticed_14 : decode cL_isNoticed 14 = .ok (.lconst 0, 1) := by decide +kernel
theorem dL_isNoticed_15 : decode cL_isNoticed 15 = .ok (.lastore, 1) := by decide +kernel
theorem dL_isNoticed_16 : decode cL_isNoticed 16 = .ok (.goto 6, 3) := by decide +kernel
theorem dL_isNoticed_19 : decode cL_isNoticed 19 = .ok (.astore_n 3, 1) := by decide +kernel
theorem dL_isNoticed_20 : decode cL_isNoticed 20 = .ok (.iconst 1, 1) := by decide +kernel
theorem dL_isNoticed_21 : decode cL_isNoticed 21 = .ok (.ireturn, 1) := by decide +kernel
theorem dL_isNoticed_22 : decode cL_isNoticed 22 = .ok (.iconst 0, 1) := by decide +kernel
theorem dL_isNoticed_23 : decode cL_isNoticed 23 = .ok (.ireturn, 1) := by decide +kernel
theorem dL_ranked_0 : decode cL_ranked 0 = .ok (.aload_n 2, 1) := by decide +kernel
theorem dL_ranked_1 : decode cL_ranked 1 = .ok (.iconst 0, 1) := by decide +kernel
theorem dL_ranked_2 : decode cL_ranked 2 = .ok (.aload_n 0, 1) := by decide +kernel
theorem dL_ranked_3 : decode cL_ranked 3 = .ok (.iload_n 1, 1) := by decide +kernel
theorem dL_ranked_4 : decode cL_ranked 4 = .ok (.invokevirtual 98, 3) := by decide +kernel
theorem dL_ranked_7 : decode cL_ranked 7 = .ok (.i2l, 1) := by decide +kernel
theorem dL_ranked_8 : decode cL_ranked 8 = .ok (.lastore, 1) := by decide +kernel
theorem dL_ranked_9 : decode cL_ranked 9 = .ok (.goto 6, 3) := by decide +kernel
theorem dL_ranked_12 : decode cL_ranked 12 = .ok (.astore_n 3, 1) := by decide +kernel
theorem dL_ranked_13 : decode cL_ranked 13 = .ok (.iconst 1, 1) := by decide +kernel
theorem dL_ranked_14 : decode cL_ranked 14 = .ok (.ireturn, 1) := by decide +kernel
theorem dL_ranked_15 : decode cL_ranked 15 = .ok (.iconst 0, 1) := by decide +kernel
theorem dL_ranked_16 : decode cL_ranked 16 = .ok (.ireturn, 1) := by decide +kernel
theorem dL_append_0 : decode cL_append 0 = .ok (.aload_n 2, 1) := by decide +kernel
theorem dL_append_1 : decode cL_append 1 = .ok (.iconst 0, 1) := by decide +kernel
theorem dL_append_2 : decode cL_append 2 = .ok (.aload_n 0, 1) := by decide +kernel
theorem dL_append_3 : decode cL_append 3 = .ok (.iload_n 1, 1) := by decide +kernel
theorem dL_append_4 : decode cL_append 4 = .ok (.invokevirtual 101, 3) := by decide +kernel
theorem dL_append_7 : decode cL_append 7 = .ok (.i2l, 1) := by decide +kernel
theorem dL_append_8 : decode cL_append 8 = .ok (.lastore, 1) := by decide +kernel
theorem dL_append_9 : decode cL_append 9 = .ok (.goto 6, 3) := by decide +kernel
theorem dL_append_12 : decode cL_append 12 = .ok (.astore_n 3, 1) := by decide +kernel
theorem dL_append_13 : decode cL_append 13 = .ok (.iconst 1, 1) := by decide +kernel
theorem dL_append_14 : decode cL_append 14 = .ok (.ireturn, 1) := by decide +kernel
theorem dL_append_15 : decode cL_append 15 = .ok (.iconst 0, 1) := by decide +kernel
theorem dL_append_16 : decode cL_append 16 = .ok (.ireturn, 1) := by decide +kernel
theorem dL_commands_0 : decode cL_commands 0 = .ok (.aload_n 1, 1) := by decide +kernel
theorem dL_commands_1 : decode cL_commands 1 = .ok (.iconst 0, 1) := by decide +kernel
theorem dL_commands_2 : decode cL_commands 2 = .ok (.aload_n 0, 1) := by decide +kernel
theorem dL_commands_3 : decode cL_commands 3 = .ok (.invokevirtual 107, 3) := by decide +kernel
theorem dL_commands_6 : decode cL_commands 6 = .ok (.i2l, 1) := by decide +kernel
theorem dL_commands_7 : decode cL_commands 7 = .ok (.lastore, 1) := by decide +kernel
theorem dL_commands_8 : decode cL_commands 8 = .ok (.goto 9, 3) := by decide +kernel
theorem dL_commands_11 : decode cL_commands 11 = .ok (.astore_n 2, 1) := by decide +kernel
theorem dL_commands_12 : decode cL_commands 12 = .ok (.iconst 1, 1) := by decide +kernel
theorem dL_commands_13 : decode cL_commands 13 = .ok (.ireturn, 1) := by decide +kernel
theorem dL_commands_14 : decode cL_commands 14 = .ok (.astore_n 2, 1) := by decide +kernel
theorem dL_commands_15 : decode cL_commands 15 = .ok (.iconst 2, 1) := by decide +kernel
theorem dL_commands_16 : decode cL_commands 16 = .ok (.ireturn, 1) := by decide +kernel
theorem dL_commands_17 : decode cL_commands 17 = .ok (.iconst 0, 1) := by decide +kernel
theorem dL_commands_18 : decode cL_commands 18 = .ok (.ireturn, 1) := by decide +kernel
theorem dL_reason_0 : decode cL_reason 0 = .ok (.aload_n 2, 1) := by decide +kernel
theorem dL_reason_1 : decode cL_reason 1 = .ok (.iconst 0, 1) := by decide +kernel
theorem dL_reason_2 : decode cL_reason 2 = .ok (.aload_n 0, 1) := by decide +kernel
theorem dL_reason_3 : decode cL_reason 3 = .ok (.iload_n 1, 1) := by decide +kernel
theorem dL_reason_4 : decode cL_reason 4 = .ok (.invokevirtual 110, 3) := by decide +kernel
theorem dL_reason_7 : decode cL_reason 7 = .ok (.i2l, 1) := by decide +kernel
theorem dL_reason_8 : decode cL_reason 8 = .ok (.lastore, 1) := by decide +kernel
theorem dL_reason_9 : decode cL_reason 9 = .ok (.goto 9, 3) := by decide +kernel
theorem dL_reason_12 : decode cL_reason 12 = .ok (.astore_n 3, 1) := by decide +kernel
theorem dL_reason_13 : decode cL_reason 13 = .ok (.iconst 1, 1) := by decide +kernel
theorem dL_reason_14 : decode cL_reason 14 = .ok (.ireturn, 1) := by decide +kernel
theorem dL_reason_15 : decode cL_reason 15 = .ok (.astore_n 3, 1) := by decide +kernel
theorem dL_reason_16 : decode cL_reason 16 = .ok (.iconst 2, 1) := by decide +kernel
theorem dL_reason_17 : decode cL_reason 17 = .ok (.ireturn, 1) := by decide +kernel
theorem dL_reason_18 : decode cL_reason 18 = .ok (.iconst 0, 1) := by decide +kernel
theorem dL_reason_19 : decode cL_reason 19 = .ok (.ireturn, 1) := by decide +kernel
theorem dL_line_0 : decode cL_line 0 = .ok (.aload_n 2, 1) := by decide +kernel
theorem dL_line_1 : decode cL_line 1 = .ok (.iconst 0, 1) := by decide +kernel
theorem dL_line_2 : decode cL_line 2 = .ok (.aload_n 0, 1) := by decide +kernel
theorem dL_line_3 : decode cL_line 3 = .ok (.iload_n 1, 1) := by decide +kernel
theorem dL_line_4 : decode cL_line 4 = .ok (.invokevirtual 113, 3) := by decide +kernel
theorem dL_line_7 : decode cL_line 7 = .ok (.i2l, 1) := by decide +kernel
theorem dL_line_8 : decode cL_line 8 = .ok (.lastore, 1) := by decide +kernel
theorem dL_line_9 : decode cL_line 9 = .ok (.goto 6, 3) := by decide +kernel
theorem dL_line_12 : decode cL_line 12 = .ok (.astore_n 3, 1) := by decide +kernel
theorem dL_line_13 : decode cL_line 13 = .ok (.iconst 1, 1) := by decide +kernel
theorem dL_line_14 : decode cL_line 14 = .ok (.ireturn, 1) := by decide +kernel
theorem dL_line_15 : decode cL_line 15 = .ok (.iconst 0, 1) := by decide +kernel
theorem dL_line_16 : decode cL_line 16 = .ok (.ireturn, 1) := by decide +kernel
theorem dL_character_0 : decode cL_character 0 = .ok (.aload_n 2, 1) := by decide +kernel
theorem dL_character_1 : decode cL_character 1 = .ok (.iconst 0, 1) := by decide +kernel
theorem dL_character_2 : decode cL_character 2 = .ok (.aload_n 0, 1) := by decide +kernel
theorem dL_character_3 : decode cL_character 3 = .ok (.iload_n 1, 1) := by decide +kernel
theorem dL_character_4 : decode cL_character 4 = .ok (.invokevirtual 116, 3) := by decide +kernel
theorem dL_character_7 : decode cL_character 7 = .ok (.i2l, 1) := by decide +kernel
theorem dL_character_8 : decode cL_character 8 = .ok (.lastore, 1) := by decide +kernel
theorem dL_character_9 : decode cL_character 9 = .ok (.goto 6, 3) := by decide +kernel
theorem dL_character_12 : decode cL_character 12 = .ok (.astore_n 3, 1) := by decide +kernel
theorem dL_character_13 : decode cL_character 13 = .ok (.iconst 1, 1) := by decide +kernel
theorem dL_character_14 : decode cL_character 14 = .ok (.ireturn, 1) := by decide +kernel
theorem dL_character_15 : decode cL_character 15 = .ok (.iconst 0, 1) := by decide +kernel
theorem dL_character_16 : decode cL_character 16 = .ok (.ireturn, 1) := by decide +kernel
theorem dL_meanDust_0 : decode cL_meanDust 0 = .ok (.aload_n 1, 1) := by decide +kernel
theorem dL_meanDust_1 : decode cL_meanDust 1 = .ok (.iconst 0, 1) := by decide +kernel
theorem dL_meanDust_2 : decode cL_meanDust 2 = .ok (.aload_n 0, 1) := by decide +kernel
theorem dL_meanDust_3 : decode cL_meanDust 3 = .ok (.invokevirtual 120, 3) := by decide +kernel
theorem dL_meanDust_6 : decode cL_meanDust 6 = .ok (.f2d, 1) := by decide +kernel
theorem dL_meanDust_7 : decode cL_meanDust 7 = .ok (.dastore, 1) := by decide +kernel
theorem dL_meanDust_8 : decode cL_meanDust 8 = .ok (.goto 6, 3) := by decide +kernel
theorem dL_meanDust_11 : decode cL_meanDust 11 = .ok (.astore_n 2, 1) := by decide +kernel
theorem dL_meanDust_12 : decode cL_meanDust 12 = .ok (.iconst 1, 1) := by decide +kernel
theorem dL_meanDust_13 : decode cL_meanDust 13 = .ok (.ireturn, 1) := by decide +kernel
theorem dL_meanDust_14 : decode cL_meanDust 14 = .ok (.iconst 0, 1) := by decide +kernel
theorem dL_meanDust_15 : decode cL_meanDust 15 = .ok (.ireturn, 1) := by decide +kernel
theorem dL_honestShare_0 : decode cL_honestShare 0 = .ok (.aload_n 1, 1) := by decide +kernel
theorem dL_honestShare_1 : decode cL_honestShare 1 = .ok (.iconst 0, 1) := by decide +kernel
theorem dL_honestShare_2 : decode cL_honestShare 2 = .ok (.aload_n 0, 1) := by decide +kernel
theorem dL_honestShare_3 : decode cL_honestShare 3 = .ok (.invokevirtual 126, 3) := by decide +kernel
theorem dL_honestShare_6 : decode cL_honestShare 6 = .ok (.dastore, 1) := by decide +kernel
theorem dL_honestShare_7 : decode cL_honestShare 7 = .ok (.goto 6, 3) := by decide +kernel
theorem dL_honestShare_10 : decode cL_honestShare 10 = .ok (.astore_n 2, 1) := by decide +kernel
theorem dL_honestShare_11 : decode cL_honestShare 11 = .ok (.iconst 1, 1) := by decide +kernel
theorem dL_honestShare_12 : decode cL_honestShare 12 = .ok (.ireturn, 1) := by decide +kernel
theorem dL_honestShare_13 : decode cL_honestShare 13 = .ok (.iconst 0, 1) := by decide +kernel
theorem dL_honestShare_14 : decode cL_honestShare 14 = .ok (.ireturn, 1) := by decide +kernel
theorem dL_account_0 : decode cL_account 0 = .ok (.aload_n 2, 1) := by decide +kernel
theorem dL_account_1 : decode cL_account 1 = .ok (.iconst 0, 1) := by decide +kernel
theorem dL_account_2 : decode cL_account 2 = .ok (.aload_n 0, 1) := by decide +kernel
theorem dL_account_3 : decode cL_account 3 = .ok (.iload_n 1, 1) := by decide +kernel
theorem dL_account_4 : decode cL_account 4 = .ok (.invokevirtual 130, 3) := by decide +kernel
theorem dL_account_7 : decode cL_account 7 = .ok (.i2l, 1) := by decide +kernel
theorem dL_account_8 : decode cL_account 8 = .ok (.lastore, 1) := by decide +kernel
theorem dL_account_9 : decode cL_account 9 = .ok (.goto 6, 3) := by decide +kernel
theorem dL_account_12 : decode cL_account 12 = .ok (.astore_n 3, 1) := by decide +kernel
theorem dL_account_13 : decode cL_account 13 = .ok (.iconst 1, 1) := by decide +kernel
theorem dL_account_14 : decode cL_account 14 = .ok (.ireturn, 1) := by decide +kernel
theorem dL_account_15 : decode cL_account 15 = .ok (.iconst 0, 1) := by decide +kernel
theorem dL_account_16 : decode cL_account 16 = .ok (.ireturn, 1) := by decide +kernel
theorem dL_undo_0 : decode cL_undo 0 = .ok (.aload_n 1, 1) := by decide +kernel
theorem dL_undo_1 : decode cL_undo 1 = .ok (.iconst 0, 1) := by decide +kernel
theorem dL_undo_2 : decode cL_undo 2 = .ok (.aload_n 0, 1) := by decide +kernel
theorem dL_undo_3 : decode cL_undo 3 = .ok (.invokevirtual 133, 3) := by decide +kernel
theorem dL_undo_6 : decode cL_undo 6 = .ok (.i2l, 1) := by decide +kernel
theorem dL_undo_7 : decode cL_undo 7 = .ok (.lastore, 1) := by decide +kernel
theorem dL_undo_8 : decode cL_undo 8 = .ok (.goto 6, 3) := by decide +kernel
theorem dL_undo_11 : decode cL_undo 11 = .ok (.astore_n 2, 1) := by decide +kernel
theorem dL_undo_12 : decode cL_undo 12 = .ok (.iconst 1, 1) := by decide +kernel
theorem dL_undo_13 : decode cL_undo 13 = .ok (.ireturn, 1) := by decide +kernel
theorem dL_undo_14 : decode cL_undo 14 = .ok (.iconst 0, 1) := by decide +kernel
theorem dL_undo_15 : decode cL_undo 15 = .ok (.ireturn, 1) := by decide +kernel
theorem dL_restore_0 : decode cL_restore 0 = .ok (.aload_n 1, 1) := by decide +kernel
theorem dL_restore_1 : decode cL_restore 1 = .ok (.iconst 0, 1) := by decide +kernel
theorem dL_restore_2 : decode cL_restore 2 = .ok (.aload_n 0, 1) := by decide +kernel
theorem dL_restore_3 : decode cL_restore 3 = .ok (.invokevirtual 136, 3) := by decide +kernel
theorem dL_restore_6 : decode cL_restore 6 = .ok (.i2l, 1) := by decide +kernel
theorem dL_restore_7 : decode cL_restore 7 = .ok (.lastore, 1) := by decide +kernel
theorem dL_restore_8 : decode cL_restore 8 = .ok (.goto 6, 3) := by decide +kernel
theorem dL_restore_11 : decode cL_restore 11 = .ok (.astore_n 2, 1) := by decide +kernel
theorem dL_restore_12 : decode cL_restore 12 = .ok (.iconst 1, 1) := by decide +kernel
theorem dL_restore_13 : decode cL_restore 13 = .ok (.ireturn, 1) := by decide +kernel
theorem dL_restore_14 : decode cL_restore 14 = .ok (.iconst 0, 1) := by decide +kernel
theorem dL_restore_15 : decode cL_restore 15 = .ok (.ireturn, 1) := by decide +kernel
